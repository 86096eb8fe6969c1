/-- one token, in both -/
def qS (z : Nat → Nat) (L p : Nat) : Nat := fN (fun i => !decide (z i = 32)) p (L - p)
def eS (z : Nat → Nat) (L q : Nat) : Nat := fN (fun i => !(aD (z i) || aL (z i))) q (L - q)
theorem qS_1 (z : Nat → Nat) {L p : Nat} (h : p ≤ L) : p ≤ qS z L p ∧ qS z L p ≤ L ∧ (qS z L p < L → ¬ z (qS z L p) = 32) := by
  obtain ⟨a, b, c, _⟩ := fN_le (fun i => !decide (z i = 32)) (L - p) p
  refine ⟨a, by unfold qS; omega, fun h2 z2 => ?_⟩
  have := c (by unfold qS at h2; omega)
  have z2 : z (fN (fun i => !decide (z i = 32)) p (L - p)) = 32 := z2
  rw [z2] at this
  exact absurd this (by decide)
theorem eS_1 (z : Nat → Nat) {L q : Nat} (h : q < L) (ha : (aD (z q) || aL (z q)) = true) : q < eS z L q ∧ eS z L q ≤ L ∧ (eS z L q < L → (aD (z (eS z L q)) || aL (z (eS z L q))) = false) := by
  obtain ⟨a, b, c, _⟩ := fN_le (fun i => !(aD (z i) || aL (z i))) (L - q) q
  have d : ¬ fN (fun i => !(aD (z i) || aL (z i))) q (L - q) = q := fun e => by
    have := c (by omega)
    rw [e, ha] at this
    exact absurd this (by decide)
  refine ⟨by unfold eS; omega, by unfold eS; omega, fun h2 => ?_⟩
  have := c (by unfold eS at h2; omega)
  have e : (!(aD (z (eS z L q)) || aL (z (eS z L q)))) = true := this
  cases hh : (aD (z (eS z L q)) || aL (z (eS z L q))) with
  | true => rw [hh] at e; exact absurd e (by decide)
  | false => rfl
theorem nx_sk (n Tp L p : Nat) {z : Nat → Nat} {tpe : St} {B : St} {cs tp os kd fr ft pt : Nat} {nm : Int64} {C S SA F T : Nat → Int32} {A : Nat → Int64} (hO : sO B 0 = some Tp) (h4 : sI B 4 = nI L) (hL : L ≤ 120) (hn : 130 < n) (hz : ∀ i : Nat, i < L → 32 ≤ z i ∧ z i ≤ 126) (ht : ∀ i : Nat, i < L → sR tpe 0 i = nI (z i)) (hp : p ≤ L) : df_X2_next n Tp (tpe, mC B cs tp os p kd fr ft pt nm C S SA F T A) = df_X2_next_38 n Tp (tpe, mC B cs tp os (qS z L p) kd fr ft pt nm C S SA F T A) := by
  obtain ⟨q1, q2, q3⟩ := qS_1 z hp
  obtain ⟨m, e⟩ := nm_ls (fun g i => df_X2_next_0 n Tp g (tpe, mC B cs tp os i kd fr ft pt nm C S SA F T A)) (fun i => !decide (z i = 32)) p (L - p) n (by omega) (fun k m h1 h2 h3 => by
    have hk : k < L := by omega
    have e : z k = 32 := Classical.byContradiction fun y => by
      have h3 : (!decide (z k = 32)) = false := h3
      rw [decide_eq_false y] at h3
      exact absurd h3 (by decide)
    have t := ht k hk
    rw [e] at t
    show df_X2_next_0 n Tp (m + 1) (tpe, mC B cs tp os k kd fr ft pt nm C S SA F T A) = df_X2_next_0 n Tp m (tpe, mC B cs tp os (k + 1) kd fr ft pt nm C S SA F T A)
    simp (disch := (first | assumption | decide | omega)) only [(show df_X2_next_0 n Tp (m + 1) = dF_X2_next_0 n Tp (df_X2_next_0 n Tp m) from rfl), dF_X2_next_0, mC_i0, mC_i1, mC_i2, mC_i5, mC_i6, mC_i7, mC_i8, mC_i9, mC_l, mC_r0, mC_r1, mC_r2, mC_r3, mC_r4, mC_q, mC_o, mC_i4, mC_wi0, mC_wi1, mC_wi2, mC_wi5, mC_wi6, mC_wi7, mC_wi8, mC_wi9, mC_wl, mC_wr0, mC_wr1, mC_wr2, mC_wr3, mC_wr4, mC_wq, hO, oT, h4, t, eq_self, Nat.reduceEqDiff, Nat.reduceLeDiff, nl_0, nl_1, nl_4, nl_5, nl_32, nl_32768, no_1, no_1024, pk_mul, nI_add, nm_ck, nI_clamp, nI_ltI, nI_leI, nI_eq, nb_b2, nb_b1, ↓nb_let, nm_z0, nm_z1, nb_II, nb_IR, nb_RI, nb_RR, nm_IL, nm_IQ, nm_RL, nm_RQ, nm_LI, nm_LR, nm_LL, nm_LQ, nm_QI, nm_QR, nm_QL, nm_QQ, nm_rr, nm_ii, nm_eqm, not_false_eq_true, pk_sub, nm_div, nm_shl, nm_shr, nm_ush, nm_or8, nm_or64, nm_or256, nm_m1, nm_m3, nm_m7, nm_m15, nm_m31, nm_m63, nm_m255, nm_m511, nm_m1023, nm_m2047, nm_m65535, Nat.reduceMod, Nat.reducePow, Nat.reduceAdd, Nat.reduceSub, Nat.reduceMul, nm_bo, nm_bi, nm_rc, nm_ic, nm_ri, nm_rl, nm_rq, nm_ql, nm_qi, nm_li, nm_us, nm_uu, nm_cp, nm_sa31, nm_sa7, nm_m127, nm_m2, nm_nz, nm_nzk, nm_eq32, nm_nzf, if_true, if_false, ↓reduceIte, if_pos, if_neg])
  refine Eq.trans (show _ = df_X2_next_0 n Tp n (tpe, mC B cs tp os p kd fr ft pt nm C S SA F T A) from rfl) (Eq.trans e ?_)
  show df_X2_next_0 n Tp (m + 1) (tpe, mC B cs tp os (qS z L p) kd fr ft pt nm C S SA F T A) = _
  generalize qS z L p = q at q1 q2 q3
  by_cases y : q < L
  · have t := ht q y
    have y2 := q3 y
    have y3 : z q < 2 ^ 31 := by have := hz q y; omega
    show dF_X2_next_0 n Tp (df_X2_next_0 n Tp m) (tpe, mC B cs tp os q kd fr ft pt nm C S SA F T A) = _
    unfold dF_X2_next_0
    simp (disch := (first | assumption | decide | omega)) only [mC_i0, mC_i1, mC_i2, mC_i5, mC_i6, mC_i7, mC_i8, mC_i9, mC_l, mC_r0, mC_r1, mC_r2, mC_r3, mC_r4, mC_q, mC_o, mC_i4, mC_wi0, mC_wi1, mC_wi2, mC_wi5, mC_wi6, mC_wi7, mC_wi8, mC_wi9, mC_wl, mC_wr0, mC_wr1, mC_wr2, mC_wr3, mC_wr4, mC_wq, hO, oT, h4, t, eq_self, Nat.reduceEqDiff, Nat.reduceLeDiff, nl_32, no_1, no_1024, pk_mul, nI_add, nm_ck, nI_clamp, nI_ltI, nI_leI, nI_eq, nb_b2, nb_b1, ↓nb_let, nm_z0, nm_z1, nb_II, nb_IR, nb_RI, nb_RR, nm_IL, nm_IQ, nm_RL, nm_RQ, nm_LI, nm_LR, nm_LL, nm_LQ, nm_QI, nm_QR, nm_QL, nm_QQ, nm_rr, nm_ii, nm_eqm, not_false_eq_true, pk_sub, nm_div, nm_shl, nm_shr, nm_ush, nm_or8, nm_or64, nm_or256, nm_m1, nm_m3, nm_m7, nm_m15, nm_m31, nm_m63, nm_m255, nm_m511, nm_m1023, nm_m2047, nm_m65535, Nat.reduceMod, Nat.reducePow, Nat.reduceAdd, Nat.reduceSub, Nat.reduceMul, nm_bo, nm_bi, nm_rc, nm_ic, nm_ri, nm_rl, nm_rq, nm_ql, nm_qi, nm_li, nm_us, nm_uu, nm_cp, nm_sa31, nm_sa7, nm_m127, nm_m2, nm_nz, nm_nzk, nm_eq32, nm_nzf, if_true, if_false, ↓reduceIte, if_pos, if_neg]
  · have y : q = L := by omega
    subst y
    show dF_X2_next_0 n Tp (df_X2_next_0 n Tp m) (tpe, mC B cs tp os q kd fr ft pt nm C S SA F T A) = _
    unfold dF_X2_next_0
    simp (disch := (first | assumption | decide | omega)) only [mC_i0, mC_i1, mC_i2, mC_i5, mC_i6, mC_i7, mC_i8, mC_i9, mC_l, mC_r0, mC_r1, mC_r2, mC_r3, mC_r4, mC_q, mC_o, mC_i4, mC_wi0, mC_wi1, mC_wi2, mC_wi5, mC_wi6, mC_wi7, mC_wi8, mC_wi9, mC_wl, mC_wr0, mC_wr1, mC_wr2, mC_wr3, mC_wr4, mC_wq, hO, oT, h4, eq_self, Nat.reduceEqDiff, Nat.reduceLeDiff, no_1, no_1024, pk_mul, nI_add, nm_ck, nI_clamp, nI_ltI, nI_leI, nI_eq, nb_b2, nb_b1, ↓nb_let, nm_z0, nm_z1, nb_II, nb_IR, nb_RI, nb_RR, nm_IL, nm_IQ, nm_RL, nm_RQ, nm_LI, nm_LR, nm_LL, nm_LQ, nm_QI, nm_QR, nm_QL, nm_QQ, nm_rr, nm_ii, nm_eqm, not_false_eq_true, pk_sub, nm_div, nm_shl, nm_shr, nm_ush, nm_or8, nm_or64, nm_or256, nm_m1, nm_m3, nm_m7, nm_m15, nm_m31, nm_m63, nm_m255, nm_m511, nm_m1023, nm_m2047, nm_m65535, Nat.reduceMod, Nat.reducePow, Nat.reduceAdd, Nat.reduceSub, Nat.reduceMul, nm_bo, nm_bi, nm_rc, nm_ic, nm_ri, nm_rl, nm_rq, nm_ql, nm_qi, nm_li, nm_us, nm_uu, nm_cp, nm_sa31, nm_sa7, nm_m127, nm_m2, nm_nz, nm_nzk, nm_eq32, nm_nzf, if_true, if_false, ↓reduceIte, if_pos, if_neg]
theorem nx_0 (n Tp L : Nat) {z : Nat → Nat} {tpe : St} {B : St} {cs tp os kd fr ft pt : Nat} {nm : Int64} {C S SA F T : Nat → Int32} {A : Nat → Int64} (hO : sO B 0 = some Tp) (h4 : sI B 4 = nI L) (hL : L ≤ 120) (hn : 130 < n) (hz : ∀ i : Nat, i < L → 32 ≤ z i ∧ z i ≤ 126) (ht : ∀ i : Nat, i < L → sR tpe 0 i = nI (z i)) : df_X2_next_38 n Tp (tpe, mC B cs tp os L kd fr ft pt nm C S SA F T A) = some (tpe, mC B cs tp os L 0 L ft pt nm C S SA F T A) := by
  simp (disch := (first | assumption | decide | omega)) only [df_X2_next_38, mC_i0, mC_i1, mC_i2, mC_i5, mC_i6, mC_i7, mC_i8, mC_i9, mC_l, mC_r0, mC_r1, mC_r2, mC_r3, mC_r4, mC_q, mC_o, mC_i4, mC_wi0, mC_wi1, mC_wi2, mC_wi5, mC_wi6, mC_wi7, mC_wi8, mC_wi9, mC_wl, mC_wr0, mC_wr1, mC_wr2, mC_wr3, mC_wr4, mC_wq, hO, oT, h4, eq_self, Nat.reduceEqDiff, Nat.reduceLeDiff, nl_0, nl_1, nl_4, nl_5, nl_6, nl_7, nl_32768, no_1, no_1024, pk_mul, nI_add, nm_ck, nI_clamp, nI_ltI, nI_leI, nI_eq, nb_b2, nb_b1, ↓nb_let, nm_z0, nm_z1, nb_II, nb_IR, nb_RI, nb_RR, nm_IL, nm_IQ, nm_RL, nm_RQ, nm_LI, nm_LR, nm_LL, nm_LQ, nm_QI, nm_QR, nm_QL, nm_QQ, nm_rr, nm_ii, nm_eqm, not_false_eq_true, pk_sub, nm_div, nm_shl, nm_shr, nm_ush, nm_or8, nm_or64, nm_or256, nm_m1, nm_m3, nm_m7, nm_m15, nm_m31, nm_m63, nm_m255, nm_m511, nm_m1023, nm_m2047, nm_m65535, Nat.reduceMod, Nat.reducePow, Nat.reduceAdd, Nat.reduceSub, Nat.reduceMul, nm_bo, nm_bi, nm_rc, nm_ic, nm_ri, nm_rl, nm_rq, nm_ql, nm_qi, nm_li, nm_us, nm_uu, nm_cp, nm_sa31, nm_sa7, nm_m127, nm_m2, nm_nz, nm_nzk, nm_eq32, nm_nzf, if_true, if_false, ↓reduceIte, if_pos, if_neg]
theorem nx_s (n Tp L q d : Nat) {z : Nat → Nat} {tpe : St} {B : St} {cs tp os kd fr ft pt : Nat} {nm : Int64} {C S SA F T : Nat → Int32} {A : Nat → Int64} (hO : sO B 0 = some Tp) (h4 : sI B 4 = nI L) (hL : L ≤ 120) (hn : 130 < n) (hz : ∀ i : Nat, i < L → 32 ≤ z i ∧ z i ≤ 126) (ht : ∀ i : Nat, i < L → sR tpe 0 i = nI (z i)) (hq : q < L) (hd : d = if q + 1 < L then z (q + 1) else 0) (hna : (aD (z q) || aL (z q)) = false) : df_X2_next_38 n Tp (tpe, mC B cs tp os q kd fr ft pt nm C S SA F T A) = some (tpe, mC B cs tp os (q + wid (z q) d) (if sgC (z q) d = 0 then 4 else 3) q ft pt (nI (sgC (z q) d)).toInt64 C S SA F T A) := by
  have a := hz q hq
  have d127 : d < 127 := by
    rw [hd]
    split
    · rename_i y
      have := hz (q + 1) y
      omega
    · omega
  have t := ht q hq
  have il : df_X2_isLetter n (nI (z q)) () = some (nI 0, ()) := by
    have := il_C n ⟨z q, by omega⟩
    have e : aL (z q) = false := by
      cases h : aL (z q) with
      | false => rfl
      | true => rw [h, Bool.or_true] at hna; exact absurd hna (by decide)
    exact this.trans (by show some (bI (aL (z q)), ()) = _; rw [e]; rfl)
  have idg : df_X2_isDigit n (nI (z q)) () = some (nI 0, ()) := by
    have := id_C n ⟨z q, by omega⟩
    have e : aD (z q) = false := by
      cases h : aD (z q) with
      | false => rfl
      | true => rw [h, Bool.true_or] at hna; exact absurd hna (by decide)
    exact this.trans (by show some (bI (aD (z q)), ()) = _; rw [e]; rfl)
  have st : df_X2_next_38 n Tp (tpe, mC B cs tp os q kd fr ft pt nm C S SA F T A) = df_X2_next_198 n Tp (nI (z q)) (nI d) (tpe, mC B cs tp os q kd q ft pt nm C S SA F T A) := by
    by_cases y : q + 1 < L
    · rw [if_pos y] at hd
      have t2 := ht (q + 1) y
      rw [← hd] at t2
      simp (disch := (first | assumption | decide | omega)) only [df_X2_next_38, mC_i0, mC_i1, mC_i2, mC_i5, mC_i6, mC_i7, mC_i8, mC_i9, mC_l, mC_r0, mC_r1, mC_r2, mC_r3, mC_r4, mC_q, mC_o, mC_i4, mC_wi0, mC_wi1, mC_wi2, mC_wi5, mC_wi6, mC_wi7, mC_wi8, mC_wi9, mC_wl, mC_wr0, mC_wr1, mC_wr2, mC_wr3, mC_wr4, mC_wq, hO, oT, h4, t, t2, il, idg, eq_self, Nat.reduceEqDiff, Nat.reduceLeDiff, nl_0, nl_1, nl_4, nl_5, nl_6, nl_7, nl_32768, no_1, no_1024, pk_mul, nI_add, nm_ck, nI_clamp, nI_ltI, nI_leI, nI_eq, nb_b2, nb_b1, ↓nb_let, nm_z0, nm_z1, nb_II, nb_IR, nb_RI, nb_RR, nm_IL, nm_IQ, nm_RL, nm_RQ, nm_LI, nm_LR, nm_LL, nm_LQ, nm_QI, nm_QR, nm_QL, nm_QQ, nm_rr, nm_ii, nm_eqm, not_false_eq_true, pk_sub, nm_div, nm_shl, nm_shr, nm_ush, nm_or8, nm_or64, nm_or256, nm_m1, nm_m3, nm_m7, nm_m15, nm_m31, nm_m63, nm_m255, nm_m511, nm_m1023, nm_m2047, nm_m65535, Nat.reduceMod, Nat.reducePow, Nat.reduceAdd, Nat.reduceSub, Nat.reduceMul, nm_bo, nm_bi, nm_rc, nm_ic, nm_ri, nm_rl, nm_rq, nm_ql, nm_qi, nm_li, nm_us, nm_uu, nm_cp, nm_sa31, nm_sa7, nm_m127, nm_m2, nm_nz, nm_nzk, nm_eq32, nm_nzf, if_true, if_false, ↓reduceIte, if_pos, if_neg]
    · rw [if_neg y] at hd
      subst hd
      simp (disch := (first | assumption | decide | omega)) only [df_X2_next_38, mC_i0, mC_i1, mC_i2, mC_i5, mC_i6, mC_i7, mC_i8, mC_i9, mC_l, mC_r0, mC_r1, mC_r2, mC_r3, mC_r4, mC_q, mC_o, mC_i4, mC_wi0, mC_wi1, mC_wi2, mC_wi5, mC_wi6, mC_wi7, mC_wi8, mC_wi9, mC_wl, mC_wr0, mC_wr1, mC_wr2, mC_wr3, mC_wr4, mC_wq, hO, oT, h4, t, il, idg, eq_self, Nat.reduceEqDiff, Nat.reduceLeDiff, nl_0, nl_1, nl_4, nl_5, nl_6, nl_7, nl_32768, no_1, no_1024, pk_mul, nI_add, nm_ck, nI_clamp, nI_ltI, nI_leI, nI_eq, nb_b2, nb_b1, ↓nb_let, nm_z0, nm_z1, nb_II, nb_IR, nb_RI, nb_RR, nm_IL, nm_IQ, nm_RL, nm_RQ, nm_LI, nm_LR, nm_LL, nm_LQ, nm_QI, nm_QR, nm_QL, nm_QQ, nm_rr, nm_ii, nm_eqm, not_false_eq_true, pk_sub, nm_div, nm_shl, nm_shr, nm_ush, nm_or8, nm_or64, nm_or256, nm_m1, nm_m3, nm_m7, nm_m15, nm_m31, nm_m63, nm_m255, nm_m511, nm_m1023, nm_m2047, nm_m65535, Nat.reduceMod, Nat.reducePow, Nat.reduceAdd, Nat.reduceSub, Nat.reduceMul, nm_bo, nm_bi, nm_rc, nm_ic, nm_ri, nm_rl, nm_rq, nm_ql, nm_qi, nm_li, nm_us, nm_uu, nm_cp, nm_sa31, nm_sa7, nm_m127, nm_m2, nm_nz, nm_nzk, nm_eq32, nm_nzf, if_true, if_false, ↓reduceIte, if_pos, if_neg]
  rw [st]
  have pc : df_X2_pair n (nI (z q)) (nI d) () = some (nI (pr (z q) d), ()) := pr_C n ⟨z q, by omega⟩ ⟨d, by omega⟩
  have ac : df_X2_alone n (nI (z q)) () = some (nI (al1 (z q)), ()) := al_C n ⟨z q, by omega⟩
  have p13 : pr (z q) d ≤ 13 := pr_le ⟨z q, by omega⟩ ⟨d, by omega⟩
  have sr := sg_ran ⟨z q, by omega⟩ ⟨d, by omega⟩
  have sr : sgC (z q) d ≤ 29 := by
    have sr : sgC (z q) d ≤ 19 ∨ sgC (z q) d = 21 ∨ sgC (z q) d = 22 ∨ sgC (z q) d = 25 ∨ sgC (z q) d = 28 ∨ sgC (z q) d = 29 := sr
    omega
  have c0 : lg_cmp (nI (sgC (z q) d)).toInt64 0 = nI 0 ↔ sgC (z q) d = 0 := by
    rw [lc_eq]
    constructor
    · intro h
      have h := congrArg Int64.toInt h
      rw [Int32.toInt_toInt64, nI_toInt (by omega), show (0 : Int64).toInt = 0 from rfl] at h
      omega
    · intro h
      rw [h]
      rfl
  have s2 : df_X2_next_198 n Tp (nI (z q)) (nI d) (tpe, mC B cs tp os q kd q ft pt nm C S SA F T A) = df_X2_next_220 n Tp (nI (pr (z q) d)) (nI (sgC (z q) d)).toInt64 (tpe, mC B cs tp os q kd q ft pt nm C S SA F T A) := by
    unfold df_X2_next_198 sgC
    by_cases y : pr (z q) d = 0
    · rw [if_pos y]
      rw [y] at pc ⊢
      simp (disch := (first | assumption | decide | omega)) only [pc, ac, eq_self, Nat.reduceEqDiff, Nat.reduceLeDiff, nl_0, no_1, no_1024, pk_mul, nI_add, nm_ck, nI_clamp, nI_ltI, nI_leI, nI_eq, nb_b2, nb_b1, ↓nb_let, nm_z0, nm_z1, nb_II, nb_IR, nb_RI, nb_RR, nm_IL, nm_IQ, nm_RL, nm_RQ, nm_LI, nm_LR, nm_LL, nm_LQ, nm_QI, nm_QR, nm_QL, nm_QQ, nm_rr, nm_ii, nm_eqm, not_false_eq_true, pk_sub, nm_div, nm_shl, nm_shr, nm_ush, nm_or8, nm_or64, nm_or256, nm_m1, nm_m3, nm_m7, nm_m15, nm_m31, nm_m63, nm_m255, nm_m511, nm_m1023, nm_m2047, nm_m65535, Nat.reduceMod, Nat.reducePow, Nat.reduceAdd, Nat.reduceSub, Nat.reduceMul, nm_bo, nm_bi, nm_rc, nm_ic, nm_ri, nm_rl, nm_rq, nm_ql, nm_qi, nm_li, nm_us, nm_uu, nm_cp, nm_sa31, nm_sa7, nm_m127, nm_m2, nm_nz, nm_nzk, nm_eq32, nm_nzf, if_true, if_false, ↓reduceIte, if_pos, if_neg]
    · rw [if_neg y]
      simp (disch := (first | assumption | decide | omega)) only [pc, ac, eq_self, Nat.reduceEqDiff, Nat.reduceLeDiff, nl_0, no_1, no_1024, pk_mul, nI_add, nm_ck, nI_clamp, nI_ltI, nI_leI, nI_eq, nb_b2, nb_b1, ↓nb_let, nm_z0, nm_z1, nb_II, nb_IR, nb_RI, nb_RR, nm_IL, nm_IQ, nm_RL, nm_RQ, nm_LI, nm_LR, nm_LL, nm_LQ, nm_QI, nm_QR, nm_QL, nm_QQ, nm_rr, nm_ii, nm_eqm, not_false_eq_true, pk_sub, nm_div, nm_shl, nm_shr, nm_ush, nm_or8, nm_or64, nm_or256, nm_m1, nm_m3, nm_m7, nm_m15, nm_m31, nm_m63, nm_m255, nm_m511, nm_m1023, nm_m2047, nm_m65535, Nat.reduceMod, Nat.reducePow, Nat.reduceAdd, Nat.reduceSub, Nat.reduceMul, nm_bo, nm_bi, nm_rc, nm_ic, nm_ri, nm_rl, nm_rq, nm_ql, nm_qi, nm_li, nm_us, nm_uu, nm_cp, nm_sa31, nm_sa7, nm_m127, nm_m2, nm_nz, nm_nzk, nm_eq32, nm_nzf, if_true, if_false, ↓reduceIte, if_pos, if_neg]
  rw [s2]
  unfold wid
  have e1 : (1 : Int32) = nI 1 := rfl
  by_cases y : sgC (z q) d = 0
  · have y1 := c0.mpr y
    have y2 : pr (z q) d = 0 := by
      unfold sgC at y
      split at y
      · assumption
      · rename_i h; exact absurd y h
    rw [if_pos y, if_pos y2, y2]
    simp (disch := (first | assumption | decide | omega)) only [df_X2_next_220, df_X2_next_238, df_X2_next_255, mC_i0, mC_i1, mC_i2, mC_i5, mC_i6, mC_i7, mC_i8, mC_i9, mC_l, mC_r0, mC_r1, mC_r2, mC_r3, mC_r4, mC_q, mC_o, mC_i4, mC_wi0, mC_wi1, mC_wi2, mC_wi5, mC_wi6, mC_wi7, mC_wi8, mC_wi9, mC_wl, mC_wr0, mC_wr1, mC_wr2, mC_wr3, mC_wr4, mC_wq, y1, eq_self, Nat.reduceEqDiff, Nat.reduceLeDiff, nl_0, nl_1, nl_2, nl_3, nl_4, nl_5, nl_6, no_1, no_1024, pk_mul, nI_add, nm_ck, nI_clamp, nI_ltI, nI_leI, nI_eq, nb_b2, nb_b1, ↓nb_let, nm_z0, nm_z1, nb_II, nb_IR, nb_RI, nb_RR, nm_IL, nm_IQ, nm_RL, nm_RQ, nm_LI, nm_LR, nm_LL, nm_LQ, nm_QI, nm_QR, nm_QL, nm_QQ, nm_rr, nm_ii, nm_eqm, not_false_eq_true, pk_sub, nm_div, nm_shl, nm_shr, nm_ush, nm_or8, nm_or64, nm_or256, nm_m1, nm_m3, nm_m7, nm_m15, nm_m31, nm_m63, nm_m255, nm_m511, nm_m1023, nm_m2047, nm_m65535, Nat.reduceMod, Nat.reducePow, Nat.reduceAdd, Nat.reduceSub, Nat.reduceMul, nm_bo, nm_bi, nm_rc, nm_ic, nm_ri, nm_rl, nm_rq, nm_ql, nm_qi, nm_li, nm_us, nm_uu, nm_cp, nm_sa31, nm_sa7, nm_m127, nm_m2, nm_nz, nm_nzk, nm_eq32, nm_nzf, if_true, if_false, ↓reduceIte, if_pos, if_neg]
  · have y1 := fun h => y (c0.mp h)
    rw [if_neg y]
    by_cases y2 : pr (z q) d = 0
    · rw [if_pos y2, y2]
      simp (disch := (first | assumption | decide | omega)) only [df_X2_next_220, df_X2_next_238, df_X2_next_255, mC_i0, mC_i1, mC_i2, mC_i5, mC_i6, mC_i7, mC_i8, mC_i9, mC_l, mC_r0, mC_r1, mC_r2, mC_r3, mC_r4, mC_q, mC_o, mC_i4, mC_wi0, mC_wi1, mC_wi2, mC_wi5, mC_wi6, mC_wi7, mC_wi8, mC_wi9, mC_wl, mC_wr0, mC_wr1, mC_wr2, mC_wr3, mC_wr4, mC_wq, y1, eq_self, Nat.reduceEqDiff, Nat.reduceLeDiff, nl_0, nl_1, nl_2, nl_3, nl_4, nl_5, nl_6, no_1, no_1024, pk_mul, nI_add, nm_ck, nI_clamp, nI_ltI, nI_leI, nI_eq, nb_b2, nb_b1, ↓nb_let, nm_z0, nm_z1, nb_II, nb_IR, nb_RI, nb_RR, nm_IL, nm_IQ, nm_RL, nm_RQ, nm_LI, nm_LR, nm_LL, nm_LQ, nm_QI, nm_QR, nm_QL, nm_QQ, nm_rr, nm_ii, nm_eqm, not_false_eq_true, pk_sub, nm_div, nm_shl, nm_shr, nm_ush, nm_or8, nm_or64, nm_or256, nm_m1, nm_m3, nm_m7, nm_m15, nm_m31, nm_m63, nm_m255, nm_m511, nm_m1023, nm_m2047, nm_m65535, Nat.reduceMod, Nat.reducePow, Nat.reduceAdd, Nat.reduceSub, Nat.reduceMul, nm_bo, nm_bi, nm_rc, nm_ic, nm_ri, nm_rl, nm_rq, nm_ql, nm_qi, nm_li, nm_us, nm_uu, nm_cp, nm_sa31, nm_sa7, nm_m127, nm_m2, nm_nz, nm_nzk, nm_eq32, nm_nzf, if_true, if_false, ↓reduceIte, if_pos, if_neg]
    · rw [if_neg y2]
      simp (disch := (first | assumption | decide | omega)) only [df_X2_next_220, df_X2_next_238, df_X2_next_255, mC_i0, mC_i1, mC_i2, mC_i5, mC_i6, mC_i7, mC_i8, mC_i9, mC_l, mC_r0, mC_r1, mC_r2, mC_r3, mC_r4, mC_q, mC_o, mC_i4, mC_wi0, mC_wi1, mC_wi2, mC_wi5, mC_wi6, mC_wi7, mC_wi8, mC_wi9, mC_wl, mC_wr0, mC_wr1, mC_wr2, mC_wr3, mC_wr4, mC_wq, y1, eq_self, Nat.reduceEqDiff, Nat.reduceLeDiff, nl_0, nl_1, nl_2, nl_3, nl_4, nl_5, nl_6, no_1, no_1024, pk_mul, nI_add, nm_ck, nI_clamp, nI_ltI, nI_leI, nI_eq, nb_b2, nb_b1, ↓nb_let, nm_z0, nm_z1, nb_II, nb_IR, nb_RI, nb_RR, nm_IL, nm_IQ, nm_RL, nm_RQ, nm_LI, nm_LR, nm_LL, nm_LQ, nm_QI, nm_QR, nm_QL, nm_QQ, nm_rr, nm_ii, nm_eqm, not_false_eq_true, pk_sub, nm_div, nm_shl, nm_shr, nm_ush, nm_or8, nm_or64, nm_or256, nm_m1, nm_m3, nm_m7, nm_m15, nm_m31, nm_m63, nm_m255, nm_m511, nm_m1023, nm_m2047, nm_m65535, Nat.reduceMod, Nat.reducePow, Nat.reduceAdd, Nat.reduceSub, Nat.reduceMul, nm_bo, nm_bi, nm_rc, nm_ic, nm_ri, nm_rl, nm_rq, nm_ql, nm_qi, nm_li, nm_us, nm_uu, nm_cp, nm_sa31, nm_sa7, nm_m127, nm_m2, nm_nz, nm_nzk, nm_eq32, nm_nzf, if_true, if_false, ↓reduceIte, if_pos, if_neg]
theorem nx_a (n Tp L q : Nat) {z : Nat → Nat} {tpe : St} {B : St} {cs tp os kd fr ft pt : Nat} {nm : Int64} {C S SA F T : Nat → Int32} {A : Nat → Int64} (hO : sO B 0 = some Tp) (h4 : sI B 4 = nI L) (hL : L ≤ 120) (hn : 130 < n) (hz : ∀ i : Nat, i < L → 32 ≤ z i ∧ z i ≤ 126) (ht : ∀ i : Nat, i < L → sR tpe 0 i = nI (z i)) (hq : q < L) (ha : (aD (z q) || aL (z q)) = true) : df_X2_next_38 n Tp (tpe, mC B cs tp os q kd fr ft pt nm C S SA F T A) = df_X2_next_154 n Tp (if aL (z q) = true then nI 2 else nI 1) (tpe, mC B cs tp os (eS z L q) kd q ft pt nm C S SA F T A) := by
  have a := hz q hq
  have t := ht q hq
  have il : df_X2_isLetter n (nI (z q)) () = some (bI (aL (z q)), ()) := il_C n ⟨z q, by omega⟩
  have idg : df_X2_isDigit n (nI (z q)) () = some (bI (aD (z q)), ()) := id_C n ⟨z q, by omega⟩
  have st : df_X2_next_38 n Tp (tpe, mC B cs tp os q kd fr ft pt nm C S SA F T A) = df_X2_next_87 n Tp n (nI (z q)) (tpe, mC B cs tp os q kd q ft pt nm C S SA F T A) := by
    cases h : aL (z q) with
    | true =>
      rw [h] at il
      have il : df_X2_isLetter n (nI (z q)) () = some (nI 1, ()) := il
      simp (disch := (first | assumption | decide | omega)) only [df_X2_next_38, mC_i0, mC_i1, mC_i2, mC_i5, mC_i6, mC_i7, mC_i8, mC_i9, mC_l, mC_r0, mC_r1, mC_r2, mC_r3, mC_r4, mC_q, mC_o, mC_i4, mC_wi0, mC_wi1, mC_wi2, mC_wi5, mC_wi6, mC_wi7, mC_wi8, mC_wi9, mC_wl, mC_wr0, mC_wr1, mC_wr2, mC_wr3, mC_wr4, mC_wq, hO, oT, h4, t, il, eq_self, Nat.reduceEqDiff, Nat.reduceLeDiff, nl_0, nl_1, nl_4, nl_5, nl_6, nl_7, nl_32768, no_1, no_1024, pk_mul, nI_add, nm_ck, nI_clamp, nI_ltI, nI_leI, nI_eq, nb_b2, nb_b1, ↓nb_let, nm_z0, nm_z1, nb_II, nb_IR, nb_RI, nb_RR, nm_IL, nm_IQ, nm_RL, nm_RQ, nm_LI, nm_LR, nm_LL, nm_LQ, nm_QI, nm_QR, nm_QL, nm_QQ, nm_rr, nm_ii, nm_eqm, not_false_eq_true, pk_sub, nm_div, nm_shl, nm_shr, nm_ush, nm_or8, nm_or64, nm_or256, nm_m1, nm_m3, nm_m7, nm_m15, nm_m31, nm_m63, nm_m255, nm_m511, nm_m1023, nm_m2047, nm_m65535, Nat.reduceMod, Nat.reducePow, Nat.reduceAdd, Nat.reduceSub, Nat.reduceMul, nm_bo, nm_bi, nm_rc, nm_ic, nm_ri, nm_rl, nm_rq, nm_ql, nm_qi, nm_li, nm_us, nm_uu, nm_cp, nm_sa31, nm_sa7, nm_m127, nm_m2, nm_nz, nm_nzk, nm_eq32, nm_nzf, if_true, if_false, ↓reduceIte, if_pos, if_neg]
    | false =>
      rw [h, Bool.or_false] at ha
      rw [h] at il
      rw [ha] at idg
      have il : df_X2_isLetter n (nI (z q)) () = some (nI 0, ()) := il
      have idg : df_X2_isDigit n (nI (z q)) () = some (nI 1, ()) := idg
      simp (disch := (first | assumption | decide | omega)) only [df_X2_next_38, mC_i0, mC_i1, mC_i2, mC_i5, mC_i6, mC_i7, mC_i8, mC_i9, mC_l, mC_r0, mC_r1, mC_r2, mC_r3, mC_r4, mC_q, mC_o, mC_i4, mC_wi0, mC_wi1, mC_wi2, mC_wi5, mC_wi6, mC_wi7, mC_wi8, mC_wi9, mC_wl, mC_wr0, mC_wr1, mC_wr2, mC_wr3, mC_wr4, mC_wq, hO, oT, h4, t, il, idg, eq_self, Nat.reduceEqDiff, Nat.reduceLeDiff, nl_0, nl_1, nl_4, nl_5, nl_6, nl_7, nl_32768, no_1, no_1024, pk_mul, nI_add, nm_ck, nI_clamp, nI_ltI, nI_leI, nI_eq, nb_b2, nb_b1, ↓nb_let, nm_z0, nm_z1, nb_II, nb_IR, nb_RI, nb_RR, nm_IL, nm_IQ, nm_RL, nm_RQ, nm_LI, nm_LR, nm_LL, nm_LQ, nm_QI, nm_QR, nm_QL, nm_QQ, nm_rr, nm_ii, nm_eqm, not_false_eq_true, pk_sub, nm_div, nm_shl, nm_shr, nm_ush, nm_or8, nm_or64, nm_or256, nm_m1, nm_m3, nm_m7, nm_m15, nm_m31, nm_m63, nm_m255, nm_m511, nm_m1023, nm_m2047, nm_m65535, Nat.reduceMod, Nat.reducePow, Nat.reduceAdd, Nat.reduceSub, Nat.reduceMul, nm_bo, nm_bi, nm_rc, nm_ic, nm_ri, nm_rl, nm_rq, nm_ql, nm_qi, nm_li, nm_us, nm_uu, nm_cp, nm_sa31, nm_sa7, nm_m127, nm_m2, nm_nz, nm_nzk, nm_eq32, nm_nzf, if_true, if_false, ↓reduceIte, if_pos, if_neg]
  rw [st]
  obtain ⟨e1, e2, e3⟩ := eS_1 z hq ha
  obtain ⟨m, e⟩ := nm_ls (fun g i => df_X2_next_87 n Tp g (nI (z q)) (tpe, mC B cs tp os i kd q ft pt nm C S SA F T A)) (fun i => !(aD (z i) || aL (z i))) q (L - q) n (by omega) (fun k m h1 h2 h3 => by
    have hk : k < L := by omega
    have ak := hz k hk
    have tk := ht k hk
    have ik : df_X2_isLetter n (nI (z k)) () = some (bI (aL (z k)), ()) := il_C n ⟨z k, by omega⟩
    have dk : df_X2_isDigit n (nI (z k)) () = some (bI (aD (z k)), ()) := id_C n ⟨z k, by omega⟩
    have h3 : (!(aD (z k) || aL (z k))) = false := h3
    show df_X2_next_87 n Tp (m + 1) (nI (z q)) (tpe, mC B cs tp os k kd q ft pt nm C S SA F T A) = df_X2_next_87 n Tp m (nI (z q)) (tpe, mC B cs tp os (k + 1) kd q ft pt nm C S SA F T A)
    show dF_X2_next_87 n Tp (df_X2_next_87 n Tp m) (nI (z q)) (tpe, mC B cs tp os k kd q ft pt nm C S SA F T A) = _
    unfold dF_X2_next_87
    cases h : aL (z k) with
    | true =>
      rw [h] at ik
      have ik : df_X2_isLetter n (nI (z k)) () = some (nI 1, ()) := ik
      simp (disch := (first | assumption | decide | omega)) only [df_X2_next_128, mC_i0, mC_i1, mC_i2, mC_i5, mC_i6, mC_i7, mC_i8, mC_i9, mC_l, mC_r0, mC_r1, mC_r2, mC_r3, mC_r4, mC_q, mC_o, mC_i4, mC_wi0, mC_wi1, mC_wi2, mC_wi5, mC_wi6, mC_wi7, mC_wi8, mC_wi9, mC_wl, mC_wr0, mC_wr1, mC_wr2, mC_wr3, mC_wr4, mC_wq, hO, oT, h4, tk, ik, eq_self, Nat.reduceEqDiff, Nat.reduceLeDiff, nl_0, nl_1, nl_5, no_1, no_1024, pk_mul, nI_add, nm_ck, nI_clamp, nI_ltI, nI_leI, nI_eq, nb_b2, nb_b1, ↓nb_let, nm_z0, nm_z1, nb_II, nb_IR, nb_RI, nb_RR, nm_IL, nm_IQ, nm_RL, nm_RQ, nm_LI, nm_LR, nm_LL, nm_LQ, nm_QI, nm_QR, nm_QL, nm_QQ, nm_rr, nm_ii, nm_eqm, not_false_eq_true, pk_sub, nm_div, nm_shl, nm_shr, nm_ush, nm_or8, nm_or64, nm_or256, nm_m1, nm_m3, nm_m7, nm_m15, nm_m31, nm_m63, nm_m255, nm_m511, nm_m1023, nm_m2047, nm_m65535, Nat.reduceMod, Nat.reducePow, Nat.reduceAdd, Nat.reduceSub, Nat.reduceMul, nm_bo, nm_bi, nm_rc, nm_ic, nm_ri, nm_rl, nm_rq, nm_ql, nm_qi, nm_li, nm_us, nm_uu, nm_cp, nm_sa31, nm_sa7, nm_m127, nm_m2, nm_nz, nm_nzk, nm_eq32, nm_nzf, if_true, if_false, ↓reduceIte, if_pos, if_neg]
    | false =>
      have hd : aD (z k) = true := by
        rw [h, Bool.or_false] at h3
        cases hh : aD (z k) with
        | true => rfl
        | false => rw [hh] at h3; exact absurd h3 (by decide)
      rw [h] at ik
      rw [hd] at dk
      have ik : df_X2_isLetter n (nI (z k)) () = some (nI 0, ()) := ik
      have dk : df_X2_isDigit n (nI (z k)) () = some (nI 1, ()) := dk
      simp (disch := (first | assumption | decide | omega)) only [df_X2_next_128, mC_i0, mC_i1, mC_i2, mC_i5, mC_i6, mC_i7, mC_i8, mC_i9, mC_l, mC_r0, mC_r1, mC_r2, mC_r3, mC_r4, mC_q, mC_o, mC_i4, mC_wi0, mC_wi1, mC_wi2, mC_wi5, mC_wi6, mC_wi7, mC_wi8, mC_wi9, mC_wl, mC_wr0, mC_wr1, mC_wr2, mC_wr3, mC_wr4, mC_wq, hO, oT, h4, tk, ik, dk, eq_self, Nat.reduceEqDiff, Nat.reduceLeDiff, nl_0, nl_1, nl_5, no_1, no_1024, pk_mul, nI_add, nm_ck, nI_clamp, nI_ltI, nI_leI, nI_eq, nb_b2, nb_b1, ↓nb_let, nm_z0, nm_z1, nb_II, nb_IR, nb_RI, nb_RR, nm_IL, nm_IQ, nm_RL, nm_RQ, nm_LI, nm_LR, nm_LL, nm_LQ, nm_QI, nm_QR, nm_QL, nm_QQ, nm_rr, nm_ii, nm_eqm, not_false_eq_true, pk_sub, nm_div, nm_shl, nm_shr, nm_ush, nm_or8, nm_or64, nm_or256, nm_m1, nm_m3, nm_m7, nm_m15, nm_m31, nm_m63, nm_m255, nm_m511, nm_m1023, nm_m2047, nm_m65535, Nat.reduceMod, Nat.reducePow, Nat.reduceAdd, Nat.reduceSub, Nat.reduceMul, nm_bo, nm_bi, nm_rc, nm_ic, nm_ri, nm_rl, nm_rq, nm_ql, nm_qi, nm_li, nm_us, nm_uu, nm_cp, nm_sa31, nm_sa7, nm_m127, nm_m2, nm_nz, nm_nzk, nm_eq32, nm_nzf, if_true, if_false, ↓reduceIte, if_pos, if_neg])
  refine Eq.trans e ?_
  show df_X2_next_87 n Tp (m + 1) (nI (z q)) (tpe, mC B cs tp os (eS z L q) kd q ft pt nm C S SA F T A) = _
  generalize eS z L q = y at e1 e2 e3
  have st2 : df_X2_next_87 n Tp (m + 1) (nI (z q)) (tpe, mC B cs tp os y kd q ft pt nm C S SA F T A) = df_X2_next_141 n Tp (nI (z q)) (tpe, mC B cs tp os y kd q ft pt nm C S SA F T A) := by
    show dF_X2_next_87 n Tp (df_X2_next_87 n Tp m) (nI (z q)) (tpe, mC B cs tp os y kd q ft pt nm C S SA F T A) = _
    unfold dF_X2_next_87
    by_cases yl : y < L
    · have ak := hz y yl
      have tk := ht y yl
      have ik : df_X2_isLetter n (nI (z y)) () = some (bI (aL (z y)), ()) := il_C n ⟨z y, by omega⟩
      have dk : df_X2_isDigit n (nI (z y)) () = some (bI (aD (z y)), ()) := id_C n ⟨z y, by omega⟩
      have h3 := e3 yl
      have hL : aL (z y) = false := by
        cases hh : aL (z y) with
        | false => rfl
        | true => rw [hh, Bool.or_true] at h3; exact absurd h3 (by decide)
      have hD : aD (z y) = false := by
        cases hh : aD (z y) with
        | false => rfl
        | true => rw [hh, Bool.true_or] at h3; exact absurd h3 (by decide)
      rw [hL] at ik
      rw [hD] at dk
      have ik : df_X2_isLetter n (nI (z y)) () = some (nI 0, ()) := ik
      have dk : df_X2_isDigit n (nI (z y)) () = some (nI 0, ()) := dk
      simp (disch := (first | assumption | decide | omega)) only [mC_i0, mC_i1, mC_i2, mC_i5, mC_i6, mC_i7, mC_i8, mC_i9, mC_l, mC_r0, mC_r1, mC_r2, mC_r3, mC_r4, mC_q, mC_o, mC_i4, mC_wi0, mC_wi1, mC_wi2, mC_wi5, mC_wi6, mC_wi7, mC_wi8, mC_wi9, mC_wl, mC_wr0, mC_wr1, mC_wr2, mC_wr3, mC_wr4, mC_wq, hO, oT, h4, tk, ik, dk, eq_self, Nat.reduceEqDiff, Nat.reduceLeDiff, nl_0, no_1, no_1024, pk_mul, nI_add, nm_ck, nI_clamp, nI_ltI, nI_leI, nI_eq, nb_b2, nb_b1, ↓nb_let, nm_z0, nm_z1, nb_II, nb_IR, nb_RI, nb_RR, nm_IL, nm_IQ, nm_RL, nm_RQ, nm_LI, nm_LR, nm_LL, nm_LQ, nm_QI, nm_QR, nm_QL, nm_QQ, nm_rr, nm_ii, nm_eqm, not_false_eq_true, pk_sub, nm_div, nm_shl, nm_shr, nm_ush, nm_or8, nm_or64, nm_or256, nm_m1, nm_m3, nm_m7, nm_m15, nm_m31, nm_m63, nm_m255, nm_m511, nm_m1023, nm_m2047, nm_m65535, Nat.reduceMod, Nat.reducePow, Nat.reduceAdd, Nat.reduceSub, Nat.reduceMul, nm_bo, nm_bi, nm_rc, nm_ic, nm_ri, nm_rl, nm_rq, nm_ql, nm_qi, nm_li, nm_us, nm_uu, nm_cp, nm_sa31, nm_sa7, nm_m127, nm_m2, nm_nz, nm_nzk, nm_eq32, nm_nzf, if_true, if_false, ↓reduceIte, if_pos, if_neg]
    · have yl : y = L := by omega
      subst yl
      simp (disch := (first | assumption | decide | omega)) only [mC_i0, mC_i1, mC_i2, mC_i5, mC_i6, mC_i7, mC_i8, mC_i9, mC_l, mC_r0, mC_r1, mC_r2, mC_r3, mC_r4, mC_q, mC_o, mC_i4, mC_wi0, mC_wi1, mC_wi2, mC_wi5, mC_wi6, mC_wi7, mC_wi8, mC_wi9, mC_wl, mC_wr0, mC_wr1, mC_wr2, mC_wr3, mC_wr4, mC_wq, hO, oT, h4, eq_self, Nat.reduceEqDiff, Nat.reduceLeDiff, no_1, no_1024, pk_mul, nI_add, nm_ck, nI_clamp, nI_ltI, nI_leI, nI_eq, nb_b2, nb_b1, ↓nb_let, nm_z0, nm_z1, nb_II, nb_IR, nb_RI, nb_RR, nm_IL, nm_IQ, nm_RL, nm_RQ, nm_LI, nm_LR, nm_LL, nm_LQ, nm_QI, nm_QR, nm_QL, nm_QQ, nm_rr, nm_ii, nm_eqm, not_false_eq_true, pk_sub, nm_div, nm_shl, nm_shr, nm_ush, nm_or8, nm_or64, nm_or256, nm_m1, nm_m3, nm_m7, nm_m15, nm_m31, nm_m63, nm_m255, nm_m511, nm_m1023, nm_m2047, nm_m65535, Nat.reduceMod, Nat.reducePow, Nat.reduceAdd, Nat.reduceSub, Nat.reduceMul, nm_bo, nm_bi, nm_rc, nm_ic, nm_ri, nm_rl, nm_rq, nm_ql, nm_qi, nm_li, nm_us, nm_uu, nm_cp, nm_sa31, nm_sa7, nm_m127, nm_m2, nm_nz, nm_nzk, nm_eq32, nm_nzf, if_true, if_false, ↓reduceIte, if_pos, if_neg]
  rw [st2]
  cases h : aL (z q) with
  | true =>
    rw [h] at il
    have il : df_X2_isLetter n (nI (z q)) () = some (nI 1, ()) := il
    rw [if_pos rfl]
    simp (disch := (first | assumption | decide | omega)) only [df_X2_next_141, il, eq_self, Nat.reduceEqDiff, Nat.reduceLeDiff, nl_0, nl_1, nl_2, no_1, no_1024, pk_mul, nI_add, nm_ck, nI_clamp, nI_ltI, nI_leI, nI_eq, nb_b2, nb_b1, ↓nb_let, nm_z0, nm_z1, nb_II, nb_IR, nb_RI, nb_RR, nm_IL, nm_IQ, nm_RL, nm_RQ, nm_LI, nm_LR, nm_LL, nm_LQ, nm_QI, nm_QR, nm_QL, nm_QQ, nm_rr, nm_ii, nm_eqm, not_false_eq_true, pk_sub, nm_div, nm_shl, nm_shr, nm_ush, nm_or8, nm_or64, nm_or256, nm_m1, nm_m3, nm_m7, nm_m15, nm_m31, nm_m63, nm_m255, nm_m511, nm_m1023, nm_m2047, nm_m65535, Nat.reduceMod, Nat.reducePow, Nat.reduceAdd, Nat.reduceSub, Nat.reduceMul, nm_bo, nm_bi, nm_rc, nm_ic, nm_ri, nm_rl, nm_rq, nm_ql, nm_qi, nm_li, nm_us, nm_uu, nm_cp, nm_sa31, nm_sa7, nm_m127, nm_m2, nm_nz, nm_nzk, nm_eq32, nm_nzf, if_true, if_false, ↓reduceIte, if_pos, if_neg]
  | false =>
    rw [h] at il
    have il : df_X2_isLetter n (nI (z q)) () = some (nI 0, ()) := il
    rw [if_neg (by decide)]
    simp (disch := (first | assumption | decide | omega)) only [df_X2_next_141, il, eq_self, Nat.reduceEqDiff, Nat.reduceLeDiff, nl_0, nl_1, nl_2, no_1, no_1024, pk_mul, nI_add, nm_ck, nI_clamp, nI_ltI, nI_leI, nI_eq, nb_b2, nb_b1, ↓nb_let, nm_z0, nm_z1, nb_II, nb_IR, nb_RI, nb_RR, nm_IL, nm_IQ, nm_RL, nm_RQ, nm_LI, nm_LR, nm_LL, nm_LQ, nm_QI, nm_QR, nm_QL, nm_QQ, nm_rr, nm_ii, nm_eqm, not_false_eq_true, pk_sub, nm_div, nm_shl, nm_shr, nm_ush, nm_or8, nm_or64, nm_or256, nm_m1, nm_m3, nm_m7, nm_m15, nm_m31, nm_m63, nm_m255, nm_m511, nm_m1023, nm_m2047, nm_m65535, Nat.reduceMod, Nat.reducePow, Nat.reduceAdd, Nat.reduceSub, Nat.reduceMul, nm_bo, nm_bi, nm_rc, nm_ic, nm_ri, nm_rl, nm_rq, nm_ql, nm_qi, nm_li, nm_us, nm_uu, nm_cp, nm_sa31, nm_sa7, nm_m127, nm_m2, nm_nz, nm_nzk, nm_eq32, nm_nzf, if_true, if_false, ↓reduceIte, if_pos, if_neg]
theorem cA_R (n L k : Nat) {z : Nat → Nat} {B : St} {ap tk st ts op ft : Nat} {tv : Int64} {K P OA : Nat → Int32} {N : Nat → Int64} {X : St × St} (h0 : sI B 0 = nI L) (hL : L ≤ 120) (hn : 130 < n) (hz : ∀ i : Nat, i < L → 32 ≤ z i ∧ z i ≤ 126) (ht : ∀ i : Nat, i < L → sR B 0 i = nI (z i)) (hk : k < 200) : df_X15_charAt n (nI k) (mR B ap tk st ts op ft tv K P OA N, X) = some (nI (if k < L then z k else 0), (mR B ap tk st ts op ft tv K P OA N, X)) := by
  by_cases y : k < L
  · rw [if_pos y]
    have t := ht k y
    simp (disch := (first | assumption | decide | omega)) only [df_X15_charAt_18, df_X15_charAt_0, df_X15_charAt, mR_i1, mR_i2, mR_i3, mR_i4, mR_i5, mR_i6, mR_l, mR_r5, mR_r6, mR_r7, mR_q, mR_o, mR_i0, mR_r0, mR_wi1, mR_wi2, mR_wi3, mR_wi4, mR_wi5, mR_wi6, mR_wl, mR_wr5, mR_wr6, mR_wr7, mR_wq, h0, t, eq_self, Nat.reduceEqDiff, Nat.reduceLeDiff, nl_0, nl_120, no_1, no_1024, pk_mul, nI_add, nm_ck, nI_clamp, nI_ltI, nI_leI, nI_eq, nb_b2, nb_b1, ↓nb_let, nm_z0, nm_z1, nb_II, nb_IR, nb_RI, nb_RR, nm_IL, nm_IQ, nm_RL, nm_RQ, nm_LI, nm_LR, nm_LL, nm_LQ, nm_QI, nm_QR, nm_QL, nm_QQ, nm_rr, nm_ii, nm_eqm, not_false_eq_true, pk_sub, nm_div, nm_shl, nm_shr, nm_ush, nm_or8, nm_or64, nm_or256, nm_m1, nm_m3, nm_m7, nm_m15, nm_m31, nm_m63, nm_m255, nm_m511, nm_m1023, nm_m2047, nm_m65535, Nat.reduceMod, Nat.reducePow, Nat.reduceAdd, Nat.reduceSub, Nat.reduceMul, nm_bo, nm_bi, nm_rc, nm_ic, nm_ri, nm_rl, nm_rq, nm_ql, nm_qi, nm_li, nm_us, nm_uu, nm_cp, nm_sa31, nm_sa7, nm_m127, nm_m2, nm_nz, nm_nzk, nm_eq32, nm_nzf, if_true, if_false, ↓reduceIte, if_pos, if_neg]
  · rw [if_neg y]
    simp (disch := (first | assumption | decide | omega)) only [df_X15_charAt_18, df_X15_charAt_0, df_X15_charAt, mR_i1, mR_i2, mR_i3, mR_i4, mR_i5, mR_i6, mR_l, mR_r5, mR_r6, mR_r7, mR_q, mR_o, mR_i0, mR_r0, mR_wi1, mR_wi2, mR_wi3, mR_wi4, mR_wi5, mR_wi6, mR_wl, mR_wr5, mR_wr6, mR_wr7, mR_wq, h0, eq_self, Nat.reduceEqDiff, Nat.reduceLeDiff, nl_0, nl_120, no_1, no_1024, pk_mul, nI_add, nm_ck, nI_clamp, nI_ltI, nI_leI, nI_eq, nb_b2, nb_b1, ↓nb_let, nm_z0, nm_z1, nb_II, nb_IR, nb_RI, nb_RR, nm_IL, nm_IQ, nm_RL, nm_RQ, nm_LI, nm_LR, nm_LL, nm_LQ, nm_QI, nm_QR, nm_QL, nm_QQ, nm_rr, nm_ii, nm_eqm, not_false_eq_true, pk_sub, nm_div, nm_shl, nm_shr, nm_ush, nm_or8, nm_or64, nm_or256, nm_m1, nm_m3, nm_m7, nm_m15, nm_m31, nm_m63, nm_m255, nm_m511, nm_m1023, nm_m2047, nm_m65535, Nat.reduceMod, Nat.reducePow, Nat.reduceAdd, Nat.reduceSub, Nat.reduceMul, nm_bo, nm_bi, nm_rc, nm_ic, nm_ri, nm_rl, nm_rq, nm_ql, nm_qi, nm_li, nm_us, nm_uu, nm_cp, nm_sa31, nm_sa7, nm_m127, nm_m2, nm_nz, nm_nzk, nm_eq32, nm_nzf, if_true, if_false, ↓reduceIte, if_pos, if_neg]
theorem rd_sk (n L p : Nat) {z : Nat → Nat} {G : Int32 → Int32 → St × (St × St) → Option (Int32 × (St × (St × St)))} {x1 x2 : Int32} {B : St} {tk st ts op ft : Nat} {tv : Int64} {K P OA : Nat → Int32} {N : Nat → Int64} {X : St × St} (h0 : sI B 0 = nI L) (hL : L ≤ 120) (hn : 130 < n) (hz : ∀ i : Nat, i < L → 32 ≤ z i ∧ z i ≤ 126) (ht : ∀ i : Nat, i < L → sR B 0 i = nI (z i)) (hp : p ≤ L) : ∃ m : Nat, df_X15_read_31 n G n x1 x2 (mR B p tk st ts op ft tv K P OA N, X) = dF_X15_read_31 n G (df_X15_read_31 n G m) x1 x2 (mR B (qS z L p) tk st ts op ft tv K P OA N, X) := by
  obtain ⟨m, e⟩ := nm_ls (fun g i => df_X15_read_31 n G g x1 x2 (mR B i tk st ts op ft tv K P OA N, X)) (fun i => !decide (z i = 32)) p (L - p) n (by omega) (fun k m h1 h2 h3 => by
    have hk : k < L := by omega
    have e : z k = 32 := Classical.byContradiction fun y => by
      have h3 : (!decide (z k = 32)) = false := h3
      rw [decide_eq_false y] at h3
      exact absurd h3 (by decide)
    have ca := cA_R n L k (X := X) h0 hL hn hz ht (by omega) (tk := tk) (st := st) (ts := ts) (op := op) (ft := ft) (tv := tv) (K := K) (P := P) (OA := OA) (N := N) (ap := k)
    rw [if_pos hk, e] at ca
    show dF_X15_read_31 n G (df_X15_read_31 n G m) x1 x2 (mR B k tk st ts op ft tv K P OA N, X) = df_X15_read_31 n G m x1 x2 (mR B (k + 1) tk st ts op ft tv K P OA N, X)
    unfold dF_X15_read_31
    have k1 : sI (mR B k tk st ts op ft tv K P OA N) 1 = nI k := rfl
    rw [k1, ca, nb_b2, if_pos (show nI 32 = (32 : Int32) from rfl), nb_let]
    simp (disch := (first | assumption | decide | omega)) only [mR_i1, mR_i2, mR_i3, mR_i4, mR_i5, mR_i6, mR_l, mR_r5, mR_r6, mR_r7, mR_q, mR_o, mR_i0, mR_r0, mR_wi1, mR_wi2, mR_wi3, mR_wi4, mR_wi5, mR_wi6, mR_wl, mR_wr5, mR_wr6, mR_wr7, mR_wq, eq_self, Nat.reduceEqDiff, Nat.reduceLeDiff, nl_1, no_1, no_1024, pk_mul, nI_add, nm_ck, nI_clamp, nI_ltI, nI_leI, nI_eq, nb_b2, nb_b1, ↓nb_let, nm_z0, nm_z1, nb_II, nb_IR, nb_RI, nb_RR, nm_IL, nm_IQ, nm_RL, nm_RQ, nm_LI, nm_LR, nm_LL, nm_LQ, nm_QI, nm_QR, nm_QL, nm_QQ, nm_rr, nm_ii, nm_eqm, not_false_eq_true, pk_sub, nm_div, nm_shl, nm_shr, nm_ush, nm_or8, nm_or64, nm_or256, nm_m1, nm_m3, nm_m7, nm_m15, nm_m31, nm_m63, nm_m255, nm_m511, nm_m1023, nm_m2047, nm_m65535, Nat.reduceMod, Nat.reducePow, Nat.reduceAdd, Nat.reduceSub, Nat.reduceMul, nm_bo, nm_bi, nm_rc, nm_ic, nm_ri, nm_rl, nm_rq, nm_ql, nm_qi, nm_li, nm_us, nm_uu, nm_cp, nm_sa31, nm_sa7, nm_m127, nm_m2, nm_nz, nm_nzk, nm_eq32, nm_nzf, if_true, if_false, ↓reduceIte, if_pos, if_neg])
  exact ⟨m, e⟩
theorem sc_0 (n L q : Nat) {z : Nat → Nat} {B : St} {tk st ts op ft : Nat} {tv : Int64} {K P OA : Nat → Int32} {N : Nat → Int64} {X : St × St} (h0 : sI B 0 = nI L) (hL : L ≤ 120) (hn : 130 < n) (hz : ∀ i : Nat, i < L → 32 ≤ z i ∧ z i ≤ 126) (ht : ∀ i : Nat, i < L → sR B 0 i = nI (z i)) (hq : q < L) (h32 : ¬ z q = 32) : df_X15_scan n (mR B q tk st ts op ft tv K P OA N, X) = nd_b2 (df_X15_isPlain n (nI (z q)) ()) (fun (q9 : Int32) (_ : Unit) => if q9 = 0 then nd_b2 (df_X15_charAt n (nI (q + 1)) (mR B q tk q ts op ft tv K P OA N, X)) (fun (q13 : Int32) (s14 : St × (St × St)) => if nI (z q) = 124 then (if q13 = 124 then df_X15_scan_244 n (nI (z q)) 10 s14 else df_X15_scan_124 n (nI (z q)) q13 s14) else df_X15_scan_124 n (nI (z q)) q13 s14) else df_X15_scan_50 n n (nI (z q)) (mR B q tk q ts op ft tv K P OA N, X)) := by
  have a := hz q hq
  obtain ⟨m, em⟩ : ∃ m : Nat, n = m + 1 := ⟨n - 1, by omega⟩
  have e0 : df_X15_scan_0 n n = dF_X15_scan_0 n (df_X15_scan_0 n m) := (congrArg (df_X15_scan_0 n) em).trans rfl
  have ca := cA_R n L q (X := X) h0 hL hn hz ht (by omega) (tk := tk) (ts := ts) (op := op) (ft := ft) (tv := tv) (K := K) (P := P) (OA := OA) (N := N) (ap := q) (st := st)
  have cb := cA_R n L q (X := X) h0 hL hn hz ht (by omega) (tk := tk) (ts := ts) (op := op) (ft := ft) (tv := tv) (K := K) (P := P) (OA := OA) (N := N) (ap := q) (st := q)
  rw [if_pos hq] at ca cb
  show df_X15_scan_0 n n (mR B q tk st ts op ft tv K P OA N, X) = _
  rw [e0]
  unfold dF_X15_scan_0
  have k1 : sI (mR B q tk st ts op ft tv K P OA N) 1 = nI q := rfl
  have k3 : pI (mR B q tk st ts op ft tv K P OA N) 3 (nI q) = mR B q tk q ts op ft tv K P OA N := mR_wi3
  show nd_b2 (df_X15_charAt n (sI (mR B q tk st ts op ft tv K P OA N) 1) (mR B q tk st ts op ft tv K P OA N, X)) _ = _
  rw [k1, ca, nb_b2, if_neg (show ¬ nI (z q) = 32 from fun y => h32 (by have y : nI (z q) = nI 32 := y; rw [nI_eq (by omega) (by omega)] at y; exact y)), nb_let]
  show nd_b2 (df_X15_charAt n (sI (pI (mR B q tk st ts op ft tv K P OA N) 3 (nI q)) 1) (pI (mR B q tk st ts op ft tv K P OA N) 3 (nI q), X)) _ = _
  rw [k3]
  show nd_b2 (df_X15_charAt n (nI q) (mR B q tk q ts op ft tv K P OA N, X)) _ = _
  rw [cb, nb_b2]
  have k4 : (nI q : Int32) + 1 = nI (q + 1) := nI_add ..
  rw [← k4]
  rfl
theorem sc_s (n L q d : Nat) {z : Nat → Nat} {B : St} {tk st ts op ft : Nat} {tv : Int64} {K P OA : Nat → Int32} {N : Nat → Int64} {X : St × St} (h0 : sI B 0 = nI L) (hL : L ≤ 120) (hn : 130 < n) (hz : ∀ i : Nat, i < L → 32 ≤ z i ∧ z i ≤ 126) (ht : ∀ i : Nat, i < L → sR B 0 i = nI (z i)) (hq : q < L) (h32 : ¬ z q = 32) (hd : d = if q + 1 < L then z (q + 1) else 0) (hna : (aD (z q) || aL (z q)) = false) : df_X15_scan n (mR B q tk st ts op ft tv K P OA N, X) = some (mR B (q + wid (z q) d) (tS (sgC (z q) d)) q ts op ft tv K P OA N, X) := by
  have a := hz q hq
  have d127 : d < 127 := by
    rw [hd]
    split
    · rename_i y
      have := hz (q + 1) y
      omega
    · omega
  have ip : df_X15_isPlain n (nI (z q)) () = some (nI 0, ()) := (ip_R n ⟨z q, by omega⟩).trans (by show some (bI (aD (z q) || aL (z q)), ()) = _; rw [hna]; rfl)
  have ca := cA_R n L (q + 1) (X := X) h0 hL hn hz ht (by omega) (tk := tk) (ts := ts) (op := op) (ft := ft) (tv := tv) (K := K) (P := P) (OA := OA) (N := N) (ap := q) (st := q)
  rw [← hd] at ca
  rw [sc_0 n L q h0 hL hn hz ht hq h32, ip, nb_b2, if_pos (show nI 0 = (0 : Int32) from rfl), ca, nb_b2]
  have s := sc_sg n (z q) d q (Y := mR B q tk q ts op ft tv K P OA N) (X := X) (by omega) d127 (by omega) rfl
  rw [mR_wi1, mR_wi2] at s
  exact s
theorem sc_a (n L q : Nat) {z : Nat → Nat} {B : St} {tk st ts op ft : Nat} {tv : Int64} {K P OA : Nat → Int32} {N : Nat → Int64} {X : St × St} (h0 : sI B 0 = nI L) (hL : L ≤ 120) (hn : 130 < n) (hz : ∀ i : Nat, i < L → 32 ≤ z i ∧ z i ≤ 126) (ht : ∀ i : Nat, i < L → sR B 0 i = nI (z i)) (hq : q < L) (h32 : ¬ z q = 32) (ha : (aD (z q) || aL (z q)) = true) : df_X15_scan n (mR B q tk st ts op ft tv K P OA N, X) = if aD (z q) = true then df_X15_scanNumber n (mR B (eS z L q) tk q ts op ft tv K P OA N, X) else df_X15_scanWord n (mR B (eS z L q) tk q ts op ft tv K P OA N, X) := by
  have a := hz q hq
  have ip : df_X15_isPlain n (nI (z q)) () = some (nI 1, ()) := (ip_R n ⟨z q, by omega⟩).trans (by show some (bI (aD (z q) || aL (z q)), ()) = _; rw [ha]; rfl)
  have idg : df_X15_isDigit n (nI (z q)) () = some (bI (aD (z q)), ()) := id_R n ⟨z q, by omega⟩
  rw [sc_0 n L q h0 hL hn hz ht hq h32, ip, nb_b2, if_neg (by decide)]
  obtain ⟨e1, e2, e3⟩ := eS_1 z hq ha
  obtain ⟨m, e⟩ := nm_ls (fun g i => df_X15_scan_50 n g (nI (z q)) (mR B i tk q ts op ft tv K P OA N, X)) (fun i => !(aD (z i) || aL (z i))) q (L - q) n (by omega) (fun k m h1 h2 h3 => by
    have hk : k < L := by omega
    have ak := hz k hk
    have ca := cA_R n L k (X := X) h0 hL hn hz ht (by omega) (tk := tk) (ts := ts) (op := op) (ft := ft) (tv := tv) (K := K) (P := P) (OA := OA) (N := N) (ap := k) (st := q)
    rw [if_pos hk] at ca
    have h3 : (!(aD (z k) || aL (z k))) = false := h3
    have hh : (aD (z k) || aL (z k)) = true := by
      cases h : (aD (z k) || aL (z k)) with
      | true => rfl
      | false => rw [h] at h3; exact absurd h3 (by decide)
    have ik : df_X15_isPlain n (nI (z k)) () = some (nI 1, ()) := (ip_R n ⟨z k, by omega⟩).trans (by show some (bI (aD (z k) || aL (z k)), ()) = _; rw [hh]; rfl)
    show dF_X15_scan_50 n (df_X15_scan_50 n m) (nI (z q)) (mR B k tk q ts op ft tv K P OA N, X) = df_X15_scan_50 n m (nI (z q)) (mR B (k + 1) tk q ts op ft tv K P OA N, X)
    unfold dF_X15_scan_50
    have k1 : sI (mR B k tk q ts op ft tv K P OA N) 1 = nI k := rfl
    rw [k1, ca, nb_b2, ik, nb_b2, if_neg (by decide), nb_let]
    simp (disch := (first | assumption | decide | omega)) only [mR_i1, mR_i2, mR_i3, mR_i4, mR_i5, mR_i6, mR_l, mR_r5, mR_r6, mR_r7, mR_q, mR_o, mR_i0, mR_r0, mR_wi1, mR_wi2, mR_wi3, mR_wi4, mR_wi5, mR_wi6, mR_wl, mR_wr5, mR_wr6, mR_wr7, mR_wq, eq_self, Nat.reduceEqDiff, Nat.reduceLeDiff, nl_1, no_1, no_1024, pk_mul, nI_add, nm_ck, nI_clamp, nI_ltI, nI_leI, nI_eq, nb_b2, nb_b1, ↓nb_let, nm_z0, nm_z1, nb_II, nb_IR, nb_RI, nb_RR, nm_IL, nm_IQ, nm_RL, nm_RQ, nm_LI, nm_LR, nm_LL, nm_LQ, nm_QI, nm_QR, nm_QL, nm_QQ, nm_rr, nm_ii, nm_eqm, not_false_eq_true, pk_sub, nm_div, nm_shl, nm_shr, nm_ush, nm_or8, nm_or64, nm_or256, nm_m1, nm_m3, nm_m7, nm_m15, nm_m31, nm_m63, nm_m255, nm_m511, nm_m1023, nm_m2047, nm_m65535, Nat.reduceMod, Nat.reducePow, Nat.reduceAdd, Nat.reduceSub, Nat.reduceMul, nm_bo, nm_bi, nm_rc, nm_ic, nm_ri, nm_rl, nm_rq, nm_ql, nm_qi, nm_li, nm_us, nm_uu, nm_cp, nm_sa31, nm_sa7, nm_m127, nm_m2, nm_nz, nm_nzk, nm_eq32, nm_nzf, if_true, if_false, ↓reduceIte, if_pos, if_neg])
  refine Eq.trans e ?_
  show dF_X15_scan_50 n (df_X15_scan_50 n m) (nI (z q)) (mR B (eS z L q) tk q ts op ft tv K P OA N, X) = _
  generalize eS z L q = y at e1 e2 e3
  have ca := cA_R n L y (X := X) h0 hL hn hz ht (by omega) (tk := tk) (ts := ts) (op := op) (ft := ft) (tv := tv) (K := K) (P := P) (OA := OA) (N := N) (ap := y) (st := q)
  have ik : df_X15_isPlain n (nI (if y < L then z y else 0)) () = some (nI 0, ()) := by
    by_cases yl : y < L
    · rw [if_pos yl]
      have ak := hz y yl
      exact (ip_R n ⟨z y, by omega⟩).trans (by show some (bI (aD (z y) || aL (z y)), ()) = _; rw [e3 yl]; rfl)
    · rw [if_neg yl]
      exact (ip_R n ⟨0, by omega⟩).trans rfl
  unfold dF_X15_scan_50 df_X15_scan_95
  have k1 : sI (mR B y tk q ts op ft tv K P OA N) 1 = nI y := rfl
  rw [k1, ca, nb_b2, ik, nb_b2, if_pos (show nI 0 = (0 : Int32) from rfl), idg, nb_b2]
  cases h : aD (z q) with
  | true =>
    rw [if_neg (show ¬ bI true = 0 by decide), if_pos rfl]
    exact b1_s _
  | false =>
    rw [if_pos (show bI false = 0 from rfl), if_neg (by decide)]
    exact b1_s _

/-- numbers, in both -/
def nvO (hx : Bool) (z : Nat → Nat) : Nat → Nat → Nat → Option Nat
  | 0, _, a => some a
  | k + 1, i, a => match dv hx (z i) with
    | none => none
    | some d => if a * bsO hx + d < 2 ^ 32 then nvO hx z k (i + 1) (a * bsO hx + d) else none
def hxO (z : Nat → Nat) (q l : Nat) : Bool := decide (2 < l ∧ z q = 48 ∧ z (q + 1) = 120)
theorem nv_C (n Tp : Nat) (hx : Bool) {z : Nat → Nat} {tpe : St} {B : St} {cs tp os ap kd fr ft pt : Nat} {C S SA F T : Nat → Int32} {A : Nat → Int64} (hO : sO B 0 = some Tp) (hp : ap ≤ 120) (hz : ∀ i : Nat, i < ap → sR tpe 0 i = nI (z i) ∧ 32 ≤ z i ∧ z i ≤ 126) : ∀ k i a g : Nat, i + k = ap → k < g → a < 2 ^ 32 → ∃ v : Int64, df_X2_readNumber_72 n Tp g (bI hx) (nI i) (tpe, mC B cs tp os ap kd fr ft pt (Int64.ofNat a) C S SA F T A) = some (tpe, mC B cs tp os ap (if (nvO hx z k i a).isSome = true then kd else 4) fr ft pt v C S SA F T A) ∧ ∀ x : Nat, nvO hx z k i a = some x → v = Int64.ofNat x := fun k => by
  induction k with
  | zero =>
    intro i a g hi hg ha
    obtain ⟨m, rfl⟩ : ∃ m : Nat, g = m + 1 := ⟨g - 1, by omega⟩
    have hi : i = ap := by omega
    subst hi
    refine ⟨Int64.ofNat a, ?_, fun x h => by injection h with h; rw [h]⟩
    rw [nc_e n Tp m (bI hx) hp]
    rfl
  | succ k ih =>
    intro i a g hi hg ha
    obtain ⟨m, rfl⟩ : ∃ m : Nat, g = m + 1 := ⟨g - 1, by omega⟩
    have t := hz i (by omega)
    show ∃ v : Int64, _ ∧ ∀ x : Nat, (match dv hx (z i) with | none => none | some d => if a * bsO hx + d < 2 ^ 32 then nvO hx z k (i + 1) (a * bsO hx + d) else none) = some x → v = Int64.ofNat x
    cases hd : dv hx (z i) with
    | none =>
      obtain ⟨v, e⟩ := nc_b n Tp m i (z i) hx hO hp (by omega) t.1 t.2.1 t.2.2 hd (tpe := tpe) (cs := cs) (tp := tp) (os := os) (kd := kd) (fr := fr) (ft := ft) (pt := pt) (nm := Int64.ofNat a) (C := C) (S := S) (SA := SA) (F := F) (T := T) (A := A)
      refine ⟨v, ?_, fun x h => (nomatch h)⟩
      rw [e]
      have q : nvO hx z (k + 1) i a = none := by
        show (match dv hx (z i) with | none => none | some d => if a * bsO hx + d < 2 ^ 32 then nvO hx z k (i + 1) (a * bsO hx + d) else none) = none
        rw [hd]
      rw [q]
      rfl
    | some d =>
      have q : nvO hx z (k + 1) i a = if a * bsO hx + d < 2 ^ 32 then nvO hx z k (i + 1) (a * bsO hx + d) else none := by
        show (match dv hx (z i) with | none => none | some d => if a * bsO hx + d < 2 ^ 32 then nvO hx z k (i + 1) (a * bsO hx + d) else none) = _
        rw [hd]
      rw [nc_t n Tp m i a d (z i) hx hO hp (by omega) t.1 t.2.1 t.2.2 ha hd, q]
      by_cases y : a * bsO hx + d < 2 ^ 32
      · rw [if_pos y, if_pos y]
        obtain ⟨v, e1, e2⟩ := ih (i + 1) (a * bsO hx + d) m (by omega) (by omega) y
        exact ⟨v, e1, fun x h => e2 x (by rw [← h]; exact (if_pos y).symm)⟩
      · rw [if_neg y, if_neg y]
        refine ⟨Int64.ofNat (a * bsO hx + d), rfl, fun x h => ?_⟩
        have h : (if a * bsO hx + d < 2 ^ 32 then nvO hx z k (i + 1) (a * bsO hx + d) else none) = some x := h
        rw [if_neg y] at h
        exact nomatch h
theorem nvR_b (n : Nat) (hx : Bool) {z : Nat → Nat} {B : St} {ap st ts op ft : Nat} {K P OA : Nat → Int32} {N : Nat → Int64} {X : St × St} (hp : ap ≤ 120) (hz : ∀ i : Nat, i < ap → sR B 0 i = nI (z i) ∧ 32 ≤ z i ∧ z i ≤ 126) : ∀ k i g : Nat, i + k = ap → k < g → df_X15_scanNumber_77 n g (bI hx) (nI i) (mR B ap 34 st ts op ft 0 K P OA N, X) = some (mR B ap 34 st ts op ft 0 K P OA N, X) := fun k => by
  induction k with
  | zero =>
    intro i g hi hg
    obtain ⟨m, rfl⟩ : ∃ m : Nat, g = m + 1 := ⟨g - 1, by omega⟩
    rw [show i = ap by omega]
    exact nr_e n m (bI hx) hp
  | succ k ih =>
    intro i g hi hg
    obtain ⟨m, rfl⟩ : ∃ m : Nat, g = m + 1 := ⟨g - 1, by omega⟩
    have t := hz i (by omega)
    rw [nr_b n m i (z i) hx hp (by omega) t.1 t.2.1 t.2.2 (Or.inl ⟨rfl, rfl⟩)]
    exact ih (i + 1) m (by omega) (by omega)
theorem nv_R (n : Nat) (hx : Bool) {z : Nat → Nat} {B : St} {ap st ts op ft : Nat} {K P OA : Nat → Int32} {N : Nat → Int64} {X : St × St} (hp : ap ≤ 120) (hz : ∀ i : Nat, i < ap → sR B 0 i = nI (z i) ∧ 32 ≤ z i ∧ z i ≤ 126) : ∀ k i a g : Nat, i + k = ap → k < g → a < 2 ^ 32 → ∃ v : Int64, df_X15_scanNumber_77 n g (bI hx) (nI i) (mR B ap 1 st ts op ft (Int64.ofNat a) K P OA N, X) = some (mR B ap (if (nvO hx z k i a).isSome = true then 1 else 34) st ts op ft v K P OA N, X) ∧ ∀ x : Nat, nvO hx z k i a = some x → v = Int64.ofNat x := fun k => by
  induction k with
  | zero =>
    intro i a g hi hg ha
    obtain ⟨m, rfl⟩ : ∃ m : Nat, g = m + 1 := ⟨g - 1, by omega⟩
    have hi : i = ap := by omega
    subst hi
    refine ⟨Int64.ofNat a, ?_, fun x h => by injection h with h; rw [h]⟩
    rw [nr_e n m (bI hx) hp]
    rfl
  | succ k ih =>
    intro i a g hi hg ha
    obtain ⟨m, rfl⟩ : ∃ m : Nat, g = m + 1 := ⟨g - 1, by omega⟩
    have t := hz i (by omega)
    cases hd : dv hx (z i) with
    | none =>
      have q : nvO hx z (k + 1) i a = none := by
        show (match dv hx (z i) with | none => none | some d => if a * bsO hx + d < 2 ^ 32 then nvO hx z k (i + 1) (a * bsO hx + d) else none) = none
        rw [hd]
      rw [nr_b n m i (z i) hx hp (by omega) t.1 t.2.1 t.2.2 (Or.inr hd), q, nvR_b n hx hp hz k (i + 1) m (by omega) (by omega)]
      exact ⟨0, rfl, fun x h => (nomatch h)⟩
    | some d =>
      have q : nvO hx z (k + 1) i a = if a * bsO hx + d < 2 ^ 32 then nvO hx z k (i + 1) (a * bsO hx + d) else none := by
        show (match dv hx (z i) with | none => none | some d => if a * bsO hx + d < 2 ^ 32 then nvO hx z k (i + 1) (a * bsO hx + d) else none) = _
        rw [hd]
      rw [nr_t n m i a d (z i) hx hp (by omega) t.1 t.2.1 t.2.2 ha hd, q]
      by_cases y : a * bsO hx + d < 2 ^ 32
      · rw [if_pos y, if_pos y]
        exact ih (i + 1) (a * bsO hx + d) m (by omega) (by omega) y
      · rw [if_neg y, if_neg y, nvR_b n hx hp hz k (i + 1) m (by omega) (by omega)]
        exact ⟨0, rfl, fun x h => (nomatch h)⟩
theorem rn_C (n Tp q l : Nat) {z : Nat → Nat} {tpe : St} {B : St} {cs tp os kd ft pt : Nat} {nm : Int64} {C S SA F T : Nat → Int32} {A : Nat → Int64} (hO : sO B 0 = some Tp) (hl : 1 ≤ l) (hl2 : q + l ≤ 120) (hz : ∀ i : Nat, i < q + l → sR tpe 0 i = nI (z i) ∧ 32 ≤ z i ∧ z i ≤ 126) : df_X2_readNumber n Tp (tpe, mC B cs tp os (q + l) kd q ft pt nm C S SA F T A) = df_X2_readNumber_72 n Tp n (bI (hxO z q l)) (nI (if hxO z q l = true then q + 2 else q)) (tpe, mC B cs tp os (q + l) kd q ft pt (Int64.ofNat 0) C S SA F T A) := by
  have w : nI (q + l) - nI q = nI l := by rw [pk_sub (by omega)]; congr 1; omega
  have e0 : (0 : Int64) = Int64.ofNat 0 := rfl
  have x0 := hz q (by omega)
  have z31 : z q < 2 ^ 31 := by omega
  unfold hxO
  by_cases y : 2 < l
  · have x1 := hz (q + 1) (by omega)
    have z32 : z (q + 1) < 2 ^ 31 := by omega
    by_cases y1 : z q = 48
    · by_cases y2 : z (q + 1) = 120
      · rw [decide_eq_true (show 2 < l ∧ z q = 48 ∧ z (q + 1) = 120 from ⟨y, y1, y2⟩), if_pos rfl, show bI true = nI 1 from rfl]
        simp (disch := (first | assumption | decide | omega)) only [df_X2_readNumber_171, df_X2_readNumber_146, df_X2_readNumber_128, df_X2_readNumber_127, df_X2_readNumber_71, df_X2_readNumber_48, df_X2_readNumber_47, df_X2_readNumber_0, df_X2_readNumber, mC_i0, mC_i1, mC_i2, mC_i5, mC_i6, mC_i7, mC_i8, mC_i9, mC_l, mC_r0, mC_r1, mC_r2, mC_r3, mC_r4, mC_q, mC_o, mC_i4, mC_wi0, mC_wi1, mC_wi2, mC_wi5, mC_wi6, mC_wi7, mC_wi8, mC_wi9, mC_wl, mC_wr0, mC_wr1, mC_wr2, mC_wr3, mC_wr4, mC_wq, hO, oT, w, x0.1, x1.1, y1, y2, e0, eq_self, Nat.reduceEqDiff, Nat.reduceLeDiff, nl_0, nl_1, nl_2, nl_4, nl_5, nl_6, nl_7, nl_10, nl_16, nl_48, nl_120, nl_32768, nl_4294967295, no_1, no_1024, pk_mul, nI_add, nm_ck, nI_clamp, nI_ltI, nI_leI, nI_eq, nb_b2, nb_b1, ↓nb_let, nm_z0, nm_z1, nb_II, nb_IR, nb_RI, nb_RR, nm_IL, nm_IQ, nm_RL, nm_RQ, nm_LI, nm_LR, nm_LL, nm_LQ, nm_QI, nm_QR, nm_QL, nm_QQ, nm_rr, nm_ii, nm_eqm, not_false_eq_true, pk_sub, nm_div, nm_shl, nm_shr, nm_ush, nm_or8, nm_or64, nm_or256, nm_m1, nm_m3, nm_m7, nm_m15, nm_m31, nm_m63, nm_m255, nm_m511, nm_m1023, nm_m2047, nm_m65535, Nat.reduceMod, Nat.reducePow, Nat.reduceAdd, Nat.reduceSub, Nat.reduceMul, nm_bo, nm_bi, nm_rc, nm_ic, nm_ri, nm_rl, nm_rq, nm_ql, nm_qi, nm_li, nm_us, nm_uu, nm_cp, nm_sa31, nm_sa7, nm_m127, nm_m2, nm_nz, nm_nzk, nm_eq32, nm_nzf, if_true, if_false, ↓reduceIte, if_pos, if_neg]
      · rw [decide_eq_false (show ¬ (2 < l ∧ z q = 48 ∧ z (q + 1) = 120) from fun h => y2 h.2.2), if_neg (by decide), show bI false = nI 0 from rfl]
        simp (disch := (first | assumption | decide | omega)) only [df_X2_readNumber_171, df_X2_readNumber_146, df_X2_readNumber_128, df_X2_readNumber_127, df_X2_readNumber_71, df_X2_readNumber_48, df_X2_readNumber_47, df_X2_readNumber_0, df_X2_readNumber, mC_i0, mC_i1, mC_i2, mC_i5, mC_i6, mC_i7, mC_i8, mC_i9, mC_l, mC_r0, mC_r1, mC_r2, mC_r3, mC_r4, mC_q, mC_o, mC_i4, mC_wi0, mC_wi1, mC_wi2, mC_wi5, mC_wi6, mC_wi7, mC_wi8, mC_wi9, mC_wl, mC_wr0, mC_wr1, mC_wr2, mC_wr3, mC_wr4, mC_wq, hO, oT, w, x0.1, x1.1, y1, y2, e0, eq_self, Nat.reduceEqDiff, Nat.reduceLeDiff, nl_0, nl_1, nl_2, nl_4, nl_5, nl_6, nl_7, nl_10, nl_16, nl_48, nl_120, nl_32768, nl_4294967295, no_1, no_1024, pk_mul, nI_add, nm_ck, nI_clamp, nI_ltI, nI_leI, nI_eq, nb_b2, nb_b1, ↓nb_let, nm_z0, nm_z1, nb_II, nb_IR, nb_RI, nb_RR, nm_IL, nm_IQ, nm_RL, nm_RQ, nm_LI, nm_LR, nm_LL, nm_LQ, nm_QI, nm_QR, nm_QL, nm_QQ, nm_rr, nm_ii, nm_eqm, not_false_eq_true, pk_sub, nm_div, nm_shl, nm_shr, nm_ush, nm_or8, nm_or64, nm_or256, nm_m1, nm_m3, nm_m7, nm_m15, nm_m31, nm_m63, nm_m255, nm_m511, nm_m1023, nm_m2047, nm_m65535, Nat.reduceMod, Nat.reducePow, Nat.reduceAdd, Nat.reduceSub, Nat.reduceMul, nm_bo, nm_bi, nm_rc, nm_ic, nm_ri, nm_rl, nm_rq, nm_ql, nm_qi, nm_li, nm_us, nm_uu, nm_cp, nm_sa31, nm_sa7, nm_m127, nm_m2, nm_nz, nm_nzk, nm_eq32, nm_nzf, if_true, if_false, ↓reduceIte, if_pos, if_neg]
    · rw [decide_eq_false (show ¬ (2 < l ∧ z q = 48 ∧ z (q + 1) = 120) from fun h => y1 h.2.1), if_neg (by decide), show bI false = nI 0 from rfl]
      simp (disch := (first | assumption | decide | omega)) only [df_X2_readNumber_171, df_X2_readNumber_146, df_X2_readNumber_128, df_X2_readNumber_127, df_X2_readNumber_71, df_X2_readNumber_48, df_X2_readNumber_47, df_X2_readNumber_0, df_X2_readNumber, mC_i0, mC_i1, mC_i2, mC_i5, mC_i6, mC_i7, mC_i8, mC_i9, mC_l, mC_r0, mC_r1, mC_r2, mC_r3, mC_r4, mC_q, mC_o, mC_i4, mC_wi0, mC_wi1, mC_wi2, mC_wi5, mC_wi6, mC_wi7, mC_wi8, mC_wi9, mC_wl, mC_wr0, mC_wr1, mC_wr2, mC_wr3, mC_wr4, mC_wq, hO, oT, w, x0.1, y1, e0, eq_self, Nat.reduceEqDiff, Nat.reduceLeDiff, nl_0, nl_1, nl_2, nl_4, nl_5, nl_6, nl_7, nl_10, nl_16, nl_48, nl_120, nl_32768, nl_4294967295, no_1, no_1024, pk_mul, nI_add, nm_ck, nI_clamp, nI_ltI, nI_leI, nI_eq, nb_b2, nb_b1, ↓nb_let, nm_z0, nm_z1, nb_II, nb_IR, nb_RI, nb_RR, nm_IL, nm_IQ, nm_RL, nm_RQ, nm_LI, nm_LR, nm_LL, nm_LQ, nm_QI, nm_QR, nm_QL, nm_QQ, nm_rr, nm_ii, nm_eqm, not_false_eq_true, pk_sub, nm_div, nm_shl, nm_shr, nm_ush, nm_or8, nm_or64, nm_or256, nm_m1, nm_m3, nm_m7, nm_m15, nm_m31, nm_m63, nm_m255, nm_m511, nm_m1023, nm_m2047, nm_m65535, Nat.reduceMod, Nat.reducePow, Nat.reduceAdd, Nat.reduceSub, Nat.reduceMul, nm_bo, nm_bi, nm_rc, nm_ic, nm_ri, nm_rl, nm_rq, nm_ql, nm_qi, nm_li, nm_us, nm_uu, nm_cp, nm_sa31, nm_sa7, nm_m127, nm_m2, nm_nz, nm_nzk, nm_eq32, nm_nzf, if_true, if_false, ↓reduceIte, if_pos, if_neg]
  · rw [decide_eq_false (show ¬ (2 < l ∧ z q = 48 ∧ z (q + 1) = 120) from fun h => y h.1), if_neg (by decide), show bI false = nI 0 from rfl]
    simp (disch := (first | assumption | decide | omega)) only [df_X2_readNumber_171, df_X2_readNumber_146, df_X2_readNumber_128, df_X2_readNumber_127, df_X2_readNumber_71, df_X2_readNumber_48, df_X2_readNumber_47, df_X2_readNumber_0, df_X2_readNumber, mC_i0, mC_i1, mC_i2, mC_i5, mC_i6, mC_i7, mC_i8, mC_i9, mC_l, mC_r0, mC_r1, mC_r2, mC_r3, mC_r4, mC_q, mC_o, mC_i4, mC_wi0, mC_wi1, mC_wi2, mC_wi5, mC_wi6, mC_wi7, mC_wi8, mC_wi9, mC_wl, mC_wr0, mC_wr1, mC_wr2, mC_wr3, mC_wr4, mC_wq, hO, oT, w, e0, eq_self, Nat.reduceEqDiff, Nat.reduceLeDiff, nl_0, nl_1, nl_2, nl_4, nl_5, nl_6, nl_7, nl_10, nl_16, nl_48, nl_120, nl_32768, nl_4294967295, no_1, no_1024, pk_mul, nI_add, nm_ck, nI_clamp, nI_ltI, nI_leI, nI_eq, nb_b2, nb_b1, ↓nb_let, nm_z0, nm_z1, nb_II, nb_IR, nb_RI, nb_RR, nm_IL, nm_IQ, nm_RL, nm_RQ, nm_LI, nm_LR, nm_LL, nm_LQ, nm_QI, nm_QR, nm_QL, nm_QQ, nm_rr, nm_ii, nm_eqm, not_false_eq_true, pk_sub, nm_div, nm_shl, nm_shr, nm_ush, nm_or8, nm_or64, nm_or256, nm_m1, nm_m3, nm_m7, nm_m15, nm_m31, nm_m63, nm_m255, nm_m511, nm_m1023, nm_m2047, nm_m65535, Nat.reduceMod, Nat.reducePow, Nat.reduceAdd, Nat.reduceSub, Nat.reduceMul, nm_bo, nm_bi, nm_rc, nm_ic, nm_ri, nm_rl, nm_rq, nm_ql, nm_qi, nm_li, nm_us, nm_uu, nm_cp, nm_sa31, nm_sa7, nm_m127, nm_m2, nm_nz, nm_nzk, nm_eq32, nm_nzf, if_true, if_false, ↓reduceIte, if_pos, if_neg]
theorem rn_R (n q l : Nat) {z : Nat → Nat} {B : St} {tk ts op ft : Nat} {tv : Int64} {K P OA : Nat → Int32} {N : Nat → Int64} {X : St × St} (hl : 1 ≤ l) (hl2 : q + l ≤ 120) (hz : ∀ i : Nat, i < q + l → sR B 0 i = nI (z i) ∧ 32 ≤ z i ∧ z i ≤ 126) : df_X15_scanNumber n (mR B (q + l) tk q ts op ft tv K P OA N, X) = df_X15_scanNumber_77 n n (bI (hxO z q l)) (nI (if hxO z q l = true then q + 2 else q)) (mR B (q + l) 1 q ts op ft (Int64.ofNat 0) K P OA N, X) := by
  have w : nI (q + l) - nI q = nI l := by rw [pk_sub (by omega)]; congr 1; omega
  have e0 : (0 : Int64) = Int64.ofNat 0 := rfl
  have x0 := hz q (by omega)
  have z31 : z q < 2 ^ 31 := by omega
  unfold hxO
  by_cases y : 2 < l
  · have x1 := hz (q + 1) (by omega)
    have z32 : z (q + 1) < 2 ^ 31 := by omega
    by_cases y1 : z q = 48
    · by_cases y2 : z (q + 1) = 120
      · rw [decide_eq_true (show 2 < l ∧ z q = 48 ∧ z (q + 1) = 120 from ⟨y, y1, y2⟩), if_pos rfl, show bI true = nI 1 from rfl]
        simp (disch := (first | assumption | decide | omega)) only [df_X15_scanNumber_204, df_X15_scanNumber_186, df_X15_scanNumber_180, df_X15_scanNumber_154, df_X15_scanNumber_134, df_X15_scanNumber_132, df_X15_scanNumber_76, df_X15_scanNumber_48, df_X15_scanNumber_47, df_X15_scanNumber_0, df_X15_scanNumber, mR_i1, mR_i2, mR_i3, mR_i4, mR_i5, mR_i6, mR_l, mR_r5, mR_r6, mR_r7, mR_q, mR_o, mR_i0, mR_r0, mR_wi1, mR_wi2, mR_wi3, mR_wi4, mR_wi5, mR_wi6, mR_wl, mR_wr5, mR_wr6, mR_wr7, mR_wq, w, x0.1, x1.1, y1, y2, e0, eq_self, Nat.reduceEqDiff, Nat.reduceLeDiff, nl_0, nl_1, nl_2, nl_3, nl_10, nl_16, nl_34, nl_48, nl_99, nl_120, no_1, no_1024, pk_mul, nI_add, nm_ck, nI_clamp, nI_ltI, nI_leI, nI_eq, nb_b2, nb_b1, ↓nb_let, nm_z0, nm_z1, nb_II, nb_IR, nb_RI, nb_RR, nm_IL, nm_IQ, nm_RL, nm_RQ, nm_LI, nm_LR, nm_LL, nm_LQ, nm_QI, nm_QR, nm_QL, nm_QQ, nm_rr, nm_ii, nm_eqm, not_false_eq_true, pk_sub, nm_div, nm_shl, nm_shr, nm_ush, nm_or8, nm_or64, nm_or256, nm_m1, nm_m3, nm_m7, nm_m15, nm_m31, nm_m63, nm_m255, nm_m511, nm_m1023, nm_m2047, nm_m65535, Nat.reduceMod, Nat.reducePow, Nat.reduceAdd, Nat.reduceSub, Nat.reduceMul, nm_bo, nm_bi, nm_rc, nm_ic, nm_ri, nm_rl, nm_rq, nm_ql, nm_qi, nm_li, nm_us, nm_uu, nm_cp, nm_sa31, nm_sa7, nm_m127, nm_m2, nm_nz, nm_nzk, nm_eq32, nm_nzf, if_true, if_false, ↓reduceIte, if_pos, if_neg]
      · rw [decide_eq_false (show ¬ (2 < l ∧ z q = 48 ∧ z (q + 1) = 120) from fun h => y2 h.2.2), if_neg (by decide), show bI false = nI 0 from rfl]
        simp (disch := (first | assumption | decide | omega)) only [df_X15_scanNumber_204, df_X15_scanNumber_186, df_X15_scanNumber_180, df_X15_scanNumber_154, df_X15_scanNumber_134, df_X15_scanNumber_132, df_X15_scanNumber_76, df_X15_scanNumber_48, df_X15_scanNumber_47, df_X15_scanNumber_0, df_X15_scanNumber, mR_i1, mR_i2, mR_i3, mR_i4, mR_i5, mR_i6, mR_l, mR_r5, mR_r6, mR_r7, mR_q, mR_o, mR_i0, mR_r0, mR_wi1, mR_wi2, mR_wi3, mR_wi4, mR_wi5, mR_wi6, mR_wl, mR_wr5, mR_wr6, mR_wr7, mR_wq, w, x0.1, x1.1, y1, y2, e0, eq_self, Nat.reduceEqDiff, Nat.reduceLeDiff, nl_0, nl_1, nl_2, nl_3, nl_10, nl_16, nl_34, nl_48, nl_99, nl_120, no_1, no_1024, pk_mul, nI_add, nm_ck, nI_clamp, nI_ltI, nI_leI, nI_eq, nb_b2, nb_b1, ↓nb_let, nm_z0, nm_z1, nb_II, nb_IR, nb_RI, nb_RR, nm_IL, nm_IQ, nm_RL, nm_RQ, nm_LI, nm_LR, nm_LL, nm_LQ, nm_QI, nm_QR, nm_QL, nm_QQ, nm_rr, nm_ii, nm_eqm, not_false_eq_true, pk_sub, nm_div, nm_shl, nm_shr, nm_ush, nm_or8, nm_or64, nm_or256, nm_m1, nm_m3, nm_m7, nm_m15, nm_m31, nm_m63, nm_m255, nm_m511, nm_m1023, nm_m2047, nm_m65535, Nat.reduceMod, Nat.reducePow, Nat.reduceAdd, Nat.reduceSub, Nat.reduceMul, nm_bo, nm_bi, nm_rc, nm_ic, nm_ri, nm_rl, nm_rq, nm_ql, nm_qi, nm_li, nm_us, nm_uu, nm_cp, nm_sa31, nm_sa7, nm_m127, nm_m2, nm_nz, nm_nzk, nm_eq32, nm_nzf, if_true, if_false, ↓reduceIte, if_pos, if_neg]
    · rw [decide_eq_false (show ¬ (2 < l ∧ z q = 48 ∧ z (q + 1) = 120) from fun h => y1 h.2.1), if_neg (by decide), show bI false = nI 0 from rfl]
      simp (disch := (first | assumption | decide | omega)) only [df_X15_scanNumber_204, df_X15_scanNumber_186, df_X15_scanNumber_180, df_X15_scanNumber_154, df_X15_scanNumber_134, df_X15_scanNumber_132, df_X15_scanNumber_76, df_X15_scanNumber_48, df_X15_scanNumber_47, df_X15_scanNumber_0, df_X15_scanNumber, mR_i1, mR_i2, mR_i3, mR_i4, mR_i5, mR_i6, mR_l, mR_r5, mR_r6, mR_r7, mR_q, mR_o, mR_i0, mR_r0, mR_wi1, mR_wi2, mR_wi3, mR_wi4, mR_wi5, mR_wi6, mR_wl, mR_wr5, mR_wr6, mR_wr7, mR_wq, w, x0.1, y1, e0, eq_self, Nat.reduceEqDiff, Nat.reduceLeDiff, nl_0, nl_1, nl_2, nl_3, nl_10, nl_16, nl_34, nl_48, nl_99, nl_120, no_1, no_1024, pk_mul, nI_add, nm_ck, nI_clamp, nI_ltI, nI_leI, nI_eq, nb_b2, nb_b1, ↓nb_let, nm_z0, nm_z1, nb_II, nb_IR, nb_RI, nb_RR, nm_IL, nm_IQ, nm_RL, nm_RQ, nm_LI, nm_LR, nm_LL, nm_LQ, nm_QI, nm_QR, nm_QL, nm_QQ, nm_rr, nm_ii, nm_eqm, not_false_eq_true, pk_sub, nm_div, nm_shl, nm_shr, nm_ush, nm_or8, nm_or64, nm_or256, nm_m1, nm_m3, nm_m7, nm_m15, nm_m31, nm_m63, nm_m255, nm_m511, nm_m1023, nm_m2047, nm_m65535, Nat.reduceMod, Nat.reducePow, Nat.reduceAdd, Nat.reduceSub, Nat.reduceMul, nm_bo, nm_bi, nm_rc, nm_ic, nm_ri, nm_rl, nm_rq, nm_ql, nm_qi, nm_li, nm_us, nm_uu, nm_cp, nm_sa31, nm_sa7, nm_m127, nm_m2, nm_nz, nm_nzk, nm_eq32, nm_nzf, if_true, if_false, ↓reduceIte, if_pos, if_neg]
  · rw [decide_eq_false (show ¬ (2 < l ∧ z q = 48 ∧ z (q + 1) = 120) from fun h => y h.1), if_neg (by decide), show bI false = nI 0 from rfl]
    simp (disch := (first | assumption | decide | omega)) only [df_X15_scanNumber_204, df_X15_scanNumber_186, df_X15_scanNumber_180, df_X15_scanNumber_154, df_X15_scanNumber_134, df_X15_scanNumber_132, df_X15_scanNumber_76, df_X15_scanNumber_48, df_X15_scanNumber_47, df_X15_scanNumber_0, df_X15_scanNumber, mR_i1, mR_i2, mR_i3, mR_i4, mR_i5, mR_i6, mR_l, mR_r5, mR_r6, mR_r7, mR_q, mR_o, mR_i0, mR_r0, mR_wi1, mR_wi2, mR_wi3, mR_wi4, mR_wi5, mR_wi6, mR_wl, mR_wr5, mR_wr6, mR_wr7, mR_wq, w, e0, eq_self, Nat.reduceEqDiff, Nat.reduceLeDiff, nl_0, nl_1, nl_2, nl_3, nl_10, nl_16, nl_34, nl_48, nl_99, nl_120, no_1, no_1024, pk_mul, nI_add, nm_ck, nI_clamp, nI_ltI, nI_leI, nI_eq, nb_b2, nb_b1, ↓nb_let, nm_z0, nm_z1, nb_II, nb_IR, nb_RI, nb_RR, nm_IL, nm_IQ, nm_RL, nm_RQ, nm_LI, nm_LR, nm_LL, nm_LQ, nm_QI, nm_QR, nm_QL, nm_QQ, nm_rr, nm_ii, nm_eqm, not_false_eq_true, pk_sub, nm_div, nm_shl, nm_shr, nm_ush, nm_or8, nm_or64, nm_or256, nm_m1, nm_m3, nm_m7, nm_m15, nm_m31, nm_m63, nm_m255, nm_m511, nm_m1023, nm_m2047, nm_m65535, Nat.reduceMod, Nat.reducePow, Nat.reduceAdd, Nat.reduceSub, Nat.reduceMul, nm_bo, nm_bi, nm_rc, nm_ic, nm_ri, nm_rl, nm_rq, nm_ql, nm_qi, nm_li, nm_us, nm_uu, nm_cp, nm_sa31, nm_sa7, nm_m127, nm_m2, nm_nz, nm_nzk, nm_eq32, nm_nzf, if_true, if_false, ↓reduceIte, if_pos, if_neg]
/-- a token, as both read it -/
def tkC (n Tp p q p' κ s : Nat) (v : Int64) (tpe B : St) : Prop := ∀ (cs tp os kd fr ft pt : Nat) (nm : Int64) (C S SA F T : Nat → Int32) (A : Nat → Int64), ∃ x : Int64, df_X2_next n Tp (tpe, mC B cs tp os p kd fr ft pt nm C S SA F T A) = some (tpe, mC B cs tp os p' κ q ft pt x C S SA F T A) ∧ (κ = 1 → x = v) ∧ (κ = 3 → x = (nI s).toInt64)
def tkM (n Tp q p' μ g : Nat) (tpe B : St) : Prop := ∀ (cs tp os kd ft pt : Nat) (nm : Int64) (C S SA F T : Nat → Int32) (A : Nat → Int64), ∃ x : Int64, df_X2_meaning n Tp (tpe, mC B cs tp os p' kd q ft pt nm C S SA F T A) = some (nI μ, (tpe, mC B cs tp os p' kd q ft pt x C S SA F T A)) ∧ (μ = 31 → x = (nI g).toInt64)
def tkR (n q p' τ g : Nat) (v : Int64) (B : St) : Prop := ∀ (tk st ts op ft : Nat) (tv : Int64) (K P OA : Nat → Int32) (N : Nat → Int64) (X : St × St), ∃ x : Int64, df_X15_scan n (mR B q tk st ts op ft tv K P OA N, X) = some (mR B p' τ q ts op ft x K P OA N, X) ∧ (τ = 1 → x = v) ∧ (τ = 2 → x = (nI g).toInt64)
def tkT (μ τ g : Nat) : Prop := (μ = 0 ∧ τ = 0) ∨ (μ = 31 ∧ τ = 2 ∧ g < 32) ∨ (μ = 31 ∧ τ = 3 ∧ g = 32) ∨ (μ = 32 ∧ τ = 4) ∨ (μ = 33 ∧ τ = 5) ∨ (μ = 27 ∧ τ = 6) ∨ (μ = 26 ∧ τ = 7) ∨ (μ = 23 ∧ τ = 8) ∨ (μ = 24 ∧ τ = 9)
theorem wd_2 (n Tp q l : Nat) {z : Nat → Nat} {tpe BC BR : St} (hOC : sO BC 0 = some Tp) (hl : 1 ≤ l) (hl2 : q + l ≤ 120) (hn : 130 < n) (hC : ∀ i : Nat, i < q + l → sR tpe 0 i = nI (z i) ∧ z i ≤ 126) (hR : ∀ i : Nat, i < q + l → sR BR 0 i = nI (z i) ∧ 32 ≤ z i ∧ z i ≤ 126) (hza : ∀ i : Nat, z i < 127) : ∃ μ τ g : Nat, tkT μ τ g ∧ tkM n Tp q (q + l) μ g tpe BC ∧ ∀ (tk ts op ft : Nat) (tv : Int64) (K P OA : Nat → Int32) (N : Nat → Int64) (X : St × St), ∃ x : Int64, df_X15_scanWord n (mR BR (q + l) tk q ts op ft tv K P OA N, X) = some (mR BR (q + l) τ q ts op ft x K P OA N, X) ∧ (τ = 2 → x = (nI g).toInt64) := by
  by_cases hx : z q = 120
  · cases hr : rgV z q l with
    | some g =>
      have g32 : g < 32 := by
        unfold rgV at hr
        split at hr
        · rename_i y
          injection hr with hr
          have := aD_t y.2
          omega
        · split at hr
          · rename_i y
            injection hr with hr
            omega
          · exact nomatch hr
      refine ⟨31, 2, g, by unfold tkT; omega, fun cs tp os kd ft pt nm C S SA F T A => ?_, fun tk ts op ft tv K P OA N X => ⟨(nI g).toInt64, (sw_r n q l hl hl2 hR hza).1 g hx hr, fun _ => rfl⟩⟩
      obtain ⟨v, e1, e2⟩ := mn_x n Tp q l hOC hl2 hn hl hC hx (B := BC) (cs := cs) (tp := tp) (os := os) (kd := kd) (ft := ft) (pt := pt) (nm := nm) (C := C) (S := S) (SA := SA) (F := F) (T := T) (A := A)
      rw [hr] at e1
      exact ⟨v, e1, fun _ => e2 g hr⟩
    | none =>
      refine ⟨0, 0, 0, by unfold tkT; omega, fun cs tp os kd ft pt nm C S SA F T A => ?_, fun tk ts op ft tv K P OA N X => ?_⟩
      · obtain ⟨v, e1, e2⟩ := mn_x n Tp q l hOC hl2 hn hl hC hx (B := BC) (cs := cs) (tp := tp) (os := os) (kd := kd) (ft := ft) (pt := pt) (nm := nm) (C := C) (S := S) (SA := SA) (F := F) (T := T) (A := A)
        rw [hr] at e1
        exact ⟨v, e1, fun h => by omega⟩
      · obtain ⟨v, e⟩ := (sw_r n q l hl hl2 hR hza (X := X) (tk := tk) (ts := ts) (op := op) (ft := ft) (tv := tv) (K := K) (P := P) (OA := OA) (N := N)).2 (fun _ => hr)
        exact ⟨v, e.trans (sw_0 n q l hl hl2 hn hR hza (by omega) (by omega) (by omega) (by omega) (by omega) (by omega) (by omega)), fun h => by omega⟩
  · by_cases w21 : l = 2 ∧ z q = 112 ∧ z (q + 1) = 99
    · refine ⟨31, 3, 32, Or.inr (Or.inr (Or.inl ⟨rfl, rfl, rfl⟩)), fun cs tp os kd ft pt nm C S SA F T A => ⟨32, mn_21 n Tp q l hOC hl2 hn hl hC w21, fun h => rfl⟩, fun tk ts op ft tv K P OA N X => ?_⟩
      obtain ⟨v, e⟩ := (sw_r n q l hl hl2 hR hza (X := X) (tk := tk) (ts := ts) (op := op) (ft := ft) (tv := tv) (K := K) (P := P) (OA := OA) (N := N)).2 (fun h => absurd h hx)
      exact ⟨v, e.trans (sw_21 n q l hl hl2 hn hR hza w21), fun h => absurd h (by decide)⟩
    · have v21 := w21
      by_cases w22 : l = 3 ∧ z q = 112 ∧ z (q + 1) = 105 ∧ z (q + 2) = 100
      · refine ⟨32, 4, 0, Or.inr (Or.inr (Or.inr (Or.inl ⟨rfl, rfl⟩))), fun cs tp os kd ft pt nm C S SA F T A => ⟨nm, mn_22 n Tp q l hOC hl2 hn hl hC w22, fun h => absurd h (by decide)⟩, fun tk ts op ft tv K P OA N X => ?_⟩
        obtain ⟨v, e⟩ := (sw_r n q l hl hl2 hR hza (X := X) (tk := tk) (ts := ts) (op := op) (ft := ft) (tv := tv) (K := K) (P := P) (OA := OA) (N := N)).2 (fun h => absurd h hx)
        exact ⟨v, e.trans (sw_22 n q l hl hl2 hn hR hza w22), fun h => absurd h (by decide)⟩
      · have v22 := w22
        by_cases w23 : l = 5 ∧ z q = 99 ∧ z (q + 1) = 111 ∧ z (q + 2) = 117 ∧ z (q + 3) = 110 ∧ z (q + 4) = 116
        · refine ⟨33, 5, 0, Or.inr (Or.inr (Or.inr (Or.inr (Or.inl ⟨rfl, rfl⟩)))), fun cs tp os kd ft pt nm C S SA F T A => ⟨nm, mn_23 n Tp q l hOC hl2 hn hl hC w23, fun h => absurd h (by decide)⟩, fun tk ts op ft tv K P OA N X => ?_⟩
          obtain ⟨v, e⟩ := (sw_r n q l hl hl2 hR hza (X := X) (tk := tk) (ts := ts) (op := op) (ft := ft) (tv := tv) (K := K) (P := P) (OA := OA) (N := N)).2 (fun h => absurd h hx)
          exact ⟨v, e.trans (sw_23 n q l hl hl2 hn hR hza w23), fun h => absurd h (by decide)⟩
        · have v23 := w23
          by_cases w24 : l = 4 ∧ z q = 98 ∧ z (q + 1) = 121 ∧ z (q + 2) = 116 ∧ z (q + 3) = 101
          · refine ⟨27, 6, 0, Or.inr (Or.inr (Or.inr (Or.inr (Or.inr (Or.inl ⟨rfl, rfl⟩))))), fun cs tp os kd ft pt nm C S SA F T A => ⟨nm, mn_24 n Tp q l hOC hl2 hn hl hC w24, fun h => absurd h (by decide)⟩, fun tk ts op ft tv K P OA N X => ?_⟩
            obtain ⟨v, e⟩ := (sw_r n q l hl hl2 hR hza (X := X) (tk := tk) (ts := ts) (op := op) (ft := ft) (tv := tv) (K := K) (P := P) (OA := OA) (N := N)).2 (fun h => absurd h hx)
            exact ⟨v, e.trans (sw_24 n q l hl hl2 hn hR hza w24), fun h => absurd h (by decide)⟩
          · have v24 := w24
            by_cases w25 : l = 4 ∧ z q = 104 ∧ z (q + 1) = 97 ∧ z (q + 2) = 108 ∧ z (q + 3) = 102
            · refine ⟨26, 7, 0, Or.inr (Or.inr (Or.inr (Or.inr (Or.inr (Or.inr (Or.inl ⟨rfl, rfl⟩)))))), fun cs tp os kd ft pt nm C S SA F T A => ⟨nm, mn_25 n Tp q l hOC hl2 hn hl hC w25, fun h => absurd h (by decide)⟩, fun tk ts op ft tv K P OA N X => ?_⟩
              obtain ⟨v, e⟩ := (sw_r n q l hl hl2 hR hza (X := X) (tk := tk) (ts := ts) (op := op) (ft := ft) (tv := tv) (K := K) (P := P) (OA := OA) (N := N)).2 (fun h => absurd h hx)
              exact ⟨v, e.trans (sw_25 n q l hl hl2 hn hR hza w25), fun h => absurd h (by decide)⟩
            · have v25 := w25
              by_cases w26 : l = 3 ∧ z q = 111 ∧ z (q + 1) = 108 ∧ z (q + 2) = 100
              · refine ⟨23, 8, 0, Or.inr (Or.inr (Or.inr (Or.inr (Or.inr (Or.inr (Or.inr (Or.inl ⟨rfl, rfl⟩))))))), fun cs tp os kd ft pt nm C S SA F T A => ⟨nm, mn_26 n Tp q l hOC hl2 hn hl hC w26, fun h => absurd h (by decide)⟩, fun tk ts op ft tv K P OA N X => ?_⟩
                obtain ⟨v, e⟩ := (sw_r n q l hl hl2 hR hza (X := X) (tk := tk) (ts := ts) (op := op) (ft := ft) (tv := tv) (K := K) (P := P) (OA := OA) (N := N)).2 (fun h => absurd h hx)
                exact ⟨v, e.trans (sw_26 n q l hl hl2 hn hR hza w26), fun h => absurd h (by decide)⟩
              · have v26 := w26
                by_cases w27 : l = 7 ∧ z q = 99 ∧ z (q + 1) = 104 ∧ z (q + 2) = 97 ∧ z (q + 3) = 110 ∧ z (q + 4) = 103 ∧ z (q + 5) = 101 ∧ z (q + 6) = 100
                · refine ⟨24, 9, 0, Or.inr (Or.inr (Or.inr (Or.inr (Or.inr (Or.inr (Or.inr (Or.inr (⟨rfl, rfl⟩)))))))), fun cs tp os kd ft pt nm C S SA F T A => ⟨nm, mn_27 n Tp q l hOC hl2 hn hl hC w27, fun h => absurd h (by decide)⟩, fun tk ts op ft tv K P OA N X => ?_⟩
                  obtain ⟨v, e⟩ := (sw_r n q l hl hl2 hR hza (X := X) (tk := tk) (ts := ts) (op := op) (ft := ft) (tv := tv) (K := K) (P := P) (OA := OA) (N := N)).2 (fun h => absurd h hx)
                  exact ⟨v, e.trans (sw_27 n q l hl hl2 hn hR hza w27), fun h => absurd h (by decide)⟩
                · have v27 := w27
                  refine ⟨0, 0, 0, Or.inl ⟨rfl, rfl⟩, fun cs tp os kd ft pt nm C S SA F T A => ⟨nm, mn_0 n Tp q l hOC hl2 hn hl hC hx w21 w22 w23 w24 w25 w26 w27, fun h => absurd h (by decide)⟩, fun tk ts op ft tv K P OA N X => ?_⟩
                  obtain ⟨v, e⟩ := (sw_r n q l hl hl2 hR hza (X := X) (tk := tk) (ts := ts) (op := op) (ft := ft) (tv := tv) (K := K) (P := P) (OA := OA) (N := N)).2 (fun h => absurd h hx)
                  exact ⟨v, e.trans (sw_0 n q l hl hl2 hn hR hza w21 w22 w23 w24 w25 w26 w27), fun h => absurd h (by decide)⟩
theorem pr_0 (c : Nat) (h : c < 128) : pr c 0 = 0 := by
  have k : ∀ c : Fin 128, pr c.1 0 = 0 ∨ c.1 = 0 := by decide +kernel
  rcases k ⟨c, h⟩ with y | y
  · exact y
  · have y : c = 0 := y
    rw [y]
    rfl
theorem tk_all (n Tp L p : Nat) {z : Nat → Nat} {tpe BC BR : St} (hO : sO BC 0 = some Tp) (h4 : sI BC 4 = nI L) (h0 : sI BR 0 = nI L) (hL : L ≤ 120) (hn : 130 < n) (hz : ∀ i : Nat, i < L → 32 ≤ z i ∧ z i ≤ 126) (hza : ∀ i : Nat, z i < 127) (htC : ∀ i : Nat, i < L → sR tpe 0 i = nI (z i)) (htR : ∀ i : Nat, i < L → sR BR 0 i = nI (z i)) (hp : p ≤ L) : ∃ (q p' κ s τ μ g : Nat) (v : Int64), q = qS z L p ∧ p ≤ q ∧ q ≤ p' ∧ p' ≤ L ∧ tkC n Tp p q p' κ s v tpe BC ∧ ((κ = 0 ∧ q = L ∧ p' = L) ∨ (q < L ∧ q < p' ∧ ¬ z q = 32 ∧ tkR n q p' τ g v BR ∧ ((κ = 1 ∧ τ = 1) ∨ (κ = 2 ∧ tkT μ τ g ∧ tkM n Tp q p' μ g tpe BC) ∨ (κ = 3 ∧ 1 ≤ s ∧ (s ≤ 19 ∨ s = 21 ∨ s = 22 ∨ s = 25 ∨ s = 28 ∨ s = 29) ∧ τ = tS s) ∨ (κ = 4 ∧ τ = 34)))) := by
  obtain ⟨q1, q2, q3⟩ := qS_1 z hp
  have sk := fun cs tp os kd fr ft pt nm C S SA F T A => nx_sk n Tp L p hO h4 hL hn hz htC hp (tpe := tpe) (B := BC) (cs := cs) (tp := tp) (os := os) (kd := kd) (fr := fr) (ft := ft) (pt := pt) (nm := nm) (C := C) (S := S) (SA := SA) (F := F) (T := T) (A := A)
  generalize hq : qS z L p = q at q1 q2 q3 sk
  by_cases y : q < L
  · have z32 := q3 y
    have zq := hz q y
    cases ha : (aD (z q) || aL (z q)) with
    | true =>
      obtain ⟨e1, e2, e3⟩ := eS_1 z y ha
      have nA := fun cs tp os kd fr ft pt nm C S SA F T A => nx_a n Tp L q hO h4 hL hn hz htC y ha (tpe := tpe) (B := BC) (cs := cs) (tp := tp) (os := os) (kd := kd) (fr := fr) (ft := ft) (pt := pt) (nm := nm) (C := C) (S := S) (SA := SA) (F := F) (T := T) (A := A)
      have sA := fun tk st ts op ft tv K P OA N X => sc_a n L q h0 hL hn hz htR y z32 ha (B := BR) (X := X) (tk := tk) (st := st) (ts := ts) (op := op) (ft := ft) (tv := tv) (K := K) (P := P) (OA := OA) (N := N)
      obtain ⟨l, hl⟩ : ∃ l : Nat, eS z L q = q + l := ⟨eS z L q - q, by omega⟩
      rw [hl] at e1 e2 e3 nA sA
      cases hd : aD (z q) with
      | true =>
        have hal : aL (z q) = false := by
          have := aD_t hd
          exact decide_eq_false (by omega)
        have hxx : hxO z q l = true → q + 2 < q + l + 1 := fun h => by
          have := of_decide_eq_true h
          omega
        generalize hh : hxO z q l = hx at hxx
        have i0' : (if hx = true then q + 2 else q) ≤ q + l := by
          split
          · rename_i h; have := hxx h; omega
          · omega
        generalize hi : (if hx = true then q + 2 else q) = i0 at i0'
        have cN := fun cs tp os ft pt C S SA F T A => nv_C n Tp hx hO (by omega) (fun i hi => ⟨htC i (by omega), hz i (by omega)⟩) (q + l - i0) i0 0 n (by omega) (by omega) (by omega) (z := z) (tpe := tpe) (B := BC) (cs := cs) (tp := tp) (os := os) (ap := q + l) (kd := 1) (fr := q) (ft := ft) (pt := pt) (C := C) (S := S) (SA := SA) (F := F) (T := T) (A := A)
        have cR := fun ts op ft K P OA N X => nv_R n hx (by omega) (fun i hi => ⟨htR i (by omega), hz i (by omega)⟩) (q + l - i0) i0 0 n (by omega) (by omega) (by omega) (z := z) (B := BR) (X := X) (ap := q + l) (st := q) (ts := ts) (op := op) (ft := ft) (K := K) (P := P) (OA := OA) (N := N)
        cases hR : nvO hx z (q + l - i0) i0 0 with
        | some x =>
          refine ⟨q, q + l, 1, 0, 1, 0, 0, Int64.ofNat x, rfl, q1, by omega, e2, ?_, Or.inr ⟨y, by omega, z32, ?_, Or.inl ⟨rfl, rfl⟩⟩⟩
          · intro cs tp os kd fr ft pt nm C S SA F T A
            obtain ⟨v, w1, w2⟩ := cN cs tp os ft pt C S SA F T A
            have rn := rn_C n Tp q l hO (by omega) (by omega) (fun i hi => ⟨htC i (by omega), hz i (by omega)⟩) (z := z) (tpe := tpe) (B := BC) (cs := cs) (tp := tp) (os := os) (kd := 1) (ft := ft) (pt := pt) (nm := nm) (C := C) (S := S) (SA := SA) (F := F) (T := T) (A := A)
            rw [hh, hi, w1, hR, if_pos (show (some x).isSome = true from rfl)] at rn
            refine ⟨v, ?_, fun h => w2 x hR, fun h => absurd h (by decide)⟩
            rw [sk, nA, hal, if_neg (by decide)]
            unfold df_X2_next_154 df_X2_next_169
            simp (disch := (first | assumption | decide | omega)) only [mC_i0, mC_i1, mC_i2, mC_i5, mC_i6, mC_i7, mC_i8, mC_i9, mC_l, mC_r0, mC_r1, mC_r2, mC_r3, mC_r4, mC_q, mC_o, mC_i4, mC_wi0, mC_wi1, mC_wi2, mC_wi5, mC_wi6, mC_wi7, mC_wi8, mC_wi9, mC_wl, mC_wr0, mC_wr1, mC_wr2, mC_wr3, mC_wr4, mC_wq, rn, eq_self, Nat.reduceEqDiff, Nat.reduceLeDiff, nl_1, no_1, no_1024, pk_mul, nI_add, nm_ck, nI_clamp, nI_ltI, nI_leI, nI_eq, nb_b2, nb_b1, ↓nb_let, nm_z0, nm_z1, nb_II, nb_IR, nb_RI, nb_RR, nm_IL, nm_IQ, nm_RL, nm_RQ, nm_LI, nm_LR, nm_LL, nm_LQ, nm_QI, nm_QR, nm_QL, nm_QQ, nm_rr, nm_ii, nm_eqm, not_false_eq_true, pk_sub, nm_div, nm_shl, nm_shr, nm_ush, nm_or8, nm_or64, nm_or256, nm_m1, nm_m3, nm_m7, nm_m15, nm_m31, nm_m63, nm_m255, nm_m511, nm_m1023, nm_m2047, nm_m65535, Nat.reduceMod, Nat.reducePow, Nat.reduceAdd, Nat.reduceSub, Nat.reduceMul, nm_bo, nm_bi, nm_rc, nm_ic, nm_ri, nm_rl, nm_rq, nm_ql, nm_qi, nm_li, nm_us, nm_uu, nm_cp, nm_sa31, nm_sa7, nm_m127, nm_m2, nm_nz, nm_nzk, nm_eq32, nm_nzf, if_true, if_false, ↓reduceIte, if_pos, if_neg]
          · intro tk st ts op ft tv K P OA N X
            obtain ⟨v, w1, w2⟩ := cR ts op ft K P OA N X
            have rn := rn_R n q l (by omega) (by omega) (fun i hi => ⟨htR i (by omega), hz i (by omega)⟩) (z := z) (B := BR) (X := X) (tk := tk) (ts := ts) (op := op) (ft := ft) (tv := tv) (K := K) (P := P) (OA := OA) (N := N)
            rw [hh, hi, w1, hR, if_pos (show (some x).isSome = true from rfl)] at rn
            refine ⟨v, ?_, fun h => w2 x hR, fun h => absurd h (by decide)⟩
            rw [sA, hd, if_pos rfl]
            exact rn
        | none =>
          refine ⟨q, q + l, 4, 0, 34, 0, 0, 0, rfl, q1, by omega, e2, ?_, Or.inr ⟨y, by omega, z32, ?_, Or.inr (Or.inr (Or.inr ⟨rfl, rfl⟩))⟩⟩
          · intro cs tp os kd fr ft pt nm C S SA F T A
            obtain ⟨v, w1, w2⟩ := cN cs tp os ft pt C S SA F T A
            have rn := rn_C n Tp q l hO (by omega) (by omega) (fun i hi => ⟨htC i (by omega), hz i (by omega)⟩) (z := z) (tpe := tpe) (B := BC) (cs := cs) (tp := tp) (os := os) (kd := 1) (ft := ft) (pt := pt) (nm := nm) (C := C) (S := S) (SA := SA) (F := F) (T := T) (A := A)
            rw [hh, hi, w1, hR, if_neg (by decide)] at rn
            refine ⟨v, ?_, fun h => absurd h (by decide), fun h => absurd h (by decide)⟩
            rw [sk, nA, hal, if_neg (by decide)]
            unfold df_X2_next_154 df_X2_next_169
            simp (disch := (first | assumption | decide | omega)) only [mC_i0, mC_i1, mC_i2, mC_i5, mC_i6, mC_i7, mC_i8, mC_i9, mC_l, mC_r0, mC_r1, mC_r2, mC_r3, mC_r4, mC_q, mC_o, mC_i4, mC_wi0, mC_wi1, mC_wi2, mC_wi5, mC_wi6, mC_wi7, mC_wi8, mC_wi9, mC_wl, mC_wr0, mC_wr1, mC_wr2, mC_wr3, mC_wr4, mC_wq, rn, eq_self, Nat.reduceEqDiff, Nat.reduceLeDiff, nl_1, no_1, no_1024, pk_mul, nI_add, nm_ck, nI_clamp, nI_ltI, nI_leI, nI_eq, nb_b2, nb_b1, ↓nb_let, nm_z0, nm_z1, nb_II, nb_IR, nb_RI, nb_RR, nm_IL, nm_IQ, nm_RL, nm_RQ, nm_LI, nm_LR, nm_LL, nm_LQ, nm_QI, nm_QR, nm_QL, nm_QQ, nm_rr, nm_ii, nm_eqm, not_false_eq_true, pk_sub, nm_div, nm_shl, nm_shr, nm_ush, nm_or8, nm_or64, nm_or256, nm_m1, nm_m3, nm_m7, nm_m15, nm_m31, nm_m63, nm_m255, nm_m511, nm_m1023, nm_m2047, nm_m65535, Nat.reduceMod, Nat.reducePow, Nat.reduceAdd, Nat.reduceSub, Nat.reduceMul, nm_bo, nm_bi, nm_rc, nm_ic, nm_ri, nm_rl, nm_rq, nm_ql, nm_qi, nm_li, nm_us, nm_uu, nm_cp, nm_sa31, nm_sa7, nm_m127, nm_m2, nm_nz, nm_nzk, nm_eq32, nm_nzf, if_true, if_false, ↓reduceIte, if_pos, if_neg]
          · intro tk st ts op ft tv K P OA N X
            obtain ⟨v, w1, w2⟩ := cR ts op ft K P OA N X
            have rn := rn_R n q l (by omega) (by omega) (fun i hi => ⟨htR i (by omega), hz i (by omega)⟩) (z := z) (B := BR) (X := X) (tk := tk) (ts := ts) (op := op) (ft := ft) (tv := tv) (K := K) (P := P) (OA := OA) (N := N)
            rw [hh, hi, w1, hR, if_neg (by decide)] at rn
            refine ⟨v, ?_, fun h => absurd h (by decide), fun h => absurd h (by decide)⟩
            rw [sA, hd, if_pos rfl]
            exact rn
      | false =>
        have hal : aL (z q) = true := by
          rw [hd, Bool.false_or] at ha
          exact ha
        obtain ⟨μ, τ, g, w1, w2, w3⟩ := wd_2 n Tp q l hO (by omega) (by omega) hn (fun i hi => ⟨htC i (by omega), (hz i (by omega)).2⟩) (fun i hi => ⟨htR i (by omega), hz i (by omega)⟩) hza (tpe := tpe) (BC := BC) (BR := BR) (z := z)
        refine ⟨q, q + l, 2, 0, τ, μ, g, 0, rfl, q1, by omega, e2, ?_, Or.inr ⟨y, by omega, z32, ?_, Or.inr (Or.inl ⟨rfl, w1, w2⟩)⟩⟩
        · intro cs tp os kd fr ft pt nm C S SA F T A
          refine ⟨nm, ?_, fun h => by omega, fun h => by omega⟩
          rw [sk, nA, hal, if_pos rfl]
          unfold df_X2_next_154 df_X2_next_169
          simp (disch := (first | assumption | decide | omega)) only [mC_i0, mC_i1, mC_i2, mC_i5, mC_i6, mC_i7, mC_i8, mC_i9, mC_l, mC_r0, mC_r1, mC_r2, mC_r3, mC_r4, mC_q, mC_o, mC_i4, mC_wi0, mC_wi1, mC_wi2, mC_wi5, mC_wi6, mC_wi7, mC_wi8, mC_wi9, mC_wl, mC_wr0, mC_wr1, mC_wr2, mC_wr3, mC_wr4, mC_wq, eq_self, Nat.reduceEqDiff, Nat.reduceLeDiff, nl_1, no_1, no_1024, pk_mul, nI_add, nm_ck, nI_clamp, nI_ltI, nI_leI, nI_eq, nb_b2, nb_b1, ↓nb_let, nm_z0, nm_z1, nb_II, nb_IR, nb_RI, nb_RR, nm_IL, nm_IQ, nm_RL, nm_RQ, nm_LI, nm_LR, nm_LL, nm_LQ, nm_QI, nm_QR, nm_QL, nm_QQ, nm_rr, nm_ii, nm_eqm, not_false_eq_true, pk_sub, nm_div, nm_shl, nm_shr, nm_ush, nm_or8, nm_or64, nm_or256, nm_m1, nm_m3, nm_m7, nm_m15, nm_m31, nm_m63, nm_m255, nm_m511, nm_m1023, nm_m2047, nm_m65535, Nat.reduceMod, Nat.reducePow, Nat.reduceAdd, Nat.reduceSub, Nat.reduceMul, nm_bo, nm_bi, nm_rc, nm_ic, nm_ri, nm_rl, nm_rq, nm_ql, nm_qi, nm_li, nm_us, nm_uu, nm_cp, nm_sa31, nm_sa7, nm_m127, nm_m2, nm_nz, nm_nzk, nm_eq32, nm_nzf, if_true, if_false, ↓reduceIte, if_pos, if_neg]
        · intro tk st ts op ft tv K P OA N X
          obtain ⟨x, x1, x2⟩ := w3 tk ts op ft tv K P OA N X
          refine ⟨x, ?_, fun h => ?_, x2⟩
          · rw [sA, hd, if_neg (by decide)]
            exact x1
          · unfold tkT at w1
            omega
    | false =>
      generalize hdd : (if q + 1 < L then z (q + 1) else 0) = d
      have d127 : d < 128 := by
        rw [← hdd]
        split
        · rename_i y2
          have := hz (q + 1) y2
          omega
        · omega
      have sr := sg_ran ⟨z q, by omega⟩ ⟨d, d127⟩
      have sr : sgC (z q) d ≤ 19 ∨ sgC (z q) d = 21 ∨ sgC (z q) d = 22 ∨ sgC (z q) d = 25 ∨ sgC (z q) d = 28 ∨ sgC (z q) d = 29 := sr
      have wd : q + wid (z q) d ≤ L ∧ q < q + wid (z q) d := by
        unfold wid
        by_cases yp : pr (z q) d = 0
        · rw [if_pos yp]; omega
        · rw [if_neg yp]
          by_cases y2 : q + 1 < L
          · omega
          · rw [if_neg y2] at hdd
            rw [← hdd] at yp
            exact absurd (pr_0 (z q) (by omega)) yp
      refine ⟨q, q + wid (z q) d, if sgC (z q) d = 0 then 4 else 3, sgC (z q) d, tS (sgC (z q) d), 0, 0, 0, rfl, q1, by omega, wd.1, ?_, Or.inr ⟨y, wd.2, z32, ?_, ?_⟩⟩
      · intro cs tp os kd fr ft pt nm C S SA F T A
        refine ⟨(nI (sgC (z q) d)).toInt64, ?_, fun h => ?_, fun _ => rfl⟩
        · rw [sk]
          exact nx_s n Tp L q d hO h4 hL hn hz htC y hdd.symm ha
        · split at h <;> omega
      · intro tk st ts op ft tv K P OA N X
        refine ⟨tv, sc_s n L q d h0 hL hn hz htR y z32 hdd.symm ha, fun h => ?_, fun h => ?_⟩
        · unfold tS at h
          repeat (first | omega | split at h)
        · unfold tS at h
          repeat (first | omega | split at h)
      · by_cases s0 : sgC (z q) d = 0
        · rw [if_pos s0, s0]
          exact Or.inr (Or.inr (Or.inr ⟨rfl, rfl⟩))
        · rw [if_neg s0]
          exact Or.inr (Or.inr (Or.inl ⟨rfl, by omega, sr, rfl⟩))
  · have y : q = L := by omega
    subst y
    refine ⟨q, q, 0, 0, 0, 0, 0, 0, rfl, q1, by omega, by omega, ?_, Or.inl ⟨rfl, rfl, rfl⟩⟩
    intro cs tp os kd fr ft pt nm C S SA F T A
    refine ⟨nm, ?_, fun h => by omega, fun h => by omega⟩
    rw [sk]
    exact nx_0 n Tp q hO h4 hL hn hz htC

/-- a piece in both -/
def gJ (d : Dn) (s os ro b b' f l j0 j1 : Nat) (C : Nat → Int32) (A : Nat → Int64) (F T K P : Nat → Int32) (N : Nat → Int64) (pos : Nat → Nat) : Prop := gC d s b b' j0 j1 C A T ∧ gR d os ro f l j0 j1 K P N pos ∧ gO b b' f l j0 j1 C A F T K P N pos
/-- signs that wait: how many opened; whether one of them remembers; the last that opened -/
def nOp : List Nat → Nat
  | [] => 0
  | o :: r => (if 22 ≤ o then 1 else 0) + nOp r
def hOb : List Nat → Bool
  | [] => false
  | o :: r => decide (o = 23 ∨ o = 24) || hOb r
def tpO : List Nat → Nat
  | [] => 0
  | o :: r => if 22 ≤ o then o else tpO r
def sgL : List Nat → Nat → Nat
  | [], _ => 0
  | o :: r, i => if i = r.length then o else sgL r i
def tU (o : Nat) : Nat := if o = 19 then 28 else if o = 20 then 24 else 29
def ordB (o : Nat) : List Nat → Prop
  | [] => True
  | o' :: _ => 22 ≤ o' ∨ (o' ≤ 18 ∧ rk o' < rk o)
def ordT (os : Nat) : List Nat → Prop
  | [] => True
  | o' :: _ => 22 ≤ o' ∨ (19 ≤ o' ∧ 19 ≤ os) ∨ (o' ≤ 18 ∧ (19 ≤ os ∨ rk o' < rk os))
def frm (C : Nat → Int32) (A : Nat → Int64) (F T K P : Nat → Int32) (N : Nat → Int64) (pos : Nat → Nat) (S SA OA : Nat → Int32) (o : Nat) (r : List Nat) (c' t' j' σ' c t j σ : Nat) : Prop :=
  (1 ≤ o ∧ o ≤ 18 ∧ ordB o r ∧ (hOb r = true → j = j') ∧ ∃ (d : Dn) (s os ro m u : Nat), gJ d s os ro c' m t' u j' j C A F T K P N pos ∧ (19 ≤ os ∨ rk o ≤ rk os) ∧ K u = nI (o + 9) ∧ t = u + 1 ∧ σ = σ' + s ∧ ((o ≤ 2 ∧ C m = nI (36 - o) ∧ c = m + 1 ∧ SA r.length = nI m) ∨ (3 ≤ o ∧ c = m)))
  ∨ (19 ≤ o ∧ o ≤ 21 ∧ c = c' ∧ j = j' ∧ σ = σ' ∧ t = t' + 1 ∧ K t' = nI (tU o))
  ∨ (22 ≤ o ∧ o ≤ 27 ∧ σ = σ' ∧ (((o = 22 ∨ o = 25) ∧ c = c' ∧ j = j' ∧ t = t' + 1 ∧ K t' = nI (if o = 22 then 30 else 32) ∧ OA (nOp r) = nI t')
    ∨ ((o = 26 ∨ o = 27) ∧ c = c' ∧ j = j' ∧ t = t' + 2 ∧ K t' = nI (33 - o) ∧ K (t' + 1) = nI 32 ∧ OA (nOp r) = nI (t' + 1))
    ∨ ((o = 23 ∨ o = 24) ∧ t = t' + 2 ∧ K t' = nI (o - 15) ∧ K (t' + 1) = nI 30 ∧ OA (nOp r) = nI (t' + 1) ∧ j = j' + 1 ∧ j' < 40 ∧ pos j' = t' ∧ SA r.length = nI j' ∧ F j' = nI c ∧ hOb r = false ∧ ((o = 23 ∧ c = c' + 1 ∧ C c' = nI 23 ∧ A c' = (nI j').toInt64) ∨ (o = 24 ∧ c = c')))))
def frs (C : Nat → Int32) (A : Nat → Int64) (F T K P : Nat → Int32) (N : Nat → Int64) (pos : Nat → Nat) (S SA OA : Nat → Int32) : List Nat → Nat → Nat → Nat → Nat → Prop
  | [], c, t, j, σ => c = 0 ∧ t = 0 ∧ j = 0 ∧ σ = 0
  | o :: r, c, t, j, σ => S r.length = nI o ∧ ∃ c' t' j' σ' : Nat, frs C A F T K P N pos S SA OA r c' t' j' σ' ∧ frm C A F T K P N pos S SA OA o r c' t' j' σ' c t j σ
theorem gJ_st {d : Dn} {s os ro b b' f l j0 j1 : Nat} {C : Nat → Int32} {A : Nat → Int64} {F T K P : Nat → Int32} {N : Nat → Int64} {pos : Nat → Nat} {C' : Nat → Int32} {A' : Nat → Int64} {F' T' K' P' : Nat → Int32} {N' : Nat → Int64} {pos' : Nat → Nat} (h : gJ d s os ro b b' f l j0 j1 C A F T K P N pos) (hC : ∀ i : Nat, b ≤ i → i < b' → C' i = C i ∧ A' i = A i) (hF : ∀ j : Nat, j0 ≤ j → j < j1 → F' j = F j ∧ T' j = T j ∧ pos' j = pos j) (hK : ∀ t : Nat, f ≤ t → t < l → K' t = K t ∧ P' t = P t ∧ N' t = N t) : gJ d s os ro b b' f l j0 j1 C' A' F' T' K' P' N' pos' := by
  obtain ⟨h1, h2, h3, h4⟩ := h
  refine ⟨gC_st h1 hC (fun j a b => (hF j a b).2.1), gR_st h2 hK (fun j a b => (hF j a b).2.2), fun j a b => ?_, fun t a b q => ?_⟩
  · obtain ⟨d', s', os', ro', q, b1, b2, a1, a2, a3, a4, a5, a6, a7, a8, a9, a10, a11⟩ := h3 j a b
    have e := hF j a b
    have w := a10.1
    have v := a6.1
    refine ⟨d', s', os', ro', q, b1, b2, a1, a2, a3, e.1.trans a4, e.2.1.trans a5, gC_st a6 (fun i x y => hC i (by omega) (by omega)) (fun i x y => by omega), ?_⟩
    rw [e.2.2]
    exact ⟨a7, a8, (hK _ (by omega) (by omega)).2.1.trans a9, gR_st a10 (fun t x y => hK t (by omega) (by omega)) (fun i x y => by omega), by rw [(hK (pos j) a7 (by omega)).1]; exact a11⟩
  · rw [(hK t a b).1] at q
    obtain ⟨j, x1, x2, x3⟩ := h4 t a b q
    exact ⟨j, x1, x2, (hF j x1 x2).2.2.trans x3⟩
theorem frs_le {C : Nat → Int32} {A : Nat → Int64} {F T K P : Nat → Int32} {N : Nat → Int64} {pos : Nat → Nat} {S SA OA : Nat → Int32} : ∀ (l : List Nat) (c t j σ : Nat), frs C A F T K P N pos S SA OA l c t j σ → ∀ o r, l = o :: r → ∃ c' t' j' σ' : Nat, S r.length = nI o ∧ 1 ≤ o ∧ o ≤ 27 ∧ c' ≤ c ∧ t' < t ∧ j' ≤ j ∧ σ' ≤ σ ∧ frs C A F T K P N pos S SA OA r c' t' j' σ' ∧ frm C A F T K P N pos S SA OA o r c' t' j' σ' c t j σ := fun l c t j σ h o r e => by
  subst e
  obtain ⟨h1, c', t', j', σ', h2, h3⟩ := h
  refine ⟨c', t', j', σ', h1, ?_⟩
  rcases h3 with ⟨a1, a2, a3, a4, d, s, os, ro, m, u, a5, a6, a7, a8, a9, a10⟩ | ⟨a1, a2, a3, a4, a5, a6, a7⟩ | ⟨a1, a2, a3, a4⟩
  · have k1 := a5.1.1
    have k2 := a5.2.1.1
    have k3 := a5.1.2.2.1
    exact ⟨by omega, by omega, by omega, by omega, by omega, by omega, h2, Or.inl ⟨a1, a2, a3, a4, d, s, os, ro, m, u, a5, a6, a7, a8, a9, a10⟩⟩
  · exact ⟨by omega, by omega, by omega, by omega, by omega, by omega, h2, Or.inr (Or.inl ⟨a1, a2, a3, a4, a5, a6, a7⟩)⟩
  · refine ⟨by omega, by omega, ?_, ?_, ?_, by omega, h2, Or.inr (Or.inr ⟨a1, a2, a3, a4⟩)⟩
    · rcases a4 with a4 | a4 | a4 <;> omega
    · rcases a4 with a4 | a4 | a4 <;> omega
    · rcases a4 with a4 | a4 | a4 <;> omega
theorem frs_st {C : Nat → Int32} {A : Nat → Int64} {F T K P : Nat → Int32} {N : Nat → Int64} {pos : Nat → Nat} {S SA OA S' SA' OA' : Nat → Int32} {C' : Nat → Int32} {A' : Nat → Int64} {F' T' K' P' : Nat → Int32} {N' : Nat → Int64} {pos' : Nat → Nat} : ∀ (l : List Nat) (c t j σ : Nat), frs C A F T K P N pos S SA OA l c t j σ → (∀ i : Nat, i < c → C' i = C i ∧ A' i = A i) → (∀ i : Nat, i < j → F' i = F i ∧ T' i = T i ∧ pos' i = pos i) → (∀ i : Nat, i < t → K' i = K i ∧ P' i = P i ∧ N' i = N i) → (∀ i : Nat, i < l.length → S' i = S i ∧ SA' i = SA i) → (∀ i : Nat, i < nOp l → OA' i = OA i) → frs C' A' F' T' K' P' N' pos' S' SA' OA' l c t j σ := fun l => by
  induction l with
  | nil => intro c t j σ h _ _ _ _ _; exact h
  | cons o r ih =>
    intro c t j σ h hC hF hK hS hO
    have hl : (o :: r).length = r.length + 1 := rfl
    obtain ⟨c', t', j', σ', h1, o1, o27, l1, l2, l3, _, h2, h3⟩ := frs_le _ c t j σ h o r rfl
    have hn : nOp r ≤ nOp (o :: r) := Nat.le_add_left ..
    have sl := hS r.length (by omega)
    refine ⟨sl.1.trans h1, c', t', j', σ', ih c' t' j' σ' h2 (fun i hi => hC i (by omega)) (fun i hi => hF i (by omega)) (fun i hi => hK i (by omega)) (fun i hi => hS i (by omega)) (fun i hi => hO i (by omega)), ?_⟩
    rcases h3 with ⟨a1, a2, a3, a4, d, s, os, ro, m, u, a5, a6, a7, a8, a9, a10⟩ | ⟨a1, a2, a3, a4, a5, a6, a7⟩ | ⟨a1, a2, a3, a4⟩
    · have k1 := a5.1.1
      have k2 := a5.2.1.1
      refine Or.inl ⟨a1, a2, a3, a4, d, s, os, ro, m, u, gJ_st a5 (fun i x y => hC i (by omega)) (fun i x y => hF i y) (fun i x y => hK i (by omega)), a6, (hK u (by omega)).1.trans a7, a8, a9, ?_⟩
      rcases a10 with ⟨b1, b2, b3, b4⟩ | b
      · exact Or.inl ⟨b1, (hC m (by omega)).1.trans b2, b3, sl.2.trans b4⟩
      · exact Or.inr b
    · exact Or.inr (Or.inl ⟨a1, a2, a3, a4, a5, a6, (hK t' (by omega)).1.trans a7⟩)
    · have on : nOp r < nOp (o :: r) := by
        show nOp r < (if 22 ≤ o then 1 else 0) + nOp r
        rw [if_pos a1]
        omega
      have oa := hO (nOp r) on
      refine Or.inr (Or.inr ⟨a1, a2, a3, ?_⟩)
      rcases a4 with ⟨b1, b2, b3, b4, b5, b6⟩ | ⟨b1, b2, b3, b4, b5, b6, b7⟩ | ⟨b1, b2, b3, b4, b5, b6, b7, b8, b9, b10, b11, b12⟩
      · exact Or.inl ⟨b1, b2, b3, b4, (hK t' (by omega)).1.trans b5, oa.trans b6⟩
      · exact Or.inr (Or.inl ⟨b1, b2, b3, b4, (hK t' (by omega)).1.trans b5, (hK (t' + 1) (by omega)).1.trans b6, oa.trans b7⟩)
      · have fj := hF j' (by omega)
        refine Or.inr (Or.inr ⟨b1, b2, (hK t' (by omega)).1.trans b3, (hK (t' + 1) (by omega)).1.trans b4, oa.trans b5, b6, b7, fj.2.2.trans b8, sl.2.trans b9, fj.1.trans b10, b11, ?_⟩)
        rcases b12 with ⟨d1, d2, d3, d4⟩ | b
        · exact Or.inl ⟨d1, d2, (hC c' (by omega)).1.trans d3, (hC c' (by omega)).2.trans d4⟩
        · exact Or.inr b
/-- the signs as a row -/
theorem frs_S {C : Nat → Int32} {A : Nat → Int64} {F T K P : Nat → Int32} {N : Nat → Int64} {pos : Nat → Nat} {S SA OA : Nat → Int32} : ∀ (l : List Nat) (c t j σ : Nat), frs C A F T K P N pos S SA OA l c t j σ → (∀ i : Nat, i < l.length → S i = nI (sgL l i) ∧ sgL l i < 100) ∧ cN (fun i => decide (22 ≤ sgL l i ∧ sgL l i ≤ 27)) l.length = nOp l ∧ (cN (fun i => decide (23 ≤ sgL l i ∧ sgL l i ≤ 24)) l.length = 0 ↔ hOb l = false) ∧ nOp l ≤ l.length := fun l => by
  induction l with
  | nil => intro c t j σ _; exact ⟨fun i hi => absurd hi (Nat.not_lt_zero i), rfl, ⟨fun _ => rfl, fun _ => rfl⟩, Nat.le_refl _⟩
  | cons o r ih =>
    intro c t j σ h
    obtain ⟨c', t', j', σ', h1, o1, o27, _, _, _, _, h2, _⟩ := frs_le _ c t j σ h o r rfl
    obtain ⟨i1, i2, i3, i4⟩ := ih c' t' j' σ' h2
    have top : sgL (o :: r) r.length = o := if_pos rfl
    have low : ∀ i : Nat, i < r.length → sgL (o :: r) i = sgL r i := fun i hi => if_neg (by omega)
    have ls : (o :: r).length = r.length + 1 := rfl
    have cc : ∀ a b : Nat, cN (fun i => decide (a ≤ sgL (o :: r) i ∧ sgL (o :: r) i ≤ b)) (o :: r).length = cN (fun i => decide (a ≤ sgL r i ∧ sgL r i ≤ b)) r.length + (decide (a ≤ o ∧ o ≤ b)).toNat := fun a b => by
      show cN _ (r.length + 1) = _
      rw [cN_s, cN_c (P := fun i => decide (a ≤ sgL (o :: r) i ∧ sgL (o :: r) i ≤ b)) (Q := fun i => decide (a ≤ sgL r i ∧ sgL r i ≤ b)) (N := r.length) (fun i hi => by show decide _ = decide _; rw [low i hi])]
      show _ + (decide (a ≤ sgL (o :: r) r.length ∧ sgL (o :: r) r.length ≤ b)).toNat = _
      rw [top]
    refine ⟨fun i hi => ?_, ?_, ?_, ?_⟩
    · by_cases y : i = r.length
      · subst y
        rw [top]
        exact ⟨h1, by omega⟩
      · rw [low i (by omega)]
        exact i1 i (by omega)
    · rw [cc, i2]
      show _ = (if 22 ≤ o then 1 else 0) + nOp r
      by_cases y : 22 ≤ o
      · rw [if_pos y, nm_dt ⟨y, o27⟩]; omega
      · rw [if_neg y, nm_df (fun z => y z.1)]; omega
    · rw [cc]
      show _ ↔ (decide (o = 23 ∨ o = 24) || hOb r) = false
      by_cases y : o = 23 ∨ o = 24
      · rw [nm_dt (by omega), decide_eq_true y]
        exact ⟨fun z => absurd z (by omega), fun z => absurd z (by rw [Bool.true_or]; decide)⟩
      · rw [nm_df (by omega), decide_eq_false y, Bool.false_or, Nat.add_zero]
        exact i3
    · show (if 22 ≤ o then 1 else 0) + nOp r ≤ r.length + 1
      split <;> omega
/-- the token before a place is no 'old', 'changed' -/
theorem frs_K {C : Nat → Int32} {A : Nat → Int64} {F T K P : Nat → Int32} {N : Nat → Int64} {pos : Nat → Nat} {S SA OA : Nat → Int32} (l : List Nat) (c t j σ : Nat) (h : frs C A F T K P N pos S SA OA l c t j σ) : t = 0 ∨ ∃ k : Nat, 10 ≤ k ∧ k < 100 ∧ K (t - 1) = nI k := by
  cases l with
  | nil => exact Or.inl h.2.1
  | cons o r =>
    obtain ⟨_, c', t', j', σ', _, h3⟩ := h
    rcases h3 with ⟨a1, a2, a3, a4, d, s, os, ro, m, u, a5, a6, a7, a8, a9, a10⟩ | ⟨a1, a2, a3, a4, a5, a6, a7⟩ | ⟨a1, a2, a3, a4⟩
    · exact Or.inr ⟨o + 9, by omega, by omega, by rw [a8]; exact a7⟩
    · refine Or.inr ⟨tU o, ?_, ?_, by rw [a6]; exact a7⟩
      · unfold tU; repeat (first | omega | split)
      · unfold tU; repeat (first | omega | split)
    · rcases a4 with ⟨b1, b2, b3, b4, b5, b6⟩ | ⟨b1, b2, b3, b4, b5, b6, b7⟩ | ⟨b1, b2, b3, b4, b5, b6, b7, b8, b9, b10, b11, b12⟩
      · refine Or.inr ⟨if o = 22 then 30 else 32, by split <;> omega, by split <;> omega, by rw [b4]; exact b5⟩
      · exact Or.inr ⟨32, by omega, by omega, by rw [b4]; exact b6⟩
      · exact Or.inr ⟨30, by omega, by omega, by rw [b2]; exact b4⟩
/-- the brackets, as the reference keeps them -/
theorem frs_O {C : Nat → Int32} {A : Nat → Int64} {F T K P : Nat → Int32} {N : Nat → Int64} {pos : Nat → Nat} {S SA OA : Nat → Int32} : ∀ (l : List Nat) (c t j σ : Nat), frs C A F T K P N pos S SA OA l c t j σ → (∀ i : Nat, i < nOp l → ∃ y k : Nat, OA i = nI y ∧ y < t ∧ k < 100 ∧ (0 < y → K (y - 1) = nI k) ∧ (0 < y → (k = 8 ∨ k = 9) → hOb l = true)) ∧ (hOb l = true → ∃ i y : Nat, i < nOp l ∧ OA i = nI (y + 1) ∧ y + 1 < t ∧ (K y = nI 8 ∨ K y = nI 9)) ∧ (0 < nOp l → ∃ y : Nat, OA (nOp l - 1) = nI y ∧ y < t ∧ 22 ≤ tpO l ∧ tpO l ≤ 27 ∧ K y = nI (if tpO l ≤ 24 then 30 else 32)) := fun l => by
  induction l with
  | nil => intro c t j σ _; exact ⟨fun i hi => absurd hi (Nat.not_lt_zero i), fun h => absurd h (by decide), fun h => absurd h (by decide)⟩
  | cons o r ih =>
    intro c t j σ h
    obtain ⟨c', t', j', σ', h1, o1, o27, l1, l2, l3, _, h2, h3⟩ := frs_le _ c t j σ h o r rfl
    obtain ⟨i1, i2, i3⟩ := ih c' t' j' σ' h2
    by_cases y : 22 ≤ o
    · have hn : nOp (o :: r) = 1 + nOp r := by show (if 22 ≤ o then 1 else 0) + nOp r = _; rw [if_pos y]
      have ht : tpO (o :: r) = o := if_pos y
      have kk := frs_K r c' t' j' σ' h2
      have up : ∀ i : Nat, i < nOp r → ∃ y k : Nat, OA i = nI y ∧ y < t ∧ k < 100 ∧ (0 < y → K (y - 1) = nI k) ∧ (0 < y → (k = 8 ∨ k = 9) → hOb (o :: r) = true) := fun i hi => by
        obtain ⟨y, k, x1, x2, x3, x4, x5⟩ := i1 i hi
        exact ⟨y, k, x1, by omega, x3, x4, fun p q => by show (decide (o = 23 ∨ o = 24) || hOb r) = true; rw [x5 p q, Bool.or_true]⟩
      have dn : hOb r = true → ∃ i y : Nat, i < nOp (o :: r) ∧ OA i = nI (y + 1) ∧ y + 1 < t ∧ (K y = nI 8 ∨ K y = nI 9) := fun z => by
        obtain ⟨i, y, x1, x2, x3, x4⟩ := i2 z
        exact ⟨i, y, by omega, x2, by omega, x4⟩
      have hO : hOb (o :: r) = (decide (o = 23 ∨ o = 24) || hOb r) := rfl
      rw [hn, ht, show 1 + nOp r - 1 = nOp r by omega]
      rw [hn] at dn
      rcases h3 with ⟨a1, a2, _⟩ | ⟨a1, a2, _⟩ | ⟨a1, a2, a3, a4⟩
      · omega
      · omega
      · rcases a4 with ⟨b1, b2, b3, b4, b5, b6⟩ | ⟨b1, b2, b3, b4, b5, b6, b7⟩ | ⟨b1, b2, b3, b4, b5, b6, b7, b8, b9, b10, b11, b12⟩
        · refine ⟨fun i hi => ?_, fun z => ?_, fun _ => ⟨t', b6, by omega, y, o27, ?_⟩⟩
          · by_cases e : i = nOp r
            · subst e
              rcases kk with k0 | ⟨k, k1, k2, k3⟩
              · exact ⟨t', 0, b6, by omega, by omega, fun z => by omega, fun z => by omega⟩
              · exact ⟨t', k, b6, by omega, k2, fun _ => k3, fun _ q => by omega⟩
            · exact up i (by omega)
          · rw [hO, decide_eq_false (by omega), Bool.false_or] at z
            exact dn z
          · rw [b5]
            rcases b1 with b1 | b1
            · rw [if_pos b1, if_pos (by omega)]
            · rw [if_neg (by omega), if_neg (by omega)]
        · refine ⟨fun i hi => ?_, fun z => ?_, fun _ => ⟨t' + 1, b7, by omega, y, o27, ?_⟩⟩
          · by_cases e : i = nOp r
            · subst e
              exact ⟨t' + 1, 33 - o, b7, by omega, by omega, fun _ => b5, fun _ q => by omega⟩
            · exact up i (by omega)
          · rw [hO, decide_eq_false (by omega), Bool.false_or] at z
            exact dn z
          · rw [b6, if_neg (by omega)]
        · have hh : hOb (o :: r) = true := by rw [hO, decide_eq_true b1]; rfl
          refine ⟨fun i hi => ?_, fun z => ⟨nOp r, t', by omega, b5, by omega, ?_⟩, fun _ => ⟨t' + 1, b5, by omega, y, o27, ?_⟩⟩
          · by_cases e : i = nOp r
            · subst e
              exact ⟨t' + 1, o - 15, b5, by omega, by omega, fun _ => b3, fun _ _ => hh⟩
            · exact up i (by omega)
          · rw [b3]
            rcases b1 with b1 | b1
            · exact Or.inl (by rw [b1])
            · exact Or.inr (by rw [b1])
          · rw [b4, if_pos (by omega)]
    · have hn : nOp (o :: r) = nOp r := by show (if 22 ≤ o then 1 else 0) + nOp r = _; rw [if_neg y, Nat.zero_add]
      have ht : tpO (o :: r) = tpO r := if_neg y
      have hO : hOb (o :: r) = hOb r := by show (decide (o = 23 ∨ o = 24) || hOb r) = _; rw [decide_eq_false (by omega), Bool.false_or]
      rw [hn, ht, hO]
      refine ⟨fun i hi => ?_, fun z => ?_, fun z => ?_⟩
      · obtain ⟨y, k, x1, x2, x3⟩ := i1 i hi
        exact ⟨y, k, x1, by omega, x3⟩
      · obtain ⟨i, y, x1, x2, x3, x4⟩ := i2 z
        exact ⟨i, y, x1, x2, by omega, x4⟩
      · obtain ⟨y, x1, x2, x3⟩ := i3 z
        exact ⟨y, x1, by omega, x3⟩
theorem re_R (n : Nat) (hn : 20 < n) {B : St} {ap tk st ts ft : Nat} {tv : Int64} {K P OA : Nat → Int32} {N : Nat → Int64} {X : St × St} {C : Nat → Int32} {A : Nat → Int64} {F T S SA : Nat → Int32} {pos : Nat → Nat} {l : List Nat} {cc jj σ : Nat} (h : frs C A F T K P N pos S SA OA l cc ts jj σ) (h8 : nOp l ≤ 8) (ht : ts ≤ 120) : df_X15_remembers n (mR B ap tk st ts (nOp l) ft tv K P OA N, X) = some (bI (hOb l), (mR B ap tk st ts (nOp l) ft tv K P OA N, X)) := by
  obtain ⟨o1, o2, _⟩ := frs_O l cc ts jj σ h
  have key : ∀ k i g : Nat, ∀ b : Bool, i + k = nOp l → k < g → (b = true → hOb l = true) → (hOb l = true → b = true ∨ ∃ i' y : Nat, i ≤ i' ∧ i' < nOp l ∧ OA i' = nI (y + 1) ∧ y + 1 < ts ∧ (K y = nI 8 ∨ K y = nI 9)) → df_X15_remembers_4 n g (bI b) (nI i) (mR B ap tk st ts (nOp l) ft tv K P OA N, X) = some (bI (hOb l), (mR B ap tk st ts (nOp l) ft tv K P OA N, X)) := fun k => by
    induction k with
    | zero =>
      intro i g b hi hg hb hb2
      obtain ⟨m, rfl⟩ : ∃ m : Nat, g = m + 1 := ⟨g - 1, by omega⟩
      have e : b = hOb l := by
        cases b with
        | true => exact (hb rfl).symm
        | false =>
          cases hh : hOb l with
          | false => rfl
          | true =>
            rcases hb2 hh with z | ⟨i', y, x1, x2, _⟩
            · exact absurd z (by decide)
            · omega
      subst e
      rw [show i = nOp l by omega]
      have nz : ∀ x : Option (Int32 × (St × (St × St))), nd_z .boolean (bI (hOb l)) x = x := fun x => by
        cases hOb l with
        | true => exact nm_z1
        | false => exact nm_z0
      show dF_X15_remembers_4 n (df_X15_remembers_4 n m) _ _ _ = _
      unfold dF_X15_remembers_4
      rw [if_pos (show sI (mR B ap tk st ts (nOp l) ft tv K P OA N) 5 ≤ nI (nOp l) from (show nI (nOp l) ≤ nI (nOp l) from (nI_leI (by omega) (by omega)).mpr (Nat.le_refl _)))]
      exact nz _
    | succ k ih =>
      intro i g b hi hg hb hb2
      obtain ⟨m, rfl⟩ : ∃ m : Nat, g = m + 1 := ⟨g - 1, by omega⟩
      have i10 : i < nOp l := by omega
      cases b with
      | true =>
        have st : df_X15_remembers_4 n (m + 1) (bI true) (nI i) (mR B ap tk st ts (nOp l) ft tv K P OA N, X) = df_X15_remembers_4 n m (bI true) (nI (i + 1)) (mR B ap tk st ts (nOp l) ft tv K P OA N, X) := by
          show dF_X15_remembers_4 n (df_X15_remembers_4 n m) (nI 1) (nI i) _ = df_X15_remembers_4 n m (nI 1) (nI (i + 1)) _
          unfold dF_X15_remembers_4
          simp (disch := (first | assumption | decide | omega)) only [df_X15_remembers_66, df_X15_remembers_61, df_X15_remembers_65, mR_i1, mR_i2, mR_i3, mR_i4, mR_i5, mR_i6, mR_l, mR_r5, mR_r6, mR_r7, mR_q, mR_o, mR_i0, mR_r0, mR_wi1, mR_wi2, mR_wi3, mR_wi4, mR_wi5, mR_wi6, mR_wl, mR_wr5, mR_wr6, mR_wr7, mR_wq, eq_self, Nat.reduceEqDiff, Nat.reduceLeDiff, nl_0, nl_1, no_1, no_1024, pk_mul, nI_add, nm_ck, nI_clamp, nI_ltI, nI_leI, nI_eq, nb_b2, nb_b1, ↓nb_let, nm_z0, nm_z1, nb_II, nb_IR, nb_RI, nb_RR, nm_IL, nm_IQ, nm_RL, nm_RQ, nm_LI, nm_LR, nm_LL, nm_LQ, nm_QI, nm_QR, nm_QL, nm_QQ, nm_rr, nm_ii, nm_eqm, not_false_eq_true, pk_sub, nm_div, nm_shl, nm_shr, nm_ush, nm_or8, nm_or64, nm_or256, nm_m1, nm_m3, nm_m7, nm_m15, nm_m31, nm_m63, nm_m255, nm_m511, nm_m1023, nm_m2047, nm_m65535, Nat.reduceMod, Nat.reducePow, Nat.reduceAdd, Nat.reduceSub, Nat.reduceMul, nm_bo, nm_bi, nm_rc, nm_ic, nm_ri, nm_rl, nm_rq, nm_ql, nm_qi, nm_li, nm_us, nm_uu, nm_cp, nm_sa31, nm_sa7, nm_m127, nm_m2, nm_nz, nm_nzk, nm_eq32, nm_nzf, if_true, if_false, ↓reduceIte, if_pos, if_neg]
        rw [st]
        exact ih (i + 1) m true (by omega) (by omega) hb (fun _ => Or.inl rfl)
      | false =>
        obtain ⟨y, k2, x1, x2, x3, x4, x5⟩ := o1 i i10
        by_cases y0 : 0 < y
        · have w : nI y - nI 1 = nI (y - 1) := pk_sub y0
          have x4 := x4 y0
          by_cases k8 : k2 = 8 ∨ k2 = 9
          · have st : df_X15_remembers_4 n (m + 1) (bI false) (nI i) (mR B ap tk st ts (nOp l) ft tv K P OA N, X) = df_X15_remembers_4 n m (bI true) (nI (i + 1)) (mR B ap tk st ts (nOp l) ft tv K P OA N, X) := by
              show dF_X15_remembers_4 n (df_X15_remembers_4 n m) (nI 0) (nI i) _ = df_X15_remembers_4 n m (nI 1) (nI (i + 1)) _
              unfold dF_X15_remembers_4
              rcases k8 with e | e
              · subst e
                simp (disch := (first | assumption | decide | omega)) only [df_X15_remembers_66, df_X15_remembers_61, df_X15_remembers_65, mR_i1, mR_i2, mR_i3, mR_i4, mR_i5, mR_i6, mR_l, mR_r5, mR_r6, mR_r7, mR_q, mR_o, mR_i0, mR_r0, mR_wi1, mR_wi2, mR_wi3, mR_wi4, mR_wi5, mR_wi6, mR_wl, mR_wr5, mR_wr6, mR_wr7, mR_wq, x1, w, x4, eq_self, Nat.reduceEqDiff, Nat.reduceLeDiff, nl_0, nl_1, nl_8, nl_9, no_1, no_1024, pk_mul, nI_add, nm_ck, nI_clamp, nI_ltI, nI_leI, nI_eq, nb_b2, nb_b1, ↓nb_let, nm_z0, nm_z1, nb_II, nb_IR, nb_RI, nb_RR, nm_IL, nm_IQ, nm_RL, nm_RQ, nm_LI, nm_LR, nm_LL, nm_LQ, nm_QI, nm_QR, nm_QL, nm_QQ, nm_rr, nm_ii, nm_eqm, not_false_eq_true, pk_sub, nm_div, nm_shl, nm_shr, nm_ush, nm_or8, nm_or64, nm_or256, nm_m1, nm_m3, nm_m7, nm_m15, nm_m31, nm_m63, nm_m255, nm_m511, nm_m1023, nm_m2047, nm_m65535, Nat.reduceMod, Nat.reducePow, Nat.reduceAdd, Nat.reduceSub, Nat.reduceMul, nm_bo, nm_bi, nm_rc, nm_ic, nm_ri, nm_rl, nm_rq, nm_ql, nm_qi, nm_li, nm_us, nm_uu, nm_cp, nm_sa31, nm_sa7, nm_m127, nm_m2, nm_nz, nm_nzk, nm_eq32, nm_nzf, if_true, if_false, ↓reduceIte, if_pos, if_neg]
              · subst e
                simp (disch := (first | assumption | decide | omega)) only [df_X15_remembers_66, df_X15_remembers_61, df_X15_remembers_65, mR_i1, mR_i2, mR_i3, mR_i4, mR_i5, mR_i6, mR_l, mR_r5, mR_r6, mR_r7, mR_q, mR_o, mR_i0, mR_r0, mR_wi1, mR_wi2, mR_wi3, mR_wi4, mR_wi5, mR_wi6, mR_wl, mR_wr5, mR_wr6, mR_wr7, mR_wq, x1, w, x4, eq_self, Nat.reduceEqDiff, Nat.reduceLeDiff, nl_0, nl_1, nl_8, nl_9, no_1, no_1024, pk_mul, nI_add, nm_ck, nI_clamp, nI_ltI, nI_leI, nI_eq, nb_b2, nb_b1, ↓nb_let, nm_z0, nm_z1, nb_II, nb_IR, nb_RI, nb_RR, nm_IL, nm_IQ, nm_RL, nm_RQ, nm_LI, nm_LR, nm_LL, nm_LQ, nm_QI, nm_QR, nm_QL, nm_QQ, nm_rr, nm_ii, nm_eqm, not_false_eq_true, pk_sub, nm_div, nm_shl, nm_shr, nm_ush, nm_or8, nm_or64, nm_or256, nm_m1, nm_m3, nm_m7, nm_m15, nm_m31, nm_m63, nm_m255, nm_m511, nm_m1023, nm_m2047, nm_m65535, Nat.reduceMod, Nat.reducePow, Nat.reduceAdd, Nat.reduceSub, Nat.reduceMul, nm_bo, nm_bi, nm_rc, nm_ic, nm_ri, nm_rl, nm_rq, nm_ql, nm_qi, nm_li, nm_us, nm_uu, nm_cp, nm_sa31, nm_sa7, nm_m127, nm_m2, nm_nz, nm_nzk, nm_eq32, nm_nzf, if_true, if_false, ↓reduceIte, if_pos, if_neg]
            rw [st]
            exact ih (i + 1) m true (by omega) (by omega) (fun _ => x5 y0 k8) (fun _ => Or.inl rfl)
          · have st : df_X15_remembers_4 n (m + 1) (bI false) (nI i) (mR B ap tk st ts (nOp l) ft tv K P OA N, X) = df_X15_remembers_4 n m (bI false) (nI (i + 1)) (mR B ap tk st ts (nOp l) ft tv K P OA N, X) := by
              show dF_X15_remembers_4 n (df_X15_remembers_4 n m) (nI 0) (nI i) _ = df_X15_remembers_4 n m (nI 0) (nI (i + 1)) _
              have k8a : ¬ k2 = 8 := fun z => k8 (Or.inl z)
              have k8b : ¬ k2 = 9 := fun z => k8 (Or.inr z)
              unfold dF_X15_remembers_4
              simp (disch := (first | assumption | decide | omega)) only [df_X15_remembers_66, df_X15_remembers_61, df_X15_remembers_65, mR_i1, mR_i2, mR_i3, mR_i4, mR_i5, mR_i6, mR_l, mR_r5, mR_r6, mR_r7, mR_q, mR_o, mR_i0, mR_r0, mR_wi1, mR_wi2, mR_wi3, mR_wi4, mR_wi5, mR_wi6, mR_wl, mR_wr5, mR_wr6, mR_wr7, mR_wq, x1, w, x4, eq_self, Nat.reduceEqDiff, Nat.reduceLeDiff, nl_0, nl_1, nl_8, nl_9, no_1, no_1024, pk_mul, nI_add, nm_ck, nI_clamp, nI_ltI, nI_leI, nI_eq, nb_b2, nb_b1, ↓nb_let, nm_z0, nm_z1, nb_II, nb_IR, nb_RI, nb_RR, nm_IL, nm_IQ, nm_RL, nm_RQ, nm_LI, nm_LR, nm_LL, nm_LQ, nm_QI, nm_QR, nm_QL, nm_QQ, nm_rr, nm_ii, nm_eqm, not_false_eq_true, pk_sub, nm_div, nm_shl, nm_shr, nm_ush, nm_or8, nm_or64, nm_or256, nm_m1, nm_m3, nm_m7, nm_m15, nm_m31, nm_m63, nm_m255, nm_m511, nm_m1023, nm_m2047, nm_m65535, Nat.reduceMod, Nat.reducePow, Nat.reduceAdd, Nat.reduceSub, Nat.reduceMul, nm_bo, nm_bi, nm_rc, nm_ic, nm_ri, nm_rl, nm_rq, nm_ql, nm_qi, nm_li, nm_us, nm_uu, nm_cp, nm_sa31, nm_sa7, nm_m127, nm_m2, nm_nz, nm_nzk, nm_eq32, nm_nzf, if_true, if_false, ↓reduceIte, if_pos, if_neg]
            rw [st]
            refine ih (i + 1) m false (by omega) (by omega) hb (fun z => ?_)
            rcases hb2 z with q | ⟨i', y', z1, z2, z3, z4, z5⟩
            · exact absurd q (by decide)
            · refine Or.inr ⟨i', y', ?_, z2, z3, z4, z5⟩
              have : ¬ i' = i := fun e => by
                rw [e, x1, nI_eq (by omega) (by omega)] at z3
                rw [show y - 1 = y' by omega] at x4
                rw [x4] at z5
                rcases z5 with z5 | z5
                · rw [nI_eq (by omega) (by omega)] at z5; omega
                · rw [nI_eq (by omega) (by omega)] at z5; omega
              omega
        · have st : df_X15_remembers_4 n (m + 1) (bI false) (nI i) (mR B ap tk st ts (nOp l) ft tv K P OA N, X) = df_X15_remembers_4 n m (bI false) (nI (i + 1)) (mR B ap tk st ts (nOp l) ft tv K P OA N, X) := by
            show dF_X15_remembers_4 n (df_X15_remembers_4 n m) (nI 0) (nI i) _ = df_X15_remembers_4 n m (nI 0) (nI (i + 1)) _
            have y00 : y = 0 := by omega
            subst y00
            unfold dF_X15_remembers_4
            simp (disch := (first | assumption | decide | omega)) only [df_X15_remembers_66, df_X15_remembers_61, df_X15_remembers_65, mR_i1, mR_i2, mR_i3, mR_i4, mR_i5, mR_i6, mR_l, mR_r5, mR_r6, mR_r7, mR_q, mR_o, mR_i0, mR_r0, mR_wi1, mR_wi2, mR_wi3, mR_wi4, mR_wi5, mR_wi6, mR_wl, mR_wr5, mR_wr6, mR_wr7, mR_wq, x1, eq_self, Nat.reduceEqDiff, Nat.reduceLeDiff, nl_0, nl_1, no_1, no_1024, pk_mul, nI_add, nm_ck, nI_clamp, nI_ltI, nI_leI, nI_eq, nb_b2, nb_b1, ↓nb_let, nm_z0, nm_z1, nb_II, nb_IR, nb_RI, nb_RR, nm_IL, nm_IQ, nm_RL, nm_RQ, nm_LI, nm_LR, nm_LL, nm_LQ, nm_QI, nm_QR, nm_QL, nm_QQ, nm_rr, nm_ii, nm_eqm, not_false_eq_true, pk_sub, nm_div, nm_shl, nm_shr, nm_ush, nm_or8, nm_or64, nm_or256, nm_m1, nm_m3, nm_m7, nm_m15, nm_m31, nm_m63, nm_m255, nm_m511, nm_m1023, nm_m2047, nm_m65535, Nat.reduceMod, Nat.reducePow, Nat.reduceAdd, Nat.reduceSub, Nat.reduceMul, nm_bo, nm_bi, nm_rc, nm_ic, nm_ri, nm_rl, nm_rq, nm_ql, nm_qi, nm_li, nm_us, nm_uu, nm_cp, nm_sa31, nm_sa7, nm_m127, nm_m2, nm_nz, nm_nzk, nm_eq32, nm_nzf, if_true, if_false, ↓reduceIte, if_pos, if_neg]
          rw [st]
          refine ih (i + 1) m false (by omega) (by omega) hb (fun z => ?_)
          rcases hb2 z with q | ⟨i', y', z1, z2, z3, z4, z5⟩
          · exact absurd q (by decide)
          · refine Or.inr ⟨i', y', ?_, z2, z3, z4, z5⟩
            have : ¬ i' = i := fun e => by
              rw [e, x1, nI_eq (by omega) (by omega)] at z3
              omega
            omega
  exact key (nOp l) 0 n false (by omega) (by omega) (fun z => absurd z (by decide)) (fun z => by
    obtain ⟨i, y, z1, z2, z3, z4⟩ := o2 z
    exact Or.inr ⟨i, y, by omega, z1, z2, z3, z4⟩)

/-- what two pieces remember together -/
theorem gO_w {b b' f l j0 j1 b0 b1 f0 l1 : Nat} {C : Nat → Int32} {A : Nat → Int64} {F T K P : Nat → Int32} {N : Nat → Int64} {pos : Nat → Nat} (h : gO b b' f l j0 j1 C A F T K P N pos) (h1 : b0 ≤ b) (h2 : b' ≤ b1) (h3 : f0 ≤ f) (h4 : l ≤ l1) (hk : ∀ t : Nat, f0 ≤ t → t < l1 → (t < f ∨ l ≤ t) → ¬ (K t = nI 8 ∨ K t = nI 9)) : gO b0 b1 f0 l1 j0 j1 C A F T K P N pos := by
  refine ⟨fun j a b => ?_, fun t a b q => ?_⟩
  · obtain ⟨d', s', os', ro', q, b1, b2, a1, a2, a3, a4, a5, a6, a7, a8, a9⟩ := h.1 j a b
    exact ⟨d', s', os', ro', q, b1, b2, by omega, by omega, a3, a4, a5, a6, by omega, by omega, a9⟩
  · by_cases y : f ≤ t ∧ t < l
    · exact h.2 t y.1 y.2 q
    · exact absurd q (hk t a b (by omega))
theorem gO_u {b m m' b' f u u' l j0 j j1 : Nat} {C : Nat → Int32} {A : Nat → Int64} {F T K P : Nat → Int32} {N : Nat → Int64} {pos : Nat → Nat} (h : gO b m f u j0 j C A F T K P N pos) (g : gO m' b' u' l j j1 C A F T K P N pos) (h1 : b ≤ m') (h2 : m ≤ b') (h3 : f ≤ u') (h4 : u ≤ l) (h5 : j0 ≤ j) (h6 : j ≤ j1) (hk : ∀ t : Nat, u ≤ t → t < u' → ¬ (K t = nI 8 ∨ K t = nI 9)) : gO b b' f l j0 j1 C A F T K P N pos := by
  refine ⟨fun i a c => ?_, fun t a c q => ?_⟩
  · by_cases y : i < j
    · obtain ⟨d', s', os', ro', q, b1, b2, a1, a2, a3, a4, a5, a6, a7, a8, a9⟩ := h.1 i a y
      exact ⟨d', s', os', ro', q, b1, b2, by omega, by omega, a3, a4, a5, a6, by omega, by omega, a9⟩
    · obtain ⟨d', s', os', ro', q, b1, b2, a1, a2, a3, a4, a5, a6, a7, a8, a9⟩ := g.1 i (by omega) c
      exact ⟨d', s', os', ro', q, b1, b2, by omega, by omega, a3, a4, a5, a6, by omega, by omega, a9⟩
  · by_cases y : t < u
    · obtain ⟨i, x1, x2, x3⟩ := h.2 t a y q
      exact ⟨i, x1, by omega, x3⟩
    · by_cases y2 : u' ≤ t
      · obtain ⟨i, x1, x2, x3⟩ := g.2 t y2 c q
        exact ⟨i, by omega, x2, x3⟩
      · exact absurd q (hk t (by omega) (by omega))
theorem nk89 {v : Int32} {k : Nat} (h : v = nI k) (h1 : k < 100) (h8 : ¬ k = 8) (h9 : ¬ k = 9) : ¬ (v = nI 8 ∨ v = nI 9) := fun z => by
  rw [h] at z
  rcases z with z | z
  · rw [nI_eq (by omega) (by omega)] at z; exact h8 z
  · rw [nI_eq (by omega) (by omega)] at z; exact h9 z
theorem updL_s {f : Nat → Int64} {i : Nat} {v : Int64} : vp_updL f i v i = v := if_pos rfl
theorem updL_n {f : Nat → Int64} {i j : Nat} {v : Int64} (h : j ≠ i) : vp_updL f i v j = f j := if_neg h
def rkC (o : Nat) : Nat := if o = 0 then 0 else if o ≤ 18 then rk o + 1 else 10
theorem tb1_0 : ∀ o : Fin 22, tb_1 o.1 = nI (rkC o.1) := by decide +kernel
theorem tb1 {o : Nat} (h : o < 22) : tb_1 o = nI (rkC o) := tb1_0 ⟨o, h⟩
theorem rkC_b {o : Nat} (h1 : 1 ≤ o) (h : o ≤ 18) : rkC o = rk o + 1 := by
  unfold rkC
  rw [if_neg (by omega), if_pos h]
theorem rkC_u {o : Nat} (h1 : 19 ≤ o) : rkC o = 10 := by
  unfold rkC
  rw [if_neg (by omega), if_neg (by omega)]
theorem rkC_le (o : Nat) : rkC o ≤ 10 := by
  have := rk_le o
  unfold rkC
  repeat (first | omega | split)
theorem po_u (n m k o ρ : Nat) {B : St} {cs os ap kd fr pt : Nat} {nm : Int64} {C S SA F T : Nat → Int32} {A : Nat → Int64} (hk : k < 41) (hc : cs < 160) (hS : S k = nI o) (h3 : 3 ≤ o) (ho : o < 22) (hρ : ρ ≤ rkC o) : df_X2_popTo_0 n (m + 1) (nI ρ) (mC B cs (k + 1) os ap kd fr 0 pt nm C S SA F T A) = df_X2_popTo_0 n m (nI ρ) (mC B (cs + 1) k os ap kd fr 0 pt nm (upd C cs (nI o)) S SA F T (vp_updL A cs 0)) := by
  have w : nI (k + 1) - nI 1 = nI k := by rw [pk_sub (by omega)]; rfl
  have rl := rkC_le o
  have tb := tb1 ho
  have e := em_1 n o 0 (B := B) (cs := cs) (tp := k) (os := os) (ap := ap) (kd := kd) (fr := fr) (pt := pt) (nm := nm) (C := C) (S := S) (SA := SA) (F := F) (T := T) (A := A) hc
  simp (disch := (first | assumption | decide | omega)) only [(show df_X2_popTo_0 n (m + 1) = dF_X2_popTo_0 n (df_X2_popTo_0 n m) from rfl), dF_X2_popTo_0, df_X2_popTo_110, df_X2_popTo_107, df_X2_popTo_72, df_X2_popTo, mC_i0, mC_i1, mC_i2, mC_i5, mC_i6, mC_i7, mC_i8, mC_i9, mC_l, mC_r0, mC_r1, mC_r2, mC_r3, mC_r4, mC_q, mC_o, mC_i4, mC_wi0, mC_wi1, mC_wi2, mC_wi5, mC_wi6, mC_wi7, mC_wi8, mC_wi9, mC_wl, mC_wr0, mC_wr1, mC_wr2, mC_wr3, mC_wr4, mC_wq, w, hS, tb, e, eq_self, Nat.reduceEqDiff, Nat.reduceLeDiff, nl_0, nl_1, nl_2, nl_22, nl_36, nl_41, nl_160, no_1, no_1024, pk_mul, nI_add, nm_ck, nI_clamp, nI_ltI, nI_leI, nI_eq, nb_b2, nb_b1, ↓nb_let, nm_z0, nm_z1, nb_II, nb_IR, nb_RI, nb_RR, nm_IL, nm_IQ, nm_RL, nm_RQ, nm_LI, nm_LR, nm_LL, nm_LQ, nm_QI, nm_QR, nm_QL, nm_QQ, nm_rr, nm_ii, nm_eqm, not_false_eq_true, pk_sub, nm_div, nm_shl, nm_shr, nm_ush, nm_or8, nm_or64, nm_or256, nm_m1, nm_m3, nm_m7, nm_m15, nm_m31, nm_m63, nm_m255, nm_m511, nm_m1023, nm_m2047, nm_m65535, Nat.reduceMod, Nat.reducePow, Nat.reduceAdd, Nat.reduceSub, Nat.reduceMul, nm_bo, nm_bi, nm_rc, nm_ic, nm_ri, nm_rl, nm_rq, nm_ql, nm_qi, nm_li, nm_us, nm_uu, nm_cp, nm_sa31, nm_sa7, nm_m127, nm_m2, nm_nz, nm_nzk, nm_eq32, nm_nzf, if_true, if_false, ↓reduceIte, if_pos, if_neg]
theorem po_g (n m k o ρ y : Nat) {B : St} {cs os ap kd fr pt : Nat} {nm : Int64} {C S SA F T : Nat → Int32} {A : Nat → Int64} (hk : k < 41) (hc : cs < 160) (hS : S k = nI o) (h2 : o = 1 ∨ o = 2) (hρ : ρ ≤ rkC o) (hy : SA k = nI y) (hy2 : y < 160) : df_X2_popTo_0 n (m + 1) (nI ρ) (mC B cs (k + 1) os ap kd fr 0 pt nm C S SA F T A) = df_X2_popTo_0 n m (nI ρ) (mC B (cs + 1) k os ap kd fr 0 pt nm (upd C cs (nI 36)) S SA F T (vp_updL (vp_updL A cs 0) y (nI (cs + 1)).toInt64)) := by
  have ho : o < 22 := by omega
  have w : nI (k + 1) - nI 1 = nI k := by rw [pk_sub (by omega)]; rfl
  have rl := rkC_le o
  have tb := tb1 ho
  have e := em_1 n 36 0 (B := B) (cs := cs) (tp := k) (os := os) (ap := ap) (kd := kd) (fr := fr) (pt := pt) (nm := nm) (C := C) (S := S) (SA := SA) (F := F) (T := T) (A := A) hc
  rcases h2 with rfl | rfl
  · simp (disch := (first | assumption | decide | omega)) only [(show df_X2_popTo_0 n (m + 1) = dF_X2_popTo_0 n (df_X2_popTo_0 n m) from rfl), dF_X2_popTo_0, df_X2_popTo_110, df_X2_popTo_107, df_X2_popTo_72, df_X2_popTo, mC_i0, mC_i1, mC_i2, mC_i5, mC_i6, mC_i7, mC_i8, mC_i9, mC_l, mC_r0, mC_r1, mC_r2, mC_r3, mC_r4, mC_q, mC_o, mC_i4, mC_wi0, mC_wi1, mC_wi2, mC_wi5, mC_wi6, mC_wi7, mC_wi8, mC_wi9, mC_wl, mC_wr0, mC_wr1, mC_wr2, mC_wr3, mC_wr4, mC_wq, w, hS, tb, e, hy, eq_self, Nat.reduceEqDiff, Nat.reduceLeDiff, nl_0, nl_1, nl_2, nl_22, nl_36, nl_41, nl_160, no_1, no_1024, pk_mul, nI_add, nm_ck, nI_clamp, nI_ltI, nI_leI, nI_eq, nb_b2, nb_b1, ↓nb_let, nm_z0, nm_z1, nb_II, nb_IR, nb_RI, nb_RR, nm_IL, nm_IQ, nm_RL, nm_RQ, nm_LI, nm_LR, nm_LL, nm_LQ, nm_QI, nm_QR, nm_QL, nm_QQ, nm_rr, nm_ii, nm_eqm, not_false_eq_true, pk_sub, nm_div, nm_shl, nm_shr, nm_ush, nm_or8, nm_or64, nm_or256, nm_m1, nm_m3, nm_m7, nm_m15, nm_m31, nm_m63, nm_m255, nm_m511, nm_m1023, nm_m2047, nm_m65535, Nat.reduceMod, Nat.reducePow, Nat.reduceAdd, Nat.reduceSub, Nat.reduceMul, nm_bo, nm_bi, nm_rc, nm_ic, nm_ri, nm_rl, nm_rq, nm_ql, nm_qi, nm_li, nm_us, nm_uu, nm_cp, nm_sa31, nm_sa7, nm_m127, nm_m2, nm_nz, nm_nzk, nm_eq32, nm_nzf, if_true, if_false, ↓reduceIte, if_pos, if_neg]
  · simp (disch := (first | assumption | decide | omega)) only [(show df_X2_popTo_0 n (m + 1) = dF_X2_popTo_0 n (df_X2_popTo_0 n m) from rfl), dF_X2_popTo_0, df_X2_popTo_110, df_X2_popTo_107, df_X2_popTo_72, df_X2_popTo, mC_i0, mC_i1, mC_i2, mC_i5, mC_i6, mC_i7, mC_i8, mC_i9, mC_l, mC_r0, mC_r1, mC_r2, mC_r3, mC_r4, mC_q, mC_o, mC_i4, mC_wi0, mC_wi1, mC_wi2, mC_wi5, mC_wi6, mC_wi7, mC_wi8, mC_wi9, mC_wl, mC_wr0, mC_wr1, mC_wr2, mC_wr3, mC_wr4, mC_wq, w, hS, tb, e, hy, eq_self, Nat.reduceEqDiff, Nat.reduceLeDiff, nl_0, nl_1, nl_2, nl_22, nl_36, nl_41, nl_160, no_1, no_1024, pk_mul, nI_add, nm_ck, nI_clamp, nI_ltI, nI_leI, nI_eq, nb_b2, nb_b1, ↓nb_let, nm_z0, nm_z1, nb_II, nb_IR, nb_RI, nb_RR, nm_IL, nm_IQ, nm_RL, nm_RQ, nm_LI, nm_LR, nm_LL, nm_LQ, nm_QI, nm_QR, nm_QL, nm_QQ, nm_rr, nm_ii, nm_eqm, not_false_eq_true, pk_sub, nm_div, nm_shl, nm_shr, nm_ush, nm_or8, nm_or64, nm_or256, nm_m1, nm_m3, nm_m7, nm_m15, nm_m31, nm_m63, nm_m255, nm_m511, nm_m1023, nm_m2047, nm_m65535, Nat.reduceMod, Nat.reducePow, Nat.reduceAdd, Nat.reduceSub, Nat.reduceMul, nm_bo, nm_bi, nm_rc, nm_ic, nm_ri, nm_rl, nm_rq, nm_ql, nm_qi, nm_li, nm_us, nm_uu, nm_cp, nm_sa31, nm_sa7, nm_m127, nm_m2, nm_nz, nm_nzk, nm_eq32, nm_nzf, if_true, if_false, ↓reduceIte, if_pos, if_neg]
theorem po_uf (n m k o ρ : Nat) {B : St} {cs os ap kd fr ft pt : Nat} {nm : Int64} {C S SA F T : Nat → Int32} {A : Nat → Int64} (hf : 0 < ft) (hf2 : ft < 2 ^ 31) (hk : k < 41) (hS : S k = nI o) (h3 : 3 ≤ o) (ho : o < 22) (hρ : ρ ≤ rkC o) : df_X2_popTo_0 n (m + 1) (nI ρ) (mC B cs (k + 1) os ap kd fr ft pt nm C S SA F T A) = df_X2_popTo_0 n m (nI ρ) (mC B cs k os ap kd fr ft pt nm C S SA F T A) := by
  have w : nI (k + 1) - nI 1 = nI k := by rw [pk_sub (by omega)]; rfl
  have rl := rkC_le o
  have tb := tb1 ho
  have e := em_0 n o 0 (B := B) (cs := cs) (tp := k) (os := os) (ap := ap) (kd := kd) (fr := fr) (pt := pt) (nm := nm) (C := C) (S := S) (SA := SA) (F := F) (T := T) (A := A) hf hf2
  simp (disch := (first | assumption | decide | omega)) only [(show df_X2_popTo_0 n (m + 1) = dF_X2_popTo_0 n (df_X2_popTo_0 n m) from rfl), dF_X2_popTo_0, df_X2_popTo_110, df_X2_popTo_107, df_X2_popTo_72, df_X2_popTo, mC_i0, mC_i1, mC_i2, mC_i5, mC_i6, mC_i7, mC_i8, mC_i9, mC_l, mC_r0, mC_r1, mC_r2, mC_r3, mC_r4, mC_q, mC_o, mC_i4, mC_wi0, mC_wi1, mC_wi2, mC_wi5, mC_wi6, mC_wi7, mC_wi8, mC_wi9, mC_wl, mC_wr0, mC_wr1, mC_wr2, mC_wr3, mC_wr4, mC_wq, w, hS, tb, e, eq_self, Nat.reduceEqDiff, Nat.reduceLeDiff, nl_0, nl_1, nl_2, nl_22, nl_36, nl_41, nl_160, no_1, no_1024, pk_mul, nI_add, nm_ck, nI_clamp, nI_ltI, nI_leI, nI_eq, nb_b2, nb_b1, ↓nb_let, nm_z0, nm_z1, nb_II, nb_IR, nb_RI, nb_RR, nm_IL, nm_IQ, nm_RL, nm_RQ, nm_LI, nm_LR, nm_LL, nm_LQ, nm_QI, nm_QR, nm_QL, nm_QQ, nm_rr, nm_ii, nm_eqm, not_false_eq_true, pk_sub, nm_div, nm_shl, nm_shr, nm_ush, nm_or8, nm_or64, nm_or256, nm_m1, nm_m3, nm_m7, nm_m15, nm_m31, nm_m63, nm_m255, nm_m511, nm_m1023, nm_m2047, nm_m65535, Nat.reduceMod, Nat.reducePow, Nat.reduceAdd, Nat.reduceSub, Nat.reduceMul, nm_bo, nm_bi, nm_rc, nm_ic, nm_ri, nm_rl, nm_rq, nm_ql, nm_qi, nm_li, nm_us, nm_uu, nm_cp, nm_sa31, nm_sa7, nm_m127, nm_m2, nm_nz, nm_nzk, nm_eq32, nm_nzf, if_true, if_false, ↓reduceIte, if_pos, if_neg]
theorem po_gf (n m k o ρ y : Nat) {B : St} {cs os ap kd fr ft pt : Nat} {nm : Int64} {C S SA F T : Nat → Int32} {A : Nat → Int64} (hf : 0 < ft) (hf2 : ft < 2 ^ 31) (hk : k < 41) (hS : S k = nI o) (h2 : o = 1 ∨ o = 2) (hρ : ρ ≤ rkC o) (hy : SA k = nI y) (hy2 : y < 160) : df_X2_popTo_0 n (m + 1) (nI ρ) (mC B cs (k + 1) os ap kd fr ft pt nm C S SA F T A) = df_X2_popTo_0 n m (nI ρ) (mC B cs k os ap kd fr ft pt nm C S SA F T (vp_updL A y (nI cs).toInt64)) := by
  have ho : o < 22 := by omega
  have w : nI (k + 1) - nI 1 = nI k := by rw [pk_sub (by omega)]; rfl
  have rl := rkC_le o
  have tb := tb1 ho
  have e := em_0 n 36 0 (B := B) (cs := cs) (tp := k) (os := os) (ap := ap) (kd := kd) (fr := fr) (pt := pt) (nm := nm) (C := C) (S := S) (SA := SA) (F := F) (T := T) (A := A) hf hf2
  rcases h2 with rfl | rfl
  · simp (disch := (first | assumption | decide | omega)) only [(show df_X2_popTo_0 n (m + 1) = dF_X2_popTo_0 n (df_X2_popTo_0 n m) from rfl), dF_X2_popTo_0, df_X2_popTo_110, df_X2_popTo_107, df_X2_popTo_72, df_X2_popTo, mC_i0, mC_i1, mC_i2, mC_i5, mC_i6, mC_i7, mC_i8, mC_i9, mC_l, mC_r0, mC_r1, mC_r2, mC_r3, mC_r4, mC_q, mC_o, mC_i4, mC_wi0, mC_wi1, mC_wi2, mC_wi5, mC_wi6, mC_wi7, mC_wi8, mC_wi9, mC_wl, mC_wr0, mC_wr1, mC_wr2, mC_wr3, mC_wr4, mC_wq, w, hS, tb, e, hy, eq_self, Nat.reduceEqDiff, Nat.reduceLeDiff, nl_0, nl_1, nl_2, nl_22, nl_36, nl_41, nl_160, no_1, no_1024, pk_mul, nI_add, nm_ck, nI_clamp, nI_ltI, nI_leI, nI_eq, nb_b2, nb_b1, ↓nb_let, nm_z0, nm_z1, nb_II, nb_IR, nb_RI, nb_RR, nm_IL, nm_IQ, nm_RL, nm_RQ, nm_LI, nm_LR, nm_LL, nm_LQ, nm_QI, nm_QR, nm_QL, nm_QQ, nm_rr, nm_ii, nm_eqm, not_false_eq_true, pk_sub, nm_div, nm_shl, nm_shr, nm_ush, nm_or8, nm_or64, nm_or256, nm_m1, nm_m3, nm_m7, nm_m15, nm_m31, nm_m63, nm_m255, nm_m511, nm_m1023, nm_m2047, nm_m65535, Nat.reduceMod, Nat.reducePow, Nat.reduceAdd, Nat.reduceSub, Nat.reduceMul, nm_bo, nm_bi, nm_rc, nm_ic, nm_ri, nm_rl, nm_rq, nm_ql, nm_qi, nm_li, nm_us, nm_uu, nm_cp, nm_sa31, nm_sa7, nm_m127, nm_m2, nm_nz, nm_nzk, nm_eq32, nm_nzf, if_true, if_false, ↓reduceIte, if_pos, if_neg]
  · simp (disch := (first | assumption | decide | omega)) only [(show df_X2_popTo_0 n (m + 1) = dF_X2_popTo_0 n (df_X2_popTo_0 n m) from rfl), dF_X2_popTo_0, df_X2_popTo_110, df_X2_popTo_107, df_X2_popTo_72, df_X2_popTo, mC_i0, mC_i1, mC_i2, mC_i5, mC_i6, mC_i7, mC_i8, mC_i9, mC_l, mC_r0, mC_r1, mC_r2, mC_r3, mC_r4, mC_q, mC_o, mC_i4, mC_wi0, mC_wi1, mC_wi2, mC_wi5, mC_wi6, mC_wi7, mC_wi8, mC_wi9, mC_wl, mC_wr0, mC_wr1, mC_wr2, mC_wr3, mC_wr4, mC_wq, w, hS, tb, e, hy, eq_self, Nat.reduceEqDiff, Nat.reduceLeDiff, nl_0, nl_1, nl_2, nl_22, nl_36, nl_41, nl_160, no_1, no_1024, pk_mul, nI_add, nm_ck, nI_clamp, nI_ltI, nI_leI, nI_eq, nb_b2, nb_b1, ↓nb_let, nm_z0, nm_z1, nb_II, nb_IR, nb_RI, nb_RR, nm_IL, nm_IQ, nm_RL, nm_RQ, nm_LI, nm_LR, nm_LL, nm_LQ, nm_QI, nm_QR, nm_QL, nm_QQ, nm_rr, nm_ii, nm_eqm, not_false_eq_true, pk_sub, nm_div, nm_shl, nm_shr, nm_ush, nm_or8, nm_or64, nm_or256, nm_m1, nm_m3, nm_m7, nm_m15, nm_m31, nm_m63, nm_m255, nm_m511, nm_m1023, nm_m2047, nm_m65535, Nat.reduceMod, Nat.reducePow, Nat.reduceAdd, Nat.reduceSub, Nat.reduceMul, nm_bo, nm_bi, nm_rc, nm_ic, nm_ri, nm_rl, nm_rq, nm_ql, nm_qi, nm_li, nm_us, nm_uu, nm_cp, nm_sa31, nm_sa7, nm_m127, nm_m2, nm_nz, nm_nzk, nm_eq32, nm_nzf, if_true, if_false, ↓reduceIte, if_pos, if_neg]
theorem po_0 (n m ρ : Nat) {B : St} {cs os ap kd fr ft pt : Nat} {nm : Int64} {C S SA F T : Nat → Int32} {A : Nat → Int64} : df_X2_popTo_0 n (m + 1) (nI ρ) (mC B cs 0 os ap kd fr ft pt nm C S SA F T A) = some (mC B cs 0 os ap kd fr ft pt nm C S SA F T A) := by
  simp (disch := (first | assumption | decide | omega)) only [(show df_X2_popTo_0 n (m + 1) = dF_X2_popTo_0 n (df_X2_popTo_0 n m) from rfl), dF_X2_popTo_0, df_X2_popTo_110, df_X2_popTo_107, df_X2_popTo_72, df_X2_popTo, mC_i0, mC_i1, mC_i2, mC_i5, mC_i6, mC_i7, mC_i8, mC_i9, mC_l, mC_r0, mC_r1, mC_r2, mC_r3, mC_r4, mC_q, mC_o, mC_i4, mC_wi0, mC_wi1, mC_wi2, mC_wi5, mC_wi6, mC_wi7, mC_wi8, mC_wi9, mC_wl, mC_wr0, mC_wr1, mC_wr2, mC_wr3, mC_wr4, mC_wq, eq_self, Nat.reduceEqDiff, Nat.reduceLeDiff, nl_0, nl_1, nl_2, nl_22, nl_36, nl_41, nl_160, no_1, no_1024, pk_mul, nI_add, nm_ck, nI_clamp, nI_ltI, nI_leI, nI_eq, nb_b2, nb_b1, ↓nb_let, nm_z0, nm_z1, nb_II, nb_IR, nb_RI, nb_RR, nm_IL, nm_IQ, nm_RL, nm_RQ, nm_LI, nm_LR, nm_LL, nm_LQ, nm_QI, nm_QR, nm_QL, nm_QQ, nm_rr, nm_ii, nm_eqm, not_false_eq_true, pk_sub, nm_div, nm_shl, nm_shr, nm_ush, nm_or8, nm_or64, nm_or256, nm_m1, nm_m3, nm_m7, nm_m15, nm_m31, nm_m63, nm_m255, nm_m511, nm_m1023, nm_m2047, nm_m65535, Nat.reduceMod, Nat.reducePow, Nat.reduceAdd, Nat.reduceSub, Nat.reduceMul, nm_bo, nm_bi, nm_rc, nm_ic, nm_ri, nm_rl, nm_rq, nm_ql, nm_qi, nm_li, nm_us, nm_uu, nm_cp, nm_sa31, nm_sa7, nm_m127, nm_m2, nm_nz, nm_nzk, nm_eq32, nm_nzf, if_true, if_false, ↓reduceIte, if_pos, if_neg]
theorem po_e (n m k o ρ : Nat) {B : St} {cs os ap kd fr ft pt : Nat} {nm : Int64} {C S SA F T : Nat → Int32} {A : Nat → Int64} (hk : k < 41) (hS : S k = nI o) (ho : o < 100) (hρ : ρ < 100) (h : 22 ≤ o ∨ rkC o < ρ) : df_X2_popTo_0 n (m + 1) (nI ρ) (mC B cs (k + 1) os ap kd fr ft pt nm C S SA F T A) = some (mC B cs (k + 1) os ap kd fr ft pt nm C S SA F T A) := by
  have w : nI (k + 1) - nI 1 = nI k := by rw [pk_sub (by omega)]; rfl
  by_cases y : 22 ≤ o
  · simp (disch := (first | assumption | decide | omega)) only [(show df_X2_popTo_0 n (m + 1) = dF_X2_popTo_0 n (df_X2_popTo_0 n m) from rfl), dF_X2_popTo_0, df_X2_popTo_110, df_X2_popTo_107, df_X2_popTo_72, df_X2_popTo, mC_i0, mC_i1, mC_i2, mC_i5, mC_i6, mC_i7, mC_i8, mC_i9, mC_l, mC_r0, mC_r1, mC_r2, mC_r3, mC_r4, mC_q, mC_o, mC_i4, mC_wi0, mC_wi1, mC_wi2, mC_wi5, mC_wi6, mC_wi7, mC_wi8, mC_wi9, mC_wl, mC_wr0, mC_wr1, mC_wr2, mC_wr3, mC_wr4, mC_wq, w, hS, eq_self, Nat.reduceEqDiff, Nat.reduceLeDiff, nl_0, nl_1, nl_2, nl_22, nl_36, nl_41, nl_160, no_1, no_1024, pk_mul, nI_add, nm_ck, nI_clamp, nI_ltI, nI_leI, nI_eq, nb_b2, nb_b1, ↓nb_let, nm_z0, nm_z1, nb_II, nb_IR, nb_RI, nb_RR, nm_IL, nm_IQ, nm_RL, nm_RQ, nm_LI, nm_LR, nm_LL, nm_LQ, nm_QI, nm_QR, nm_QL, nm_QQ, nm_rr, nm_ii, nm_eqm, not_false_eq_true, pk_sub, nm_div, nm_shl, nm_shr, nm_ush, nm_or8, nm_or64, nm_or256, nm_m1, nm_m3, nm_m7, nm_m15, nm_m31, nm_m63, nm_m255, nm_m511, nm_m1023, nm_m2047, nm_m65535, Nat.reduceMod, Nat.reducePow, Nat.reduceAdd, Nat.reduceSub, Nat.reduceMul, nm_bo, nm_bi, nm_rc, nm_ic, nm_ri, nm_rl, nm_rq, nm_ql, nm_qi, nm_li, nm_us, nm_uu, nm_cp, nm_sa31, nm_sa7, nm_m127, nm_m2, nm_nz, nm_nzk, nm_eq32, nm_nzf, if_true, if_false, ↓reduceIte, if_pos, if_neg]
  · have rl := rkC_le o
    have tb := tb1 (show o < 22 by omega)
    have y2 : rkC o < ρ := by omega
    simp (disch := (first | assumption | decide | omega)) only [(show df_X2_popTo_0 n (m + 1) = dF_X2_popTo_0 n (df_X2_popTo_0 n m) from rfl), dF_X2_popTo_0, df_X2_popTo_110, df_X2_popTo_107, df_X2_popTo_72, df_X2_popTo, mC_i0, mC_i1, mC_i2, mC_i5, mC_i6, mC_i7, mC_i8, mC_i9, mC_l, mC_r0, mC_r1, mC_r2, mC_r3, mC_r4, mC_q, mC_o, mC_i4, mC_wi0, mC_wi1, mC_wi2, mC_wi5, mC_wi6, mC_wi7, mC_wi8, mC_wi9, mC_wl, mC_wr0, mC_wr1, mC_wr2, mC_wr3, mC_wr4, mC_wq, w, hS, tb, eq_self, Nat.reduceEqDiff, Nat.reduceLeDiff, nl_0, nl_1, nl_2, nl_22, nl_36, nl_41, nl_160, no_1, no_1024, pk_mul, nI_add, nm_ck, nI_clamp, nI_ltI, nI_leI, nI_eq, nb_b2, nb_b1, ↓nb_let, nm_z0, nm_z1, nb_II, nb_IR, nb_RI, nb_RR, nm_IL, nm_IQ, nm_RL, nm_RQ, nm_LI, nm_LR, nm_LL, nm_LQ, nm_QI, nm_QR, nm_QL, nm_QQ, nm_rr, nm_ii, nm_eqm, not_false_eq_true, pk_sub, nm_div, nm_shl, nm_shr, nm_ush, nm_or8, nm_or64, nm_or256, nm_m1, nm_m3, nm_m7, nm_m15, nm_m31, nm_m63, nm_m255, nm_m511, nm_m1023, nm_m2047, nm_m65535, Nat.reduceMod, Nat.reducePow, Nat.reduceAdd, Nat.reduceSub, Nat.reduceMul, nm_bo, nm_bi, nm_rc, nm_ic, nm_ri, nm_rl, nm_rq, nm_ql, nm_qi, nm_li, nm_us, nm_uu, nm_cp, nm_sa31, nm_sa7, nm_m127, nm_m2, nm_nz, nm_nzk, nm_eq32, nm_nzf, if_true, if_false, ↓reduceIte, if_pos, if_neg]
def endT (ρ : Nat) : List Nat → Prop
  | [] => True
  | o :: _ => 22 ≤ o ∨ (o ≤ 18 ∧ rk o + 1 < ρ)
theorem pop_all (n ρ : Nat) (hρ : ρ ≤ 9) {B : St} {os ap kd fr pt : Nat} {nm : Int64} {S SA F T : Nat → Int32} {K P OA : Nat → Int32} {N : Nat → Int64} {pos : Nat → Nat} {ts jl : Nat} : ∀ (l : List Nat) (g cs cc t j σ s oc ro : Nat) (d : Dn) (C : Nat → Int32) (A : Nat → Int64), l.length < g → frs C A F T K P N pos S SA OA l cc t j σ → gJ d s oc ro cc cs t ts j jl C A F T K P N pos → ordT oc l → (hOb l = true → jl = j) → (19 ≤ oc ∨ ρ ≤ rk oc + 1) → cs + l.length ≤ 160 → l.length ≤ 40 → ∃ (l' : List Nat) (c' t' j' σ' s' oc' ro' cs' : Nat) (d' : Dn) (C' : Nat → Int32) (A' : Nat → Int64), df_X2_popTo_0 n g (nI ρ) (mC B cs l.length os ap kd fr 0 pt nm C S SA F T A) = some (mC B cs' l'.length os ap kd fr 0 pt nm C' S SA F T A') ∧ frs C' A' F T K P N pos S SA OA l' c' t' j' σ' ∧ gJ d' s' oc' ro' c' cs' t' ts j' jl C' A' F T K P N pos ∧ (19 ≤ oc' ∨ ρ ≤ rk oc' + 1) ∧ endT ρ l' ∧ (hOb l' = true → jl = j') ∧ nOp l' = nOp l ∧ tpO l' = tpO l ∧ hOb l' = hOb l ∧ cs' + l'.length = cs + l.length ∧ s' + σ' = s + σ ∧ l'.length ≤ l.length := fun l => by
  induction l with
  | nil =>
    intro g cs cc t j σ s oc ro d C A hg hf hJ ho hj hr hc hl
    obtain ⟨m, rfl⟩ : ∃ m : Nat, g = m + 1 := ⟨g - 1, by omega⟩
    exact ⟨[], cc, t, j, σ, s, oc, ro, cs, d, C, A, po_0 n m ρ, hf, hJ, hr, trivial, hj, rfl, rfl, rfl, rfl, rfl, Nat.le_refl _⟩
  | cons o r ih =>
    intro g cs cc t j σ s oc ro d C A hg hf hJ hoT hj hr hc hl
    have hlen : (o :: r).length = r.length + 1 := rfl
    obtain ⟨m, rfl⟩ : ∃ m : Nat, g = m + 1 := ⟨g - 1, by omega⟩
    obtain ⟨c', t', j', σ', h1, o1, o27, l1, l2, l3, l4, h2, h3⟩ := frs_le _ cc t j σ hf o r rfl
    have k1 := hJ.1.1
    have k2 := hJ.2.1.1
    by_cases stop : 22 ≤ o ∨ rkC o < ρ
    · refine ⟨o :: r, cc, t, j, σ, s, oc, ro, cs, d, C, A, po_e n m r.length o ρ (by omega) h1 (by omega) (by omega) stop, hf, hJ, hr, ?_, hj, rfl, rfl, rfl, rfl, rfl, Nat.le_refl _⟩
      rcases stop with y | y
      · exact Or.inl y
      · by_cases y2 : o ≤ 18
        · rw [rkC_b o1 y2] at y
          exact Or.inr ⟨y2, y⟩
        · by_cases y3 : 22 ≤ o
          · exact Or.inl y3
          · rw [rkC_u (by omega)] at y
            omega
    · have st1 : ¬ 22 ≤ o := fun z => stop (Or.inl z)
      have st2 : ρ ≤ rkC o := Nat.le_of_not_lt fun z => stop (Or.inr z)
      have hn : nOp (o :: r) = nOp r := by show (if 22 ≤ o then 1 else 0) + nOp r = _; rw [if_neg st1, Nat.zero_add]
      have ht : tpO (o :: r) = tpO r := if_neg st1
      have hO : hOb (o :: r) = hOb r := by show (decide (o = 23 ∨ o = 24) || hOb r) = _; rw [decide_eq_false (by omega), Bool.false_or]
      rw [hn, ht, hO]
      rw [hO] at hj
      rcases h3 with ⟨a1, a2, a3, a4, d1, s1, os1, ro1, mm, u, a5, a6, a7, a8, a9, a10⟩ | ⟨a1, a2, a3, a4, a5, a6, a7⟩ | ⟨a1, _⟩
      · have b1 := a5.1.1
        have b2 := a5.2.1.1
        have b3 := a5.1.2.2.1
        have b4 := hJ.1.2.2.1
        have lo : 19 ≤ oc ∨ rk o < rk oc := by
          rcases hoT with z | z | z
          · omega
          · omega
          · exact z.2
        have ord : ordT o r := by
          cases r with
          | nil => trivial
          | cons o' r' =>
            rcases a3 with z | z
            · exact Or.inl z
            · exact Or.inr (Or.inr ⟨z.1, Or.inr z.2⟩)
        have rho : 19 ≤ o ∨ ρ ≤ rk o + 1 := Or.inr (by rw [rkC_b o1 a2] at st2; exact st2)
        have hjl : hOb r = true → jl = j' := fun z => (hj z).trans (a4 z)
        rcases a10 with ⟨e1, e2, e3, e4⟩ | ⟨e1, e2⟩
        · have C1 : ∀ i : Nat, i < cs → i ≠ mm → upd C cs (nI 36) i = C i ∧ vp_updL (vp_updL A cs 0) mm (nI (cs + 1)).toInt64 i = A i := fun i hi hm => ⟨nm_un (by omega), (updL_n hm).trans (updL_n (by omega))⟩
          have J1 := gJ_st (C' := upd C cs (nI 36)) (A' := vp_updL (vp_updL A cs 0) mm (nI (cs + 1)).toInt64) (F' := F) (T' := T) (K' := K) (P' := P) (N' := N) (pos' := pos) a5 (fun i x y => C1 i (by omega) (by omega)) (fun i x y => ⟨rfl, rfl, rfl⟩) (fun i x y => ⟨rfl, rfl, rfl⟩)
          have J2 := gJ_st (C' := upd C cs (nI 36)) (A' := vp_updL (vp_updL A cs 0) mm (nI (cs + 1)).toInt64) (F' := F) (T' := T) (K' := K) (P' := P) (N' := N) (pos' := pos) hJ (fun i x y => C1 i y (by omega)) (fun i x y => ⟨rfl, rfl, rfl⟩) (fun i x y => ⟨rfl, rfl, rfl⟩)
          have hf2 := frs_st (C' := upd C cs (nI 36)) (A' := vp_updL (vp_updL A cs 0) mm (nI (cs + 1)).toInt64) (F' := F) (T' := T) (K' := K) (P' := P) (N' := N) (pos' := pos) (S' := S) (SA' := SA) (OA' := OA) r c' t' j' σ' h2 (fun i x => C1 i (by omega) (by omega)) (fun i x => ⟨rfl, rfl, rfl⟩) (fun i x => ⟨rfl, rfl, rfl⟩) (fun i x => ⟨rfl, rfl⟩) (fun i x => rfl)
          subst e3
          subst a8
          have J3 : gJ (dnO o d1 d) (s1 + s) o u c' (cs + 1) t' ts j' jl (upd C cs (nI 36)) (vp_updL (vp_updL A cs 0) mm (nI (cs + 1)).toInt64) F T K P N pos := by
            refine ⟨?_, gR_bin o1 a2 J1.2.1 J2.2.1 a7 a6 lo, gO_w (gO_u J1.2.2 J2.2.2 (by omega) (by omega) (by omega) (by omega) b3 b4 (fun i x y => by rw [show i = u by omega]; exact nk89 a7 (by omega) (by omega) (by omega))) (Nat.le_refl _) (by omega) (Nat.le_refl _) (Nat.le_refl _) (fun i x y z => by omega)⟩
            have q := gC_log (o := o) (by omega) J1.1 J2.1 nm_us ((nm_un (by omega)).trans e2) updL_s
            rw [show dnO o d1 d = dnG o d1 d from if_pos e1]
            exact q
          obtain ⟨l', c2, t2, j2, σ2, s2, oc2, ro2, cs2, d2, C2, A2, r1, r2, r3, r4, r5, r6, r7, r8, r9, r10, r11, r12⟩ := ih m (cs + 1) c' t' j' σ' (s1 + s) o u (dnO o d1 d) (upd C cs (nI 36)) (vp_updL (vp_updL A cs 0) mm (nI (cs + 1)).toInt64) (by omega) hf2 J3 ord hjl rho (by omega) (by omega)
          exact ⟨l', c2, t2, j2, σ2, s2, oc2, ro2, cs2, d2, C2, A2, (po_g n m r.length o ρ mm (by omega) (by omega) h1 (by omega) st2 e4 (by omega)).trans r1, r2, r3, r4, r5, r6, r7, r8, r9, by omega, by omega, by omega⟩
        · have C1 : ∀ i : Nat, i < cs → upd C cs (nI o) i = C i ∧ vp_updL A cs 0 i = A i := fun i hi => ⟨nm_un (by omega), updL_n (by omega)⟩
          have J1 := gJ_st (C' := upd C cs (nI o)) (A' := vp_updL A cs 0) (F' := F) (T' := T) (K' := K) (P' := P) (N' := N) (pos' := pos) a5 (fun i x y => C1 i (by omega)) (fun i x y => ⟨rfl, rfl, rfl⟩) (fun i x y => ⟨rfl, rfl, rfl⟩)
          have J2 := gJ_st (C' := upd C cs (nI o)) (A' := vp_updL A cs 0) (F' := F) (T' := T) (K' := K) (P' := P) (N' := N) (pos' := pos) hJ (fun i x y => C1 i y) (fun i x y => ⟨rfl, rfl, rfl⟩) (fun i x y => ⟨rfl, rfl, rfl⟩)
          have hf2 := frs_st (C' := upd C cs (nI o)) (A' := vp_updL A cs 0) (F' := F) (T' := T) (K' := K) (P' := P) (N' := N) (pos' := pos) (S' := S) (SA' := SA) (OA' := OA) r c' t' j' σ' h2 (fun i x => C1 i (by omega)) (fun i x => ⟨rfl, rfl, rfl⟩) (fun i x => ⟨rfl, rfl, rfl⟩) (fun i x => ⟨rfl, rfl⟩) (fun i x => rfl)
          subst e2
          subst a8
          have J3 : gJ (dnO o d1 d) (s1 + s) o u c' (cs + 1) t' ts j' jl (upd C cs (nI o)) (vp_updL A cs 0) F T K P N pos := by
            refine ⟨?_, gR_bin o1 a2 J1.2.1 J2.2.1 a7 a6 lo, gO_w (gO_u J1.2.2 J2.2.2 (by omega) (by omega) (by omega) (by omega) b3 b4 (fun i x y => by rw [show i = u by omega]; exact nk89 a7 (by omega) (by omega) (by omega))) (Nat.le_refl _) (by omega) (Nat.le_refl _) (Nat.le_refl _) (fun i x y z => by omega)⟩
            have q := gC_bin (o := o) e1 a2 J1.1 J2.1 nm_us
            rw [show dnO o d1 d = dnB o d1 d from if_neg (by omega)]
            exact q
          obtain ⟨l', c2, t2, j2, σ2, s2, oc2, ro2, cs2, d2, C2, A2, r1, r2, r3, r4, r5, r6, r7, r8, r9, r10, r11, r12⟩ := ih m (cs + 1) c' t' j' σ' (s1 + s) o u (dnO o d1 d) (upd C cs (nI o)) (vp_updL A cs 0) (by omega) hf2 J3 ord hjl rho (by omega) (by omega)
          exact ⟨l', c2, t2, j2, σ2, s2, oc2, ro2, cs2, d2, C2, A2, (po_u n m r.length o ρ (by omega) (by omega) h1 e1 (by omega) st2).trans r1, r2, r3, r4, r5, r6, r7, r8, r9, by omega, by omega, by omega⟩
      · have lo : 19 ≤ oc := by
          rcases hoT with z | z | z
          · omega
          · exact z.2
          · omega
        have ord : ordT 19 r := by
          cases r with
          | nil => trivial
          | cons o' r' =>
            by_cases y : 22 ≤ o'
            · exact Or.inl y
            · by_cases y2 : 19 ≤ o'
              · exact Or.inr (Or.inl ⟨y2, Nat.le_refl _⟩)
              · exact Or.inr (Or.inr ⟨by omega, Or.inl (Nat.le_refl _)⟩)
        have C1 : ∀ i : Nat, i < cs → upd C cs (nI o) i = C i ∧ vp_updL A cs 0 i = A i := fun i hi => ⟨nm_un (by omega), updL_n (by omega)⟩
        have J2 := gJ_st (C' := upd C cs (nI o)) (A' := vp_updL A cs 0) (F' := F) (T' := T) (K' := K) (P' := P) (N' := N) (pos' := pos) hJ (fun i x y => C1 i y) (fun i x y => ⟨rfl, rfl, rfl⟩) (fun i x y => ⟨rfl, rfl, rfl⟩)
        have hf2 := frs_st (C' := upd C cs (nI o)) (A' := vp_updL A cs 0) (F' := F) (T' := T) (K' := K) (P' := P) (N' := N) (pos' := pos) (S' := S) (SA' := SA) (OA' := OA) r c' t' j' σ' h2 (fun i x => C1 i (by omega)) (fun i x => ⟨rfl, rfl, rfl⟩) (fun i x => ⟨rfl, rfl, rfl⟩) (fun i x => ⟨rfl, rfl⟩) (fun i x => rfl)
        subst a3
        subst a4
        subst a6
        have tk : tU o < 100 ∧ ¬ tU o = 8 ∧ ¬ tU o = 9 := by
          unfold tU
          repeat (first | omega | split)
        have J3 : gJ (dnU o d) s 19 0 cc (cs + 1) t' ts j jl (upd C cs (nI o)) (vp_updL A cs 0) F T K P N pos := by
          refine ⟨gC_un (by omega) J2.1 nm_us, gR_un (k := tU o) ?_ J2.2.1 lo a7, gO_w J2.2.2 (Nat.le_refl _) (by omega) (by omega) (Nat.le_refl _) (fun i x y z => by rw [show i = t' by omega]; exact nk89 a7 tk.1 tk.2.1 tk.2.2)⟩
          have q : o = 19 ∨ o = 20 ∨ o = 21 := by omega
          rcases q with rfl | rfl | rfl
          · exact Or.inl ⟨rfl, rfl⟩
          · exact Or.inr (Or.inl ⟨rfl, rfl⟩)
          · exact Or.inr (Or.inr ⟨rfl, rfl⟩)
        obtain ⟨l', c2, t2, j2, σ2, s2, oc2, ro2, cs2, d2, C2, A2, r1, r2, r3, r4, r5, r6, r7, r8, r9, r10, r11, r12⟩ := ih m (cs + 1) cc t' j σ' s 19 0 (dnU o d) (upd C cs (nI o)) (vp_updL A cs 0) (by omega) hf2 J3 ord hj (Or.inl (Nat.le_refl _)) (by omega) (by omega)
        exact ⟨l', c2, t2, j2, σ2, s2, oc2, ro2, cs2, d2, C2, A2, (po_u n m r.length o ρ (by omega) (by omega) h1 (by omega) (by omega) st2).trans r1, r2, r3, r4, r5, r6, r7, r8, r9, by omega, by omega, by omega⟩
      · omega
/-- the same where a fault has been met: it only comes to its end -/
theorem pop_f (n ρ : Nat) (hρ : ρ ≤ 9) {B : St} {cs os ap kd fr ft pt : Nat} {nm : Int64} {C S SA F T : Nat → Int32} {K P OA : Nat → Int32} {N : Nat → Int64} {pos : Nat → Nat} (hf : 0 < ft) (hf2 : ft < 2 ^ 31) : ∀ (l : List Nat) (g cc t j σ : Nat) (A : Nat → Int64), l.length < g → frs C A F T K P N pos S SA OA l cc t j σ → cc ≤ 160 → l.length ≤ 40 → ∃ (k : Nat) (A' : Nat → Int64), df_X2_popTo_0 n g (nI ρ) (mC B cs l.length os ap kd fr ft pt nm C S SA F T A) = some (mC B cs k os ap kd fr ft pt nm C S SA F T A') := fun l => by
  induction l with
  | nil =>
    intro g cc t j σ A hg hfr hc hl
    obtain ⟨m, rfl⟩ : ∃ m : Nat, g = m + 1 := ⟨g - 1, by omega⟩
    exact ⟨0, A, po_0 n m ρ⟩
  | cons o r ih =>
    intro g cc t j σ A hg hfr hc hl
    have hlen : (o :: r).length = r.length + 1 := rfl
    obtain ⟨m, rfl⟩ : ∃ m : Nat, g = m + 1 := ⟨g - 1, by omega⟩
    obtain ⟨c', t', j', σ', h1, o1, o27, l1, l2, l3, l4, h2, h3⟩ := frs_le _ cc t j σ hfr o r rfl
    by_cases stop : 22 ≤ o ∨ rkC o < ρ
    · exact ⟨r.length + 1, A, po_e n m r.length o ρ (by omega) h1 (by omega) (by omega) stop⟩
    · have st1 : ¬ 22 ≤ o := fun z => stop (Or.inl z)
      have st2 : ρ ≤ rkC o := Nat.le_of_not_lt fun z => stop (Or.inr z)
      rcases h3 with ⟨a1, a2, a3, a4, d1, s1, os1, ro1, mm, u, a5, a6, a7, a8, a9, a10⟩ | ⟨a1, a2, a3, a4, a5, a6, a7⟩ | ⟨a1, _⟩
      · have b1 := a5.1.1
        rcases a10 with ⟨e1, e2, e3, e4⟩ | ⟨e1, e2⟩
        · have hf3 := frs_st (C' := C) (A' := vp_updL A mm (nI cs).toInt64) (F' := F) (T' := T) (K' := K) (P' := P) (N' := N) (pos' := pos) (S' := S) (SA' := SA) (OA' := OA) r c' t' j' σ' h2 (fun i x => ⟨rfl, updL_n (by omega)⟩) (fun i x => ⟨rfl, rfl, rfl⟩) (fun i x => ⟨rfl, rfl, rfl⟩) (fun i x => ⟨rfl, rfl⟩) (fun i x => rfl)
          obtain ⟨k, A', e⟩ := ih m c' t' j' σ' (vp_updL A mm (nI cs).toInt64) (by omega) hf3 (by omega) (by omega)
          exact ⟨k, A', (po_gf n m r.length o ρ mm hf hf2 (by omega) h1 (by omega) st2 e4 (by omega)).trans e⟩
        · obtain ⟨k, A', e⟩ := ih m c' t' j' σ' A (by omega) h2 (by omega) (by omega)
          exact ⟨k, A', (po_uf n m r.length o ρ hf hf2 (by omega) h1 e1 (by omega) st2).trans e⟩
      · obtain ⟨k, A', e⟩ := ih m c' t' j' σ' A (by omega) h2 (by omega) (by omega)
        exact ⟨k, A', (po_uf n m r.length o ρ hf hf2 (by omega) h1 (by omega) (by omega) st2).trans e⟩
      · omega

/-- a bracket is shut, in both -/
theorem cl_22 {r : List Nat} {cc cs t ts j jl σ s oc ro : Nat} {d : Dn} {C : Nat → Int32} {A : Nat → Int64} {F T K P : Nat → Int32} {N : Nat → Int64} {pos : Nat → Nat} {S SA OA : Nat → Int32} (tv : Int64) (hf : frs C A F T K P N pos S SA OA (22 :: r) cc t j σ) (hJ : gJ d s oc ro cc cs t ts j jl C A F T K P N pos) (hj : hOb (22 :: r) = true → jl = j) (ht : ts < 120) : ∃ y c' t' j' σ' : Nat, OA (nOp r) = nI y ∧ y < ts ∧ frs C A F T (upd K ts (nI 31)) (upd (upd P y (nI ts)) ts (nI y)) (vp_updL N ts tv) pos S SA OA r c' t' j' σ' ∧ gJ d s 20 0 c' cs t' (ts + 1) j' jl C A F T (upd K ts (nI 31)) (upd (upd P y (nI ts)) ts (nI y)) (vp_updL N ts tv) pos ∧ σ' = σ ∧ (hOb r = true → jl = j') := by
  obtain ⟨c', t', j', σ', h1, _, _, l1, l2, l3, l4, h2, h3⟩ := frs_le _ cc t j σ hf 22 r rfl
  have k1 := hJ.1.1
  have k2 := hJ.2.1.1
  rcases h3 with ⟨_, a2, _⟩ | ⟨_, a2, _⟩ | ⟨a1, a2, a3, a4⟩
  · omega
  · omega
  rcases a4 with ⟨b1, b2, b3, b4, b5, b6⟩ | ⟨b1, _⟩ | ⟨b1, _⟩
  · subst b2
    subst b3
    subst b4
    obtain ⟨y, hy⟩ : ∃ y : Nat, y = t' := ⟨t', rfl⟩
    have Kl : ∀ i : Nat, i < ts → i ≠ y → upd K ts (nI 31) i = K i ∧ upd (upd P y (nI ts)) ts (nI y) i = P i ∧ vp_updL N ts tv i = N i := fun i x z => ⟨nm_un (by omega), (nm_un (by omega)).trans (nm_un z), updL_n (by omega)⟩
    have Kt : upd K ts (nI 31) ts = nI 31 := nm_us
    have Py : upd (upd P y (nI ts)) ts (nI y) y = nI ts := (nm_un (by omega)).trans nm_us
    have F1 := frs_st (C' := C) (A' := A) (F' := F) (T' := T) (K' := upd K ts (nI 31)) (P' := upd (upd P y (nI ts)) ts (nI y)) (N' := vp_updL N ts tv) (pos' := pos) (S' := S) (SA' := SA) (OA' := OA) r cc t' j σ' h2 (fun i x => ⟨rfl, rfl⟩) (fun i x => ⟨rfl, rfl, rfl⟩) (fun i x => Kl i (by omega) (by omega)) (fun i x => ⟨rfl, rfl⟩) (fun i x => rfl)
    have J1 := gJ_st (C' := C) (A' := A) (F' := F) (T' := T) (K' := upd K ts (nI 31)) (P' := upd (upd P y (nI ts)) ts (nI y)) (N' := vp_updL N ts tv) (pos' := pos) hJ (fun i x z => ⟨rfl, rfl⟩) (fun i x z => ⟨rfl, rfl, rfl⟩) (fun i x z => Kl i z (by omega))
    have Kb : upd K ts (nI 31) t' = nI 30 := (nm_un (by omega)).trans b5
    have Pb : upd (upd P y (nI ts)) ts (nI y) t' = nI ts := by rw [← hy]; exact Py
    refine ⟨y, cc, t', j, σ', by rw [hy]; exact b6, by omega, F1, ⟨J1.1, gR_par J1.2.1 ht Kb Pb, ?_⟩, a3.symm, fun z => hj (by show (decide _ || hOb r) = true; rw [z, Bool.or_true])⟩
    refine gO_w J1.2.2 (Nat.le_refl _) (Nat.le_refl _) (by omega) (by omega) (fun i x z w => ?_)
    by_cases e : i = ts
    · rw [e]; exact nk89 Kt (by omega) (by omega) (by omega)
    · rw [show i = t' by omega]
      exact nk89 Kb (by omega) (by omega) (by omega)
  · omega
  · omega
theorem cl_25 {r : List Nat} {cc cs t ts j jl σ s oc ro : Nat} {d : Dn} {C : Nat → Int32} {A : Nat → Int64} {F T K P : Nat → Int32} {N : Nat → Int64} {pos : Nat → Nat} {S SA OA : Nat → Int32} (tv : Int64) (a : Int64) (hf : frs C A F T K P N pos S SA OA (25 :: r) cc t j σ) (hJ : gJ d s oc ro cc cs t ts j jl C A F T K P N pos) (hj : hOb (25 :: r) = true → jl = j) (ht : ts < 120) : ∃ y c' t' j' σ' : Nat, OA (nOp r) = nI y ∧ y < ts ∧ frs (upd C cs (nI 25)) (vp_updL A cs a) F T (upd K ts (nI 33)) (upd (upd P y (nI ts)) ts (nI y)) (vp_updL N ts tv) pos S SA OA r c' t' j' σ' ∧ gJ (dnM 25 d) s 20 0 c' (cs + 1) t' (ts + 1) j' jl (upd C cs (nI 25)) (vp_updL A cs a) F T (upd K ts (nI 33)) (upd (upd P y (nI ts)) ts (nI y)) (vp_updL N ts tv) pos ∧ σ' = σ ∧ (hOb r = true → jl = j') := by
  obtain ⟨c', t', j', σ', h1, _, _, l1, l2, l3, l4, h2, h3⟩ := frs_le _ cc t j σ hf 25 r rfl
  have k1 := hJ.1.1
  have k2 := hJ.2.1.1
  rcases h3 with ⟨_, a2, _⟩ | ⟨_, a2, _⟩ | ⟨a1, a2, a3, a4⟩
  · omega
  · omega
  rcases a4 with ⟨b1, b2, b3, b4, b5, b6⟩ | ⟨b1, b2, b3, b4, b5, b6, b7⟩ | ⟨b1, _⟩
  · subst b2
    subst b3
    subst b4
    obtain ⟨y, hy⟩ : ∃ y : Nat, y = t' := ⟨t', rfl⟩
    have Kl : ∀ i : Nat, i < ts → i ≠ y → upd K ts (nI 33) i = K i ∧ upd (upd P y (nI ts)) ts (nI y) i = P i ∧ vp_updL N ts tv i = N i := fun i x z => ⟨nm_un (by omega), (nm_un (by omega)).trans (nm_un z), updL_n (by omega)⟩
    have Kt : upd K ts (nI 33) ts = nI 33 := nm_us
    have Py : upd (upd P y (nI ts)) ts (nI y) y = nI ts := (nm_un (by omega)).trans nm_us
    have F1 := frs_st (C' := (upd C cs (nI 25))) (A' := (vp_updL A cs a)) (F' := F) (T' := T) (K' := upd K ts (nI 33)) (P' := upd (upd P y (nI ts)) ts (nI y)) (N' := vp_updL N ts tv) (pos' := pos) (S' := S) (SA' := SA) (OA' := OA) r cc t' j σ' h2 (fun i x => ⟨nm_un (by omega), updL_n (by omega)⟩) (fun i x => ⟨rfl, rfl, rfl⟩) (fun i x => Kl i (by omega) (by omega)) (fun i x => ⟨rfl, rfl⟩) (fun i x => rfl)
    have J1 := gJ_st (C' := (upd C cs (nI 25))) (A' := (vp_updL A cs a)) (F' := F) (T' := T) (K' := upd K ts (nI 33)) (P' := upd (upd P y (nI ts)) ts (nI y)) (N' := vp_updL N ts tv) (pos' := pos) hJ (fun i x z => ⟨nm_un (by omega), updL_n (by omega)⟩) (fun i x z => ⟨rfl, rfl, rfl⟩) (fun i x z => Kl i z (by omega))
    have Kb : upd K ts (nI 33) t' = nI 32 := (nm_un (by omega)).trans b5
    have Pb : upd (upd P y (nI ts)) ts (nI y) t' = nI ts := by rw [← hy]; exact Py
    refine ⟨y, cc, t', j, σ', by rw [hy]; exact b6, by omega, F1, ⟨gC_mem (by omega) (by omega) J1.1 nm_us, gR_m1 J1.2.1 ht Kb Pb, ?_⟩, a3.symm, fun z => hj (by show (decide _ || hOb r) = true; rw [z, Bool.or_true])⟩
    refine gO_w J1.2.2 (Nat.le_refl _) (by omega) (by omega) (by omega) (fun i x z w => ?_)
    by_cases e : i = ts
    · rw [e]; exact nk89 Kt (by omega) (by omega) (by omega)
    · rw [show i = t' by omega]
      exact nk89 Kb (by omega) (by omega) (by omega)
  · omega
  · omega
theorem cl_26 {r : List Nat} {cc cs t ts j jl σ s oc ro : Nat} {d : Dn} {C : Nat → Int32} {A : Nat → Int64} {F T K P : Nat → Int32} {N : Nat → Int64} {pos : Nat → Nat} {S SA OA : Nat → Int32} (tv : Int64) (a : Int64) (hf : frs C A F T K P N pos S SA OA (26 :: r) cc t j σ) (hJ : gJ d s oc ro cc cs t ts j jl C A F T K P N pos) (hj : hOb (26 :: r) = true → jl = j) (ht : ts < 120) : ∃ y c' t' j' σ' : Nat, OA (nOp r) = nI y ∧ y < ts ∧ frs (upd C cs (nI 26)) (vp_updL A cs a) F T (upd K ts (nI 33)) (upd (upd P y (nI ts)) ts (nI y)) (vp_updL N ts tv) pos S SA OA r c' t' j' σ' ∧ gJ (dnM 26 d) s 20 0 c' (cs + 1) t' (ts + 1) j' jl (upd C cs (nI 26)) (vp_updL A cs a) F T (upd K ts (nI 33)) (upd (upd P y (nI ts)) ts (nI y)) (vp_updL N ts tv) pos ∧ σ' = σ ∧ (hOb r = true → jl = j') := by
  obtain ⟨c', t', j', σ', h1, _, _, l1, l2, l3, l4, h2, h3⟩ := frs_le _ cc t j σ hf 26 r rfl
  have k1 := hJ.1.1
  have k2 := hJ.2.1.1
  rcases h3 with ⟨_, a2, _⟩ | ⟨_, a2, _⟩ | ⟨a1, a2, a3, a4⟩
  · omega
  · omega
  rcases a4 with ⟨b1, b2, b3, b4, b5, b6⟩ | ⟨b1, b2, b3, b4, b5, b6, b7⟩ | ⟨b1, _⟩
  · omega
  · subst b2
    subst b3
    subst b4
    obtain ⟨y, hy⟩ : ∃ y : Nat, y = t' + 1 := ⟨t' + 1, rfl⟩
    have Kl : ∀ i : Nat, i < ts → i ≠ y → upd K ts (nI 33) i = K i ∧ upd (upd P y (nI ts)) ts (nI y) i = P i ∧ vp_updL N ts tv i = N i := fun i x z => ⟨nm_un (by omega), (nm_un (by omega)).trans (nm_un z), updL_n (by omega)⟩
    have Kt : upd K ts (nI 33) ts = nI 33 := nm_us
    have Py : upd (upd P y (nI ts)) ts (nI y) y = nI ts := (nm_un (by omega)).trans nm_us
    have F1 := frs_st (C' := (upd C cs (nI 26))) (A' := (vp_updL A cs a)) (F' := F) (T' := T) (K' := upd K ts (nI 33)) (P' := upd (upd P y (nI ts)) ts (nI y)) (N' := vp_updL N ts tv) (pos' := pos) (S' := S) (SA' := SA) (OA' := OA) r cc t' j σ' h2 (fun i x => ⟨nm_un (by omega), updL_n (by omega)⟩) (fun i x => ⟨rfl, rfl, rfl⟩) (fun i x => Kl i (by omega) (by omega)) (fun i x => ⟨rfl, rfl⟩) (fun i x => rfl)
    have J1 := gJ_st (C' := (upd C cs (nI 26))) (A' := (vp_updL A cs a)) (F' := F) (T' := T) (K' := upd K ts (nI 33)) (P' := upd (upd P y (nI ts)) ts (nI y)) (N' := vp_updL N ts tv) (pos' := pos) hJ (fun i x z => ⟨nm_un (by omega), updL_n (by omega)⟩) (fun i x z => ⟨rfl, rfl, rfl⟩) (fun i x z => Kl i z (by omega))
    have Ka : upd K ts (nI 33) t' = nI 7 := (nm_un (by omega)).trans b5
    have Kb : upd K ts (nI 33) (t' + 1) = nI 32 := (nm_un (by omega)).trans b6
    have Pb : upd (upd P y (nI ts)) ts (nI y) (t' + 1) = nI ts := by rw [← hy]; exact Py
    refine ⟨y, cc, t', j, σ', by rw [hy]; exact b7, by omega, F1, ⟨gC_mem (by omega) (by omega) J1.1 nm_us, gR_m2 (k := 7) (by omega) J1.2.1 ht Ka Kb Pb, ?_⟩, a3.symm, fun z => hj (by show (decide _ || hOb r) = true; rw [z, Bool.or_true])⟩
    refine gO_w J1.2.2 (Nat.le_refl _) (by omega) (by omega) (by omega) (fun i x z w => ?_)
    by_cases e : i = ts
    · rw [e]; exact nk89 Kt (by omega) (by omega) (by omega)
    · by_cases e2 : i = t'
      · rw [e2]; exact nk89 Ka (by omega) (by omega) (by omega)
      · rw [show i = t' + 1 by omega]
        exact nk89 Kb (by omega) (by omega) (by omega)
  · omega
theorem cl_27 {r : List Nat} {cc cs t ts j jl σ s oc ro : Nat} {d : Dn} {C : Nat → Int32} {A : Nat → Int64} {F T K P : Nat → Int32} {N : Nat → Int64} {pos : Nat → Nat} {S SA OA : Nat → Int32} (tv : Int64) (a : Int64) (hf : frs C A F T K P N pos S SA OA (27 :: r) cc t j σ) (hJ : gJ d s oc ro cc cs t ts j jl C A F T K P N pos) (hj : hOb (27 :: r) = true → jl = j) (ht : ts < 120) : ∃ y c' t' j' σ' : Nat, OA (nOp r) = nI y ∧ y < ts ∧ frs (upd C cs (nI 27)) (vp_updL A cs a) F T (upd K ts (nI 33)) (upd (upd P y (nI ts)) ts (nI y)) (vp_updL N ts tv) pos S SA OA r c' t' j' σ' ∧ gJ (dnM 27 d) s 20 0 c' (cs + 1) t' (ts + 1) j' jl (upd C cs (nI 27)) (vp_updL A cs a) F T (upd K ts (nI 33)) (upd (upd P y (nI ts)) ts (nI y)) (vp_updL N ts tv) pos ∧ σ' = σ ∧ (hOb r = true → jl = j') := by
  obtain ⟨c', t', j', σ', h1, _, _, l1, l2, l3, l4, h2, h3⟩ := frs_le _ cc t j σ hf 27 r rfl
  have k1 := hJ.1.1
  have k2 := hJ.2.1.1
  rcases h3 with ⟨_, a2, _⟩ | ⟨_, a2, _⟩ | ⟨a1, a2, a3, a4⟩
  · omega
  · omega
  rcases a4 with ⟨b1, b2, b3, b4, b5, b6⟩ | ⟨b1, b2, b3, b4, b5, b6, b7⟩ | ⟨b1, _⟩
  · omega
  · subst b2
    subst b3
    subst b4
    obtain ⟨y, hy⟩ : ∃ y : Nat, y = t' + 1 := ⟨t' + 1, rfl⟩
    have Kl : ∀ i : Nat, i < ts → i ≠ y → upd K ts (nI 33) i = K i ∧ upd (upd P y (nI ts)) ts (nI y) i = P i ∧ vp_updL N ts tv i = N i := fun i x z => ⟨nm_un (by omega), (nm_un (by omega)).trans (nm_un z), updL_n (by omega)⟩
    have Kt : upd K ts (nI 33) ts = nI 33 := nm_us
    have Py : upd (upd P y (nI ts)) ts (nI y) y = nI ts := (nm_un (by omega)).trans nm_us
    have F1 := frs_st (C' := (upd C cs (nI 27))) (A' := (vp_updL A cs a)) (F' := F) (T' := T) (K' := upd K ts (nI 33)) (P' := upd (upd P y (nI ts)) ts (nI y)) (N' := vp_updL N ts tv) (pos' := pos) (S' := S) (SA' := SA) (OA' := OA) r cc t' j σ' h2 (fun i x => ⟨nm_un (by omega), updL_n (by omega)⟩) (fun i x => ⟨rfl, rfl, rfl⟩) (fun i x => Kl i (by omega) (by omega)) (fun i x => ⟨rfl, rfl⟩) (fun i x => rfl)
    have J1 := gJ_st (C' := (upd C cs (nI 27))) (A' := (vp_updL A cs a)) (F' := F) (T' := T) (K' := upd K ts (nI 33)) (P' := upd (upd P y (nI ts)) ts (nI y)) (N' := vp_updL N ts tv) (pos' := pos) hJ (fun i x z => ⟨nm_un (by omega), updL_n (by omega)⟩) (fun i x z => ⟨rfl, rfl, rfl⟩) (fun i x z => Kl i z (by omega))
    have Ka : upd K ts (nI 33) t' = nI 6 := (nm_un (by omega)).trans b5
    have Kb : upd K ts (nI 33) (t' + 1) = nI 32 := (nm_un (by omega)).trans b6
    have Pb : upd (upd P y (nI ts)) ts (nI y) (t' + 1) = nI ts := by rw [← hy]; exact Py
    refine ⟨y, cc, t', j, σ', by rw [hy]; exact b7, by omega, F1, ⟨gC_mem (by omega) (by omega) J1.1 nm_us, gR_m2 (k := 6) (by omega) J1.2.1 ht Ka Kb Pb, ?_⟩, a3.symm, fun z => hj (by show (decide _ || hOb r) = true; rw [z, Bool.or_true])⟩
    refine gO_w J1.2.2 (Nat.le_refl _) (by omega) (by omega) (by omega) (fun i x z w => ?_)
    by_cases e : i = ts
    · rw [e]; exact nk89 Kt (by omega) (by omega) (by omega)
    · by_cases e2 : i = t'
      · rw [e2]; exact nk89 Ka (by omega) (by omega) (by omega)
      · rw [show i = t' + 1 by omega]
        exact nk89 Kb (by omega) (by omega) (by omega)
  · omega
theorem cl_23 {r : List Nat} {cc cs t ts j jl σ s oc ro : Nat} {d : Dn} {C : Nat → Int32} {A : Nat → Int64} {F T K P : Nat → Int32} {N : Nat → Int64} {pos : Nat → Nat} {S SA OA : Nat → Int32} (tv : Int64) (hs : s ≤ 41) (hf : frs C A F T K P N pos S SA OA (23 :: r) cc t j σ) (hJ : gJ d s oc ro cc cs t ts j jl C A F T K P N pos) (hj : hOb (23 :: r) = true → jl = j) (ht : ts < 120) : ∃ i0 : Nat, i0 < 40 ∧ SA r.length = nI i0 ∧ ∃ y c' t' j' σ' : Nat, OA (nOp r) = nI y ∧ y < ts ∧ frs C A F (upd T i0 (nI cs)) (upd K ts (nI 31)) (upd (upd P y (nI ts)) ts (nI y)) (vp_updL N ts tv) pos S SA OA r c' t' j' σ' ∧ gJ (fun _ w => some (w i0)) s 20 0 c' cs t' (ts + 1) j' jl C A F (upd T i0 (nI cs)) (upd K ts (nI 31)) (upd (upd P y (nI ts)) ts (nI y)) (vp_updL N ts tv) pos ∧ σ' = σ ∧ (hOb r = true → jl = j') := by
  obtain ⟨c', t', j', σ', h1, _, _, l1, l2, l3, l4, h2, h3⟩ := frs_le _ cc t j σ hf 23 r rfl
  have k1 := hJ.1.1
  have k2 := hJ.2.1.1
  have jlj : jl = j := hj rfl
  subst jlj
  rcases h3 with ⟨_, a2, _⟩ | ⟨_, a2, _⟩ | ⟨a1, a2, a3, a4⟩
  · omega
  · omega
  rcases a4 with ⟨b1, _⟩ | ⟨b1, _⟩ | ⟨b1, b2, b3, b4, b5, b6, b7, b8, b9, b10, b11, b12⟩
  · omega
  · omega
  · subst b2
    subst b6
    obtain ⟨y, hy⟩ : ∃ y : Nat, y = t' + 1 := ⟨t' + 1, rfl⟩
    refine ⟨j', b7, b9, ?_⟩
    have b13 : cc = c' + 1 ∧ C c' = nI 23 ∧ A c' = (nI j').toInt64 := by
      rcases b12 with z | z
      · exact z.2
      · omega
    obtain ⟨b14, b15, b16⟩ := b13
    subst b14
    have Kl : ∀ i : Nat, i < ts → i ≠ y → upd K ts (nI 31) i = K i ∧ upd (upd P y (nI ts)) ts (nI y) i = P i ∧ vp_updL N ts tv i = N i := fun i x z => ⟨nm_un (by omega), (nm_un (by omega)).trans (nm_un z), updL_n (by omega)⟩
    have Kt : upd K ts (nI 31) ts = nI 31 := nm_us
    have Py : upd (upd P y (nI ts)) ts (nI y) y = nI ts := (nm_un (by omega)).trans nm_us
    have F1 := frs_st (C' := C) (A' := A) (F' := F) (T' := (upd T j' (nI cs))) (K' := upd K ts (nI 31)) (P' := upd (upd P y (nI ts)) ts (nI y)) (N' := vp_updL N ts tv) (pos' := pos) (S' := S) (SA' := SA) (OA' := OA) r c' t' j' σ' h2 (fun i x => ⟨rfl, rfl⟩) (fun i x => ⟨rfl, nm_un (by omega), rfl⟩) (fun i x => Kl i (by omega) (by omega)) (fun i x => ⟨rfl, rfl⟩) (fun i x => rfl)
    have J1 := gJ_st (C' := C) (A' := A) (F' := F) (T' := (upd T j' (nI cs))) (K' := upd K ts (nI 31)) (P' := upd (upd P y (nI ts)) ts (nI y)) (N' := vp_updL N ts tv) (pos' := pos) hJ (fun i x z => ⟨rfl, rfl⟩) (fun i x z => ⟨rfl, nm_un (by omega), rfl⟩) (fun i x z => Kl i z (by omega))
    have Ka : upd K ts (nI 31) t' = nI 8 := (nm_un (by omega)).trans b3
    have Kb : upd K ts (nI 31) (t' + 1) = nI 30 := (nm_un (by omega)).trans b4
    have Pb : upd (upd P y (nI ts)) ts (nI y) (t' + 1) = nI ts := by rw [← hy]; exact Py
    refine ⟨y, c', t', j', σ', by rw [hy]; exact b5, by omega, F1, ⟨gC_old J1.1.2.1 (by omega) b15 b16 b7 nm_us, gR_old J1.2.1 ht Ka Kb Pb b8, ?_⟩, a3.symm, fun z => by rw [b11] at z; exact absurd z (by decide)⟩
    refine ⟨fun i x z => ?_, fun i x z w => ?_⟩
    · have e : i = j' := by omega
      subst e
      refine ⟨d, s, oc, ro, ts, (c' + 1), cs, by omega, by omega, hs, b10, nm_us, J1.1, by omega, by omega, ?_⟩
      rw [b8]
      exact ⟨Pb, J1.2.1, Or.inl Ka⟩
    · by_cases e : i = ts
      · rw [e] at w
        exact absurd w (nk89 Kt (by omega) (by omega) (by omega))
      · by_cases e1 : i = t'
        · exact ⟨j', Nat.le_refl _, by omega, by rw [b8, e1]⟩
        · by_cases e2 : i = t' + 1
          · rw [e2] at w
            exact absurd w (nk89 Kb (by omega) (by omega) (by omega))
          · obtain ⟨q, q1, q2, _⟩ := J1.2.2.2 i (by omega) (by omega) w
            omega
theorem cl_24 {r : List Nat} {cc cs t ts j jl σ s oc ro : Nat} {d : Dn} {C : Nat → Int32} {A : Nat → Int64} {F T K P : Nat → Int32} {N : Nat → Int64} {pos : Nat → Nat} {S SA OA : Nat → Int32} (tv : Int64) (hs : s ≤ 41) (hf : frs C A F T K P N pos S SA OA (24 :: r) cc t j σ) (hJ : gJ d s oc ro cc cs t ts j jl C A F T K P N pos) (hj : hOb (24 :: r) = true → jl = j) (ht : ts < 120) : ∃ i0 : Nat, i0 < 40 ∧ SA r.length = nI i0 ∧ ∃ y c' t' j' σ' : Nat, OA (nOp r) = nI y ∧ y < ts ∧ frs (upd C cs (nI 24)) (vp_updL A cs (nI i0).toInt64) F (upd T i0 (nI cs)) (upd K ts (nI 31)) (upd (upd P y (nI ts)) ts (nI y)) (vp_updL N ts tv) pos S SA OA r c' t' j' σ' ∧ gJ (dnC i0 d) s 20 0 c' (cs + 1) t' (ts + 1) j' jl (upd C cs (nI 24)) (vp_updL A cs (nI i0).toInt64) F (upd T i0 (nI cs)) (upd K ts (nI 31)) (upd (upd P y (nI ts)) ts (nI y)) (vp_updL N ts tv) pos ∧ σ' = σ ∧ (hOb r = true → jl = j') := by
  obtain ⟨c', t', j', σ', h1, _, _, l1, l2, l3, l4, h2, h3⟩ := frs_le _ cc t j σ hf 24 r rfl
  have k1 := hJ.1.1
  have k2 := hJ.2.1.1
  have jlj : jl = j := hj rfl
  subst jlj
  rcases h3 with ⟨_, a2, _⟩ | ⟨_, a2, _⟩ | ⟨a1, a2, a3, a4⟩
  · omega
  · omega
  rcases a4 with ⟨b1, _⟩ | ⟨b1, _⟩ | ⟨b1, b2, b3, b4, b5, b6, b7, b8, b9, b10, b11, b12⟩
  · omega
  · omega
  · subst b2
    subst b6
    obtain ⟨y, hy⟩ : ∃ y : Nat, y = t' + 1 := ⟨t' + 1, rfl⟩
    refine ⟨j', b7, b9, ?_⟩
    have b14 : cc = c' := by
      rcases b12 with z | z
      · omega
      · exact z.2
    subst b14
    have Kl : ∀ i : Nat, i < ts → i ≠ y → upd K ts (nI 31) i = K i ∧ upd (upd P y (nI ts)) ts (nI y) i = P i ∧ vp_updL N ts tv i = N i := fun i x z => ⟨nm_un (by omega), (nm_un (by omega)).trans (nm_un z), updL_n (by omega)⟩
    have Kt : upd K ts (nI 31) ts = nI 31 := nm_us
    have Py : upd (upd P y (nI ts)) ts (nI y) y = nI ts := (nm_un (by omega)).trans nm_us
    have F1 := frs_st (C' := (upd C cs (nI 24))) (A' := (vp_updL A cs (nI j').toInt64)) (F' := F) (T' := (upd T j' (nI cs))) (K' := upd K ts (nI 31)) (P' := upd (upd P y (nI ts)) ts (nI y)) (N' := vp_updL N ts tv) (pos' := pos) (S' := S) (SA' := SA) (OA' := OA) r cc t' j' σ' h2 (fun i x => ⟨nm_un (by omega), updL_n (by omega)⟩) (fun i x => ⟨rfl, nm_un (by omega), rfl⟩) (fun i x => Kl i (by omega) (by omega)) (fun i x => ⟨rfl, rfl⟩) (fun i x => rfl)
    have J1 := gJ_st (C' := (upd C cs (nI 24))) (A' := (vp_updL A cs (nI j').toInt64)) (F' := F) (T' := (upd T j' (nI cs))) (K' := upd K ts (nI 31)) (P' := upd (upd P y (nI ts)) ts (nI y)) (N' := vp_updL N ts tv) (pos' := pos) hJ (fun i x z => ⟨nm_un (by omega), updL_n (by omega)⟩) (fun i x z => ⟨rfl, nm_un (by omega), rfl⟩) (fun i x z => Kl i z (by omega))
    have Ka : upd K ts (nI 31) t' = nI 9 := (nm_un (by omega)).trans b3
    have Kb : upd K ts (nI 31) (t' + 1) = nI 30 := (nm_un (by omega)).trans b4
    have Pb : upd (upd P y (nI ts)) ts (nI y) (t' + 1) = nI ts := by rw [← hy]; exact Py
    refine ⟨y, cc, t', j', σ', by rw [hy]; exact b5, by omega, F1, ⟨gC_chg J1.1 nm_us updL_s b7, gR_chg J1.2.1 ht Ka Kb Pb b8, ?_⟩, a3.symm, fun z => by rw [b11] at z; exact absurd z (by decide)⟩
    refine ⟨fun i x z => ?_, fun i x z w => ?_⟩
    · have e : i = j' := by omega
      subst e
      refine ⟨d, s, oc, ro, ts, cc, cs, by omega, by omega, hs, b10, nm_us, J1.1, by omega, by omega, ?_⟩
      rw [b8]
      exact ⟨Pb, J1.2.1, Or.inr Ka⟩
    · by_cases e : i = ts
      · rw [e] at w
        exact absurd w (nk89 Kt (by omega) (by omega) (by omega))
      · by_cases e1 : i = t'
        · exact ⟨j', Nat.le_refl _, by omega, by rw [b8, e1]⟩
        · by_cases e2 : i = t' + 1
          · rw [e2] at w
            exact absurd w (nk89 Kb (by omega) (by omega) (by omega))
          · obtain ⟨q, q1, q2, _⟩ := J1.2.2.2 i (by omega) (by omega) w
            omega

