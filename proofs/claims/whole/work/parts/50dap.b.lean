/-- a number's digits -/
def dv (hx : Bool) (c : Nat) : Option Nat := if aD c = true then some (c - 48) else if hx = true ∧ 97 ≤ c ∧ c ≤ 102 then some (c - 97 + 10) else none
def bsO (hx : Bool) : Nat := if hx = true then 16 else 10
theorem oT {α : Type} {T : Nat} {x : Option α} : nd_o (some T) T x = x := if_pos rfl
theorem n64 {k : Nat} (h : k < 2 ^ 31) : (nI k).toInt64 = Int64.ofNat k := by
  apply Int64.toInt_inj.mp
  rw [Int32.toInt_toInt64, nI_toInt h, Int64.toInt_ofNat_of_lt (by omega)]
theorem lma (a b d : Nat) (hb : b < 100) (hd : d < 200) : Int64.ofNat a * (nI b).toInt64 + (nI d).toInt64 = Int64.ofNat (a * b + d) := by
  rw [n64 (by omega), n64 (by omega), Int64.ofNat_add, Int64.ofNat_mul]
theorem lmb (a b d : Nat) (hd : d < 200) : Int64.ofNat a * Int64.ofNat b + (nI d).toInt64 = Int64.ofNat (a * b + d) := by
  rw [n64 (by omega), Int64.ofNat_add, Int64.ofNat_mul]
theorem dv_1 {hx : Bool} {c d : Nat} (h : dv hx c = some d) : (aD c = true ∧ d = c - 48 ∧ 48 ≤ c ∧ c ≤ 57) ∨ (aD c = false ∧ hx = true ∧ 97 ≤ c ∧ c ≤ 102 ∧ d = c - 97 + 10) := by
  unfold dv at h
  by_cases a : aD c = true
  · rw [if_pos a] at h
    injection h with h
    have k := of_decide_eq_true a
    exact Or.inl ⟨a, h.symm, k.1, k.2⟩
  · rw [if_neg a] at h
    by_cases b : hx = true ∧ 97 ≤ c ∧ c ≤ 102
    · rw [if_pos b] at h
      injection h with h
      exact Or.inr ⟨Bool.eq_false_iff.mpr a, b.1, b.2.1, b.2.2, h.symm⟩
    · rw [if_neg b] at h
      exact nomatch h
theorem dv_0 {hx : Bool} {c : Nat} (h : dv hx c = none) : aD c = false ∧ (hx = false ∨ c < 97 ∨ 102 < c) := by
  unfold dv at h
  by_cases a : aD c = true
  · rw [if_pos a] at h
    exact nomatch h
  · rw [if_neg a] at h
    by_cases b : hx = true ∧ 97 ≤ c ∧ c ≤ 102
    · rw [if_pos b] at h
      exact nomatch h
    · refine ⟨Bool.eq_false_iff.mpr a, ?_⟩
      cases hx with
      | false => exact Or.inl rfl
      | true => exact Or.inr (by
          by_cases y : c < 97
          · exact Or.inl y
          · exact Or.inr (Nat.lt_of_not_le fun z => b ⟨rfl, by omega, z⟩))
theorem nlb (v : Nat) (h : v < 2 ^ 40) : (lg_cmp (Int64.ofNat v) 4294967295 ≤ nI 0 ↔ v < 2 ^ 32) ∧ (lg_cmp (Int64.ofNat v) 4294967296 < nI 0 ↔ v < 2 ^ 32) := by
  have a : (4294967295 : Int64).toInt = 4294967295 := rfl
  have b : (4294967296 : Int64).toInt = 4294967296 := rfl
  rw [lgD, lgA, a, b, Int64.toInt_ofNat_of_lt (by omega)]
  omega
theorem nc_t (n Tp m i a d ch : Nat) (hx : Bool) {tpe : St} {B : St} {cs tp os ap kd fr ft pt : Nat} {C S SA F T : Nat → Int32} {A : Nat → Int64} (hO : sO B 0 = some Tp) (hp : ap ≤ 120) (hi : i < ap) (hc : sR tpe 0 i = nI ch) (c1 : 32 ≤ ch) (c2 : ch ≤ 126) (ha : a < 2 ^ 32) (hd : dv hx ch = some d) : df_X2_readNumber_72 n Tp (m + 1) (bI hx) (nI i) (tpe, mC B cs tp os ap kd fr ft pt (Int64.ofNat a) C S SA F T A) = if a * bsO hx + d < 2 ^ 32 then df_X2_readNumber_72 n Tp m (bI hx) (nI (i + 1)) (tpe, mC B cs tp os ap kd fr ft pt (Int64.ofNat (a * bsO hx + d)) C S SA F T A) else some (tpe, mC B cs tp os ap 4 fr ft pt (Int64.ofNat (a * bsO hx + d)) C S SA F T A) := by
  have hdg : df_X2_isDigit n (nI ch) () = some (bI (aD ch), ()) := id_C n ⟨ch, by omega⟩
  have dl : d < 79 := by rcases dv_1 hd with ⟨_, h, _⟩ | ⟨_, _, _, _, h⟩ <;> omega
  have nn : ¬ nI d < nI 0 := fun z => by rw [nI_ltI (by omega) (by omega)] at z; omega
  have cm := (nlb (a * bsO hx + d) (by unfold bsO; split <;> omega)).1
  have e1 := lma a (bsO hx) d (by unfold bsO; split <;> omega) (by omega)
  rcases dv_1 hd with ⟨h1, h2, h3, h4⟩ | ⟨h1, h2, h3, h4, h5⟩
  · rw [h1] at hdg
    have hdg : df_X2_isDigit n (nI ch) () = some (nI 1, ()) := hdg
    have e : nI ch - nI 48 = nI d := by rw [h2]; exact pk_sub h3
    cases hx with
    | false =>
      have b0 : bI false = nI 0 := rfl
      have e1 : Int64.ofNat a * (nI 10).toInt64 + (nI d).toInt64 = Int64.ofNat (a * bsO false + d) := e1
      by_cases y : a * bsO false + d < 2 ^ 32
      · have z := cm.mpr y
        rw [if_pos y]
        simp (disch := (first | assumption | decide | omega)) only [(show df_X2_readNumber_72 n Tp (m + 1) = dF_X2_readNumber_72 n Tp (df_X2_readNumber_72 n Tp m) from rfl), dF_X2_readNumber_72, df_X2_readNumber_171, df_X2_readNumber_146, df_X2_readNumber_128, df_X2_readNumber_127, df_X2_readNumber_71, df_X2_readNumber_48, df_X2_readNumber_47, df_X2_readNumber_0, df_X2_readNumber, mC_i0, mC_i1, mC_i2, mC_i5, mC_i6, mC_i7, mC_i8, mC_i9, mC_l, mC_r0, mC_r1, mC_r2, mC_r3, mC_r4, mC_q, mC_o, mC_i4, mC_wi0, mC_wi1, mC_wi2, mC_wi5, mC_wi6, mC_wi7, mC_wi8, mC_wi9, mC_wl, mC_wr0, mC_wr1, mC_wr2, mC_wr3, mC_wr4, mC_wq, hO, oT, hc, hdg, b0, e, e1, nn, z, eq_self, Nat.reduceEqDiff, Nat.reduceLeDiff, nl_0, nl_1, nl_2, nl_4, nl_5, nl_6, nl_7, nl_10, nl_16, nl_48, nl_97, nl_102, nl_120, nl_32768, nl_4294967295, no_1, no_1024, pk_mul, nI_add, nm_ck, nI_clamp, nI_ltI, nI_leI, nI_eq, nb_b2, nb_b1, ↓nb_let, nm_z0, nm_z1, nb_II, nb_IR, nb_RI, nb_RR, nm_IL, nm_IQ, nm_RL, nm_RQ, nm_LI, nm_LR, nm_LL, nm_LQ, nm_QI, nm_QR, nm_QL, nm_QQ, nm_rr, nm_ii, nm_eqm, not_false_eq_true, pk_sub, nm_div, nm_shl, nm_shr, nm_ush, nm_or8, nm_or64, nm_or256, nm_m1, nm_m3, nm_m7, nm_m15, nm_m31, nm_m63, nm_m255, nm_m511, nm_m1023, nm_m2047, nm_m65535, Nat.reduceMod, Nat.reducePow, Nat.reduceAdd, Nat.reduceSub, Nat.reduceMul, nm_bo, nm_bi, nm_rc, nm_ic, nm_ri, nm_rl, nm_rq, nm_ql, nm_qi, nm_li, nm_us, nm_uu, nm_cp, nm_sa31, nm_sa7, nm_m127, nm_m2, nm_nz, nm_nzk, nm_eq32, nm_nzf, if_true, if_false, ↓reduceIte, if_pos, if_neg]
      · have z := fun q => y (cm.mp q)
        rw [if_neg y]
        simp (disch := (first | assumption | decide | omega)) only [(show df_X2_readNumber_72 n Tp (m + 1) = dF_X2_readNumber_72 n Tp (df_X2_readNumber_72 n Tp m) from rfl), dF_X2_readNumber_72, df_X2_readNumber_171, df_X2_readNumber_146, df_X2_readNumber_128, df_X2_readNumber_127, df_X2_readNumber_71, df_X2_readNumber_48, df_X2_readNumber_47, df_X2_readNumber_0, df_X2_readNumber, mC_i0, mC_i1, mC_i2, mC_i5, mC_i6, mC_i7, mC_i8, mC_i9, mC_l, mC_r0, mC_r1, mC_r2, mC_r3, mC_r4, mC_q, mC_o, mC_i4, mC_wi0, mC_wi1, mC_wi2, mC_wi5, mC_wi6, mC_wi7, mC_wi8, mC_wi9, mC_wl, mC_wr0, mC_wr1, mC_wr2, mC_wr3, mC_wr4, mC_wq, hO, oT, hc, hdg, b0, e, e1, nn, z, eq_self, Nat.reduceEqDiff, Nat.reduceLeDiff, nl_0, nl_1, nl_2, nl_4, nl_5, nl_6, nl_7, nl_10, nl_16, nl_48, nl_97, nl_102, nl_120, nl_32768, nl_4294967295, no_1, no_1024, pk_mul, nI_add, nm_ck, nI_clamp, nI_ltI, nI_leI, nI_eq, nb_b2, nb_b1, ↓nb_let, nm_z0, nm_z1, nb_II, nb_IR, nb_RI, nb_RR, nm_IL, nm_IQ, nm_RL, nm_RQ, nm_LI, nm_LR, nm_LL, nm_LQ, nm_QI, nm_QR, nm_QL, nm_QQ, nm_rr, nm_ii, nm_eqm, not_false_eq_true, pk_sub, nm_div, nm_shl, nm_shr, nm_ush, nm_or8, nm_or64, nm_or256, nm_m1, nm_m3, nm_m7, nm_m15, nm_m31, nm_m63, nm_m255, nm_m511, nm_m1023, nm_m2047, nm_m65535, Nat.reduceMod, Nat.reducePow, Nat.reduceAdd, Nat.reduceSub, Nat.reduceMul, nm_bo, nm_bi, nm_rc, nm_ic, nm_ri, nm_rl, nm_rq, nm_ql, nm_qi, nm_li, nm_us, nm_uu, nm_cp, nm_sa31, nm_sa7, nm_m127, nm_m2, nm_nz, nm_nzk, nm_eq32, nm_nzf, if_true, if_false, ↓reduceIte, if_pos, if_neg]
    | true =>
      have b0 : bI true = nI 1 := rfl
      have e1 : Int64.ofNat a * (nI 16).toInt64 + (nI d).toInt64 = Int64.ofNat (a * bsO true + d) := e1
      by_cases y : a * bsO true + d < 2 ^ 32
      · have z := cm.mpr y
        rw [if_pos y]
        simp (disch := (first | assumption | decide | omega)) only [(show df_X2_readNumber_72 n Tp (m + 1) = dF_X2_readNumber_72 n Tp (df_X2_readNumber_72 n Tp m) from rfl), dF_X2_readNumber_72, df_X2_readNumber_171, df_X2_readNumber_146, df_X2_readNumber_128, df_X2_readNumber_127, df_X2_readNumber_71, df_X2_readNumber_48, df_X2_readNumber_47, df_X2_readNumber_0, df_X2_readNumber, mC_i0, mC_i1, mC_i2, mC_i5, mC_i6, mC_i7, mC_i8, mC_i9, mC_l, mC_r0, mC_r1, mC_r2, mC_r3, mC_r4, mC_q, mC_o, mC_i4, mC_wi0, mC_wi1, mC_wi2, mC_wi5, mC_wi6, mC_wi7, mC_wi8, mC_wi9, mC_wl, mC_wr0, mC_wr1, mC_wr2, mC_wr3, mC_wr4, mC_wq, hO, oT, hc, hdg, b0, e, e1, nn, z, eq_self, Nat.reduceEqDiff, Nat.reduceLeDiff, nl_0, nl_1, nl_2, nl_4, nl_5, nl_6, nl_7, nl_10, nl_16, nl_48, nl_97, nl_102, nl_120, nl_32768, nl_4294967295, no_1, no_1024, pk_mul, nI_add, nm_ck, nI_clamp, nI_ltI, nI_leI, nI_eq, nb_b2, nb_b1, ↓nb_let, nm_z0, nm_z1, nb_II, nb_IR, nb_RI, nb_RR, nm_IL, nm_IQ, nm_RL, nm_RQ, nm_LI, nm_LR, nm_LL, nm_LQ, nm_QI, nm_QR, nm_QL, nm_QQ, nm_rr, nm_ii, nm_eqm, not_false_eq_true, pk_sub, nm_div, nm_shl, nm_shr, nm_ush, nm_or8, nm_or64, nm_or256, nm_m1, nm_m3, nm_m7, nm_m15, nm_m31, nm_m63, nm_m255, nm_m511, nm_m1023, nm_m2047, nm_m65535, Nat.reduceMod, Nat.reducePow, Nat.reduceAdd, Nat.reduceSub, Nat.reduceMul, nm_bo, nm_bi, nm_rc, nm_ic, nm_ri, nm_rl, nm_rq, nm_ql, nm_qi, nm_li, nm_us, nm_uu, nm_cp, nm_sa31, nm_sa7, nm_m127, nm_m2, nm_nz, nm_nzk, nm_eq32, nm_nzf, if_true, if_false, ↓reduceIte, if_pos, if_neg]
      · have z := fun q => y (cm.mp q)
        rw [if_neg y]
        simp (disch := (first | assumption | decide | omega)) only [(show df_X2_readNumber_72 n Tp (m + 1) = dF_X2_readNumber_72 n Tp (df_X2_readNumber_72 n Tp m) from rfl), dF_X2_readNumber_72, df_X2_readNumber_171, df_X2_readNumber_146, df_X2_readNumber_128, df_X2_readNumber_127, df_X2_readNumber_71, df_X2_readNumber_48, df_X2_readNumber_47, df_X2_readNumber_0, df_X2_readNumber, mC_i0, mC_i1, mC_i2, mC_i5, mC_i6, mC_i7, mC_i8, mC_i9, mC_l, mC_r0, mC_r1, mC_r2, mC_r3, mC_r4, mC_q, mC_o, mC_i4, mC_wi0, mC_wi1, mC_wi2, mC_wi5, mC_wi6, mC_wi7, mC_wi8, mC_wi9, mC_wl, mC_wr0, mC_wr1, mC_wr2, mC_wr3, mC_wr4, mC_wq, hO, oT, hc, hdg, b0, e, e1, nn, z, eq_self, Nat.reduceEqDiff, Nat.reduceLeDiff, nl_0, nl_1, nl_2, nl_4, nl_5, nl_6, nl_7, nl_10, nl_16, nl_48, nl_97, nl_102, nl_120, nl_32768, nl_4294967295, no_1, no_1024, pk_mul, nI_add, nm_ck, nI_clamp, nI_ltI, nI_leI, nI_eq, nb_b2, nb_b1, ↓nb_let, nm_z0, nm_z1, nb_II, nb_IR, nb_RI, nb_RR, nm_IL, nm_IQ, nm_RL, nm_RQ, nm_LI, nm_LR, nm_LL, nm_LQ, nm_QI, nm_QR, nm_QL, nm_QQ, nm_rr, nm_ii, nm_eqm, not_false_eq_true, pk_sub, nm_div, nm_shl, nm_shr, nm_ush, nm_or8, nm_or64, nm_or256, nm_m1, nm_m3, nm_m7, nm_m15, nm_m31, nm_m63, nm_m255, nm_m511, nm_m1023, nm_m2047, nm_m65535, Nat.reduceMod, Nat.reducePow, Nat.reduceAdd, Nat.reduceSub, Nat.reduceMul, nm_bo, nm_bi, nm_rc, nm_ic, nm_ri, nm_rl, nm_rq, nm_ql, nm_qi, nm_li, nm_us, nm_uu, nm_cp, nm_sa31, nm_sa7, nm_m127, nm_m2, nm_nz, nm_nzk, nm_eq32, nm_nzf, if_true, if_false, ↓reduceIte, if_pos, if_neg]
  · rw [h1] at hdg
    have hdg : df_X2_isDigit n (nI ch) () = some (nI 0, ()) := hdg
    have e : nI (ch - 97 + 10) = nI d := by rw [h5]
    subst h2
    have b0 : bI true = nI 1 := rfl
    have e1 : Int64.ofNat a * (nI 16).toInt64 + (nI d).toInt64 = Int64.ofNat (a * bsO true + d) := e1
    by_cases y : a * bsO true + d < 2 ^ 32
    · have z := cm.mpr y
      rw [if_pos y]
      simp (disch := (first | assumption | decide | omega)) only [(show df_X2_readNumber_72 n Tp (m + 1) = dF_X2_readNumber_72 n Tp (df_X2_readNumber_72 n Tp m) from rfl), dF_X2_readNumber_72, df_X2_readNumber_171, df_X2_readNumber_146, df_X2_readNumber_128, df_X2_readNumber_127, df_X2_readNumber_71, df_X2_readNumber_48, df_X2_readNumber_47, df_X2_readNumber_0, df_X2_readNumber, mC_i0, mC_i1, mC_i2, mC_i5, mC_i6, mC_i7, mC_i8, mC_i9, mC_l, mC_r0, mC_r1, mC_r2, mC_r3, mC_r4, mC_q, mC_o, mC_i4, mC_wi0, mC_wi1, mC_wi2, mC_wi5, mC_wi6, mC_wi7, mC_wi8, mC_wi9, mC_wl, mC_wr0, mC_wr1, mC_wr2, mC_wr3, mC_wr4, mC_wq, hO, oT, hc, hdg, b0, e, e1, nn, z, eq_self, Nat.reduceEqDiff, Nat.reduceLeDiff, nl_0, nl_1, nl_2, nl_4, nl_5, nl_6, nl_7, nl_10, nl_16, nl_48, nl_97, nl_102, nl_120, nl_32768, nl_4294967295, no_1, no_1024, pk_mul, nI_add, nm_ck, nI_clamp, nI_ltI, nI_leI, nI_eq, nb_b2, nb_b1, ↓nb_let, nm_z0, nm_z1, nb_II, nb_IR, nb_RI, nb_RR, nm_IL, nm_IQ, nm_RL, nm_RQ, nm_LI, nm_LR, nm_LL, nm_LQ, nm_QI, nm_QR, nm_QL, nm_QQ, nm_rr, nm_ii, nm_eqm, not_false_eq_true, pk_sub, nm_div, nm_shl, nm_shr, nm_ush, nm_or8, nm_or64, nm_or256, nm_m1, nm_m3, nm_m7, nm_m15, nm_m31, nm_m63, nm_m255, nm_m511, nm_m1023, nm_m2047, nm_m65535, Nat.reduceMod, Nat.reducePow, Nat.reduceAdd, Nat.reduceSub, Nat.reduceMul, nm_bo, nm_bi, nm_rc, nm_ic, nm_ri, nm_rl, nm_rq, nm_ql, nm_qi, nm_li, nm_us, nm_uu, nm_cp, nm_sa31, nm_sa7, nm_m127, nm_m2, nm_nz, nm_nzk, nm_eq32, nm_nzf, if_true, if_false, ↓reduceIte, if_pos, if_neg]
    · have z := fun q => y (cm.mp q)
      rw [if_neg y]
      simp (disch := (first | assumption | decide | omega)) only [(show df_X2_readNumber_72 n Tp (m + 1) = dF_X2_readNumber_72 n Tp (df_X2_readNumber_72 n Tp m) from rfl), dF_X2_readNumber_72, df_X2_readNumber_171, df_X2_readNumber_146, df_X2_readNumber_128, df_X2_readNumber_127, df_X2_readNumber_71, df_X2_readNumber_48, df_X2_readNumber_47, df_X2_readNumber_0, df_X2_readNumber, mC_i0, mC_i1, mC_i2, mC_i5, mC_i6, mC_i7, mC_i8, mC_i9, mC_l, mC_r0, mC_r1, mC_r2, mC_r3, mC_r4, mC_q, mC_o, mC_i4, mC_wi0, mC_wi1, mC_wi2, mC_wi5, mC_wi6, mC_wi7, mC_wi8, mC_wi9, mC_wl, mC_wr0, mC_wr1, mC_wr2, mC_wr3, mC_wr4, mC_wq, hO, oT, hc, hdg, b0, e, e1, nn, z, eq_self, Nat.reduceEqDiff, Nat.reduceLeDiff, nl_0, nl_1, nl_2, nl_4, nl_5, nl_6, nl_7, nl_10, nl_16, nl_48, nl_97, nl_102, nl_120, nl_32768, nl_4294967295, no_1, no_1024, pk_mul, nI_add, nm_ck, nI_clamp, nI_ltI, nI_leI, nI_eq, nb_b2, nb_b1, ↓nb_let, nm_z0, nm_z1, nb_II, nb_IR, nb_RI, nb_RR, nm_IL, nm_IQ, nm_RL, nm_RQ, nm_LI, nm_LR, nm_LL, nm_LQ, nm_QI, nm_QR, nm_QL, nm_QQ, nm_rr, nm_ii, nm_eqm, not_false_eq_true, pk_sub, nm_div, nm_shl, nm_shr, nm_ush, nm_or8, nm_or64, nm_or256, nm_m1, nm_m3, nm_m7, nm_m15, nm_m31, nm_m63, nm_m255, nm_m511, nm_m1023, nm_m2047, nm_m65535, Nat.reduceMod, Nat.reducePow, Nat.reduceAdd, Nat.reduceSub, Nat.reduceMul, nm_bo, nm_bi, nm_rc, nm_ic, nm_ri, nm_rl, nm_rq, nm_ql, nm_qi, nm_li, nm_us, nm_uu, nm_cp, nm_sa31, nm_sa7, nm_m127, nm_m2, nm_nz, nm_nzk, nm_eq32, nm_nzf, if_true, if_false, ↓reduceIte, if_pos, if_neg]
theorem nc_b (n Tp m i ch : Nat) (hx : Bool) {tpe : St} {B : St} {cs tp os ap kd fr ft pt : Nat} {nm : Int64} {C S SA F T : Nat → Int32} {A : Nat → Int64} (hO : sO B 0 = some Tp) (hp : ap ≤ 120) (hi : i < ap) (hc : sR tpe 0 i = nI ch) (c1 : 32 ≤ ch) (c2 : ch ≤ 126) (hd : dv hx ch = none) : ∃ v : Int64, df_X2_readNumber_72 n Tp (m + 1) (bI hx) (nI i) (tpe, mC B cs tp os ap kd fr ft pt nm C S SA F T A) = some (tpe, mC B cs tp os ap 4 fr ft pt v C S SA F T A) := by
  have hdg : df_X2_isDigit n (nI ch) () = some (bI (aD ch), ()) := id_C n ⟨ch, by omega⟩
  obtain ⟨h1, h2⟩ := dv_0 hd
  rw [h1] at hdg
  have hdg : df_X2_isDigit n (nI ch) () = some (nI 0, ()) := hdg
  cases hx with
  | false =>
    refine ⟨nm * (nI 10).toInt64 + (-nI 1).toInt64, ?_⟩
    have b0 : bI false = nI 0 := rfl
    simp (disch := (first | assumption | decide | omega)) only [(show df_X2_readNumber_72 n Tp (m + 1) = dF_X2_readNumber_72 n Tp (df_X2_readNumber_72 n Tp m) from rfl), dF_X2_readNumber_72, df_X2_readNumber_171, df_X2_readNumber_146, df_X2_readNumber_128, df_X2_readNumber_127, df_X2_readNumber_71, df_X2_readNumber_48, df_X2_readNumber_47, df_X2_readNumber_0, df_X2_readNumber, mC_i0, mC_i1, mC_i2, mC_i5, mC_i6, mC_i7, mC_i8, mC_i9, mC_l, mC_r0, mC_r1, mC_r2, mC_r3, mC_r4, mC_q, mC_o, mC_i4, mC_wi0, mC_wi1, mC_wi2, mC_wi5, mC_wi6, mC_wi7, mC_wi8, mC_wi9, mC_wl, mC_wr0, mC_wr1, mC_wr2, mC_wr3, mC_wr4, mC_wq, hO, oT, hc, hdg, b0, nm_ltm, eq_self, Nat.reduceEqDiff, Nat.reduceLeDiff, nl_0, nl_1, nl_2, nl_4, nl_5, nl_6, nl_7, nl_10, nl_16, nl_48, nl_97, nl_102, nl_120, nl_32768, nl_4294967295, no_1, no_1024, pk_mul, nI_add, nm_ck, nI_clamp, nI_ltI, nI_leI, nI_eq, nb_b2, nb_b1, ↓nb_let, nm_z0, nm_z1, nb_II, nb_IR, nb_RI, nb_RR, nm_IL, nm_IQ, nm_RL, nm_RQ, nm_LI, nm_LR, nm_LL, nm_LQ, nm_QI, nm_QR, nm_QL, nm_QQ, nm_rr, nm_ii, nm_eqm, not_false_eq_true, pk_sub, nm_div, nm_shl, nm_shr, nm_ush, nm_or8, nm_or64, nm_or256, nm_m1, nm_m3, nm_m7, nm_m15, nm_m31, nm_m63, nm_m255, nm_m511, nm_m1023, nm_m2047, nm_m65535, Nat.reduceMod, Nat.reducePow, Nat.reduceAdd, Nat.reduceSub, Nat.reduceMul, nm_bo, nm_bi, nm_rc, nm_ic, nm_ri, nm_rl, nm_rq, nm_ql, nm_qi, nm_li, nm_us, nm_uu, nm_cp, nm_sa31, nm_sa7, nm_m127, nm_m2, nm_nz, nm_nzk, nm_eq32, nm_nzf, if_true, if_false, ↓reduceIte, if_pos, if_neg]
  | true =>
    refine ⟨nm * (nI 16).toInt64 + (-nI 1).toInt64, ?_⟩
    have b0 : bI true = nI 1 := rfl
    have h2 : ch < 97 ∨ 102 < ch := by
      rcases h2 with h2 | h2
      · exact nomatch h2
      · exact h2
    rcases h2 with y | y
    · simp (disch := (first | assumption | decide | omega)) only [(show df_X2_readNumber_72 n Tp (m + 1) = dF_X2_readNumber_72 n Tp (df_X2_readNumber_72 n Tp m) from rfl), dF_X2_readNumber_72, df_X2_readNumber_171, df_X2_readNumber_146, df_X2_readNumber_128, df_X2_readNumber_127, df_X2_readNumber_71, df_X2_readNumber_48, df_X2_readNumber_47, df_X2_readNumber_0, df_X2_readNumber, mC_i0, mC_i1, mC_i2, mC_i5, mC_i6, mC_i7, mC_i8, mC_i9, mC_l, mC_r0, mC_r1, mC_r2, mC_r3, mC_r4, mC_q, mC_o, mC_i4, mC_wi0, mC_wi1, mC_wi2, mC_wi5, mC_wi6, mC_wi7, mC_wi8, mC_wi9, mC_wl, mC_wr0, mC_wr1, mC_wr2, mC_wr3, mC_wr4, mC_wq, hO, oT, hc, hdg, b0, nm_ltm, eq_self, Nat.reduceEqDiff, Nat.reduceLeDiff, nl_0, nl_1, nl_2, nl_4, nl_5, nl_6, nl_7, nl_10, nl_16, nl_48, nl_97, nl_102, nl_120, nl_32768, nl_4294967295, no_1, no_1024, pk_mul, nI_add, nm_ck, nI_clamp, nI_ltI, nI_leI, nI_eq, nb_b2, nb_b1, ↓nb_let, nm_z0, nm_z1, nb_II, nb_IR, nb_RI, nb_RR, nm_IL, nm_IQ, nm_RL, nm_RQ, nm_LI, nm_LR, nm_LL, nm_LQ, nm_QI, nm_QR, nm_QL, nm_QQ, nm_rr, nm_ii, nm_eqm, not_false_eq_true, pk_sub, nm_div, nm_shl, nm_shr, nm_ush, nm_or8, nm_or64, nm_or256, nm_m1, nm_m3, nm_m7, nm_m15, nm_m31, nm_m63, nm_m255, nm_m511, nm_m1023, nm_m2047, nm_m65535, Nat.reduceMod, Nat.reducePow, Nat.reduceAdd, Nat.reduceSub, Nat.reduceMul, nm_bo, nm_bi, nm_rc, nm_ic, nm_ri, nm_rl, nm_rq, nm_ql, nm_qi, nm_li, nm_us, nm_uu, nm_cp, nm_sa31, nm_sa7, nm_m127, nm_m2, nm_nz, nm_nzk, nm_eq32, nm_nzf, if_true, if_false, ↓reduceIte, if_pos, if_neg]
    · simp (disch := (first | assumption | decide | omega)) only [(show df_X2_readNumber_72 n Tp (m + 1) = dF_X2_readNumber_72 n Tp (df_X2_readNumber_72 n Tp m) from rfl), dF_X2_readNumber_72, df_X2_readNumber_171, df_X2_readNumber_146, df_X2_readNumber_128, df_X2_readNumber_127, df_X2_readNumber_71, df_X2_readNumber_48, df_X2_readNumber_47, df_X2_readNumber_0, df_X2_readNumber, mC_i0, mC_i1, mC_i2, mC_i5, mC_i6, mC_i7, mC_i8, mC_i9, mC_l, mC_r0, mC_r1, mC_r2, mC_r3, mC_r4, mC_q, mC_o, mC_i4, mC_wi0, mC_wi1, mC_wi2, mC_wi5, mC_wi6, mC_wi7, mC_wi8, mC_wi9, mC_wl, mC_wr0, mC_wr1, mC_wr2, mC_wr3, mC_wr4, mC_wq, hO, oT, hc, hdg, b0, nm_ltm, eq_self, Nat.reduceEqDiff, Nat.reduceLeDiff, nl_0, nl_1, nl_2, nl_4, nl_5, nl_6, nl_7, nl_10, nl_16, nl_48, nl_97, nl_102, nl_120, nl_32768, nl_4294967295, no_1, no_1024, pk_mul, nI_add, nm_ck, nI_clamp, nI_ltI, nI_leI, nI_eq, nb_b2, nb_b1, ↓nb_let, nm_z0, nm_z1, nb_II, nb_IR, nb_RI, nb_RR, nm_IL, nm_IQ, nm_RL, nm_RQ, nm_LI, nm_LR, nm_LL, nm_LQ, nm_QI, nm_QR, nm_QL, nm_QQ, nm_rr, nm_ii, nm_eqm, not_false_eq_true, pk_sub, nm_div, nm_shl, nm_shr, nm_ush, nm_or8, nm_or64, nm_or256, nm_m1, nm_m3, nm_m7, nm_m15, nm_m31, nm_m63, nm_m255, nm_m511, nm_m1023, nm_m2047, nm_m65535, Nat.reduceMod, Nat.reducePow, Nat.reduceAdd, Nat.reduceSub, Nat.reduceMul, nm_bo, nm_bi, nm_rc, nm_ic, nm_ri, nm_rl, nm_rq, nm_ql, nm_qi, nm_li, nm_us, nm_uu, nm_cp, nm_sa31, nm_sa7, nm_m127, nm_m2, nm_nz, nm_nzk, nm_eq32, nm_nzf, if_true, if_false, ↓reduceIte, if_pos, if_neg]
theorem nr_t (n m i a d ch : Nat) (hx : Bool) {B : St} {ap st ts op ft : Nat} {K P OA : Nat → Int32} {N : Nat → Int64} {X : St × St} (hp : ap ≤ 120) (hi : i < ap) (hc : sR B 0 i = nI ch) (c1 : 32 ≤ ch) (c2 : ch ≤ 126) (ha : a < 2 ^ 32) (hd : dv hx ch = some d) : df_X15_scanNumber_77 n (m + 1) (bI hx) (nI i) (mR B ap 1 st ts op ft (Int64.ofNat a) K P OA N, X) = if a * bsO hx + d < 2 ^ 32 then df_X15_scanNumber_77 n m (bI hx) (nI (i + 1)) (mR B ap 1 st ts op ft (Int64.ofNat (a * bsO hx + d)) K P OA N, X) else df_X15_scanNumber_77 n m (bI hx) (nI (i + 1)) (mR B ap 34 st ts op ft 0 K P OA N, X) := by
  have hdg : df_X15_isDigit n (nI ch) () = some (bI (aD ch), ()) := id_R n ⟨ch, by omega⟩
  have dl : d < 79 := by rcases dv_1 hd with ⟨_, h, _⟩ | ⟨_, _, _, _, h⟩ <;> omega
  have nn : ¬ d = 99 := by omega
  have cm := (nlb (a * bsO hx + d) (by unfold bsO; split <;> omega)).2
  have e1 := lmb a (bsO hx) d (by omega)
  rcases dv_1 hd with ⟨h1, h2, h3, h4⟩ | ⟨h1, h2, h3, h4, h5⟩
  · rw [h1] at hdg
    have hdg : df_X15_isDigit n (nI ch) () = some (nI 1, ()) := hdg
    have e : nI ch - nI 48 = nI d := by rw [h2]; exact pk_sub h3
    cases hx with
    | false =>
      have b0 : bI false = nI 0 := rfl
      have e1 : Int64.ofNat a * 10 + (nI d).toInt64 = Int64.ofNat (a * bsO false + d) := e1
      by_cases y : a * bsO false + d < 2 ^ 32
      · have z := cm.mpr y
        rw [if_pos y]
        simp (disch := (first | assumption | decide | omega)) only [(show df_X15_scanNumber_77 n (m + 1) = dF_X15_scanNumber_77 n (df_X15_scanNumber_77 n m) from rfl), dF_X15_scanNumber_77, df_X15_scanNumber_204, df_X15_scanNumber_186, df_X15_scanNumber_180, df_X15_scanNumber_154, df_X15_scanNumber_134, df_X15_scanNumber_132, df_X15_scanNumber_76, df_X15_scanNumber_48, df_X15_scanNumber_47, df_X15_scanNumber_0, df_X15_scanNumber, mR_i1, mR_i2, mR_i3, mR_i4, mR_i5, mR_i6, mR_l, mR_r5, mR_r6, mR_r7, mR_q, mR_o, mR_i0, mR_r0, mR_wi1, mR_wi2, mR_wi3, mR_wi4, mR_wi5, mR_wi6, mR_wl, mR_wr5, mR_wr6, mR_wr7, mR_wq, hc, hdg, b0, e, e1, nn, z, eq_self, Nat.reduceEqDiff, Nat.reduceLeDiff, nl_0, nl_1, nl_2, nl_3, nl_10, nl_16, nl_34, nl_48, nl_97, nl_99, nl_102, nl_120, no_1, no_1024, pk_mul, nI_add, nm_ck, nI_clamp, nI_ltI, nI_leI, nI_eq, nb_b2, nb_b1, ↓nb_let, nm_z0, nm_z1, nb_II, nb_IR, nb_RI, nb_RR, nm_IL, nm_IQ, nm_RL, nm_RQ, nm_LI, nm_LR, nm_LL, nm_LQ, nm_QI, nm_QR, nm_QL, nm_QQ, nm_rr, nm_ii, nm_eqm, not_false_eq_true, pk_sub, nm_div, nm_shl, nm_shr, nm_ush, nm_or8, nm_or64, nm_or256, nm_m1, nm_m3, nm_m7, nm_m15, nm_m31, nm_m63, nm_m255, nm_m511, nm_m1023, nm_m2047, nm_m65535, Nat.reduceMod, Nat.reducePow, Nat.reduceAdd, Nat.reduceSub, Nat.reduceMul, nm_bo, nm_bi, nm_rc, nm_ic, nm_ri, nm_rl, nm_rq, nm_ql, nm_qi, nm_li, nm_us, nm_uu, nm_cp, nm_sa31, nm_sa7, nm_m127, nm_m2, nm_nz, nm_nzk, nm_eq32, nm_nzf, if_true, if_false, ↓reduceIte, if_pos, if_neg]
      · have z := fun q => y (cm.mp q)
        rw [if_neg y]
        simp (disch := (first | assumption | decide | omega)) only [(show df_X15_scanNumber_77 n (m + 1) = dF_X15_scanNumber_77 n (df_X15_scanNumber_77 n m) from rfl), dF_X15_scanNumber_77, df_X15_scanNumber_204, df_X15_scanNumber_186, df_X15_scanNumber_180, df_X15_scanNumber_154, df_X15_scanNumber_134, df_X15_scanNumber_132, df_X15_scanNumber_76, df_X15_scanNumber_48, df_X15_scanNumber_47, df_X15_scanNumber_0, df_X15_scanNumber, mR_i1, mR_i2, mR_i3, mR_i4, mR_i5, mR_i6, mR_l, mR_r5, mR_r6, mR_r7, mR_q, mR_o, mR_i0, mR_r0, mR_wi1, mR_wi2, mR_wi3, mR_wi4, mR_wi5, mR_wi6, mR_wl, mR_wr5, mR_wr6, mR_wr7, mR_wq, hc, hdg, b0, e, e1, nn, z, eq_self, Nat.reduceEqDiff, Nat.reduceLeDiff, nl_0, nl_1, nl_2, nl_3, nl_10, nl_16, nl_34, nl_48, nl_97, nl_99, nl_102, nl_120, no_1, no_1024, pk_mul, nI_add, nm_ck, nI_clamp, nI_ltI, nI_leI, nI_eq, nb_b2, nb_b1, ↓nb_let, nm_z0, nm_z1, nb_II, nb_IR, nb_RI, nb_RR, nm_IL, nm_IQ, nm_RL, nm_RQ, nm_LI, nm_LR, nm_LL, nm_LQ, nm_QI, nm_QR, nm_QL, nm_QQ, nm_rr, nm_ii, nm_eqm, not_false_eq_true, pk_sub, nm_div, nm_shl, nm_shr, nm_ush, nm_or8, nm_or64, nm_or256, nm_m1, nm_m3, nm_m7, nm_m15, nm_m31, nm_m63, nm_m255, nm_m511, nm_m1023, nm_m2047, nm_m65535, Nat.reduceMod, Nat.reducePow, Nat.reduceAdd, Nat.reduceSub, Nat.reduceMul, nm_bo, nm_bi, nm_rc, nm_ic, nm_ri, nm_rl, nm_rq, nm_ql, nm_qi, nm_li, nm_us, nm_uu, nm_cp, nm_sa31, nm_sa7, nm_m127, nm_m2, nm_nz, nm_nzk, nm_eq32, nm_nzf, if_true, if_false, ↓reduceIte, if_pos, if_neg]
    | true =>
      have b0 : bI true = nI 1 := rfl
      have e1 : Int64.ofNat a * 16 + (nI d).toInt64 = Int64.ofNat (a * bsO true + d) := e1
      by_cases y : a * bsO true + d < 2 ^ 32
      · have z := cm.mpr y
        rw [if_pos y]
        simp (disch := (first | assumption | decide | omega)) only [(show df_X15_scanNumber_77 n (m + 1) = dF_X15_scanNumber_77 n (df_X15_scanNumber_77 n m) from rfl), dF_X15_scanNumber_77, df_X15_scanNumber_204, df_X15_scanNumber_186, df_X15_scanNumber_180, df_X15_scanNumber_154, df_X15_scanNumber_134, df_X15_scanNumber_132, df_X15_scanNumber_76, df_X15_scanNumber_48, df_X15_scanNumber_47, df_X15_scanNumber_0, df_X15_scanNumber, mR_i1, mR_i2, mR_i3, mR_i4, mR_i5, mR_i6, mR_l, mR_r5, mR_r6, mR_r7, mR_q, mR_o, mR_i0, mR_r0, mR_wi1, mR_wi2, mR_wi3, mR_wi4, mR_wi5, mR_wi6, mR_wl, mR_wr5, mR_wr6, mR_wr7, mR_wq, hc, hdg, b0, e, e1, nn, z, eq_self, Nat.reduceEqDiff, Nat.reduceLeDiff, nl_0, nl_1, nl_2, nl_3, nl_10, nl_16, nl_34, nl_48, nl_97, nl_99, nl_102, nl_120, no_1, no_1024, pk_mul, nI_add, nm_ck, nI_clamp, nI_ltI, nI_leI, nI_eq, nb_b2, nb_b1, ↓nb_let, nm_z0, nm_z1, nb_II, nb_IR, nb_RI, nb_RR, nm_IL, nm_IQ, nm_RL, nm_RQ, nm_LI, nm_LR, nm_LL, nm_LQ, nm_QI, nm_QR, nm_QL, nm_QQ, nm_rr, nm_ii, nm_eqm, not_false_eq_true, pk_sub, nm_div, nm_shl, nm_shr, nm_ush, nm_or8, nm_or64, nm_or256, nm_m1, nm_m3, nm_m7, nm_m15, nm_m31, nm_m63, nm_m255, nm_m511, nm_m1023, nm_m2047, nm_m65535, Nat.reduceMod, Nat.reducePow, Nat.reduceAdd, Nat.reduceSub, Nat.reduceMul, nm_bo, nm_bi, nm_rc, nm_ic, nm_ri, nm_rl, nm_rq, nm_ql, nm_qi, nm_li, nm_us, nm_uu, nm_cp, nm_sa31, nm_sa7, nm_m127, nm_m2, nm_nz, nm_nzk, nm_eq32, nm_nzf, if_true, if_false, ↓reduceIte, if_pos, if_neg]
      · have z := fun q => y (cm.mp q)
        rw [if_neg y]
        simp (disch := (first | assumption | decide | omega)) only [(show df_X15_scanNumber_77 n (m + 1) = dF_X15_scanNumber_77 n (df_X15_scanNumber_77 n m) from rfl), dF_X15_scanNumber_77, df_X15_scanNumber_204, df_X15_scanNumber_186, df_X15_scanNumber_180, df_X15_scanNumber_154, df_X15_scanNumber_134, df_X15_scanNumber_132, df_X15_scanNumber_76, df_X15_scanNumber_48, df_X15_scanNumber_47, df_X15_scanNumber_0, df_X15_scanNumber, mR_i1, mR_i2, mR_i3, mR_i4, mR_i5, mR_i6, mR_l, mR_r5, mR_r6, mR_r7, mR_q, mR_o, mR_i0, mR_r0, mR_wi1, mR_wi2, mR_wi3, mR_wi4, mR_wi5, mR_wi6, mR_wl, mR_wr5, mR_wr6, mR_wr7, mR_wq, hc, hdg, b0, e, e1, nn, z, eq_self, Nat.reduceEqDiff, Nat.reduceLeDiff, nl_0, nl_1, nl_2, nl_3, nl_10, nl_16, nl_34, nl_48, nl_97, nl_99, nl_102, nl_120, no_1, no_1024, pk_mul, nI_add, nm_ck, nI_clamp, nI_ltI, nI_leI, nI_eq, nb_b2, nb_b1, ↓nb_let, nm_z0, nm_z1, nb_II, nb_IR, nb_RI, nb_RR, nm_IL, nm_IQ, nm_RL, nm_RQ, nm_LI, nm_LR, nm_LL, nm_LQ, nm_QI, nm_QR, nm_QL, nm_QQ, nm_rr, nm_ii, nm_eqm, not_false_eq_true, pk_sub, nm_div, nm_shl, nm_shr, nm_ush, nm_or8, nm_or64, nm_or256, nm_m1, nm_m3, nm_m7, nm_m15, nm_m31, nm_m63, nm_m255, nm_m511, nm_m1023, nm_m2047, nm_m65535, Nat.reduceMod, Nat.reducePow, Nat.reduceAdd, Nat.reduceSub, Nat.reduceMul, nm_bo, nm_bi, nm_rc, nm_ic, nm_ri, nm_rl, nm_rq, nm_ql, nm_qi, nm_li, nm_us, nm_uu, nm_cp, nm_sa31, nm_sa7, nm_m127, nm_m2, nm_nz, nm_nzk, nm_eq32, nm_nzf, if_true, if_false, ↓reduceIte, if_pos, if_neg]
  · rw [h1] at hdg
    have hdg : df_X15_isDigit n (nI ch) () = some (nI 0, ()) := hdg
    have e : nI (ch - 97 + 10) = nI d := by rw [h5]
    subst h2
    have b0 : bI true = nI 1 := rfl
    have e1 : Int64.ofNat a * 16 + (nI d).toInt64 = Int64.ofNat (a * bsO true + d) := e1
    by_cases y : a * bsO true + d < 2 ^ 32
    · have z := cm.mpr y
      rw [if_pos y]
      simp (disch := (first | assumption | decide | omega)) only [(show df_X15_scanNumber_77 n (m + 1) = dF_X15_scanNumber_77 n (df_X15_scanNumber_77 n m) from rfl), dF_X15_scanNumber_77, df_X15_scanNumber_204, df_X15_scanNumber_186, df_X15_scanNumber_180, df_X15_scanNumber_154, df_X15_scanNumber_134, df_X15_scanNumber_132, df_X15_scanNumber_76, df_X15_scanNumber_48, df_X15_scanNumber_47, df_X15_scanNumber_0, df_X15_scanNumber, mR_i1, mR_i2, mR_i3, mR_i4, mR_i5, mR_i6, mR_l, mR_r5, mR_r6, mR_r7, mR_q, mR_o, mR_i0, mR_r0, mR_wi1, mR_wi2, mR_wi3, mR_wi4, mR_wi5, mR_wi6, mR_wl, mR_wr5, mR_wr6, mR_wr7, mR_wq, hc, hdg, b0, e, e1, nn, z, eq_self, Nat.reduceEqDiff, Nat.reduceLeDiff, nl_0, nl_1, nl_2, nl_3, nl_10, nl_16, nl_34, nl_48, nl_97, nl_99, nl_102, nl_120, no_1, no_1024, pk_mul, nI_add, nm_ck, nI_clamp, nI_ltI, nI_leI, nI_eq, nb_b2, nb_b1, ↓nb_let, nm_z0, nm_z1, nb_II, nb_IR, nb_RI, nb_RR, nm_IL, nm_IQ, nm_RL, nm_RQ, nm_LI, nm_LR, nm_LL, nm_LQ, nm_QI, nm_QR, nm_QL, nm_QQ, nm_rr, nm_ii, nm_eqm, not_false_eq_true, pk_sub, nm_div, nm_shl, nm_shr, nm_ush, nm_or8, nm_or64, nm_or256, nm_m1, nm_m3, nm_m7, nm_m15, nm_m31, nm_m63, nm_m255, nm_m511, nm_m1023, nm_m2047, nm_m65535, Nat.reduceMod, Nat.reducePow, Nat.reduceAdd, Nat.reduceSub, Nat.reduceMul, nm_bo, nm_bi, nm_rc, nm_ic, nm_ri, nm_rl, nm_rq, nm_ql, nm_qi, nm_li, nm_us, nm_uu, nm_cp, nm_sa31, nm_sa7, nm_m127, nm_m2, nm_nz, nm_nzk, nm_eq32, nm_nzf, if_true, if_false, ↓reduceIte, if_pos, if_neg]
    · have z := fun q => y (cm.mp q)
      rw [if_neg y]
      simp (disch := (first | assumption | decide | omega)) only [(show df_X15_scanNumber_77 n (m + 1) = dF_X15_scanNumber_77 n (df_X15_scanNumber_77 n m) from rfl), dF_X15_scanNumber_77, df_X15_scanNumber_204, df_X15_scanNumber_186, df_X15_scanNumber_180, df_X15_scanNumber_154, df_X15_scanNumber_134, df_X15_scanNumber_132, df_X15_scanNumber_76, df_X15_scanNumber_48, df_X15_scanNumber_47, df_X15_scanNumber_0, df_X15_scanNumber, mR_i1, mR_i2, mR_i3, mR_i4, mR_i5, mR_i6, mR_l, mR_r5, mR_r6, mR_r7, mR_q, mR_o, mR_i0, mR_r0, mR_wi1, mR_wi2, mR_wi3, mR_wi4, mR_wi5, mR_wi6, mR_wl, mR_wr5, mR_wr6, mR_wr7, mR_wq, hc, hdg, b0, e, e1, nn, z, eq_self, Nat.reduceEqDiff, Nat.reduceLeDiff, nl_0, nl_1, nl_2, nl_3, nl_10, nl_16, nl_34, nl_48, nl_97, nl_99, nl_102, nl_120, no_1, no_1024, pk_mul, nI_add, nm_ck, nI_clamp, nI_ltI, nI_leI, nI_eq, nb_b2, nb_b1, ↓nb_let, nm_z0, nm_z1, nb_II, nb_IR, nb_RI, nb_RR, nm_IL, nm_IQ, nm_RL, nm_RQ, nm_LI, nm_LR, nm_LL, nm_LQ, nm_QI, nm_QR, nm_QL, nm_QQ, nm_rr, nm_ii, nm_eqm, not_false_eq_true, pk_sub, nm_div, nm_shl, nm_shr, nm_ush, nm_or8, nm_or64, nm_or256, nm_m1, nm_m3, nm_m7, nm_m15, nm_m31, nm_m63, nm_m255, nm_m511, nm_m1023, nm_m2047, nm_m65535, Nat.reduceMod, Nat.reducePow, Nat.reduceAdd, Nat.reduceSub, Nat.reduceMul, nm_bo, nm_bi, nm_rc, nm_ic, nm_ri, nm_rl, nm_rq, nm_ql, nm_qi, nm_li, nm_us, nm_uu, nm_cp, nm_sa31, nm_sa7, nm_m127, nm_m2, nm_nz, nm_nzk, nm_eq32, nm_nzf, if_true, if_false, ↓reduceIte, if_pos, if_neg]
theorem nr_b (n m i ch : Nat) (hx : Bool) {B : St} {ap tk st ts op ft : Nat} {tv : Int64} {K P OA : Nat → Int32} {N : Nat → Int64} {X : St × St} (hp : ap ≤ 120) (hi : i < ap) (hc : sR B 0 i = nI ch) (c1 : 32 ≤ ch) (c2 : ch ≤ 126) (hb : tk = 34 ∧ tv = 0 ∨ dv hx ch = none) : df_X15_scanNumber_77 n (m + 1) (bI hx) (nI i) (mR B ap tk st ts op ft tv K P OA N, X) = df_X15_scanNumber_77 n m (bI hx) (nI (i + 1)) (mR B ap 34 st ts op ft 0 K P OA N, X) := by
  have st : ∃ q : Int32, df_X15_scanNumber_77 n (m + 1) (bI hx) (nI i) (mR B ap tk st ts op ft tv K P OA N, X) = df_X15_scanNumber_134 n (df_X15_scanNumber_77 n m) (bI hx) (nI i) q (mR B ap tk st ts op ft tv K P OA N, X) ∧ (dv hx ch = none → q = 99) := by
    have hdg : df_X15_isDigit n (nI ch) () = some (bI (aD ch), ()) := id_R n ⟨ch, by omega⟩
    cases hq : dv hx ch with
    | some d =>
      refine ⟨nI d, ?_, fun z => (nomatch z)⟩
      rcases dv_1 hq with ⟨h1, h2, h3, h4⟩ | ⟨h1, h2, h3, h4, h5⟩
      · rw [h1] at hdg
        have hdg : df_X15_isDigit n (nI ch) () = some (nI 1, ()) := hdg
        have e : nI ch - nI 48 = nI d := by rw [h2]; exact pk_sub h3
        simp (disch := (first | assumption | decide | omega)) only [(show df_X15_scanNumber_77 n (m + 1) = dF_X15_scanNumber_77 n (df_X15_scanNumber_77 n m) from rfl), dF_X15_scanNumber_77, df_X15_scanNumber_132, df_X15_scanNumber_76, df_X15_scanNumber_48, df_X15_scanNumber_47, df_X15_scanNumber_0, df_X15_scanNumber, mR_i1, mR_i2, mR_i3, mR_i4, mR_i5, mR_i6, mR_l, mR_r5, mR_r6, mR_r7, mR_q, mR_o, mR_i0, mR_r0, mR_wi1, mR_wi2, mR_wi3, mR_wi4, mR_wi5, mR_wi6, mR_wl, mR_wr5, mR_wr6, mR_wr7, mR_wq, hc, hdg, e, eq_self, Nat.reduceEqDiff, Nat.reduceLeDiff, nl_0, nl_1, nl_2, nl_3, nl_10, nl_48, nl_97, nl_99, nl_102, nl_120, no_1, no_1024, pk_mul, nI_add, nm_ck, nI_clamp, nI_ltI, nI_leI, nI_eq, nb_b2, nb_b1, ↓nb_let, nm_z0, nm_z1, nb_II, nb_IR, nb_RI, nb_RR, nm_IL, nm_IQ, nm_RL, nm_RQ, nm_LI, nm_LR, nm_LL, nm_LQ, nm_QI, nm_QR, nm_QL, nm_QQ, nm_rr, nm_ii, nm_eqm, not_false_eq_true, pk_sub, nm_div, nm_shl, nm_shr, nm_ush, nm_or8, nm_or64, nm_or256, nm_m1, nm_m3, nm_m7, nm_m15, nm_m31, nm_m63, nm_m255, nm_m511, nm_m1023, nm_m2047, nm_m65535, Nat.reduceMod, Nat.reducePow, Nat.reduceAdd, Nat.reduceSub, Nat.reduceMul, nm_bo, nm_bi, nm_rc, nm_ic, nm_ri, nm_rl, nm_rq, nm_ql, nm_qi, nm_li, nm_us, nm_uu, nm_cp, nm_sa31, nm_sa7, nm_m127, nm_m2, nm_nz, nm_nzk, nm_eq32, nm_nzf, if_true, if_false, ↓reduceIte, if_pos, if_neg]
      · rw [h1] at hdg
        have hdg : df_X15_isDigit n (nI ch) () = some (nI 0, ()) := hdg
        have e : nI (ch - 97 + 10) = nI d := by rw [h5]
        subst h2
        have b0 : bI true = nI 1 := rfl
        simp (disch := (first | assumption | decide | omega)) only [(show df_X15_scanNumber_77 n (m + 1) = dF_X15_scanNumber_77 n (df_X15_scanNumber_77 n m) from rfl), dF_X15_scanNumber_77, df_X15_scanNumber_132, df_X15_scanNumber_76, df_X15_scanNumber_48, df_X15_scanNumber_47, df_X15_scanNumber_0, df_X15_scanNumber, mR_i1, mR_i2, mR_i3, mR_i4, mR_i5, mR_i6, mR_l, mR_r5, mR_r6, mR_r7, mR_q, mR_o, mR_i0, mR_r0, mR_wi1, mR_wi2, mR_wi3, mR_wi4, mR_wi5, mR_wi6, mR_wl, mR_wr5, mR_wr6, mR_wr7, mR_wq, hc, hdg, e, b0, eq_self, Nat.reduceEqDiff, Nat.reduceLeDiff, nl_0, nl_1, nl_2, nl_3, nl_10, nl_48, nl_97, nl_99, nl_102, nl_120, no_1, no_1024, pk_mul, nI_add, nm_ck, nI_clamp, nI_ltI, nI_leI, nI_eq, nb_b2, nb_b1, ↓nb_let, nm_z0, nm_z1, nb_II, nb_IR, nb_RI, nb_RR, nm_IL, nm_IQ, nm_RL, nm_RQ, nm_LI, nm_LR, nm_LL, nm_LQ, nm_QI, nm_QR, nm_QL, nm_QQ, nm_rr, nm_ii, nm_eqm, not_false_eq_true, pk_sub, nm_div, nm_shl, nm_shr, nm_ush, nm_or8, nm_or64, nm_or256, nm_m1, nm_m3, nm_m7, nm_m15, nm_m31, nm_m63, nm_m255, nm_m511, nm_m1023, nm_m2047, nm_m65535, Nat.reduceMod, Nat.reducePow, Nat.reduceAdd, Nat.reduceSub, Nat.reduceMul, nm_bo, nm_bi, nm_rc, nm_ic, nm_ri, nm_rl, nm_rq, nm_ql, nm_qi, nm_li, nm_us, nm_uu, nm_cp, nm_sa31, nm_sa7, nm_m127, nm_m2, nm_nz, nm_nzk, nm_eq32, nm_nzf, if_true, if_false, ↓reduceIte, if_pos, if_neg]
    | none =>
      refine ⟨99, ?_, fun _ => rfl⟩
      obtain ⟨h1, h2⟩ := dv_0 hq
      rw [h1] at hdg
      have hdg : df_X15_isDigit n (nI ch) () = some (nI 0, ()) := hdg
      cases hx with
      | false =>
        have b0 : bI false = nI 0 := rfl
        simp (disch := (first | assumption | decide | omega)) only [(show df_X15_scanNumber_77 n (m + 1) = dF_X15_scanNumber_77 n (df_X15_scanNumber_77 n m) from rfl), dF_X15_scanNumber_77, df_X15_scanNumber_132, df_X15_scanNumber_76, df_X15_scanNumber_48, df_X15_scanNumber_47, df_X15_scanNumber_0, df_X15_scanNumber, mR_i1, mR_i2, mR_i3, mR_i4, mR_i5, mR_i6, mR_l, mR_r5, mR_r6, mR_r7, mR_q, mR_o, mR_i0, mR_r0, mR_wi1, mR_wi2, mR_wi3, mR_wi4, mR_wi5, mR_wi6, mR_wl, mR_wr5, mR_wr6, mR_wr7, mR_wq, hc, hdg, b0, eq_self, Nat.reduceEqDiff, Nat.reduceLeDiff, nl_0, nl_1, nl_2, nl_3, nl_10, nl_48, nl_97, nl_99, nl_102, nl_120, no_1, no_1024, pk_mul, nI_add, nm_ck, nI_clamp, nI_ltI, nI_leI, nI_eq, nb_b2, nb_b1, ↓nb_let, nm_z0, nm_z1, nb_II, nb_IR, nb_RI, nb_RR, nm_IL, nm_IQ, nm_RL, nm_RQ, nm_LI, nm_LR, nm_LL, nm_LQ, nm_QI, nm_QR, nm_QL, nm_QQ, nm_rr, nm_ii, nm_eqm, not_false_eq_true, pk_sub, nm_div, nm_shl, nm_shr, nm_ush, nm_or8, nm_or64, nm_or256, nm_m1, nm_m3, nm_m7, nm_m15, nm_m31, nm_m63, nm_m255, nm_m511, nm_m1023, nm_m2047, nm_m65535, Nat.reduceMod, Nat.reducePow, Nat.reduceAdd, Nat.reduceSub, Nat.reduceMul, nm_bo, nm_bi, nm_rc, nm_ic, nm_ri, nm_rl, nm_rq, nm_ql, nm_qi, nm_li, nm_us, nm_uu, nm_cp, nm_sa31, nm_sa7, nm_m127, nm_m2, nm_nz, nm_nzk, nm_eq32, nm_nzf, if_true, if_false, ↓reduceIte, if_pos, if_neg]
      | true =>
        have b0 : bI true = nI 1 := rfl
        have h2 : ch < 97 ∨ 102 < ch := by
          rcases h2 with h2 | h2
          · exact nomatch h2
          · exact h2
        rcases h2 with y | y
        · simp (disch := (first | assumption | decide | omega)) only [(show df_X15_scanNumber_77 n (m + 1) = dF_X15_scanNumber_77 n (df_X15_scanNumber_77 n m) from rfl), dF_X15_scanNumber_77, df_X15_scanNumber_132, df_X15_scanNumber_76, df_X15_scanNumber_48, df_X15_scanNumber_47, df_X15_scanNumber_0, df_X15_scanNumber, mR_i1, mR_i2, mR_i3, mR_i4, mR_i5, mR_i6, mR_l, mR_r5, mR_r6, mR_r7, mR_q, mR_o, mR_i0, mR_r0, mR_wi1, mR_wi2, mR_wi3, mR_wi4, mR_wi5, mR_wi6, mR_wl, mR_wr5, mR_wr6, mR_wr7, mR_wq, hc, hdg, b0, eq_self, Nat.reduceEqDiff, Nat.reduceLeDiff, nl_0, nl_1, nl_2, nl_3, nl_10, nl_48, nl_97, nl_99, nl_102, nl_120, no_1, no_1024, pk_mul, nI_add, nm_ck, nI_clamp, nI_ltI, nI_leI, nI_eq, nb_b2, nb_b1, ↓nb_let, nm_z0, nm_z1, nb_II, nb_IR, nb_RI, nb_RR, nm_IL, nm_IQ, nm_RL, nm_RQ, nm_LI, nm_LR, nm_LL, nm_LQ, nm_QI, nm_QR, nm_QL, nm_QQ, nm_rr, nm_ii, nm_eqm, not_false_eq_true, pk_sub, nm_div, nm_shl, nm_shr, nm_ush, nm_or8, nm_or64, nm_or256, nm_m1, nm_m3, nm_m7, nm_m15, nm_m31, nm_m63, nm_m255, nm_m511, nm_m1023, nm_m2047, nm_m65535, Nat.reduceMod, Nat.reducePow, Nat.reduceAdd, Nat.reduceSub, Nat.reduceMul, nm_bo, nm_bi, nm_rc, nm_ic, nm_ri, nm_rl, nm_rq, nm_ql, nm_qi, nm_li, nm_us, nm_uu, nm_cp, nm_sa31, nm_sa7, nm_m127, nm_m2, nm_nz, nm_nzk, nm_eq32, nm_nzf, if_true, if_false, ↓reduceIte, if_pos, if_neg]
        · simp (disch := (first | assumption | decide | omega)) only [(show df_X15_scanNumber_77 n (m + 1) = dF_X15_scanNumber_77 n (df_X15_scanNumber_77 n m) from rfl), dF_X15_scanNumber_77, df_X15_scanNumber_132, df_X15_scanNumber_76, df_X15_scanNumber_48, df_X15_scanNumber_47, df_X15_scanNumber_0, df_X15_scanNumber, mR_i1, mR_i2, mR_i3, mR_i4, mR_i5, mR_i6, mR_l, mR_r5, mR_r6, mR_r7, mR_q, mR_o, mR_i0, mR_r0, mR_wi1, mR_wi2, mR_wi3, mR_wi4, mR_wi5, mR_wi6, mR_wl, mR_wr5, mR_wr6, mR_wr7, mR_wq, hc, hdg, b0, eq_self, Nat.reduceEqDiff, Nat.reduceLeDiff, nl_0, nl_1, nl_2, nl_3, nl_10, nl_48, nl_97, nl_99, nl_102, nl_120, no_1, no_1024, pk_mul, nI_add, nm_ck, nI_clamp, nI_ltI, nI_leI, nI_eq, nb_b2, nb_b1, ↓nb_let, nm_z0, nm_z1, nb_II, nb_IR, nb_RI, nb_RR, nm_IL, nm_IQ, nm_RL, nm_RQ, nm_LI, nm_LR, nm_LL, nm_LQ, nm_QI, nm_QR, nm_QL, nm_QQ, nm_rr, nm_ii, nm_eqm, not_false_eq_true, pk_sub, nm_div, nm_shl, nm_shr, nm_ush, nm_or8, nm_or64, nm_or256, nm_m1, nm_m3, nm_m7, nm_m15, nm_m31, nm_m63, nm_m255, nm_m511, nm_m1023, nm_m2047, nm_m65535, Nat.reduceMod, Nat.reducePow, Nat.reduceAdd, Nat.reduceSub, Nat.reduceMul, nm_bo, nm_bi, nm_rc, nm_ic, nm_ri, nm_rl, nm_rq, nm_ql, nm_qi, nm_li, nm_us, nm_uu, nm_cp, nm_sa31, nm_sa7, nm_m127, nm_m2, nm_nz, nm_nzk, nm_eq32, nm_nzf, if_true, if_false, ↓reduceIte, if_pos, if_neg]
  obtain ⟨q, e, hq⟩ := st
  rw [e]
  generalize df_X15_scanNumber_77 n m = G
  have k : ∀ (y1 y2 : Int64), df_X15_scanNumber_154 n G (bI hx) (nI i) q y1 y2 (mR B ap tk st ts op ft tv K P OA N, X) = G (bI hx) (nI (i + 1)) (mR B ap 34 st ts op ft 0 K P OA N, X) := fun y1 y2 => by
    by_cases y : q = nI 99
    · simp (disch := (first | assumption | decide | omega)) only [df_X15_scanNumber_154, df_X15_scanNumber_180, df_X15_scanNumber_186, df_X15_scanNumber_204, mR_i1, mR_i2, mR_i3, mR_i4, mR_i5, mR_i6, mR_l, mR_r5, mR_r6, mR_r7, mR_q, mR_o, mR_i0, mR_r0, mR_wi1, mR_wi2, mR_wi3, mR_wi4, mR_wi5, mR_wi6, mR_wl, mR_wr5, mR_wr6, mR_wr7, mR_wq, y, eq_self, Nat.reduceEqDiff, Nat.reduceLeDiff, nl_0, nl_1, nl_2, nl_34, nl_99, no_1, no_1024, pk_mul, nI_add, nm_ck, nI_clamp, nI_ltI, nI_leI, nI_eq, nb_b2, nb_b1, ↓nb_let, nm_z0, nm_z1, nb_II, nb_IR, nb_RI, nb_RR, nm_IL, nm_IQ, nm_RL, nm_RQ, nm_LI, nm_LR, nm_LL, nm_LQ, nm_QI, nm_QR, nm_QL, nm_QQ, nm_rr, nm_ii, nm_eqm, not_false_eq_true, pk_sub, nm_div, nm_shl, nm_shr, nm_ush, nm_or8, nm_or64, nm_or256, nm_m1, nm_m3, nm_m7, nm_m15, nm_m31, nm_m63, nm_m255, nm_m511, nm_m1023, nm_m2047, nm_m65535, Nat.reduceMod, Nat.reducePow, Nat.reduceAdd, Nat.reduceSub, Nat.reduceMul, nm_bo, nm_bi, nm_rc, nm_ic, nm_ri, nm_rl, nm_rq, nm_ql, nm_qi, nm_li, nm_us, nm_uu, nm_cp, nm_sa31, nm_sa7, nm_m127, nm_m2, nm_nz, nm_nzk, nm_eq32, nm_nzf, if_true, if_false, ↓reduceIte, if_pos, if_neg]
    · have hb : tk = 34 := by
        rcases hb with hb | hb
        · exact hb.1
        · exact absurd (hq hb) y
      subst hb
      unfold df_X15_scanNumber_154
      by_cases z : lg_cmp (y1 * y2 + q.toInt64) 4294967296 < nI 0
      · simp (disch := (first | assumption | decide | omega)) only [df_X15_scanNumber_180, df_X15_scanNumber_186, df_X15_scanNumber_204, mR_i1, mR_i2, mR_i3, mR_i4, mR_i5, mR_i6, mR_l, mR_r5, mR_r6, mR_r7, mR_q, mR_o, mR_i0, mR_r0, mR_wi1, mR_wi2, mR_wi3, mR_wi4, mR_wi5, mR_wi6, mR_wl, mR_wr5, mR_wr6, mR_wr7, mR_wq, y, z, eq_self, Nat.reduceEqDiff, Nat.reduceLeDiff, nl_0, nl_1, nl_2, nl_34, nl_99, no_1, no_1024, pk_mul, nI_add, nm_ck, nI_clamp, nI_ltI, nI_leI, nI_eq, nb_b2, nb_b1, ↓nb_let, nm_z0, nm_z1, nb_II, nb_IR, nb_RI, nb_RR, nm_IL, nm_IQ, nm_RL, nm_RQ, nm_LI, nm_LR, nm_LL, nm_LQ, nm_QI, nm_QR, nm_QL, nm_QQ, nm_rr, nm_ii, nm_eqm, not_false_eq_true, pk_sub, nm_div, nm_shl, nm_shr, nm_ush, nm_or8, nm_or64, nm_or256, nm_m1, nm_m3, nm_m7, nm_m15, nm_m31, nm_m63, nm_m255, nm_m511, nm_m1023, nm_m2047, nm_m65535, Nat.reduceMod, Nat.reducePow, Nat.reduceAdd, Nat.reduceSub, Nat.reduceMul, nm_bo, nm_bi, nm_rc, nm_ic, nm_ri, nm_rl, nm_rq, nm_ql, nm_qi, nm_li, nm_us, nm_uu, nm_cp, nm_sa31, nm_sa7, nm_m127, nm_m2, nm_nz, nm_nzk, nm_eq32, nm_nzf, if_true, if_false, ↓reduceIte, if_pos, if_neg]
      · simp (disch := (first | assumption | decide | omega)) only [df_X15_scanNumber_180, df_X15_scanNumber_186, df_X15_scanNumber_204, mR_i1, mR_i2, mR_i3, mR_i4, mR_i5, mR_i6, mR_l, mR_r5, mR_r6, mR_r7, mR_q, mR_o, mR_i0, mR_r0, mR_wi1, mR_wi2, mR_wi3, mR_wi4, mR_wi5, mR_wi6, mR_wl, mR_wr5, mR_wr6, mR_wr7, mR_wq, y, z, eq_self, Nat.reduceEqDiff, Nat.reduceLeDiff, nl_0, nl_1, nl_2, nl_34, nl_99, no_1, no_1024, pk_mul, nI_add, nm_ck, nI_clamp, nI_ltI, nI_leI, nI_eq, nb_b2, nb_b1, ↓nb_let, nm_z0, nm_z1, nb_II, nb_IR, nb_RI, nb_RR, nm_IL, nm_IQ, nm_RL, nm_RQ, nm_LI, nm_LR, nm_LL, nm_LQ, nm_QI, nm_QR, nm_QL, nm_QQ, nm_rr, nm_ii, nm_eqm, not_false_eq_true, pk_sub, nm_div, nm_shl, nm_shr, nm_ush, nm_or8, nm_or64, nm_or256, nm_m1, nm_m3, nm_m7, nm_m15, nm_m31, nm_m63, nm_m255, nm_m511, nm_m1023, nm_m2047, nm_m65535, Nat.reduceMod, Nat.reducePow, Nat.reduceAdd, Nat.reduceSub, Nat.reduceMul, nm_bo, nm_bi, nm_rc, nm_ic, nm_ri, nm_rl, nm_rq, nm_ql, nm_qi, nm_li, nm_us, nm_uu, nm_cp, nm_sa31, nm_sa7, nm_m127, nm_m2, nm_nz, nm_nzk, nm_eq32, nm_nzf, if_true, if_false, ↓reduceIte, if_pos, if_neg]
  unfold df_X15_scanNumber_134
  split
  · exact k _ _
  · exact k _ _
theorem nc_e (n Tp m : Nat) (hx : Int32) {tpe : St} {B : St} {cs tp os ap kd fr ft pt : Nat} {nm : Int64} {C S SA F T : Nat → Int32} {A : Nat → Int64} (hp : ap ≤ 120) : df_X2_readNumber_72 n Tp (m + 1) hx (nI ap) (tpe, mC B cs tp os ap kd fr ft pt nm C S SA F T A) = some (tpe, mC B cs tp os ap kd fr ft pt nm C S SA F T A) := by
  simp (disch := (first | assumption | decide | omega)) only [(show df_X2_readNumber_72 n Tp (m + 1) = dF_X2_readNumber_72 n Tp (df_X2_readNumber_72 n Tp m) from rfl), dF_X2_readNumber_72, df_X2_readNumber_171, df_X2_readNumber_146, df_X2_readNumber_128, df_X2_readNumber_127, df_X2_readNumber_71, df_X2_readNumber_48, df_X2_readNumber_47, df_X2_readNumber_0, df_X2_readNumber, mC_i0, mC_i1, mC_i2, mC_i5, mC_i6, mC_i7, mC_i8, mC_i9, mC_l, mC_r0, mC_r1, mC_r2, mC_r3, mC_r4, mC_q, mC_o, mC_i4, mC_wi0, mC_wi1, mC_wi2, mC_wi5, mC_wi6, mC_wi7, mC_wi8, mC_wi9, mC_wl, mC_wr0, mC_wr1, mC_wr2, mC_wr3, mC_wr4, mC_wq, eq_self, Nat.reduceEqDiff, Nat.reduceLeDiff, nl_0, nl_1, nl_2, nl_4, nl_5, nl_6, nl_7, nl_10, nl_16, nl_48, nl_97, nl_102, nl_120, nl_32768, nl_4294967295, no_1, no_1024, pk_mul, nI_add, nm_ck, nI_clamp, nI_ltI, nI_leI, nI_eq, nb_b2, nb_b1, ↓nb_let, nm_z0, nm_z1, nb_II, nb_IR, nb_RI, nb_RR, nm_IL, nm_IQ, nm_RL, nm_RQ, nm_LI, nm_LR, nm_LL, nm_LQ, nm_QI, nm_QR, nm_QL, nm_QQ, nm_rr, nm_ii, nm_eqm, not_false_eq_true, pk_sub, nm_div, nm_shl, nm_shr, nm_ush, nm_or8, nm_or64, nm_or256, nm_m1, nm_m3, nm_m7, nm_m15, nm_m31, nm_m63, nm_m255, nm_m511, nm_m1023, nm_m2047, nm_m65535, Nat.reduceMod, Nat.reducePow, Nat.reduceAdd, Nat.reduceSub, Nat.reduceMul, nm_bo, nm_bi, nm_rc, nm_ic, nm_ri, nm_rl, nm_rq, nm_ql, nm_qi, nm_li, nm_us, nm_uu, nm_cp, nm_sa31, nm_sa7, nm_m127, nm_m2, nm_nz, nm_nzk, nm_eq32, nm_nzf, if_true, if_false, ↓reduceIte, if_pos, if_neg]
theorem nr_e (n m : Nat) (hx : Int32) {B : St} {ap tk st ts op ft : Nat} {tv : Int64} {K P OA : Nat → Int32} {N : Nat → Int64} {X : St × St} (hp : ap ≤ 120) : df_X15_scanNumber_77 n (m + 1) hx (nI ap) (mR B ap tk st ts op ft tv K P OA N, X) = some (mR B ap tk st ts op ft tv K P OA N, X) := by
  simp (disch := (first | assumption | decide | omega)) only [(show df_X15_scanNumber_77 n (m + 1) = dF_X15_scanNumber_77 n (df_X15_scanNumber_77 n m) from rfl), dF_X15_scanNumber_77, df_X15_scanNumber_204, df_X15_scanNumber_186, df_X15_scanNumber_180, df_X15_scanNumber_154, df_X15_scanNumber_134, df_X15_scanNumber_132, df_X15_scanNumber_76, df_X15_scanNumber_48, df_X15_scanNumber_47, df_X15_scanNumber_0, df_X15_scanNumber, mR_i1, mR_i2, mR_i3, mR_i4, mR_i5, mR_i6, mR_l, mR_r5, mR_r6, mR_r7, mR_q, mR_o, mR_i0, mR_r0, mR_wi1, mR_wi2, mR_wi3, mR_wi4, mR_wi5, mR_wi6, mR_wl, mR_wr5, mR_wr6, mR_wr7, mR_wq, eq_self, Nat.reduceEqDiff, Nat.reduceLeDiff, nl_0, nl_1, nl_2, nl_3, nl_10, nl_16, nl_34, nl_48, nl_97, nl_99, nl_102, nl_120, no_1, no_1024, pk_mul, nI_add, nm_ck, nI_clamp, nI_ltI, nI_leI, nI_eq, nb_b2, nb_b1, ↓nb_let, nm_z0, nm_z1, nb_II, nb_IR, nb_RI, nb_RR, nm_IL, nm_IQ, nm_RL, nm_RQ, nm_LI, nm_LR, nm_LL, nm_LQ, nm_QI, nm_QR, nm_QL, nm_QQ, nm_rr, nm_ii, nm_eqm, not_false_eq_true, pk_sub, nm_div, nm_shl, nm_shr, nm_ush, nm_or8, nm_or64, nm_or256, nm_m1, nm_m3, nm_m7, nm_m15, nm_m31, nm_m63, nm_m255, nm_m511, nm_m1023, nm_m2047, nm_m65535, Nat.reduceMod, Nat.reducePow, Nat.reduceAdd, Nat.reduceSub, Nat.reduceMul, nm_bo, nm_bi, nm_rc, nm_ic, nm_ri, nm_rl, nm_rq, nm_ql, nm_qi, nm_li, nm_us, nm_uu, nm_cp, nm_sa31, nm_sa7, nm_m127, nm_m2, nm_nz, nm_nzk, nm_eq32, nm_nzf, if_true, if_false, ↓reduceIte, if_pos, if_neg]

/-- words -/
theorem sh8 (a c : Nat) (ha : a < 2 ^ 48) (hc : c < 256) : (Int64.ofNat a <<< ((8 : Int32).toInt64 &&& 63)) ||| (nI c).toInt64 = Int64.ofNat (a * 256 + c) := by
  have e : (8 : Int32).toInt64 &&& 63 = (8 : Int64) := by decide
  rw [e, n64 (by omega)]
  apply Int64.toBitVec_inj.mp
  have s : ((8 : Int64).toBitVec.smod 64) = 8#64 := by decide
  rw [Int64.toBitVec_or, Int64.toBitVec_shiftLeft, s]
  apply BitVec.eq_of_toNat_eq
  have k : a <<< 8 + c = a <<< 8 ||| c := Nat.shiftLeft_add_eq_or_of_lt (by omega) a
  rw [Nat.shiftLeft_eq] at k
  show ((BitVec.ofNat 64 a <<< 8#64) ||| BitVec.ofNat 64 c).toNat = (BitVec.ofNat 64 (a * 256 + c)).toNat
  rw [BitVec.toNat_or, BitVec.shiftLeft_eq', BitVec.toNat_shiftLeft, BitVec.toNat_ofNat, BitVec.toNat_ofNat, BitVec.toNat_ofNat, BitVec.toNat_ofNat, show (8 : Nat) % 2 ^ 64 = 8 from rfl, Nat.mod_eq_of_lt (show a < 2 ^ 64 by omega), Nat.mod_eq_of_lt (show c < 2 ^ 64 by omega), Nat.shiftLeft_eq, Nat.mod_eq_of_lt (show a * 2 ^ 8 < 2 ^ 64 by omega), Nat.mod_eq_of_lt (show a * 256 + c < 2 ^ 64 by omega)]
  exact k.symm
def pkN (z : Nat → Nat) (top : Nat) : Nat → Nat
  | 0 => 0
  | j + 1 => pkN z top j * 256 + z (top - j - 1)
theorem pkN_lt (z : Nat → Nat) (top : Nat) (hz : ∀ i : Nat, z i < 256) : ∀ j : Nat, pkN z top j < 256 ^ j
  | 0 => by show 0 < 1; omega
  | j + 1 => by
    have a := pkN_lt z top hz j
    have b := hz (top - j - 1)
    show pkN z top j * 256 + z (top - j - 1) < 256 ^ (j + 1)
    rw [Nat.pow_succ]
    omega
theorem m1I {a : Nat} (h : 0 < a) (h2 : a < 2 ^ 31) : nI a + Int32.ofInt (-1) = nI (a - 1) := by
  have e : nI a - nI 1 = nI (a - 1) := pk_sub h
  rw [← e, Int32.sub_eq_add_neg]
  rfl
theorem is_G (n q l wv : Nat) (z : Nat → Nat) (hz : ∀ i : Nat, z i < 127) (hl : 1 ≤ l) (hl2 : q + l ≤ 120) (hn : 130 < n) (hw : wv < 2 ^ 62) {B : St} {ap tk st ts op ft : Nat} {tv : Int64} {K P OA : Nat → Int32} {N : Nat → Int64} {X : St × St} (ht : ∀ i : Nat, i < q + l → sR B 0 i = nI (z i)) : df_X15_is n (nI q) (nI (q + l)) (Int64.ofNat wv) (mR B ap tk st ts op ft tv K P OA N, X) = some (if l < 8 ∧ pkN z (q + l) l = wv then nI 1 else nI 0, (mR B ap tk st ts op ft tv K P OA N, X)) := by
  obtain ⟨m, x, ⟨i1, _⟩, e⟩ := nm_l1 (fun g j x => df_X15_is_8 n g (nI q) (nI (q + l)) (Int64.ofNat wv) x (nI (q + l - j) + Int32.ofInt (-1)) (mR B ap tk st ts op ft tv K P OA N, X)) (fun j x => (l < 8 → x = Int64.ofNat (pkN z (q + l) j)) ∧ True) l n (by omega) (fun j m x hj ⟨i1, _⟩ => by
    have e1 : nI (q + l - j) + Int32.ofInt (-1) = nI (q + l - j - 1) := m1I (by omega) (by omega)
    have e2 : nI (q + l - (j + 1)) + Int32.ofInt (-1) = nI (q + l - j - 1) + Int32.ofInt (-1) := by rw [show q + l - (j + 1) = q + l - j - 1 by omega]
    have tx := ht (q + l - j - 1) (by omega)
    have n1 : ¬ q + l - j - 1 < q := by omega
    have hb : q + l - j - 1 < 120 := by omega
    refine ⟨x <<< ((nI 8).toInt64 &&& 63) ||| (nI (z (q + l - j - 1))).toInt64, ⟨fun l8 => ?_, trivial⟩, ?_⟩
    · rw [i1 l8]
      have b := pkN_lt z (q + l) (fun i => by have := hz i; omega) j
      have b2 : (256 : Nat) ^ j ≤ 256 ^ 6 := Nat.pow_le_pow_right (by omega) (by omega)
      exact sh8 _ _ (by have : (256 : Nat) ^ 6 = 2 ^ 48 := by decide
                        omega) (by have := hz (q + l - j - 1); omega)
    · show df_X15_is_8 n (m + 1) (nI q) (nI (q + l)) (Int64.ofNat wv) x (nI (q + l - j) + Int32.ofInt (-1)) (mR B ap tk st ts op ft tv K P OA N, X) = df_X15_is_8 n m (nI q) (nI (q + l)) (Int64.ofNat wv) (x <<< ((nI 8).toInt64 &&& 63) ||| (nI (z (q + l - j - 1))).toInt64) (nI (q + l - (j + 1)) + Int32.ofInt (-1)) (mR B ap tk st ts op ft tv K P OA N, X)
      rw [e2, e1]
      generalize q + l - j - 1 = y at tx n1 hb
      show dF_X15_is_8 n (df_X15_is_8 n m) _ _ _ _ _ _ = _
      unfold dF_X15_is_8
      simp (disch := (first | assumption | decide | omega)) only [mR_i1, mR_i2, mR_i3, mR_i4, mR_i5, mR_i6, mR_l, mR_r5, mR_r6, mR_r7, mR_q, mR_o, mR_i0, mR_r0, mR_wi1, mR_wi2, mR_wi3, mR_wi4, mR_wi5, mR_wi6, mR_wl, mR_wr5, mR_wr6, mR_wr7, mR_wq, tx, n1, eq_self, Nat.reduceEqDiff, Nat.reduceLeDiff, nl_8, no_1, no_1024, pk_mul, nI_add, nm_ck, nI_clamp, nI_ltI, nI_leI, nI_eq, nb_b2, nb_b1, ↓nb_let, nm_z0, nm_z1, nb_II, nb_IR, nb_RI, nb_RR, nm_IL, nm_IQ, nm_RL, nm_RQ, nm_LI, nm_LR, nm_LL, nm_LQ, nm_QI, nm_QR, nm_QL, nm_QQ, nm_rr, nm_ii, nm_eqm, not_false_eq_true, pk_sub, nm_div, nm_shl, nm_shr, nm_ush, nm_or8, nm_or64, nm_or256, nm_m1, nm_m3, nm_m7, nm_m15, nm_m31, nm_m63, nm_m255, nm_m511, nm_m1023, nm_m2047, nm_m65535, Nat.reduceMod, Nat.reducePow, Nat.reduceAdd, Nat.reduceSub, Nat.reduceMul, nm_bo, nm_bi, nm_rc, nm_ic, nm_ri, nm_rl, nm_rq, nm_ql, nm_qi, nm_li, nm_us, nm_uu, nm_cp, nm_sa31, nm_sa7, nm_m127, nm_m2, nm_nz, nm_nzk, nm_eq32, nm_nzf, if_true, if_false, ↓reduceIte, if_pos, if_neg]) 0 ⟨fun _ => rfl, trivial⟩
  have e0 : df_X15_is n (nI q) (nI (q + l)) (Int64.ofNat wv) (mR B ap tk st ts op ft tv K P OA N, X) = df_X15_is_8 n n (nI q) (nI (q + l)) (Int64.ofNat wv) 0 (nI (q + l - 0) + Int32.ofInt (-1)) (mR B ap tk st ts op ft tv K P OA N, X) := by
    have e1 : nI (q + l - 0) + Int32.ofInt (-1) = nI (q + l) - 1 := by
      rw [Int32.sub_eq_add_neg]
      rfl
    rw [e1]
    rfl
  rw [e0]
  refine Eq.trans e ?_
  show df_X15_is_8 n (m + 1) (nI q) (nI (q + l)) (Int64.ofNat wv) x (nI (q + l - l) + Int32.ofInt (-1)) (mR B ap tk st ts op ft tv K P OA N, X) = _
  have lt : nI (q + l - l) + Int32.ofInt (-1) < nI q := by
    rw [Nat.add_sub_cancel, Int32.lt_iff_toInt_lt, Int32.toInt_add, nI_toInt (by omega), show (Int32.ofInt (-1)).toInt = -1 from by decide]
    rw [Int.bmod_eq_of_le (by omega) (by omega)]
    omega
  have w1 : nI (q + l) - nI q = nI l := by rw [pk_sub (by omega)]; congr 1; omega
  show dF_X15_is_8 n (df_X15_is_8 n m) _ _ _ _ _ _ = _
  unfold dF_X15_is_8 df_X15_is_55 df_X15_is_56
  rw [if_pos lt, w1]
  by_cases l8 : l < 8
  · rw [if_neg (show ¬ (8 : Int32) ≤ nI l from fun y => by have y : nI 8 ≤ nI l := y; rw [nI_leI (by omega) (by omega)] at y; omega), i1 l8]
    have b := pkN_lt z (q + l) (fun i => by have := hz i; omega) l
    have b2 : (256 : Nat) ^ l ≤ 256 ^ 7 := Nat.pow_le_pow_right (by omega) (by omega)
    have b3 : (256 : Nat) ^ 7 < 2 ^ 62 := by decide
    by_cases y : pkN z (q + l) l = wv
    · rw [y, if_pos ((lcE _ _).mpr rfl), if_pos ⟨l8, rfl⟩]
      exact nm_z1
    · rw [if_neg (fun v => y (by
        have v := congrArg Int64.toInt ((lcE _ _).mp v)
        rw [Int64.toInt_ofNat_of_lt (by omega), Int64.toInt_ofNat_of_lt (by omega)] at v
        omega)), if_neg (fun v => y v.2)]
      exact nm_z0
  · rw [if_pos (show (8 : Int32) ≤ nI l from (show nI 8 ≤ nI l from (nI_leI (by omega) (by omega)).mpr (by omega))), if_neg (fun v => l8 v.1)]
    exact nm_z0
theorem pk_21 {q l : Nat} {z : Nat → Nat} (hl : 1 ≤ l) (hz : ∀ i : Nat, i < q + l → 32 ≤ z i ∧ z i ≤ 126) : (l < 8 ∧ pkN z (q + l) l = 25456) ↔ (l = 2 ∧ z q = 112 ∧ z (q + 1) = 99) := by
  by_cases h8 : 8 ≤ l
  · exact ⟨fun h => by omega, fun h => by omega⟩
  · have hh : l = 1 ∨ l = 2 ∨ l = 3 ∨ l = 4 ∨ l = 5 ∨ l = 6 ∨ l = 7 := by omega
    rcases hh with rfl | rfl | rfl | rfl | rfl | rfl | rfl
    · have h0 := hz q (by omega)
      have e : pkN z (q + 1) 1 = (0) * 256 + z q := rfl
      rw [e]
      omega
    · have h0 := hz q (by omega)
      have h1 := hz (q + 1) (by omega)
      have e : pkN z (q + 2) 2 = ((0) * 256 + z (q + 1)) * 256 + z q := rfl
      rw [e]
      omega
    · have h0 := hz q (by omega)
      have h1 := hz (q + 1) (by omega)
      have h2 := hz (q + 2) (by omega)
      have e : pkN z (q + 3) 3 = (((0) * 256 + z (q + 2)) * 256 + z (q + 1)) * 256 + z q := rfl
      rw [e]
      omega
    · have h0 := hz q (by omega)
      have h1 := hz (q + 1) (by omega)
      have h2 := hz (q + 2) (by omega)
      have h3 := hz (q + 3) (by omega)
      have e : pkN z (q + 4) 4 = ((((0) * 256 + z (q + 3)) * 256 + z (q + 2)) * 256 + z (q + 1)) * 256 + z q := rfl
      rw [e]
      omega
    · have h0 := hz q (by omega)
      have h1 := hz (q + 1) (by omega)
      have h2 := hz (q + 2) (by omega)
      have h3 := hz (q + 3) (by omega)
      have h4 := hz (q + 4) (by omega)
      have e : pkN z (q + 5) 5 = (((((0) * 256 + z (q + 4)) * 256 + z (q + 3)) * 256 + z (q + 2)) * 256 + z (q + 1)) * 256 + z q := rfl
      rw [e]
      omega
    · have h0 := hz q (by omega)
      have h1 := hz (q + 1) (by omega)
      have h2 := hz (q + 2) (by omega)
      have h3 := hz (q + 3) (by omega)
      have h4 := hz (q + 4) (by omega)
      have h5 := hz (q + 5) (by omega)
      have e : pkN z (q + 6) 6 = ((((((0) * 256 + z (q + 5)) * 256 + z (q + 4)) * 256 + z (q + 3)) * 256 + z (q + 2)) * 256 + z (q + 1)) * 256 + z q := rfl
      rw [e]
      omega
    · have h0 := hz q (by omega)
      have h1 := hz (q + 1) (by omega)
      have h2 := hz (q + 2) (by omega)
      have h3 := hz (q + 3) (by omega)
      have h4 := hz (q + 4) (by omega)
      have h5 := hz (q + 5) (by omega)
      have h6 := hz (q + 6) (by omega)
      have e : pkN z (q + 7) 7 = (((((((0) * 256 + z (q + 6)) * 256 + z (q + 5)) * 256 + z (q + 4)) * 256 + z (q + 3)) * 256 + z (q + 2)) * 256 + z (q + 1)) * 256 + z q := rfl
      rw [e]
      omega
theorem pk_22 {q l : Nat} {z : Nat → Nat} (hl : 1 ≤ l) (hz : ∀ i : Nat, i < q + l → 32 ≤ z i ∧ z i ≤ 126) : (l < 8 ∧ pkN z (q + l) l = 6580592) ↔ (l = 3 ∧ z q = 112 ∧ z (q + 1) = 105 ∧ z (q + 2) = 100) := by
  by_cases h8 : 8 ≤ l
  · exact ⟨fun h => by omega, fun h => by omega⟩
  · have hh : l = 1 ∨ l = 2 ∨ l = 3 ∨ l = 4 ∨ l = 5 ∨ l = 6 ∨ l = 7 := by omega
    rcases hh with rfl | rfl | rfl | rfl | rfl | rfl | rfl
    · have h0 := hz q (by omega)
      have e : pkN z (q + 1) 1 = (0) * 256 + z q := rfl
      rw [e]
      omega
    · have h0 := hz q (by omega)
      have h1 := hz (q + 1) (by omega)
      have e : pkN z (q + 2) 2 = ((0) * 256 + z (q + 1)) * 256 + z q := rfl
      rw [e]
      omega
    · have h0 := hz q (by omega)
      have h1 := hz (q + 1) (by omega)
      have h2 := hz (q + 2) (by omega)
      have e : pkN z (q + 3) 3 = (((0) * 256 + z (q + 2)) * 256 + z (q + 1)) * 256 + z q := rfl
      rw [e]
      omega
    · have h0 := hz q (by omega)
      have h1 := hz (q + 1) (by omega)
      have h2 := hz (q + 2) (by omega)
      have h3 := hz (q + 3) (by omega)
      have e : pkN z (q + 4) 4 = ((((0) * 256 + z (q + 3)) * 256 + z (q + 2)) * 256 + z (q + 1)) * 256 + z q := rfl
      rw [e]
      omega
    · have h0 := hz q (by omega)
      have h1 := hz (q + 1) (by omega)
      have h2 := hz (q + 2) (by omega)
      have h3 := hz (q + 3) (by omega)
      have h4 := hz (q + 4) (by omega)
      have e : pkN z (q + 5) 5 = (((((0) * 256 + z (q + 4)) * 256 + z (q + 3)) * 256 + z (q + 2)) * 256 + z (q + 1)) * 256 + z q := rfl
      rw [e]
      omega
    · have h0 := hz q (by omega)
      have h1 := hz (q + 1) (by omega)
      have h2 := hz (q + 2) (by omega)
      have h3 := hz (q + 3) (by omega)
      have h4 := hz (q + 4) (by omega)
      have h5 := hz (q + 5) (by omega)
      have e : pkN z (q + 6) 6 = ((((((0) * 256 + z (q + 5)) * 256 + z (q + 4)) * 256 + z (q + 3)) * 256 + z (q + 2)) * 256 + z (q + 1)) * 256 + z q := rfl
      rw [e]
      omega
    · have h0 := hz q (by omega)
      have h1 := hz (q + 1) (by omega)
      have h2 := hz (q + 2) (by omega)
      have h3 := hz (q + 3) (by omega)
      have h4 := hz (q + 4) (by omega)
      have h5 := hz (q + 5) (by omega)
      have h6 := hz (q + 6) (by omega)
      have e : pkN z (q + 7) 7 = (((((((0) * 256 + z (q + 6)) * 256 + z (q + 5)) * 256 + z (q + 4)) * 256 + z (q + 3)) * 256 + z (q + 2)) * 256 + z (q + 1)) * 256 + z q := rfl
      rw [e]
      omega
theorem pk_23 {q l : Nat} {z : Nat → Nat} (hl : 1 ≤ l) (hz : ∀ i : Nat, i < q + l → 32 ≤ z i ∧ z i ≤ 126) : (l < 8 ∧ pkN z (q + l) l = 500069396323) ↔ (l = 5 ∧ z q = 99 ∧ z (q + 1) = 111 ∧ z (q + 2) = 117 ∧ z (q + 3) = 110 ∧ z (q + 4) = 116) := by
  by_cases h8 : 8 ≤ l
  · exact ⟨fun h => by omega, fun h => by omega⟩
  · have hh : l = 1 ∨ l = 2 ∨ l = 3 ∨ l = 4 ∨ l = 5 ∨ l = 6 ∨ l = 7 := by omega
    rcases hh with rfl | rfl | rfl | rfl | rfl | rfl | rfl
    · have h0 := hz q (by omega)
      have e : pkN z (q + 1) 1 = (0) * 256 + z q := rfl
      rw [e]
      omega
    · have h0 := hz q (by omega)
      have h1 := hz (q + 1) (by omega)
      have e : pkN z (q + 2) 2 = ((0) * 256 + z (q + 1)) * 256 + z q := rfl
      rw [e]
      omega
    · have h0 := hz q (by omega)
      have h1 := hz (q + 1) (by omega)
      have h2 := hz (q + 2) (by omega)
      have e : pkN z (q + 3) 3 = (((0) * 256 + z (q + 2)) * 256 + z (q + 1)) * 256 + z q := rfl
      rw [e]
      omega
    · have h0 := hz q (by omega)
      have h1 := hz (q + 1) (by omega)
      have h2 := hz (q + 2) (by omega)
      have h3 := hz (q + 3) (by omega)
      have e : pkN z (q + 4) 4 = ((((0) * 256 + z (q + 3)) * 256 + z (q + 2)) * 256 + z (q + 1)) * 256 + z q := rfl
      rw [e]
      omega
    · have h0 := hz q (by omega)
      have h1 := hz (q + 1) (by omega)
      have h2 := hz (q + 2) (by omega)
      have h3 := hz (q + 3) (by omega)
      have h4 := hz (q + 4) (by omega)
      have e : pkN z (q + 5) 5 = (((((0) * 256 + z (q + 4)) * 256 + z (q + 3)) * 256 + z (q + 2)) * 256 + z (q + 1)) * 256 + z q := rfl
      rw [e]
      omega
    · have h0 := hz q (by omega)
      have h1 := hz (q + 1) (by omega)
      have h2 := hz (q + 2) (by omega)
      have h3 := hz (q + 3) (by omega)
      have h4 := hz (q + 4) (by omega)
      have h5 := hz (q + 5) (by omega)
      have e : pkN z (q + 6) 6 = ((((((0) * 256 + z (q + 5)) * 256 + z (q + 4)) * 256 + z (q + 3)) * 256 + z (q + 2)) * 256 + z (q + 1)) * 256 + z q := rfl
      rw [e]
      omega
    · have h0 := hz q (by omega)
      have h1 := hz (q + 1) (by omega)
      have h2 := hz (q + 2) (by omega)
      have h3 := hz (q + 3) (by omega)
      have h4 := hz (q + 4) (by omega)
      have h5 := hz (q + 5) (by omega)
      have h6 := hz (q + 6) (by omega)
      have e : pkN z (q + 7) 7 = (((((((0) * 256 + z (q + 6)) * 256 + z (q + 5)) * 256 + z (q + 4)) * 256 + z (q + 3)) * 256 + z (q + 2)) * 256 + z (q + 1)) * 256 + z q := rfl
      rw [e]
      omega
theorem pk_24 {q l : Nat} {z : Nat → Nat} (hl : 1 ≤ l) (hz : ∀ i : Nat, i < q + l → 32 ≤ z i ∧ z i ≤ 126) : (l < 8 ∧ pkN z (q + l) l = 1702132066) ↔ (l = 4 ∧ z q = 98 ∧ z (q + 1) = 121 ∧ z (q + 2) = 116 ∧ z (q + 3) = 101) := by
  by_cases h8 : 8 ≤ l
  · exact ⟨fun h => by omega, fun h => by omega⟩
  · have hh : l = 1 ∨ l = 2 ∨ l = 3 ∨ l = 4 ∨ l = 5 ∨ l = 6 ∨ l = 7 := by omega
    rcases hh with rfl | rfl | rfl | rfl | rfl | rfl | rfl
    · have h0 := hz q (by omega)
      have e : pkN z (q + 1) 1 = (0) * 256 + z q := rfl
      rw [e]
      omega
    · have h0 := hz q (by omega)
      have h1 := hz (q + 1) (by omega)
      have e : pkN z (q + 2) 2 = ((0) * 256 + z (q + 1)) * 256 + z q := rfl
      rw [e]
      omega
    · have h0 := hz q (by omega)
      have h1 := hz (q + 1) (by omega)
      have h2 := hz (q + 2) (by omega)
      have e : pkN z (q + 3) 3 = (((0) * 256 + z (q + 2)) * 256 + z (q + 1)) * 256 + z q := rfl
      rw [e]
      omega
    · have h0 := hz q (by omega)
      have h1 := hz (q + 1) (by omega)
      have h2 := hz (q + 2) (by omega)
      have h3 := hz (q + 3) (by omega)
      have e : pkN z (q + 4) 4 = ((((0) * 256 + z (q + 3)) * 256 + z (q + 2)) * 256 + z (q + 1)) * 256 + z q := rfl
      rw [e]
      omega
    · have h0 := hz q (by omega)
      have h1 := hz (q + 1) (by omega)
      have h2 := hz (q + 2) (by omega)
      have h3 := hz (q + 3) (by omega)
      have h4 := hz (q + 4) (by omega)
      have e : pkN z (q + 5) 5 = (((((0) * 256 + z (q + 4)) * 256 + z (q + 3)) * 256 + z (q + 2)) * 256 + z (q + 1)) * 256 + z q := rfl
      rw [e]
      omega
    · have h0 := hz q (by omega)
      have h1 := hz (q + 1) (by omega)
      have h2 := hz (q + 2) (by omega)
      have h3 := hz (q + 3) (by omega)
      have h4 := hz (q + 4) (by omega)
      have h5 := hz (q + 5) (by omega)
      have e : pkN z (q + 6) 6 = ((((((0) * 256 + z (q + 5)) * 256 + z (q + 4)) * 256 + z (q + 3)) * 256 + z (q + 2)) * 256 + z (q + 1)) * 256 + z q := rfl
      rw [e]
      omega
    · have h0 := hz q (by omega)
      have h1 := hz (q + 1) (by omega)
      have h2 := hz (q + 2) (by omega)
      have h3 := hz (q + 3) (by omega)
      have h4 := hz (q + 4) (by omega)
      have h5 := hz (q + 5) (by omega)
      have h6 := hz (q + 6) (by omega)
      have e : pkN z (q + 7) 7 = (((((((0) * 256 + z (q + 6)) * 256 + z (q + 5)) * 256 + z (q + 4)) * 256 + z (q + 3)) * 256 + z (q + 2)) * 256 + z (q + 1)) * 256 + z q := rfl
      rw [e]
      omega
theorem pk_25 {q l : Nat} {z : Nat → Nat} (hl : 1 ≤ l) (hz : ∀ i : Nat, i < q + l → 32 ≤ z i ∧ z i ≤ 126) : (l < 8 ∧ pkN z (q + l) l = 1718378856) ↔ (l = 4 ∧ z q = 104 ∧ z (q + 1) = 97 ∧ z (q + 2) = 108 ∧ z (q + 3) = 102) := by
  by_cases h8 : 8 ≤ l
  · exact ⟨fun h => by omega, fun h => by omega⟩
  · have hh : l = 1 ∨ l = 2 ∨ l = 3 ∨ l = 4 ∨ l = 5 ∨ l = 6 ∨ l = 7 := by omega
    rcases hh with rfl | rfl | rfl | rfl | rfl | rfl | rfl
    · have h0 := hz q (by omega)
      have e : pkN z (q + 1) 1 = (0) * 256 + z q := rfl
      rw [e]
      omega
    · have h0 := hz q (by omega)
      have h1 := hz (q + 1) (by omega)
      have e : pkN z (q + 2) 2 = ((0) * 256 + z (q + 1)) * 256 + z q := rfl
      rw [e]
      omega
    · have h0 := hz q (by omega)
      have h1 := hz (q + 1) (by omega)
      have h2 := hz (q + 2) (by omega)
      have e : pkN z (q + 3) 3 = (((0) * 256 + z (q + 2)) * 256 + z (q + 1)) * 256 + z q := rfl
      rw [e]
      omega
    · have h0 := hz q (by omega)
      have h1 := hz (q + 1) (by omega)
      have h2 := hz (q + 2) (by omega)
      have h3 := hz (q + 3) (by omega)
      have e : pkN z (q + 4) 4 = ((((0) * 256 + z (q + 3)) * 256 + z (q + 2)) * 256 + z (q + 1)) * 256 + z q := rfl
      rw [e]
      omega
    · have h0 := hz q (by omega)
      have h1 := hz (q + 1) (by omega)
      have h2 := hz (q + 2) (by omega)
      have h3 := hz (q + 3) (by omega)
      have h4 := hz (q + 4) (by omega)
      have e : pkN z (q + 5) 5 = (((((0) * 256 + z (q + 4)) * 256 + z (q + 3)) * 256 + z (q + 2)) * 256 + z (q + 1)) * 256 + z q := rfl
      rw [e]
      omega
    · have h0 := hz q (by omega)
      have h1 := hz (q + 1) (by omega)
      have h2 := hz (q + 2) (by omega)
      have h3 := hz (q + 3) (by omega)
      have h4 := hz (q + 4) (by omega)
      have h5 := hz (q + 5) (by omega)
      have e : pkN z (q + 6) 6 = ((((((0) * 256 + z (q + 5)) * 256 + z (q + 4)) * 256 + z (q + 3)) * 256 + z (q + 2)) * 256 + z (q + 1)) * 256 + z q := rfl
      rw [e]
      omega
    · have h0 := hz q (by omega)
      have h1 := hz (q + 1) (by omega)
      have h2 := hz (q + 2) (by omega)
      have h3 := hz (q + 3) (by omega)
      have h4 := hz (q + 4) (by omega)
      have h5 := hz (q + 5) (by omega)
      have h6 := hz (q + 6) (by omega)
      have e : pkN z (q + 7) 7 = (((((((0) * 256 + z (q + 6)) * 256 + z (q + 5)) * 256 + z (q + 4)) * 256 + z (q + 3)) * 256 + z (q + 2)) * 256 + z (q + 1)) * 256 + z q := rfl
      rw [e]
      omega
theorem pk_26 {q l : Nat} {z : Nat → Nat} (hl : 1 ≤ l) (hz : ∀ i : Nat, i < q + l → 32 ≤ z i ∧ z i ≤ 126) : (l < 8 ∧ pkN z (q + l) l = 6581359) ↔ (l = 3 ∧ z q = 111 ∧ z (q + 1) = 108 ∧ z (q + 2) = 100) := by
  by_cases h8 : 8 ≤ l
  · exact ⟨fun h => by omega, fun h => by omega⟩
  · have hh : l = 1 ∨ l = 2 ∨ l = 3 ∨ l = 4 ∨ l = 5 ∨ l = 6 ∨ l = 7 := by omega
    rcases hh with rfl | rfl | rfl | rfl | rfl | rfl | rfl
    · have h0 := hz q (by omega)
      have e : pkN z (q + 1) 1 = (0) * 256 + z q := rfl
      rw [e]
      omega
    · have h0 := hz q (by omega)
      have h1 := hz (q + 1) (by omega)
      have e : pkN z (q + 2) 2 = ((0) * 256 + z (q + 1)) * 256 + z q := rfl
      rw [e]
      omega
    · have h0 := hz q (by omega)
      have h1 := hz (q + 1) (by omega)
      have h2 := hz (q + 2) (by omega)
      have e : pkN z (q + 3) 3 = (((0) * 256 + z (q + 2)) * 256 + z (q + 1)) * 256 + z q := rfl
      rw [e]
      omega
    · have h0 := hz q (by omega)
      have h1 := hz (q + 1) (by omega)
      have h2 := hz (q + 2) (by omega)
      have h3 := hz (q + 3) (by omega)
      have e : pkN z (q + 4) 4 = ((((0) * 256 + z (q + 3)) * 256 + z (q + 2)) * 256 + z (q + 1)) * 256 + z q := rfl
      rw [e]
      omega
    · have h0 := hz q (by omega)
      have h1 := hz (q + 1) (by omega)
      have h2 := hz (q + 2) (by omega)
      have h3 := hz (q + 3) (by omega)
      have h4 := hz (q + 4) (by omega)
      have e : pkN z (q + 5) 5 = (((((0) * 256 + z (q + 4)) * 256 + z (q + 3)) * 256 + z (q + 2)) * 256 + z (q + 1)) * 256 + z q := rfl
      rw [e]
      omega
    · have h0 := hz q (by omega)
      have h1 := hz (q + 1) (by omega)
      have h2 := hz (q + 2) (by omega)
      have h3 := hz (q + 3) (by omega)
      have h4 := hz (q + 4) (by omega)
      have h5 := hz (q + 5) (by omega)
      have e : pkN z (q + 6) 6 = ((((((0) * 256 + z (q + 5)) * 256 + z (q + 4)) * 256 + z (q + 3)) * 256 + z (q + 2)) * 256 + z (q + 1)) * 256 + z q := rfl
      rw [e]
      omega
    · have h0 := hz q (by omega)
      have h1 := hz (q + 1) (by omega)
      have h2 := hz (q + 2) (by omega)
      have h3 := hz (q + 3) (by omega)
      have h4 := hz (q + 4) (by omega)
      have h5 := hz (q + 5) (by omega)
      have h6 := hz (q + 6) (by omega)
      have e : pkN z (q + 7) 7 = (((((((0) * 256 + z (q + 6)) * 256 + z (q + 5)) * 256 + z (q + 4)) * 256 + z (q + 3)) * 256 + z (q + 2)) * 256 + z (q + 1)) * 256 + z q := rfl
      rw [e]
      omega
theorem pk_27 {q l : Nat} {z : Nat → Nat} (hl : 1 ≤ l) (hz : ∀ i : Nat, i < q + l → 32 ≤ z i ∧ z i ≤ 126) : (l < 8 ∧ pkN z (q + l) l = 28258992578979939) ↔ (l = 7 ∧ z q = 99 ∧ z (q + 1) = 104 ∧ z (q + 2) = 97 ∧ z (q + 3) = 110 ∧ z (q + 4) = 103 ∧ z (q + 5) = 101 ∧ z (q + 6) = 100) := by
  by_cases h8 : 8 ≤ l
  · exact ⟨fun h => by omega, fun h => by omega⟩
  · have hh : l = 1 ∨ l = 2 ∨ l = 3 ∨ l = 4 ∨ l = 5 ∨ l = 6 ∨ l = 7 := by omega
    rcases hh with rfl | rfl | rfl | rfl | rfl | rfl | rfl
    · have h0 := hz q (by omega)
      have e : pkN z (q + 1) 1 = (0) * 256 + z q := rfl
      rw [e]
      omega
    · have h0 := hz q (by omega)
      have h1 := hz (q + 1) (by omega)
      have e : pkN z (q + 2) 2 = ((0) * 256 + z (q + 1)) * 256 + z q := rfl
      rw [e]
      omega
    · have h0 := hz q (by omega)
      have h1 := hz (q + 1) (by omega)
      have h2 := hz (q + 2) (by omega)
      have e : pkN z (q + 3) 3 = (((0) * 256 + z (q + 2)) * 256 + z (q + 1)) * 256 + z q := rfl
      rw [e]
      omega
    · have h0 := hz q (by omega)
      have h1 := hz (q + 1) (by omega)
      have h2 := hz (q + 2) (by omega)
      have h3 := hz (q + 3) (by omega)
      have e : pkN z (q + 4) 4 = ((((0) * 256 + z (q + 3)) * 256 + z (q + 2)) * 256 + z (q + 1)) * 256 + z q := rfl
      rw [e]
      omega
    · have h0 := hz q (by omega)
      have h1 := hz (q + 1) (by omega)
      have h2 := hz (q + 2) (by omega)
      have h3 := hz (q + 3) (by omega)
      have h4 := hz (q + 4) (by omega)
      have e : pkN z (q + 5) 5 = (((((0) * 256 + z (q + 4)) * 256 + z (q + 3)) * 256 + z (q + 2)) * 256 + z (q + 1)) * 256 + z q := rfl
      rw [e]
      omega
    · have h0 := hz q (by omega)
      have h1 := hz (q + 1) (by omega)
      have h2 := hz (q + 2) (by omega)
      have h3 := hz (q + 3) (by omega)
      have h4 := hz (q + 4) (by omega)
      have h5 := hz (q + 5) (by omega)
      have e : pkN z (q + 6) 6 = ((((((0) * 256 + z (q + 5)) * 256 + z (q + 4)) * 256 + z (q + 3)) * 256 + z (q + 2)) * 256 + z (q + 1)) * 256 + z q := rfl
      rw [e]
      omega
    · have h0 := hz q (by omega)
      have h1 := hz (q + 1) (by omega)
      have h2 := hz (q + 2) (by omega)
      have h3 := hz (q + 3) (by omega)
      have h4 := hz (q + 4) (by omega)
      have h5 := hz (q + 5) (by omega)
      have h6 := hz (q + 6) (by omega)
      have e : pkN z (q + 7) 7 = (((((((0) * 256 + z (q + 6)) * 256 + z (q + 5)) * 256 + z (q + 4)) * 256 + z (q + 3)) * 256 + z (q + 2)) * 256 + z (q + 1)) * 256 + z q := rfl
      rw [e]
      omega
theorem wq_10 {q l : Nat} {z : Nat → Nat} {R : Nat → Int32} (hz : ∀ i : Nat, i < q + l → R i = nI (z i) ∧ z i ≤ 126) : wq 10 q l R ↔ (l = 4 ∧ z q = 122 ∧ z (q + 1) = 101 ∧ z (q + 2) = 114 ∧ z (q + 3) = 111) := by
  have kn : ks_n 10 = 4 := by decide +kernel
  have k0 : ks_b 10 0 = nI 122 := by decide +kernel
  have k1 : ks_b 10 1 = nI 101 := by decide +kernel
  have k2 : ks_b 10 2 = nI 114 := by decide +kernel
  have k3 : ks_b 10 3 = nI 111 := by decide +kernel
  unfold wq
  rw [kn]
  constructor
  · rintro ⟨h1, h2⟩
    subst h1
    have a0 := h2 0 (by omega)
    rw [k0, (hz (q + 0) (by omega)).1, nI_eq (by have := (hz (q + 0) (by omega)).2; omega) (by omega)] at a0
    have a1 := h2 1 (by omega)
    rw [k1, (hz (q + 1) (by omega)).1, nI_eq (by have := (hz (q + 1) (by omega)).2; omega) (by omega)] at a1
    have a2 := h2 2 (by omega)
    rw [k2, (hz (q + 2) (by omega)).1, nI_eq (by have := (hz (q + 2) (by omega)).2; omega) (by omega)] at a2
    have a3 := h2 3 (by omega)
    rw [k3, (hz (q + 3) (by omega)).1, nI_eq (by have := (hz (q + 3) (by omega)).2; omega) (by omega)] at a3
    exact ⟨rfl, a0, a1, a2, a3⟩
  · intro h
    obtain ⟨h1, a0, a1, a2, a3⟩ := h
    subst h1
    refine ⟨rfl, fun i hi => ?_⟩
    have hh : i = 0 ∨ i = 1 ∨ i = 2 ∨ i = 3 := by omega
    rcases hh with rfl | rfl | rfl | rfl
    · rw [k0, (hz (q + 0) (by omega)).1]
      exact congrArg nI a0
    · rw [k1, (hz (q + 1) (by omega)).1]
      exact congrArg nI a1
    · rw [k2, (hz (q + 2) (by omega)).1]
      exact congrArg nI a2
    · rw [k3, (hz (q + 3) (by omega)).1]
      exact congrArg nI a3
theorem wq_18 {q l : Nat} {z : Nat → Nat} {R : Nat → Int32} (hz : ∀ i : Nat, i < q + l → R i = nI (z i) ∧ z i ≤ 126) : wq 18 q l R ↔ (l = 2 ∧ z q = 102 ∧ z (q + 1) = 112) := by
  have kn : ks_n 18 = 2 := by decide +kernel
  have k0 : ks_b 18 0 = nI 102 := by decide +kernel
  have k1 : ks_b 18 1 = nI 112 := by decide +kernel
  unfold wq
  rw [kn]
  constructor
  · rintro ⟨h1, h2⟩
    subst h1
    have a0 := h2 0 (by omega)
    rw [k0, (hz (q + 0) (by omega)).1, nI_eq (by have := (hz (q + 0) (by omega)).2; omega) (by omega)] at a0
    have a1 := h2 1 (by omega)
    rw [k1, (hz (q + 1) (by omega)).1, nI_eq (by have := (hz (q + 1) (by omega)).2; omega) (by omega)] at a1
    exact ⟨rfl, a0, a1⟩
  · intro h
    obtain ⟨h1, a0, a1⟩ := h
    subst h1
    refine ⟨rfl, fun i hi => ?_⟩
    have hh : i = 0 ∨ i = 1 := by omega
    rcases hh with rfl | rfl
    · rw [k0, (hz (q + 0) (by omega)).1]
      exact congrArg nI a0
    · rw [k1, (hz (q + 1) (by omega)).1]
      exact congrArg nI a1
theorem wq_21 {q l : Nat} {z : Nat → Nat} {R : Nat → Int32} (hz : ∀ i : Nat, i < q + l → R i = nI (z i) ∧ z i ≤ 126) : wq 21 q l R ↔ (l = 2 ∧ z q = 112 ∧ z (q + 1) = 99) := by
  have kn : ks_n 21 = 2 := by decide +kernel
  have k0 : ks_b 21 0 = nI 112 := by decide +kernel
  have k1 : ks_b 21 1 = nI 99 := by decide +kernel
  unfold wq
  rw [kn]
  constructor
  · rintro ⟨h1, h2⟩
    subst h1
    have a0 := h2 0 (by omega)
    rw [k0, (hz (q + 0) (by omega)).1, nI_eq (by have := (hz (q + 0) (by omega)).2; omega) (by omega)] at a0
    have a1 := h2 1 (by omega)
    rw [k1, (hz (q + 1) (by omega)).1, nI_eq (by have := (hz (q + 1) (by omega)).2; omega) (by omega)] at a1
    exact ⟨rfl, a0, a1⟩
  · intro h
    obtain ⟨h1, a0, a1⟩ := h
    subst h1
    refine ⟨rfl, fun i hi => ?_⟩
    have hh : i = 0 ∨ i = 1 := by omega
    rcases hh with rfl | rfl
    · rw [k0, (hz (q + 0) (by omega)).1]
      exact congrArg nI a0
    · rw [k1, (hz (q + 1) (by omega)).1]
      exact congrArg nI a1
theorem wq_22 {q l : Nat} {z : Nat → Nat} {R : Nat → Int32} (hz : ∀ i : Nat, i < q + l → R i = nI (z i) ∧ z i ≤ 126) : wq 22 q l R ↔ (l = 3 ∧ z q = 112 ∧ z (q + 1) = 105 ∧ z (q + 2) = 100) := by
  have kn : ks_n 22 = 3 := by decide +kernel
  have k0 : ks_b 22 0 = nI 112 := by decide +kernel
  have k1 : ks_b 22 1 = nI 105 := by decide +kernel
  have k2 : ks_b 22 2 = nI 100 := by decide +kernel
  unfold wq
  rw [kn]
  constructor
  · rintro ⟨h1, h2⟩
    subst h1
    have a0 := h2 0 (by omega)
    rw [k0, (hz (q + 0) (by omega)).1, nI_eq (by have := (hz (q + 0) (by omega)).2; omega) (by omega)] at a0
    have a1 := h2 1 (by omega)
    rw [k1, (hz (q + 1) (by omega)).1, nI_eq (by have := (hz (q + 1) (by omega)).2; omega) (by omega)] at a1
    have a2 := h2 2 (by omega)
    rw [k2, (hz (q + 2) (by omega)).1, nI_eq (by have := (hz (q + 2) (by omega)).2; omega) (by omega)] at a2
    exact ⟨rfl, a0, a1, a2⟩
  · intro h
    obtain ⟨h1, a0, a1, a2⟩ := h
    subst h1
    refine ⟨rfl, fun i hi => ?_⟩
    have hh : i = 0 ∨ i = 1 ∨ i = 2 := by omega
    rcases hh with rfl | rfl | rfl
    · rw [k0, (hz (q + 0) (by omega)).1]
      exact congrArg nI a0
    · rw [k1, (hz (q + 1) (by omega)).1]
      exact congrArg nI a1
    · rw [k2, (hz (q + 2) (by omega)).1]
      exact congrArg nI a2
theorem wq_23 {q l : Nat} {z : Nat → Nat} {R : Nat → Int32} (hz : ∀ i : Nat, i < q + l → R i = nI (z i) ∧ z i ≤ 126) : wq 23 q l R ↔ (l = 5 ∧ z q = 99 ∧ z (q + 1) = 111 ∧ z (q + 2) = 117 ∧ z (q + 3) = 110 ∧ z (q + 4) = 116) := by
  have kn : ks_n 23 = 5 := by decide +kernel
  have k0 : ks_b 23 0 = nI 99 := by decide +kernel
  have k1 : ks_b 23 1 = nI 111 := by decide +kernel
  have k2 : ks_b 23 2 = nI 117 := by decide +kernel
  have k3 : ks_b 23 3 = nI 110 := by decide +kernel
  have k4 : ks_b 23 4 = nI 116 := by decide +kernel
  unfold wq
  rw [kn]
  constructor
  · rintro ⟨h1, h2⟩
    subst h1
    have a0 := h2 0 (by omega)
    rw [k0, (hz (q + 0) (by omega)).1, nI_eq (by have := (hz (q + 0) (by omega)).2; omega) (by omega)] at a0
    have a1 := h2 1 (by omega)
    rw [k1, (hz (q + 1) (by omega)).1, nI_eq (by have := (hz (q + 1) (by omega)).2; omega) (by omega)] at a1
    have a2 := h2 2 (by omega)
    rw [k2, (hz (q + 2) (by omega)).1, nI_eq (by have := (hz (q + 2) (by omega)).2; omega) (by omega)] at a2
    have a3 := h2 3 (by omega)
    rw [k3, (hz (q + 3) (by omega)).1, nI_eq (by have := (hz (q + 3) (by omega)).2; omega) (by omega)] at a3
    have a4 := h2 4 (by omega)
    rw [k4, (hz (q + 4) (by omega)).1, nI_eq (by have := (hz (q + 4) (by omega)).2; omega) (by omega)] at a4
    exact ⟨rfl, a0, a1, a2, a3, a4⟩
  · intro h
    obtain ⟨h1, a0, a1, a2, a3, a4⟩ := h
    subst h1
    refine ⟨rfl, fun i hi => ?_⟩
    have hh : i = 0 ∨ i = 1 ∨ i = 2 ∨ i = 3 ∨ i = 4 := by omega
    rcases hh with rfl | rfl | rfl | rfl | rfl
    · rw [k0, (hz (q + 0) (by omega)).1]
      exact congrArg nI a0
    · rw [k1, (hz (q + 1) (by omega)).1]
      exact congrArg nI a1
    · rw [k2, (hz (q + 2) (by omega)).1]
      exact congrArg nI a2
    · rw [k3, (hz (q + 3) (by omega)).1]
      exact congrArg nI a3
    · rw [k4, (hz (q + 4) (by omega)).1]
      exact congrArg nI a4
theorem wq_24 {q l : Nat} {z : Nat → Nat} {R : Nat → Int32} (hz : ∀ i : Nat, i < q + l → R i = nI (z i) ∧ z i ≤ 126) : wq 24 q l R ↔ (l = 4 ∧ z q = 98 ∧ z (q + 1) = 121 ∧ z (q + 2) = 116 ∧ z (q + 3) = 101) := by
  have kn : ks_n 24 = 4 := by decide +kernel
  have k0 : ks_b 24 0 = nI 98 := by decide +kernel
  have k1 : ks_b 24 1 = nI 121 := by decide +kernel
  have k2 : ks_b 24 2 = nI 116 := by decide +kernel
  have k3 : ks_b 24 3 = nI 101 := by decide +kernel
  unfold wq
  rw [kn]
  constructor
  · rintro ⟨h1, h2⟩
    subst h1
    have a0 := h2 0 (by omega)
    rw [k0, (hz (q + 0) (by omega)).1, nI_eq (by have := (hz (q + 0) (by omega)).2; omega) (by omega)] at a0
    have a1 := h2 1 (by omega)
    rw [k1, (hz (q + 1) (by omega)).1, nI_eq (by have := (hz (q + 1) (by omega)).2; omega) (by omega)] at a1
    have a2 := h2 2 (by omega)
    rw [k2, (hz (q + 2) (by omega)).1, nI_eq (by have := (hz (q + 2) (by omega)).2; omega) (by omega)] at a2
    have a3 := h2 3 (by omega)
    rw [k3, (hz (q + 3) (by omega)).1, nI_eq (by have := (hz (q + 3) (by omega)).2; omega) (by omega)] at a3
    exact ⟨rfl, a0, a1, a2, a3⟩
  · intro h
    obtain ⟨h1, a0, a1, a2, a3⟩ := h
    subst h1
    refine ⟨rfl, fun i hi => ?_⟩
    have hh : i = 0 ∨ i = 1 ∨ i = 2 ∨ i = 3 := by omega
    rcases hh with rfl | rfl | rfl | rfl
    · rw [k0, (hz (q + 0) (by omega)).1]
      exact congrArg nI a0
    · rw [k1, (hz (q + 1) (by omega)).1]
      exact congrArg nI a1
    · rw [k2, (hz (q + 2) (by omega)).1]
      exact congrArg nI a2
    · rw [k3, (hz (q + 3) (by omega)).1]
      exact congrArg nI a3
theorem wq_25 {q l : Nat} {z : Nat → Nat} {R : Nat → Int32} (hz : ∀ i : Nat, i < q + l → R i = nI (z i) ∧ z i ≤ 126) : wq 25 q l R ↔ (l = 4 ∧ z q = 104 ∧ z (q + 1) = 97 ∧ z (q + 2) = 108 ∧ z (q + 3) = 102) := by
  have kn : ks_n 25 = 4 := by decide +kernel
  have k0 : ks_b 25 0 = nI 104 := by decide +kernel
  have k1 : ks_b 25 1 = nI 97 := by decide +kernel
  have k2 : ks_b 25 2 = nI 108 := by decide +kernel
  have k3 : ks_b 25 3 = nI 102 := by decide +kernel
  unfold wq
  rw [kn]
  constructor
  · rintro ⟨h1, h2⟩
    subst h1
    have a0 := h2 0 (by omega)
    rw [k0, (hz (q + 0) (by omega)).1, nI_eq (by have := (hz (q + 0) (by omega)).2; omega) (by omega)] at a0
    have a1 := h2 1 (by omega)
    rw [k1, (hz (q + 1) (by omega)).1, nI_eq (by have := (hz (q + 1) (by omega)).2; omega) (by omega)] at a1
    have a2 := h2 2 (by omega)
    rw [k2, (hz (q + 2) (by omega)).1, nI_eq (by have := (hz (q + 2) (by omega)).2; omega) (by omega)] at a2
    have a3 := h2 3 (by omega)
    rw [k3, (hz (q + 3) (by omega)).1, nI_eq (by have := (hz (q + 3) (by omega)).2; omega) (by omega)] at a3
    exact ⟨rfl, a0, a1, a2, a3⟩
  · intro h
    obtain ⟨h1, a0, a1, a2, a3⟩ := h
    subst h1
    refine ⟨rfl, fun i hi => ?_⟩
    have hh : i = 0 ∨ i = 1 ∨ i = 2 ∨ i = 3 := by omega
    rcases hh with rfl | rfl | rfl | rfl
    · rw [k0, (hz (q + 0) (by omega)).1]
      exact congrArg nI a0
    · rw [k1, (hz (q + 1) (by omega)).1]
      exact congrArg nI a1
    · rw [k2, (hz (q + 2) (by omega)).1]
      exact congrArg nI a2
    · rw [k3, (hz (q + 3) (by omega)).1]
      exact congrArg nI a3
theorem wq_26 {q l : Nat} {z : Nat → Nat} {R : Nat → Int32} (hz : ∀ i : Nat, i < q + l → R i = nI (z i) ∧ z i ≤ 126) : wq 26 q l R ↔ (l = 3 ∧ z q = 111 ∧ z (q + 1) = 108 ∧ z (q + 2) = 100) := by
  have kn : ks_n 26 = 3 := by decide +kernel
  have k0 : ks_b 26 0 = nI 111 := by decide +kernel
  have k1 : ks_b 26 1 = nI 108 := by decide +kernel
  have k2 : ks_b 26 2 = nI 100 := by decide +kernel
  unfold wq
  rw [kn]
  constructor
  · rintro ⟨h1, h2⟩
    subst h1
    have a0 := h2 0 (by omega)
    rw [k0, (hz (q + 0) (by omega)).1, nI_eq (by have := (hz (q + 0) (by omega)).2; omega) (by omega)] at a0
    have a1 := h2 1 (by omega)
    rw [k1, (hz (q + 1) (by omega)).1, nI_eq (by have := (hz (q + 1) (by omega)).2; omega) (by omega)] at a1
    have a2 := h2 2 (by omega)
    rw [k2, (hz (q + 2) (by omega)).1, nI_eq (by have := (hz (q + 2) (by omega)).2; omega) (by omega)] at a2
    exact ⟨rfl, a0, a1, a2⟩
  · intro h
    obtain ⟨h1, a0, a1, a2⟩ := h
    subst h1
    refine ⟨rfl, fun i hi => ?_⟩
    have hh : i = 0 ∨ i = 1 ∨ i = 2 := by omega
    rcases hh with rfl | rfl | rfl
    · rw [k0, (hz (q + 0) (by omega)).1]
      exact congrArg nI a0
    · rw [k1, (hz (q + 1) (by omega)).1]
      exact congrArg nI a1
    · rw [k2, (hz (q + 2) (by omega)).1]
      exact congrArg nI a2
theorem wq_27 {q l : Nat} {z : Nat → Nat} {R : Nat → Int32} (hz : ∀ i : Nat, i < q + l → R i = nI (z i) ∧ z i ≤ 126) : wq 27 q l R ↔ (l = 7 ∧ z q = 99 ∧ z (q + 1) = 104 ∧ z (q + 2) = 97 ∧ z (q + 3) = 110 ∧ z (q + 4) = 103 ∧ z (q + 5) = 101 ∧ z (q + 6) = 100) := by
  have kn : ks_n 27 = 7 := by decide +kernel
  have k0 : ks_b 27 0 = nI 99 := by decide +kernel
  have k1 : ks_b 27 1 = nI 104 := by decide +kernel
  have k2 : ks_b 27 2 = nI 97 := by decide +kernel
  have k3 : ks_b 27 3 = nI 110 := by decide +kernel
  have k4 : ks_b 27 4 = nI 103 := by decide +kernel
  have k5 : ks_b 27 5 = nI 101 := by decide +kernel
  have k6 : ks_b 27 6 = nI 100 := by decide +kernel
  unfold wq
  rw [kn]
  constructor
  · rintro ⟨h1, h2⟩
    subst h1
    have a0 := h2 0 (by omega)
    rw [k0, (hz (q + 0) (by omega)).1, nI_eq (by have := (hz (q + 0) (by omega)).2; omega) (by omega)] at a0
    have a1 := h2 1 (by omega)
    rw [k1, (hz (q + 1) (by omega)).1, nI_eq (by have := (hz (q + 1) (by omega)).2; omega) (by omega)] at a1
    have a2 := h2 2 (by omega)
    rw [k2, (hz (q + 2) (by omega)).1, nI_eq (by have := (hz (q + 2) (by omega)).2; omega) (by omega)] at a2
    have a3 := h2 3 (by omega)
    rw [k3, (hz (q + 3) (by omega)).1, nI_eq (by have := (hz (q + 3) (by omega)).2; omega) (by omega)] at a3
    have a4 := h2 4 (by omega)
    rw [k4, (hz (q + 4) (by omega)).1, nI_eq (by have := (hz (q + 4) (by omega)).2; omega) (by omega)] at a4
    have a5 := h2 5 (by omega)
    rw [k5, (hz (q + 5) (by omega)).1, nI_eq (by have := (hz (q + 5) (by omega)).2; omega) (by omega)] at a5
    have a6 := h2 6 (by omega)
    rw [k6, (hz (q + 6) (by omega)).1, nI_eq (by have := (hz (q + 6) (by omega)).2; omega) (by omega)] at a6
    exact ⟨rfl, a0, a1, a2, a3, a4, a5, a6⟩
  · intro h
    obtain ⟨h1, a0, a1, a2, a3, a4, a5, a6⟩ := h
    subst h1
    refine ⟨rfl, fun i hi => ?_⟩
    have hh : i = 0 ∨ i = 1 ∨ i = 2 ∨ i = 3 ∨ i = 4 ∨ i = 5 ∨ i = 6 := by omega
    rcases hh with rfl | rfl | rfl | rfl | rfl | rfl | rfl
    · rw [k0, (hz (q + 0) (by omega)).1]
      exact congrArg nI a0
    · rw [k1, (hz (q + 1) (by omega)).1]
      exact congrArg nI a1
    · rw [k2, (hz (q + 2) (by omega)).1]
      exact congrArg nI a2
    · rw [k3, (hz (q + 3) (by omega)).1]
      exact congrArg nI a3
    · rw [k4, (hz (q + 4) (by omega)).1]
      exact congrArg nI a4
    · rw [k5, (hz (q + 5) (by omega)).1]
      exact congrArg nI a5
    · rw [k6, (hz (q + 6) (by omega)).1]
      exact congrArg nI a6

/-- what a word means, in both -/
theorem iw_y (n Tp k q l : Nat) (hk : k < 190) {tpe : St} {B : St} {cs tp os kd ft pt : Nat} {nm : Int64} {C S SA F T : Nat → Int32} {A : Nat → Int64} (hO : sO B 0 = some Tp) (hl2 : q + l ≤ 120) (hn : 130 < n) (h : wq k q l (sR tpe 0)) : df_X2_isWord n Tp k (tpe, mC B cs tp os (q + l) kd q ft pt nm C S SA F T A) = some (nI 1, (tpe, mC B cs tp os (q + l) kd q ft pt nm C S SA F T A)) := by
  have s := sn_y n k q l (B := pR nd_st0 0 (sR tpe 0)) (by omega) hk (by omega) h
  have w : nI (q + l) - nI q = nI l := by rw [pk_sub (by omega)]; congr 1; omega
  simp (disch := (first | assumption | decide | omega)) only [df_X2_isWord_0, df_X2_isWord, mC_i0, mC_i1, mC_i2, mC_i5, mC_i6, mC_i7, mC_i8, mC_i9, mC_l, mC_r0, mC_r1, mC_r2, mC_r3, mC_r4, mC_q, mC_o, mC_i4, mC_wi0, mC_wi1, mC_wi2, mC_wi5, mC_wi6, mC_wi7, mC_wi8, mC_wi9, mC_wl, mC_wr0, mC_wr1, mC_wr2, mC_wr3, mC_wr4, mC_wq, hO, oT, w, s, nm_r0, eq_self, Nat.reduceEqDiff, Nat.reduceLeDiff, nl_0, nl_5, nl_7, no_1, no_1024, pk_mul, nI_add, nm_ck, nI_clamp, nI_ltI, nI_leI, nI_eq, nb_b2, nb_b1, ↓nb_let, nm_z0, nm_z1, nb_II, nb_IR, nb_RI, nb_RR, nm_IL, nm_IQ, nm_RL, nm_RQ, nm_LI, nm_LR, nm_LL, nm_LQ, nm_QI, nm_QR, nm_QL, nm_QQ, nm_rr, nm_ii, nm_eqm, not_false_eq_true, pk_sub, nm_div, nm_shl, nm_shr, nm_ush, nm_or8, nm_or64, nm_or256, nm_m1, nm_m3, nm_m7, nm_m15, nm_m31, nm_m63, nm_m255, nm_m511, nm_m1023, nm_m2047, nm_m65535, Nat.reduceMod, Nat.reducePow, Nat.reduceAdd, Nat.reduceSub, Nat.reduceMul, nm_bo, nm_bi, nm_rc, nm_ic, nm_ri, nm_rl, nm_rq, nm_ql, nm_qi, nm_li, nm_us, nm_uu, nm_cp, nm_sa31, nm_sa7, nm_m127, nm_m2, nm_nz, nm_nzk, nm_eq32, nm_nzf, if_true, if_false, ↓reduceIte, if_pos, if_neg]
theorem iw_n (n Tp k q l : Nat) (hk : k < 190) {tpe : St} {B : St} {cs tp os kd ft pt : Nat} {nm : Int64} {C S SA F T : Nat → Int32} {A : Nat → Int64} (hO : sO B 0 = some Tp) (hl2 : q + l ≤ 120) (hn : 130 < n) (h : ¬ wq k q l (sR tpe 0)) : df_X2_isWord n Tp k (tpe, mC B cs tp os (q + l) kd q ft pt nm C S SA F T A) = some (nI 0, (tpe, mC B cs tp os (q + l) kd q ft pt nm C S SA F T A)) := by
  have s := sn_n n k q l (B := pR nd_st0 0 (sR tpe 0)) (by omega) hk (by omega) h
  have w : nI (q + l) - nI q = nI l := by rw [pk_sub (by omega)]; congr 1; omega
  simp (disch := (first | assumption | decide | omega)) only [df_X2_isWord_0, df_X2_isWord, mC_i0, mC_i1, mC_i2, mC_i5, mC_i6, mC_i7, mC_i8, mC_i9, mC_l, mC_r0, mC_r1, mC_r2, mC_r3, mC_r4, mC_q, mC_o, mC_i4, mC_wi0, mC_wi1, mC_wi2, mC_wi5, mC_wi6, mC_wi7, mC_wi8, mC_wi9, mC_wl, mC_wr0, mC_wr1, mC_wr2, mC_wr3, mC_wr4, mC_wq, hO, oT, w, s, nm_r0, eq_self, Nat.reduceEqDiff, Nat.reduceLeDiff, nl_0, nl_5, nl_7, no_1, no_1024, pk_mul, nI_add, nm_ck, nI_clamp, nI_ltI, nI_leI, nI_eq, nb_b2, nb_b1, ↓nb_let, nm_z0, nm_z1, nb_II, nb_IR, nb_RI, nb_RR, nm_IL, nm_IQ, nm_RL, nm_RQ, nm_LI, nm_LR, nm_LL, nm_LQ, nm_QI, nm_QR, nm_QL, nm_QQ, nm_rr, nm_ii, nm_eqm, not_false_eq_true, pk_sub, nm_div, nm_shl, nm_shr, nm_ush, nm_or8, nm_or64, nm_or256, nm_m1, nm_m3, nm_m7, nm_m15, nm_m31, nm_m63, nm_m255, nm_m511, nm_m1023, nm_m2047, nm_m65535, Nat.reduceMod, Nat.reducePow, Nat.reduceAdd, Nat.reduceSub, Nat.reduceMul, nm_bo, nm_bi, nm_rc, nm_ic, nm_ri, nm_rl, nm_rq, nm_ql, nm_qi, nm_li, nm_us, nm_uu, nm_cp, nm_sa31, nm_sa7, nm_m127, nm_m2, nm_nz, nm_nzk, nm_eq32, nm_nzf, if_true, if_false, ↓reduceIte, if_pos, if_neg]
def rgV (z : Nat → Nat) (q l : Nat) : Option Nat := if l = 2 ∧ aD (z (q + 1)) = true then some (z (q + 1) - 48) else if l = 3 ∧ aD (z (q + 1)) = true ∧ 48 < z (q + 1) ∧ aD (z (q + 2)) = true ∧ 10 * (z (q + 1) - 48) + (z (q + 2) - 48) < 32 then some (10 * (z (q + 1) - 48) + (z (q + 2) - 48)) else none
theorem aD_t {c : Nat} (h : aD c = true) : 48 ≤ c ∧ c ≤ 57 := of_decide_eq_true h
theorem aD_f {c : Nat} (h : aD c = false) : c < 48 ∨ 57 < c := by
  have := of_decide_eq_false h
  omega
theorem s48 : ∀ c : Fin 48, nI c.1 - nI 48 < nI 0 := by decide +kernel
theorem nu_t (n m x l i a c : Nat) {Bt : St} (hc : sR Bt 0 (x + i) = nI c) (c2 : c ≤ 126) (hi : i < l) (hl : l ≤ 2) (hx : x + l ≤ 200) (ha : a ≤ 10) : df_X7_numbered_5 n (m + 1) (nI x) (nI l) (nI a) (nI i) Bt = if aD c = true then df_X7_numbered_5 n m (nI x) (nI l) (nI (a * 10 + (c - 48))) (nI (i + 1)) Bt else some (-nI 1, Bt) := by
  cases h : aD c with
  | true =>
    obtain ⟨c3, c4⟩ := aD_t h
    have e : nI c - nI 48 = nI (c - 48) := pk_sub c3
    rw [if_pos rfl]
    simp (disch := (first | assumption | decide | omega)) only [(show df_X7_numbered_5 n (m + 1) = dF_X7_numbered_5 n (df_X7_numbered_5 n m) from rfl), dF_X7_numbered_5, df_X7_numbered_72, df_X7_numbered_67, df_X7_numbered_71, df_X7_numbered_34, df_X7_numbered_0, df_X7_numbered, hc, e, eq_self, Nat.reduceEqDiff, Nat.reduceLeDiff, nl_0, nl_1, nl_2, nl_9, nl_10, nl_31, nl_48, nl_32768, no_1, no_1024, pk_mul, nI_add, nm_ck, nI_clamp, nI_ltI, nI_leI, nI_eq, nb_b2, nb_b1, ↓nb_let, nm_z0, nm_z1, nb_II, nb_IR, nb_RI, nb_RR, nm_IL, nm_IQ, nm_RL, nm_RQ, nm_LI, nm_LR, nm_LL, nm_LQ, nm_QI, nm_QR, nm_QL, nm_QQ, nm_rr, nm_ii, nm_eqm, not_false_eq_true, pk_sub, nm_div, nm_shl, nm_shr, nm_ush, nm_or8, nm_or64, nm_or256, nm_m1, nm_m3, nm_m7, nm_m15, nm_m31, nm_m63, nm_m255, nm_m511, nm_m1023, nm_m2047, nm_m65535, Nat.reduceMod, Nat.reducePow, Nat.reduceAdd, Nat.reduceSub, Nat.reduceMul, nm_bo, nm_bi, nm_rc, nm_ic, nm_ri, nm_rl, nm_rq, nm_ql, nm_qi, nm_li, nm_us, nm_uu, nm_cp, nm_sa31, nm_sa7, nm_m127, nm_m2, nm_nz, nm_nzk, nm_eq32, nm_nzf, if_true, if_false, ↓reduceIte, if_pos, if_neg]
  | false =>
    rw [if_neg (by decide)]
    rcases aD_f h with c3 | c3
    · have e : nI c - nI 48 < nI 0 := s48 ⟨c, c3⟩
      simp (disch := (first | assumption | decide | omega)) only [(show df_X7_numbered_5 n (m + 1) = dF_X7_numbered_5 n (df_X7_numbered_5 n m) from rfl), dF_X7_numbered_5, df_X7_numbered_72, df_X7_numbered_67, df_X7_numbered_71, df_X7_numbered_34, df_X7_numbered_0, df_X7_numbered, hc, e, eq_self, Nat.reduceEqDiff, Nat.reduceLeDiff, nl_0, nl_1, nl_2, nl_9, nl_10, nl_31, nl_48, nl_32768, no_1, no_1024, pk_mul, nI_add, nm_ck, nI_clamp, nI_ltI, nI_leI, nI_eq, nb_b2, nb_b1, ↓nb_let, nm_z0, nm_z1, nb_II, nb_IR, nb_RI, nb_RR, nm_IL, nm_IQ, nm_RL, nm_RQ, nm_LI, nm_LR, nm_LL, nm_LQ, nm_QI, nm_QR, nm_QL, nm_QQ, nm_rr, nm_ii, nm_eqm, not_false_eq_true, pk_sub, nm_div, nm_shl, nm_shr, nm_ush, nm_or8, nm_or64, nm_or256, nm_m1, nm_m3, nm_m7, nm_m15, nm_m31, nm_m63, nm_m255, nm_m511, nm_m1023, nm_m2047, nm_m65535, Nat.reduceMod, Nat.reducePow, Nat.reduceAdd, Nat.reduceSub, Nat.reduceMul, nm_bo, nm_bi, nm_rc, nm_ic, nm_ri, nm_rl, nm_rq, nm_ql, nm_qi, nm_li, nm_us, nm_uu, nm_cp, nm_sa31, nm_sa7, nm_m127, nm_m2, nm_nz, nm_nzk, nm_eq32, nm_nzf, if_true, if_false, ↓reduceIte, if_pos, if_neg]
    · have e : nI c - nI 48 = nI (c - 48) := pk_sub (by omega)
      simp (disch := (first | assumption | decide | omega)) only [(show df_X7_numbered_5 n (m + 1) = dF_X7_numbered_5 n (df_X7_numbered_5 n m) from rfl), dF_X7_numbered_5, df_X7_numbered_72, df_X7_numbered_67, df_X7_numbered_71, df_X7_numbered_34, df_X7_numbered_0, df_X7_numbered, hc, e, eq_self, Nat.reduceEqDiff, Nat.reduceLeDiff, nl_0, nl_1, nl_2, nl_9, nl_10, nl_31, nl_48, nl_32768, no_1, no_1024, pk_mul, nI_add, nm_ck, nI_clamp, nI_ltI, nI_leI, nI_eq, nb_b2, nb_b1, ↓nb_let, nm_z0, nm_z1, nb_II, nb_IR, nb_RI, nb_RR, nm_IL, nm_IQ, nm_RL, nm_RQ, nm_LI, nm_LR, nm_LL, nm_LQ, nm_QI, nm_QR, nm_QL, nm_QQ, nm_rr, nm_ii, nm_eqm, not_false_eq_true, pk_sub, nm_div, nm_shl, nm_shr, nm_ush, nm_or8, nm_or64, nm_or256, nm_m1, nm_m3, nm_m7, nm_m15, nm_m31, nm_m63, nm_m255, nm_m511, nm_m1023, nm_m2047, nm_m65535, Nat.reduceMod, Nat.reducePow, Nat.reduceAdd, Nat.reduceSub, Nat.reduceMul, nm_bo, nm_bi, nm_rc, nm_ic, nm_ri, nm_rl, nm_rq, nm_ql, nm_qi, nm_li, nm_us, nm_uu, nm_cp, nm_sa31, nm_sa7, nm_m127, nm_m2, nm_nz, nm_nzk, nm_eq32, nm_nzf, if_true, if_false, ↓reduceIte, if_pos, if_neg]
theorem nu_e (n m x l a : Nat) {Bt : St} (hl : l ≤ 2) (ha : a ≤ 200) : df_X7_numbered_5 n (m + 1) (nI x) (nI l) (nI a) (nI l) Bt = if 31 < a ∨ l = 2 ∧ a < 10 then some (-nI 1, Bt) else some (nI a, Bt) := by
  by_cases y : 31 < a
  · rw [if_pos (Or.inl y)]
    simp (disch := (first | assumption | decide | omega)) only [(show df_X7_numbered_5 n (m + 1) = dF_X7_numbered_5 n (df_X7_numbered_5 n m) from rfl), dF_X7_numbered_5, df_X7_numbered_72, df_X7_numbered_67, df_X7_numbered_71, df_X7_numbered_34, df_X7_numbered_0, df_X7_numbered, eq_self, Nat.reduceEqDiff, Nat.reduceLeDiff, nl_0, nl_1, nl_2, nl_9, nl_10, nl_31, nl_48, nl_32768, no_1, no_1024, pk_mul, nI_add, nm_ck, nI_clamp, nI_ltI, nI_leI, nI_eq, nb_b2, nb_b1, ↓nb_let, nm_z0, nm_z1, nb_II, nb_IR, nb_RI, nb_RR, nm_IL, nm_IQ, nm_RL, nm_RQ, nm_LI, nm_LR, nm_LL, nm_LQ, nm_QI, nm_QR, nm_QL, nm_QQ, nm_rr, nm_ii, nm_eqm, not_false_eq_true, pk_sub, nm_div, nm_shl, nm_shr, nm_ush, nm_or8, nm_or64, nm_or256, nm_m1, nm_m3, nm_m7, nm_m15, nm_m31, nm_m63, nm_m255, nm_m511, nm_m1023, nm_m2047, nm_m65535, Nat.reduceMod, Nat.reducePow, Nat.reduceAdd, Nat.reduceSub, Nat.reduceMul, nm_bo, nm_bi, nm_rc, nm_ic, nm_ri, nm_rl, nm_rq, nm_ql, nm_qi, nm_li, nm_us, nm_uu, nm_cp, nm_sa31, nm_sa7, nm_m127, nm_m2, nm_nz, nm_nzk, nm_eq32, nm_nzf, if_true, if_false, ↓reduceIte, if_pos, if_neg]
  · by_cases y2 : l = 2
    · by_cases y3 : 10 ≤ a
      · rw [if_neg (by omega)]
        simp (disch := (first | assumption | decide | omega)) only [(show df_X7_numbered_5 n (m + 1) = dF_X7_numbered_5 n (df_X7_numbered_5 n m) from rfl), dF_X7_numbered_5, df_X7_numbered_72, df_X7_numbered_67, df_X7_numbered_71, df_X7_numbered_34, df_X7_numbered_0, df_X7_numbered, eq_self, Nat.reduceEqDiff, Nat.reduceLeDiff, nl_0, nl_1, nl_2, nl_9, nl_10, nl_31, nl_48, nl_32768, no_1, no_1024, pk_mul, nI_add, nm_ck, nI_clamp, nI_ltI, nI_leI, nI_eq, nb_b2, nb_b1, ↓nb_let, nm_z0, nm_z1, nb_II, nb_IR, nb_RI, nb_RR, nm_IL, nm_IQ, nm_RL, nm_RQ, nm_LI, nm_LR, nm_LL, nm_LQ, nm_QI, nm_QR, nm_QL, nm_QQ, nm_rr, nm_ii, nm_eqm, not_false_eq_true, pk_sub, nm_div, nm_shl, nm_shr, nm_ush, nm_or8, nm_or64, nm_or256, nm_m1, nm_m3, nm_m7, nm_m15, nm_m31, nm_m63, nm_m255, nm_m511, nm_m1023, nm_m2047, nm_m65535, Nat.reduceMod, Nat.reducePow, Nat.reduceAdd, Nat.reduceSub, Nat.reduceMul, nm_bo, nm_bi, nm_rc, nm_ic, nm_ri, nm_rl, nm_rq, nm_ql, nm_qi, nm_li, nm_us, nm_uu, nm_cp, nm_sa31, nm_sa7, nm_m127, nm_m2, nm_nz, nm_nzk, nm_eq32, nm_nzf, if_true, if_false, ↓reduceIte, if_pos, if_neg]
      · rw [if_pos (by omega)]
        simp (disch := (first | assumption | decide | omega)) only [(show df_X7_numbered_5 n (m + 1) = dF_X7_numbered_5 n (df_X7_numbered_5 n m) from rfl), dF_X7_numbered_5, df_X7_numbered_72, df_X7_numbered_67, df_X7_numbered_71, df_X7_numbered_34, df_X7_numbered_0, df_X7_numbered, eq_self, Nat.reduceEqDiff, Nat.reduceLeDiff, nl_0, nl_1, nl_2, nl_9, nl_10, nl_31, nl_48, nl_32768, no_1, no_1024, pk_mul, nI_add, nm_ck, nI_clamp, nI_ltI, nI_leI, nI_eq, nb_b2, nb_b1, ↓nb_let, nm_z0, nm_z1, nb_II, nb_IR, nb_RI, nb_RR, nm_IL, nm_IQ, nm_RL, nm_RQ, nm_LI, nm_LR, nm_LL, nm_LQ, nm_QI, nm_QR, nm_QL, nm_QQ, nm_rr, nm_ii, nm_eqm, not_false_eq_true, pk_sub, nm_div, nm_shl, nm_shr, nm_ush, nm_or8, nm_or64, nm_or256, nm_m1, nm_m3, nm_m7, nm_m15, nm_m31, nm_m63, nm_m255, nm_m511, nm_m1023, nm_m2047, nm_m65535, Nat.reduceMod, Nat.reducePow, Nat.reduceAdd, Nat.reduceSub, Nat.reduceMul, nm_bo, nm_bi, nm_rc, nm_ic, nm_ri, nm_rl, nm_rq, nm_ql, nm_qi, nm_li, nm_us, nm_uu, nm_cp, nm_sa31, nm_sa7, nm_m127, nm_m2, nm_nz, nm_nzk, nm_eq32, nm_nzf, if_true, if_false, ↓reduceIte, if_pos, if_neg]
    · rw [if_neg (by omega)]
      simp (disch := (first | assumption | decide | omega)) only [(show df_X7_numbered_5 n (m + 1) = dF_X7_numbered_5 n (df_X7_numbered_5 n m) from rfl), dF_X7_numbered_5, df_X7_numbered_72, df_X7_numbered_67, df_X7_numbered_71, df_X7_numbered_34, df_X7_numbered_0, df_X7_numbered, eq_self, Nat.reduceEqDiff, Nat.reduceLeDiff, nl_0, nl_1, nl_2, nl_9, nl_10, nl_31, nl_48, nl_32768, no_1, no_1024, pk_mul, nI_add, nm_ck, nI_clamp, nI_ltI, nI_leI, nI_eq, nb_b2, nb_b1, ↓nb_let, nm_z0, nm_z1, nb_II, nb_IR, nb_RI, nb_RR, nm_IL, nm_IQ, nm_RL, nm_RQ, nm_LI, nm_LR, nm_LL, nm_LQ, nm_QI, nm_QR, nm_QL, nm_QQ, nm_rr, nm_ii, nm_eqm, not_false_eq_true, pk_sub, nm_div, nm_shl, nm_shr, nm_ush, nm_or8, nm_or64, nm_or256, nm_m1, nm_m3, nm_m7, nm_m15, nm_m31, nm_m63, nm_m255, nm_m511, nm_m1023, nm_m2047, nm_m65535, Nat.reduceMod, Nat.reducePow, Nat.reduceAdd, Nat.reduceSub, Nat.reduceMul, nm_bo, nm_bi, nm_rc, nm_ic, nm_ri, nm_rl, nm_rq, nm_ql, nm_qi, nm_li, nm_us, nm_uu, nm_cp, nm_sa31, nm_sa7, nm_m127, nm_m2, nm_nz, nm_nzk, nm_eq32, nm_nzf, if_true, if_false, ↓reduceIte, if_pos, if_neg]
theorem ra_C (n q l : Nat) {Bt : St} {z : Nat → Nat} (hl : 1 ≤ l) (hl2 : q + l ≤ 120) (hn : 130 < n) (hz : ∀ i : Nat, i < q + l → sR Bt 0 i = nI (z i) ∧ z i ≤ 126) (hx : z q = 120) : df_X7_registerAt n (nI q) (nI l) Bt = some ((match rgV z q l with | some r => nI r | none => -nI 1), Bt) := by
  have s10 := sn_n n 10 q l (B := Bt) (by omega) (by omega) (by omega) (fun h => by have := (wq_10 hz).mp h; omega)
  have s18 := sn_n n 18 q l (B := Bt) (by omega) (by omega) (by omega) (fun h => by have := (wq_18 hz).mp h; omega)
  have h0 : sR Bt 0 q = nI 120 := by rw [(hz q (by omega)).1, hx]
  obtain ⟨m, em⟩ : ∃ m : Nat, n = m + 1 + 1 + 1 := ⟨n - 3, by omega⟩
  have e5 : df_X7_numbered_5 n n = df_X7_numbered_5 n (m + 1 + 1 + 1) := congrArg _ em
  by_cases l1 : l = 1
  · subst l1
    rw [show rgV z q 1 = none from by unfold rgV; rw [if_neg (by omega), if_neg (by omega)]]
    simp (disch := (first | assumption | decide | omega)) only [df_X7_registerAt_51, df_X7_registerAt_0, df_X7_registerAt, s10, s18, eq_self, Nat.reduceEqDiff, Nat.reduceLeDiff, nl_0, nl_1, nl_2, nl_3, nl_8, nl_10, nl_18, nl_120, nl_32768, no_1, no_1024, pk_mul, nI_add, nm_ck, nI_clamp, nI_ltI, nI_leI, nI_eq, nb_b2, nb_b1, ↓nb_let, nm_z0, nm_z1, nb_II, nb_IR, nb_RI, nb_RR, nm_IL, nm_IQ, nm_RL, nm_RQ, nm_LI, nm_LR, nm_LL, nm_LQ, nm_QI, nm_QR, nm_QL, nm_QQ, nm_rr, nm_ii, nm_eqm, not_false_eq_true, pk_sub, nm_div, nm_shl, nm_shr, nm_ush, nm_or8, nm_or64, nm_or256, nm_m1, nm_m3, nm_m7, nm_m15, nm_m31, nm_m63, nm_m255, nm_m511, nm_m1023, nm_m2047, nm_m65535, Nat.reduceMod, Nat.reducePow, Nat.reduceAdd, Nat.reduceSub, Nat.reduceMul, nm_bo, nm_bi, nm_rc, nm_ic, nm_ri, nm_rl, nm_rq, nm_ql, nm_qi, nm_li, nm_us, nm_uu, nm_cp, nm_sa31, nm_sa7, nm_m127, nm_m2, nm_nz, nm_nzk, nm_eq32, nm_nzf, if_true, if_false, ↓reduceIte, if_pos, if_neg]
  · by_cases l4 : 3 < l
    · rw [show rgV z q l = none from by unfold rgV; rw [if_neg (by omega), if_neg (by omega)]]
      simp (disch := (first | assumption | decide | omega)) only [df_X7_registerAt_51, df_X7_registerAt_0, df_X7_registerAt, s10, s18, eq_self, Nat.reduceEqDiff, Nat.reduceLeDiff, nl_0, nl_1, nl_2, nl_3, nl_8, nl_10, nl_18, nl_120, nl_32768, no_1, no_1024, pk_mul, nI_add, nm_ck, nI_clamp, nI_ltI, nI_leI, nI_eq, nb_b2, nb_b1, ↓nb_let, nm_z0, nm_z1, nb_II, nb_IR, nb_RI, nb_RR, nm_IL, nm_IQ, nm_RL, nm_RQ, nm_LI, nm_LR, nm_LL, nm_LQ, nm_QI, nm_QR, nm_QL, nm_QQ, nm_rr, nm_ii, nm_eqm, not_false_eq_true, pk_sub, nm_div, nm_shl, nm_shr, nm_ush, nm_or8, nm_or64, nm_or256, nm_m1, nm_m3, nm_m7, nm_m15, nm_m31, nm_m63, nm_m255, nm_m511, nm_m1023, nm_m2047, nm_m65535, Nat.reduceMod, Nat.reducePow, Nat.reduceAdd, Nat.reduceSub, Nat.reduceMul, nm_bo, nm_bi, nm_rc, nm_ic, nm_ri, nm_rl, nm_rq, nm_ql, nm_qi, nm_li, nm_us, nm_uu, nm_cp, nm_sa31, nm_sa7, nm_m127, nm_m2, nm_nz, nm_nzk, nm_eq32, nm_nzf, if_true, if_false, ↓reduceIte, if_pos, if_neg]
    · have w : nI l - nI 1 = nI (l - 1) := pk_sub (by omega)
      have st : df_X7_registerAt n (nI q) (nI l) Bt = df_X7_numbered_5 n n (nI (q + 1)) (nI (l - 1)) (nI 0) (nI 0) Bt := by
        have k : ∀ v : Option (Int32 × St), nd_b2 v (fun q s => some (q, s)) = v := fun v => by
          cases v with
          | none => rfl
          | some a => rfl
        simp (disch := (first | assumption | decide | omega)) only [df_X7_registerAt_51, df_X7_registerAt_0, df_X7_registerAt, s10, s18, h0, w, eq_self, Nat.reduceEqDiff, Nat.reduceLeDiff, nl_0, nl_1, nl_2, nl_3, nl_8, nl_10, nl_18, nl_120, nl_32768, no_1, no_1024, pk_mul, nI_add, nm_ck, nI_clamp, nI_ltI, nI_leI, nI_eq, nb_b2, nb_b1, ↓nb_let, nm_z0, nm_z1, nb_II, nb_IR, nb_RI, nb_RR, nm_IL, nm_IQ, nm_RL, nm_RQ, nm_LI, nm_LR, nm_LL, nm_LQ, nm_QI, nm_QR, nm_QL, nm_QQ, nm_rr, nm_ii, nm_eqm, not_false_eq_true, pk_sub, nm_div, nm_shl, nm_shr, nm_ush, nm_or8, nm_or64, nm_or256, nm_m1, nm_m3, nm_m7, nm_m15, nm_m31, nm_m63, nm_m255, nm_m511, nm_m1023, nm_m2047, nm_m65535, Nat.reduceMod, Nat.reducePow, Nat.reduceAdd, Nat.reduceSub, Nat.reduceMul, nm_bo, nm_bi, nm_rc, nm_ic, nm_ri, nm_rl, nm_rq, nm_ql, nm_qi, nm_li, nm_us, nm_uu, nm_cp, nm_sa31, nm_sa7, nm_m127, nm_m2, nm_nz, nm_nzk, nm_eq32, nm_nzf, if_true, if_false, ↓reduceIte, if_pos, if_neg]
        exact k _
      rw [st, e5]
      have a1 := hz (q + 1) (by omega)
      rw [nu_t n (m + 1 + 1) (q + 1) (l - 1) 0 0 (z (q + 1)) a1.1 a1.2 (by omega) (by omega) (by omega) (by omega)]
      by_cases l2 : l = 2
      · subst l2
        cases y : aD (z (q + 1)) with
        | true =>
          have d := aD_t y
          rw [if_pos rfl, Nat.zero_mul, Nat.zero_add, show (2 : Nat) - 1 = 0 + 1 from rfl, nu_e n (m + 1) (q + 1) (0 + 1) (z (q + 1) - 48) (by omega) (by omega), if_neg (by omega)]
          unfold rgV
          rw [if_pos ⟨rfl, y⟩]
        | false =>
          rw [if_neg (by decide)]
          unfold rgV
          rw [if_neg (fun h => by rw [y] at h; exact absurd h.2 (by decide)), if_neg (fun h => by rw [y] at h; exact absurd h.2.1 (by decide))]
      · have l3 : l = 3 := by omega
        subst l3
        have a2 := hz (q + 2) (by omega)
        cases y : aD (z (q + 1)) with
        | false =>
          rw [if_neg (by decide)]
          unfold rgV
          rw [if_neg (by omega), if_neg (fun h => by rw [y] at h; exact absurd h.2.1 (by decide))]
        | true =>
          have d := aD_t y
          rw [if_pos rfl, Nat.zero_mul, Nat.zero_add, nu_t n (m + 1) (q + 1) (3 - 1) (0 + 1) (z (q + 1) - 48) (z (q + 2)) a2.1 a2.2 (by omega) (by omega) (by omega) (by omega)]
          cases y2 : aD (z (q + 2)) with
          | false =>
            rw [if_neg (by decide)]
            unfold rgV
            rw [if_neg (by omega), if_neg (fun h => by rw [y2] at h; exact absurd h.2.2.2.1 (by decide))]
          | true =>
            have d2 := aD_t y2
            rw [if_pos rfl, show (3 : Nat) - 1 = 0 + 1 + 1 from rfl, nu_e n m (q + 1) (0 + 1 + 1) ((z (q + 1) - 48) * 10 + (z (q + 2) - 48)) (by omega) (by omega)]
            unfold rgV
            by_cases y3 : 31 < (z (q + 1) - 48) * 10 + (z (q + 2) - 48) ∨ 0 + 1 + 1 = 2 ∧ (z (q + 1) - 48) * 10 + (z (q + 2) - 48) < 10
            · rw [if_pos y3, if_neg (by omega), if_neg (by omega)]
            · rw [if_neg y3, if_neg (by omega), if_pos ⟨rfl, y, by omega, y2, by omega⟩, Nat.mul_comm]
theorem mn_21 (n Tp q l : Nat) {tpe : St} {z : Nat → Nat} {B : St} {cs tp os kd ft pt : Nat} {nm : Int64} {C S SA F T : Nat → Int32} {A : Nat → Int64} (hO : sO B 0 = some Tp) (hl2 : q + l ≤ 120) (hn : 130 < n) (hl : 1 ≤ l) (hz : ∀ i : Nat, i < q + l → sR tpe 0 i = nI (z i) ∧ z i ≤ 126) (hw : l = 2 ∧ z q = 112 ∧ z (q + 1) = 99) : df_X2_meaning n Tp (tpe, mC B cs tp os (q + l) kd q ft pt nm C S SA F T A) = some (nI 31, (tpe, mC B cs tp os (q + l) kd q ft pt 32 C S SA F T A)) := by
  have i21 := iw_y n Tp 21 q l (by omega) hO hl2 hn ((wq_21 hz).mpr hw) (B := B) (cs := cs) (tp := tp) (os := os) (kd := kd) (ft := ft) (pt := pt) (nm := nm) (C := C) (S := S) (SA := SA) (F := F) (T := T) (A := A)
  simp (disch := (first | assumption | decide | omega)) only [df_X2_meaning_149, df_X2_meaning_73, df_X2_meaning_0, df_X2_meaning, mC_i0, mC_i1, mC_i2, mC_i5, mC_i6, mC_i7, mC_i8, mC_i9, mC_l, mC_r0, mC_r1, mC_r2, mC_r3, mC_r4, mC_q, mC_o, mC_i4, mC_wi0, mC_wi1, mC_wi2, mC_wi5, mC_wi6, mC_wi7, mC_wi8, mC_wi9, mC_wl, mC_wr0, mC_wr1, mC_wr2, mC_wr3, mC_wr4, mC_wq, hO, oT, i21, eq_self, Nat.reduceEqDiff, Nat.reduceLeDiff, nl_0, nl_5, nl_7, nl_21, nl_22, nl_23, nl_24, nl_25, nl_26, nl_27, nl_31, nl_32, nl_33, nl_120, nl_32768, no_1, no_1024, pk_mul, nI_add, nm_ck, nI_clamp, nI_ltI, nI_leI, nI_eq, nb_b2, nb_b1, ↓nb_let, nm_z0, nm_z1, nb_II, nb_IR, nb_RI, nb_RR, nm_IL, nm_IQ, nm_RL, nm_RQ, nm_LI, nm_LR, nm_LL, nm_LQ, nm_QI, nm_QR, nm_QL, nm_QQ, nm_rr, nm_ii, nm_eqm, not_false_eq_true, pk_sub, nm_div, nm_shl, nm_shr, nm_ush, nm_or8, nm_or64, nm_or256, nm_m1, nm_m3, nm_m7, nm_m15, nm_m31, nm_m63, nm_m255, nm_m511, nm_m1023, nm_m2047, nm_m65535, Nat.reduceMod, Nat.reducePow, Nat.reduceAdd, Nat.reduceSub, Nat.reduceMul, nm_bo, nm_bi, nm_rc, nm_ic, nm_ri, nm_rl, nm_rq, nm_ql, nm_qi, nm_li, nm_us, nm_uu, nm_cp, nm_sa31, nm_sa7, nm_m127, nm_m2, nm_nz, nm_nzk, nm_eq32, nm_nzf, if_true, if_false, ↓reduceIte, if_pos, if_neg]
theorem mn_22 (n Tp q l : Nat) {tpe : St} {z : Nat → Nat} {B : St} {cs tp os kd ft pt : Nat} {nm : Int64} {C S SA F T : Nat → Int32} {A : Nat → Int64} (hO : sO B 0 = some Tp) (hl2 : q + l ≤ 120) (hn : 130 < n) (hl : 1 ≤ l) (hz : ∀ i : Nat, i < q + l → sR tpe 0 i = nI (z i) ∧ z i ≤ 126) (hw : l = 3 ∧ z q = 112 ∧ z (q + 1) = 105 ∧ z (q + 2) = 100) : df_X2_meaning n Tp (tpe, mC B cs tp os (q + l) kd q ft pt nm C S SA F T A) = some (nI 32, (tpe, mC B cs tp os (q + l) kd q ft pt nm C S SA F T A)) := by
  have i21 := iw_n n Tp 21 q l (by omega) hO hl2 hn (fun h => by have := (wq_21 hz).mp h; omega) (B := B) (cs := cs) (tp := tp) (os := os) (kd := kd) (ft := ft) (pt := pt) (nm := nm) (C := C) (S := S) (SA := SA) (F := F) (T := T) (A := A)
  have i22 := iw_y n Tp 22 q l (by omega) hO hl2 hn ((wq_22 hz).mpr hw) (B := B) (cs := cs) (tp := tp) (os := os) (kd := kd) (ft := ft) (pt := pt) (nm := nm) (C := C) (S := S) (SA := SA) (F := F) (T := T) (A := A)
  have x0 : sR tpe 0 q = nI (z q) := (hz q (by omega)).1
  have x1 : ¬ z q = 120 := by omega
  have x2 : z q < 2 ^ 31 := by have := (hz q (by omega)).2; omega
  simp (disch := (first | assumption | decide | omega)) only [df_X2_meaning_149, df_X2_meaning_73, df_X2_meaning_0, df_X2_meaning, mC_i0, mC_i1, mC_i2, mC_i5, mC_i6, mC_i7, mC_i8, mC_i9, mC_l, mC_r0, mC_r1, mC_r2, mC_r3, mC_r4, mC_q, mC_o, mC_i4, mC_wi0, mC_wi1, mC_wi2, mC_wi5, mC_wi6, mC_wi7, mC_wi8, mC_wi9, mC_wl, mC_wr0, mC_wr1, mC_wr2, mC_wr3, mC_wr4, mC_wq, hO, oT, i21, i22, x0, eq_self, Nat.reduceEqDiff, Nat.reduceLeDiff, nl_0, nl_5, nl_7, nl_21, nl_22, nl_23, nl_24, nl_25, nl_26, nl_27, nl_31, nl_32, nl_33, nl_120, nl_32768, no_1, no_1024, pk_mul, nI_add, nm_ck, nI_clamp, nI_ltI, nI_leI, nI_eq, nb_b2, nb_b1, ↓nb_let, nm_z0, nm_z1, nb_II, nb_IR, nb_RI, nb_RR, nm_IL, nm_IQ, nm_RL, nm_RQ, nm_LI, nm_LR, nm_LL, nm_LQ, nm_QI, nm_QR, nm_QL, nm_QQ, nm_rr, nm_ii, nm_eqm, not_false_eq_true, pk_sub, nm_div, nm_shl, nm_shr, nm_ush, nm_or8, nm_or64, nm_or256, nm_m1, nm_m3, nm_m7, nm_m15, nm_m31, nm_m63, nm_m255, nm_m511, nm_m1023, nm_m2047, nm_m65535, Nat.reduceMod, Nat.reducePow, Nat.reduceAdd, Nat.reduceSub, Nat.reduceMul, nm_bo, nm_bi, nm_rc, nm_ic, nm_ri, nm_rl, nm_rq, nm_ql, nm_qi, nm_li, nm_us, nm_uu, nm_cp, nm_sa31, nm_sa7, nm_m127, nm_m2, nm_nz, nm_nzk, nm_eq32, nm_nzf, if_true, if_false, ↓reduceIte, if_pos, if_neg]
theorem mn_23 (n Tp q l : Nat) {tpe : St} {z : Nat → Nat} {B : St} {cs tp os kd ft pt : Nat} {nm : Int64} {C S SA F T : Nat → Int32} {A : Nat → Int64} (hO : sO B 0 = some Tp) (hl2 : q + l ≤ 120) (hn : 130 < n) (hl : 1 ≤ l) (hz : ∀ i : Nat, i < q + l → sR tpe 0 i = nI (z i) ∧ z i ≤ 126) (hw : l = 5 ∧ z q = 99 ∧ z (q + 1) = 111 ∧ z (q + 2) = 117 ∧ z (q + 3) = 110 ∧ z (q + 4) = 116) : df_X2_meaning n Tp (tpe, mC B cs tp os (q + l) kd q ft pt nm C S SA F T A) = some (nI 33, (tpe, mC B cs tp os (q + l) kd q ft pt nm C S SA F T A)) := by
  have i21 := iw_n n Tp 21 q l (by omega) hO hl2 hn (fun h => by have := (wq_21 hz).mp h; omega) (B := B) (cs := cs) (tp := tp) (os := os) (kd := kd) (ft := ft) (pt := pt) (nm := nm) (C := C) (S := S) (SA := SA) (F := F) (T := T) (A := A)
  have i22 := iw_n n Tp 22 q l (by omega) hO hl2 hn (fun h => by have := (wq_22 hz).mp h; omega) (B := B) (cs := cs) (tp := tp) (os := os) (kd := kd) (ft := ft) (pt := pt) (nm := nm) (C := C) (S := S) (SA := SA) (F := F) (T := T) (A := A)
  have i23 := iw_y n Tp 23 q l (by omega) hO hl2 hn ((wq_23 hz).mpr hw) (B := B) (cs := cs) (tp := tp) (os := os) (kd := kd) (ft := ft) (pt := pt) (nm := nm) (C := C) (S := S) (SA := SA) (F := F) (T := T) (A := A)
  have x0 : sR tpe 0 q = nI (z q) := (hz q (by omega)).1
  have x1 : ¬ z q = 120 := by omega
  have x2 : z q < 2 ^ 31 := by have := (hz q (by omega)).2; omega
  simp (disch := (first | assumption | decide | omega)) only [df_X2_meaning_149, df_X2_meaning_73, df_X2_meaning_0, df_X2_meaning, mC_i0, mC_i1, mC_i2, mC_i5, mC_i6, mC_i7, mC_i8, mC_i9, mC_l, mC_r0, mC_r1, mC_r2, mC_r3, mC_r4, mC_q, mC_o, mC_i4, mC_wi0, mC_wi1, mC_wi2, mC_wi5, mC_wi6, mC_wi7, mC_wi8, mC_wi9, mC_wl, mC_wr0, mC_wr1, mC_wr2, mC_wr3, mC_wr4, mC_wq, hO, oT, i21, i22, i23, x0, eq_self, Nat.reduceEqDiff, Nat.reduceLeDiff, nl_0, nl_5, nl_7, nl_21, nl_22, nl_23, nl_24, nl_25, nl_26, nl_27, nl_31, nl_32, nl_33, nl_120, nl_32768, no_1, no_1024, pk_mul, nI_add, nm_ck, nI_clamp, nI_ltI, nI_leI, nI_eq, nb_b2, nb_b1, ↓nb_let, nm_z0, nm_z1, nb_II, nb_IR, nb_RI, nb_RR, nm_IL, nm_IQ, nm_RL, nm_RQ, nm_LI, nm_LR, nm_LL, nm_LQ, nm_QI, nm_QR, nm_QL, nm_QQ, nm_rr, nm_ii, nm_eqm, not_false_eq_true, pk_sub, nm_div, nm_shl, nm_shr, nm_ush, nm_or8, nm_or64, nm_or256, nm_m1, nm_m3, nm_m7, nm_m15, nm_m31, nm_m63, nm_m255, nm_m511, nm_m1023, nm_m2047, nm_m65535, Nat.reduceMod, Nat.reducePow, Nat.reduceAdd, Nat.reduceSub, Nat.reduceMul, nm_bo, nm_bi, nm_rc, nm_ic, nm_ri, nm_rl, nm_rq, nm_ql, nm_qi, nm_li, nm_us, nm_uu, nm_cp, nm_sa31, nm_sa7, nm_m127, nm_m2, nm_nz, nm_nzk, nm_eq32, nm_nzf, if_true, if_false, ↓reduceIte, if_pos, if_neg]
theorem mn_24 (n Tp q l : Nat) {tpe : St} {z : Nat → Nat} {B : St} {cs tp os kd ft pt : Nat} {nm : Int64} {C S SA F T : Nat → Int32} {A : Nat → Int64} (hO : sO B 0 = some Tp) (hl2 : q + l ≤ 120) (hn : 130 < n) (hl : 1 ≤ l) (hz : ∀ i : Nat, i < q + l → sR tpe 0 i = nI (z i) ∧ z i ≤ 126) (hw : l = 4 ∧ z q = 98 ∧ z (q + 1) = 121 ∧ z (q + 2) = 116 ∧ z (q + 3) = 101) : df_X2_meaning n Tp (tpe, mC B cs tp os (q + l) kd q ft pt nm C S SA F T A) = some (nI 27, (tpe, mC B cs tp os (q + l) kd q ft pt nm C S SA F T A)) := by
  have i21 := iw_n n Tp 21 q l (by omega) hO hl2 hn (fun h => by have := (wq_21 hz).mp h; omega) (B := B) (cs := cs) (tp := tp) (os := os) (kd := kd) (ft := ft) (pt := pt) (nm := nm) (C := C) (S := S) (SA := SA) (F := F) (T := T) (A := A)
  have i22 := iw_n n Tp 22 q l (by omega) hO hl2 hn (fun h => by have := (wq_22 hz).mp h; omega) (B := B) (cs := cs) (tp := tp) (os := os) (kd := kd) (ft := ft) (pt := pt) (nm := nm) (C := C) (S := S) (SA := SA) (F := F) (T := T) (A := A)
  have i23 := iw_n n Tp 23 q l (by omega) hO hl2 hn (fun h => by have := (wq_23 hz).mp h; omega) (B := B) (cs := cs) (tp := tp) (os := os) (kd := kd) (ft := ft) (pt := pt) (nm := nm) (C := C) (S := S) (SA := SA) (F := F) (T := T) (A := A)
  have i24 := iw_y n Tp 24 q l (by omega) hO hl2 hn ((wq_24 hz).mpr hw) (B := B) (cs := cs) (tp := tp) (os := os) (kd := kd) (ft := ft) (pt := pt) (nm := nm) (C := C) (S := S) (SA := SA) (F := F) (T := T) (A := A)
  have x0 : sR tpe 0 q = nI (z q) := (hz q (by omega)).1
  have x1 : ¬ z q = 120 := by omega
  have x2 : z q < 2 ^ 31 := by have := (hz q (by omega)).2; omega
  simp (disch := (first | assumption | decide | omega)) only [df_X2_meaning_149, df_X2_meaning_73, df_X2_meaning_0, df_X2_meaning, mC_i0, mC_i1, mC_i2, mC_i5, mC_i6, mC_i7, mC_i8, mC_i9, mC_l, mC_r0, mC_r1, mC_r2, mC_r3, mC_r4, mC_q, mC_o, mC_i4, mC_wi0, mC_wi1, mC_wi2, mC_wi5, mC_wi6, mC_wi7, mC_wi8, mC_wi9, mC_wl, mC_wr0, mC_wr1, mC_wr2, mC_wr3, mC_wr4, mC_wq, hO, oT, i21, i22, i23, i24, x0, eq_self, Nat.reduceEqDiff, Nat.reduceLeDiff, nl_0, nl_5, nl_7, nl_21, nl_22, nl_23, nl_24, nl_25, nl_26, nl_27, nl_31, nl_32, nl_33, nl_120, nl_32768, no_1, no_1024, pk_mul, nI_add, nm_ck, nI_clamp, nI_ltI, nI_leI, nI_eq, nb_b2, nb_b1, ↓nb_let, nm_z0, nm_z1, nb_II, nb_IR, nb_RI, nb_RR, nm_IL, nm_IQ, nm_RL, nm_RQ, nm_LI, nm_LR, nm_LL, nm_LQ, nm_QI, nm_QR, nm_QL, nm_QQ, nm_rr, nm_ii, nm_eqm, not_false_eq_true, pk_sub, nm_div, nm_shl, nm_shr, nm_ush, nm_or8, nm_or64, nm_or256, nm_m1, nm_m3, nm_m7, nm_m15, nm_m31, nm_m63, nm_m255, nm_m511, nm_m1023, nm_m2047, nm_m65535, Nat.reduceMod, Nat.reducePow, Nat.reduceAdd, Nat.reduceSub, Nat.reduceMul, nm_bo, nm_bi, nm_rc, nm_ic, nm_ri, nm_rl, nm_rq, nm_ql, nm_qi, nm_li, nm_us, nm_uu, nm_cp, nm_sa31, nm_sa7, nm_m127, nm_m2, nm_nz, nm_nzk, nm_eq32, nm_nzf, if_true, if_false, ↓reduceIte, if_pos, if_neg]
theorem mn_25 (n Tp q l : Nat) {tpe : St} {z : Nat → Nat} {B : St} {cs tp os kd ft pt : Nat} {nm : Int64} {C S SA F T : Nat → Int32} {A : Nat → Int64} (hO : sO B 0 = some Tp) (hl2 : q + l ≤ 120) (hn : 130 < n) (hl : 1 ≤ l) (hz : ∀ i : Nat, i < q + l → sR tpe 0 i = nI (z i) ∧ z i ≤ 126) (hw : l = 4 ∧ z q = 104 ∧ z (q + 1) = 97 ∧ z (q + 2) = 108 ∧ z (q + 3) = 102) : df_X2_meaning n Tp (tpe, mC B cs tp os (q + l) kd q ft pt nm C S SA F T A) = some (nI 26, (tpe, mC B cs tp os (q + l) kd q ft pt nm C S SA F T A)) := by
  have i21 := iw_n n Tp 21 q l (by omega) hO hl2 hn (fun h => by have := (wq_21 hz).mp h; omega) (B := B) (cs := cs) (tp := tp) (os := os) (kd := kd) (ft := ft) (pt := pt) (nm := nm) (C := C) (S := S) (SA := SA) (F := F) (T := T) (A := A)
  have i22 := iw_n n Tp 22 q l (by omega) hO hl2 hn (fun h => by have := (wq_22 hz).mp h; omega) (B := B) (cs := cs) (tp := tp) (os := os) (kd := kd) (ft := ft) (pt := pt) (nm := nm) (C := C) (S := S) (SA := SA) (F := F) (T := T) (A := A)
  have i23 := iw_n n Tp 23 q l (by omega) hO hl2 hn (fun h => by have := (wq_23 hz).mp h; omega) (B := B) (cs := cs) (tp := tp) (os := os) (kd := kd) (ft := ft) (pt := pt) (nm := nm) (C := C) (S := S) (SA := SA) (F := F) (T := T) (A := A)
  have i24 := iw_n n Tp 24 q l (by omega) hO hl2 hn (fun h => by have := (wq_24 hz).mp h; omega) (B := B) (cs := cs) (tp := tp) (os := os) (kd := kd) (ft := ft) (pt := pt) (nm := nm) (C := C) (S := S) (SA := SA) (F := F) (T := T) (A := A)
  have i25 := iw_y n Tp 25 q l (by omega) hO hl2 hn ((wq_25 hz).mpr hw) (B := B) (cs := cs) (tp := tp) (os := os) (kd := kd) (ft := ft) (pt := pt) (nm := nm) (C := C) (S := S) (SA := SA) (F := F) (T := T) (A := A)
  have x0 : sR tpe 0 q = nI (z q) := (hz q (by omega)).1
  have x1 : ¬ z q = 120 := by omega
  have x2 : z q < 2 ^ 31 := by have := (hz q (by omega)).2; omega
  simp (disch := (first | assumption | decide | omega)) only [df_X2_meaning_149, df_X2_meaning_73, df_X2_meaning_0, df_X2_meaning, mC_i0, mC_i1, mC_i2, mC_i5, mC_i6, mC_i7, mC_i8, mC_i9, mC_l, mC_r0, mC_r1, mC_r2, mC_r3, mC_r4, mC_q, mC_o, mC_i4, mC_wi0, mC_wi1, mC_wi2, mC_wi5, mC_wi6, mC_wi7, mC_wi8, mC_wi9, mC_wl, mC_wr0, mC_wr1, mC_wr2, mC_wr3, mC_wr4, mC_wq, hO, oT, i21, i22, i23, i24, i25, x0, eq_self, Nat.reduceEqDiff, Nat.reduceLeDiff, nl_0, nl_5, nl_7, nl_21, nl_22, nl_23, nl_24, nl_25, nl_26, nl_27, nl_31, nl_32, nl_33, nl_120, nl_32768, no_1, no_1024, pk_mul, nI_add, nm_ck, nI_clamp, nI_ltI, nI_leI, nI_eq, nb_b2, nb_b1, ↓nb_let, nm_z0, nm_z1, nb_II, nb_IR, nb_RI, nb_RR, nm_IL, nm_IQ, nm_RL, nm_RQ, nm_LI, nm_LR, nm_LL, nm_LQ, nm_QI, nm_QR, nm_QL, nm_QQ, nm_rr, nm_ii, nm_eqm, not_false_eq_true, pk_sub, nm_div, nm_shl, nm_shr, nm_ush, nm_or8, nm_or64, nm_or256, nm_m1, nm_m3, nm_m7, nm_m15, nm_m31, nm_m63, nm_m255, nm_m511, nm_m1023, nm_m2047, nm_m65535, Nat.reduceMod, Nat.reducePow, Nat.reduceAdd, Nat.reduceSub, Nat.reduceMul, nm_bo, nm_bi, nm_rc, nm_ic, nm_ri, nm_rl, nm_rq, nm_ql, nm_qi, nm_li, nm_us, nm_uu, nm_cp, nm_sa31, nm_sa7, nm_m127, nm_m2, nm_nz, nm_nzk, nm_eq32, nm_nzf, if_true, if_false, ↓reduceIte, if_pos, if_neg]
theorem mn_26 (n Tp q l : Nat) {tpe : St} {z : Nat → Nat} {B : St} {cs tp os kd ft pt : Nat} {nm : Int64} {C S SA F T : Nat → Int32} {A : Nat → Int64} (hO : sO B 0 = some Tp) (hl2 : q + l ≤ 120) (hn : 130 < n) (hl : 1 ≤ l) (hz : ∀ i : Nat, i < q + l → sR tpe 0 i = nI (z i) ∧ z i ≤ 126) (hw : l = 3 ∧ z q = 111 ∧ z (q + 1) = 108 ∧ z (q + 2) = 100) : df_X2_meaning n Tp (tpe, mC B cs tp os (q + l) kd q ft pt nm C S SA F T A) = some (nI 23, (tpe, mC B cs tp os (q + l) kd q ft pt nm C S SA F T A)) := by
  have i21 := iw_n n Tp 21 q l (by omega) hO hl2 hn (fun h => by have := (wq_21 hz).mp h; omega) (B := B) (cs := cs) (tp := tp) (os := os) (kd := kd) (ft := ft) (pt := pt) (nm := nm) (C := C) (S := S) (SA := SA) (F := F) (T := T) (A := A)
  have i22 := iw_n n Tp 22 q l (by omega) hO hl2 hn (fun h => by have := (wq_22 hz).mp h; omega) (B := B) (cs := cs) (tp := tp) (os := os) (kd := kd) (ft := ft) (pt := pt) (nm := nm) (C := C) (S := S) (SA := SA) (F := F) (T := T) (A := A)
  have i23 := iw_n n Tp 23 q l (by omega) hO hl2 hn (fun h => by have := (wq_23 hz).mp h; omega) (B := B) (cs := cs) (tp := tp) (os := os) (kd := kd) (ft := ft) (pt := pt) (nm := nm) (C := C) (S := S) (SA := SA) (F := F) (T := T) (A := A)
  have i24 := iw_n n Tp 24 q l (by omega) hO hl2 hn (fun h => by have := (wq_24 hz).mp h; omega) (B := B) (cs := cs) (tp := tp) (os := os) (kd := kd) (ft := ft) (pt := pt) (nm := nm) (C := C) (S := S) (SA := SA) (F := F) (T := T) (A := A)
  have i25 := iw_n n Tp 25 q l (by omega) hO hl2 hn (fun h => by have := (wq_25 hz).mp h; omega) (B := B) (cs := cs) (tp := tp) (os := os) (kd := kd) (ft := ft) (pt := pt) (nm := nm) (C := C) (S := S) (SA := SA) (F := F) (T := T) (A := A)
  have i26 := iw_y n Tp 26 q l (by omega) hO hl2 hn ((wq_26 hz).mpr hw) (B := B) (cs := cs) (tp := tp) (os := os) (kd := kd) (ft := ft) (pt := pt) (nm := nm) (C := C) (S := S) (SA := SA) (F := F) (T := T) (A := A)
  have x0 : sR tpe 0 q = nI (z q) := (hz q (by omega)).1
  have x1 : ¬ z q = 120 := by omega
  have x2 : z q < 2 ^ 31 := by have := (hz q (by omega)).2; omega
  simp (disch := (first | assumption | decide | omega)) only [df_X2_meaning_149, df_X2_meaning_73, df_X2_meaning_0, df_X2_meaning, mC_i0, mC_i1, mC_i2, mC_i5, mC_i6, mC_i7, mC_i8, mC_i9, mC_l, mC_r0, mC_r1, mC_r2, mC_r3, mC_r4, mC_q, mC_o, mC_i4, mC_wi0, mC_wi1, mC_wi2, mC_wi5, mC_wi6, mC_wi7, mC_wi8, mC_wi9, mC_wl, mC_wr0, mC_wr1, mC_wr2, mC_wr3, mC_wr4, mC_wq, hO, oT, i21, i22, i23, i24, i25, i26, x0, eq_self, Nat.reduceEqDiff, Nat.reduceLeDiff, nl_0, nl_5, nl_7, nl_21, nl_22, nl_23, nl_24, nl_25, nl_26, nl_27, nl_31, nl_32, nl_33, nl_120, nl_32768, no_1, no_1024, pk_mul, nI_add, nm_ck, nI_clamp, nI_ltI, nI_leI, nI_eq, nb_b2, nb_b1, ↓nb_let, nm_z0, nm_z1, nb_II, nb_IR, nb_RI, nb_RR, nm_IL, nm_IQ, nm_RL, nm_RQ, nm_LI, nm_LR, nm_LL, nm_LQ, nm_QI, nm_QR, nm_QL, nm_QQ, nm_rr, nm_ii, nm_eqm, not_false_eq_true, pk_sub, nm_div, nm_shl, nm_shr, nm_ush, nm_or8, nm_or64, nm_or256, nm_m1, nm_m3, nm_m7, nm_m15, nm_m31, nm_m63, nm_m255, nm_m511, nm_m1023, nm_m2047, nm_m65535, Nat.reduceMod, Nat.reducePow, Nat.reduceAdd, Nat.reduceSub, Nat.reduceMul, nm_bo, nm_bi, nm_rc, nm_ic, nm_ri, nm_rl, nm_rq, nm_ql, nm_qi, nm_li, nm_us, nm_uu, nm_cp, nm_sa31, nm_sa7, nm_m127, nm_m2, nm_nz, nm_nzk, nm_eq32, nm_nzf, if_true, if_false, ↓reduceIte, if_pos, if_neg]
theorem mn_27 (n Tp q l : Nat) {tpe : St} {z : Nat → Nat} {B : St} {cs tp os kd ft pt : Nat} {nm : Int64} {C S SA F T : Nat → Int32} {A : Nat → Int64} (hO : sO B 0 = some Tp) (hl2 : q + l ≤ 120) (hn : 130 < n) (hl : 1 ≤ l) (hz : ∀ i : Nat, i < q + l → sR tpe 0 i = nI (z i) ∧ z i ≤ 126) (hw : l = 7 ∧ z q = 99 ∧ z (q + 1) = 104 ∧ z (q + 2) = 97 ∧ z (q + 3) = 110 ∧ z (q + 4) = 103 ∧ z (q + 5) = 101 ∧ z (q + 6) = 100) : df_X2_meaning n Tp (tpe, mC B cs tp os (q + l) kd q ft pt nm C S SA F T A) = some (nI 24, (tpe, mC B cs tp os (q + l) kd q ft pt nm C S SA F T A)) := by
  have i21 := iw_n n Tp 21 q l (by omega) hO hl2 hn (fun h => by have := (wq_21 hz).mp h; omega) (B := B) (cs := cs) (tp := tp) (os := os) (kd := kd) (ft := ft) (pt := pt) (nm := nm) (C := C) (S := S) (SA := SA) (F := F) (T := T) (A := A)
  have i22 := iw_n n Tp 22 q l (by omega) hO hl2 hn (fun h => by have := (wq_22 hz).mp h; omega) (B := B) (cs := cs) (tp := tp) (os := os) (kd := kd) (ft := ft) (pt := pt) (nm := nm) (C := C) (S := S) (SA := SA) (F := F) (T := T) (A := A)
  have i23 := iw_n n Tp 23 q l (by omega) hO hl2 hn (fun h => by have := (wq_23 hz).mp h; omega) (B := B) (cs := cs) (tp := tp) (os := os) (kd := kd) (ft := ft) (pt := pt) (nm := nm) (C := C) (S := S) (SA := SA) (F := F) (T := T) (A := A)
  have i24 := iw_n n Tp 24 q l (by omega) hO hl2 hn (fun h => by have := (wq_24 hz).mp h; omega) (B := B) (cs := cs) (tp := tp) (os := os) (kd := kd) (ft := ft) (pt := pt) (nm := nm) (C := C) (S := S) (SA := SA) (F := F) (T := T) (A := A)
  have i25 := iw_n n Tp 25 q l (by omega) hO hl2 hn (fun h => by have := (wq_25 hz).mp h; omega) (B := B) (cs := cs) (tp := tp) (os := os) (kd := kd) (ft := ft) (pt := pt) (nm := nm) (C := C) (S := S) (SA := SA) (F := F) (T := T) (A := A)
  have i26 := iw_n n Tp 26 q l (by omega) hO hl2 hn (fun h => by have := (wq_26 hz).mp h; omega) (B := B) (cs := cs) (tp := tp) (os := os) (kd := kd) (ft := ft) (pt := pt) (nm := nm) (C := C) (S := S) (SA := SA) (F := F) (T := T) (A := A)
  have i27 := iw_y n Tp 27 q l (by omega) hO hl2 hn ((wq_27 hz).mpr hw) (B := B) (cs := cs) (tp := tp) (os := os) (kd := kd) (ft := ft) (pt := pt) (nm := nm) (C := C) (S := S) (SA := SA) (F := F) (T := T) (A := A)
  have x0 : sR tpe 0 q = nI (z q) := (hz q (by omega)).1
  have x1 : ¬ z q = 120 := by omega
  have x2 : z q < 2 ^ 31 := by have := (hz q (by omega)).2; omega
  simp (disch := (first | assumption | decide | omega)) only [df_X2_meaning_149, df_X2_meaning_73, df_X2_meaning_0, df_X2_meaning, mC_i0, mC_i1, mC_i2, mC_i5, mC_i6, mC_i7, mC_i8, mC_i9, mC_l, mC_r0, mC_r1, mC_r2, mC_r3, mC_r4, mC_q, mC_o, mC_i4, mC_wi0, mC_wi1, mC_wi2, mC_wi5, mC_wi6, mC_wi7, mC_wi8, mC_wi9, mC_wl, mC_wr0, mC_wr1, mC_wr2, mC_wr3, mC_wr4, mC_wq, hO, oT, i21, i22, i23, i24, i25, i26, i27, x0, eq_self, Nat.reduceEqDiff, Nat.reduceLeDiff, nl_0, nl_5, nl_7, nl_21, nl_22, nl_23, nl_24, nl_25, nl_26, nl_27, nl_31, nl_32, nl_33, nl_120, nl_32768, no_1, no_1024, pk_mul, nI_add, nm_ck, nI_clamp, nI_ltI, nI_leI, nI_eq, nb_b2, nb_b1, ↓nb_let, nm_z0, nm_z1, nb_II, nb_IR, nb_RI, nb_RR, nm_IL, nm_IQ, nm_RL, nm_RQ, nm_LI, nm_LR, nm_LL, nm_LQ, nm_QI, nm_QR, nm_QL, nm_QQ, nm_rr, nm_ii, nm_eqm, not_false_eq_true, pk_sub, nm_div, nm_shl, nm_shr, nm_ush, nm_or8, nm_or64, nm_or256, nm_m1, nm_m3, nm_m7, nm_m15, nm_m31, nm_m63, nm_m255, nm_m511, nm_m1023, nm_m2047, nm_m65535, Nat.reduceMod, Nat.reducePow, Nat.reduceAdd, Nat.reduceSub, Nat.reduceMul, nm_bo, nm_bi, nm_rc, nm_ic, nm_ri, nm_rl, nm_rq, nm_ql, nm_qi, nm_li, nm_us, nm_uu, nm_cp, nm_sa31, nm_sa7, nm_m127, nm_m2, nm_nz, nm_nzk, nm_eq32, nm_nzf, if_true, if_false, ↓reduceIte, if_pos, if_neg]
theorem mn_0 (n Tp q l : Nat) {tpe : St} {z : Nat → Nat} {B : St} {cs tp os kd ft pt : Nat} {nm : Int64} {C S SA F T : Nat → Int32} {A : Nat → Int64} (hO : sO B 0 = some Tp) (hl2 : q + l ≤ 120) (hn : 130 < n) (hl : 1 ≤ l) (hz : ∀ i : Nat, i < q + l → sR tpe 0 i = nI (z i) ∧ z i ≤ 126) (hx : ¬ z q = 120) (w21 : ¬ (l = 2 ∧ z q = 112 ∧ z (q + 1) = 99)) (w22 : ¬ (l = 3 ∧ z q = 112 ∧ z (q + 1) = 105 ∧ z (q + 2) = 100)) (w23 : ¬ (l = 5 ∧ z q = 99 ∧ z (q + 1) = 111 ∧ z (q + 2) = 117 ∧ z (q + 3) = 110 ∧ z (q + 4) = 116)) (w24 : ¬ (l = 4 ∧ z q = 98 ∧ z (q + 1) = 121 ∧ z (q + 2) = 116 ∧ z (q + 3) = 101)) (w25 : ¬ (l = 4 ∧ z q = 104 ∧ z (q + 1) = 97 ∧ z (q + 2) = 108 ∧ z (q + 3) = 102)) (w26 : ¬ (l = 3 ∧ z q = 111 ∧ z (q + 1) = 108 ∧ z (q + 2) = 100)) (w27 : ¬ (l = 7 ∧ z q = 99 ∧ z (q + 1) = 104 ∧ z (q + 2) = 97 ∧ z (q + 3) = 110 ∧ z (q + 4) = 103 ∧ z (q + 5) = 101 ∧ z (q + 6) = 100)) : df_X2_meaning n Tp (tpe, mC B cs tp os (q + l) kd q ft pt nm C S SA F T A) = some (nI 0, (tpe, mC B cs tp os (q + l) kd q ft pt nm C S SA F T A)) := by
  have i21 := iw_n n Tp 21 q l (by decide) hO hl2 hn (fun h => w21 ((wq_21 hz).mp h)) (B := B) (cs := cs) (tp := tp) (os := os) (kd := kd) (ft := ft) (pt := pt) (nm := nm) (C := C) (S := S) (SA := SA) (F := F) (T := T) (A := A)
  have i22 := iw_n n Tp 22 q l (by decide) hO hl2 hn (fun h => w22 ((wq_22 hz).mp h)) (B := B) (cs := cs) (tp := tp) (os := os) (kd := kd) (ft := ft) (pt := pt) (nm := nm) (C := C) (S := S) (SA := SA) (F := F) (T := T) (A := A)
  have i23 := iw_n n Tp 23 q l (by decide) hO hl2 hn (fun h => w23 ((wq_23 hz).mp h)) (B := B) (cs := cs) (tp := tp) (os := os) (kd := kd) (ft := ft) (pt := pt) (nm := nm) (C := C) (S := S) (SA := SA) (F := F) (T := T) (A := A)
  have i24 := iw_n n Tp 24 q l (by decide) hO hl2 hn (fun h => w24 ((wq_24 hz).mp h)) (B := B) (cs := cs) (tp := tp) (os := os) (kd := kd) (ft := ft) (pt := pt) (nm := nm) (C := C) (S := S) (SA := SA) (F := F) (T := T) (A := A)
  have i25 := iw_n n Tp 25 q l (by decide) hO hl2 hn (fun h => w25 ((wq_25 hz).mp h)) (B := B) (cs := cs) (tp := tp) (os := os) (kd := kd) (ft := ft) (pt := pt) (nm := nm) (C := C) (S := S) (SA := SA) (F := F) (T := T) (A := A)
  have i26 := iw_n n Tp 26 q l (by decide) hO hl2 hn (fun h => w26 ((wq_26 hz).mp h)) (B := B) (cs := cs) (tp := tp) (os := os) (kd := kd) (ft := ft) (pt := pt) (nm := nm) (C := C) (S := S) (SA := SA) (F := F) (T := T) (A := A)
  have i27 := iw_n n Tp 27 q l (by decide) hO hl2 hn (fun h => w27 ((wq_27 hz).mp h)) (B := B) (cs := cs) (tp := tp) (os := os) (kd := kd) (ft := ft) (pt := pt) (nm := nm) (C := C) (S := S) (SA := SA) (F := F) (T := T) (A := A)
  have q0 : q < q + l := Nat.lt_add_of_pos_right hl
  have x0 : sR tpe 0 q = nI (z q) := (hz q q0).1
  have x2 : z q < 2 ^ 31 := Nat.lt_of_le_of_lt (hz q q0).2 (by decide)
  clear w21 w22 w23 w24 w25 w26 w27
  simp (disch := (first | assumption | decide | omega)) only [df_X2_meaning_149, df_X2_meaning_73, df_X2_meaning_0, df_X2_meaning, mC_i0, mC_i1, mC_i2, mC_i5, mC_i6, mC_i7, mC_i8, mC_i9, mC_l, mC_r0, mC_r1, mC_r2, mC_r3, mC_r4, mC_q, mC_o, mC_i4, mC_wi0, mC_wi1, mC_wi2, mC_wi5, mC_wi6, mC_wi7, mC_wi8, mC_wi9, mC_wl, mC_wr0, mC_wr1, mC_wr2, mC_wr3, mC_wr4, mC_wq, hO, oT, i21, i22, i23, i24, i25, i26, i27, x0, eq_self, Nat.reduceEqDiff, Nat.reduceLeDiff, nl_0, nl_5, nl_7, nl_21, nl_22, nl_23, nl_24, nl_25, nl_26, nl_27, nl_31, nl_32, nl_33, nl_120, nl_32768, no_1, no_1024, pk_mul, nI_add, nm_ck, nI_clamp, nI_ltI, nI_leI, nI_eq, nb_b2, nb_b1, ↓nb_let, nm_z0, nm_z1, nb_II, nb_IR, nb_RI, nb_RR, nm_IL, nm_IQ, nm_RL, nm_RQ, nm_LI, nm_LR, nm_LL, nm_LQ, nm_QI, nm_QR, nm_QL, nm_QQ, nm_rr, nm_ii, nm_eqm, not_false_eq_true, pk_sub, nm_div, nm_shl, nm_shr, nm_ush, nm_or8, nm_or64, nm_or256, nm_m1, nm_m3, nm_m7, nm_m15, nm_m31, nm_m63, nm_m255, nm_m511, nm_m1023, nm_m2047, nm_m65535, Nat.reduceMod, Nat.reducePow, Nat.reduceAdd, Nat.reduceSub, Nat.reduceMul, nm_bo, nm_bi, nm_rc, nm_ic, nm_ri, nm_rl, nm_rq, nm_ql, nm_qi, nm_li, nm_us, nm_uu, nm_cp, nm_sa31, nm_sa7, nm_m127, nm_m2, nm_nz, nm_nzk, nm_eq32, nm_nzf, if_true, if_false, ↓reduceIte, if_pos, if_neg]
theorem mn_x (n Tp q l : Nat) {tpe : St} {z : Nat → Nat} {B : St} {cs tp os kd ft pt : Nat} {nm : Int64} {C S SA F T : Nat → Int32} {A : Nat → Int64} (hO : sO B 0 = some Tp) (hl2 : q + l ≤ 120) (hn : 130 < n) (hl : 1 ≤ l) (hz : ∀ i : Nat, i < q + l → sR tpe 0 i = nI (z i) ∧ z i ≤ 126) (hx : z q = 120) : ∃ v : Int64, df_X2_meaning n Tp (tpe, mC B cs tp os (q + l) kd q ft pt nm C S SA F T A) = some ((match rgV z q l with | some _ => nI 31 | none => nI 0), (tpe, mC B cs tp os (q + l) kd q ft pt v C S SA F T A)) ∧ ∀ g : Nat, rgV z q l = some g → v = (nI g).toInt64 := by
  have i21 := iw_n n Tp 21 q l (by omega) hO hl2 hn (fun h => by have := (wq_21 hz).mp h; omega) (B := B) (cs := cs) (tp := tp) (os := os) (kd := kd) (ft := ft) (pt := pt) (nm := nm) (C := C) (S := S) (SA := SA) (F := F) (T := T) (A := A)
  have ra := ra_C n q l (Bt := pR nd_st0 0 (sR tpe 0)) (z := z) hl hl2 hn hz hx
  have x0 : sR tpe 0 q = nI 120 := by rw [(hz q (by omega)).1, hx]
  have w : nI (q + l) - nI q = nI l := by rw [pk_sub (by omega)]; congr 1; omega
  cases hr : rgV z q l with
  | none =>
    rw [hr] at ra
    have ra : df_X7_registerAt n (nI q) (nI l) (pR nd_st0 0 (sR tpe 0)) = some (-nI 1, pR nd_st0 0 (sR tpe 0)) := ra
    have ng : lg_cmp (-nI 1).toInt64 0 < nI 0 := by decide
    refine ⟨(-nI 1).toInt64, ?_, fun g z => (nomatch z)⟩
    simp (disch := (first | assumption | decide | omega)) only [df_X2_meaning_149, df_X2_meaning_73, df_X2_meaning_0, df_X2_meaning, mC_i0, mC_i1, mC_i2, mC_i5, mC_i6, mC_i7, mC_i8, mC_i9, mC_l, mC_r0, mC_r1, mC_r2, mC_r3, mC_r4, mC_q, mC_o, mC_i4, mC_wi0, mC_wi1, mC_wi2, mC_wi5, mC_wi6, mC_wi7, mC_wi8, mC_wi9, mC_wl, mC_wr0, mC_wr1, mC_wr2, mC_wr3, mC_wr4, mC_wq, hO, oT, i21, x0, w, ra, nm_r0, ng, eq_self, Nat.reduceEqDiff, Nat.reduceLeDiff, nl_0, nl_5, nl_7, nl_21, nl_22, nl_23, nl_24, nl_25, nl_26, nl_27, nl_31, nl_32, nl_33, nl_120, nl_32768, no_1, no_1024, pk_mul, nI_add, nm_ck, nI_clamp, nI_ltI, nI_leI, nI_eq, nb_b2, nb_b1, ↓nb_let, nm_z0, nm_z1, nb_II, nb_IR, nb_RI, nb_RR, nm_IL, nm_IQ, nm_RL, nm_RQ, nm_LI, nm_LR, nm_LL, nm_LQ, nm_QI, nm_QR, nm_QL, nm_QQ, nm_rr, nm_ii, nm_eqm, not_false_eq_true, pk_sub, nm_div, nm_shl, nm_shr, nm_ush, nm_or8, nm_or64, nm_or256, nm_m1, nm_m3, nm_m7, nm_m15, nm_m31, nm_m63, nm_m255, nm_m511, nm_m1023, nm_m2047, nm_m65535, Nat.reduceMod, Nat.reducePow, Nat.reduceAdd, Nat.reduceSub, Nat.reduceMul, nm_bo, nm_bi, nm_rc, nm_ic, nm_ri, nm_rl, nm_rq, nm_ql, nm_qi, nm_li, nm_us, nm_uu, nm_cp, nm_sa31, nm_sa7, nm_m127, nm_m2, nm_nz, nm_nzk, nm_eq32, nm_nzf, if_true, if_false, ↓reduceIte, if_pos, if_neg]
  | some g =>
    rw [hr] at ra
    have ra : df_X7_registerAt n (nI q) (nI l) (pR nd_st0 0 (sR tpe 0)) = some (nI g, pR nd_st0 0 (sR tpe 0)) := ra
    have g100 : g < 100 := by
      unfold rgV at hr
      have h1 : l = 2 → z (q + 1) ≤ 126 := fun h => (hz (q + 1) (by omega)).2
      split at hr
      · rename_i y
        injection hr with hr
        have := h1 y.1
        omega
      · split at hr
        · rename_i y
          injection hr with hr
          omega
        · exact nomatch hr
    have ng : ¬ lg_cmp (nI g).toInt64 0 < nI 0 := fun y => by
      rw [lgA, Int32.toInt_toInt64, nI_toInt (by omega), show (0 : Int64).toInt = 0 from rfl] at y
      omega
    refine ⟨(nI g).toInt64, ?_, fun g' z => by injection z with z; rw [z]⟩
    simp (disch := (first | assumption | decide | omega)) only [df_X2_meaning_149, df_X2_meaning_73, df_X2_meaning_0, df_X2_meaning, mC_i0, mC_i1, mC_i2, mC_i5, mC_i6, mC_i7, mC_i8, mC_i9, mC_l, mC_r0, mC_r1, mC_r2, mC_r3, mC_r4, mC_q, mC_o, mC_i4, mC_wi0, mC_wi1, mC_wi2, mC_wi5, mC_wi6, mC_wi7, mC_wi8, mC_wi9, mC_wl, mC_wr0, mC_wr1, mC_wr2, mC_wr3, mC_wr4, mC_wq, hO, oT, i21, x0, w, ra, nm_r0, ng, eq_self, Nat.reduceEqDiff, Nat.reduceLeDiff, nl_0, nl_5, nl_7, nl_21, nl_22, nl_23, nl_24, nl_25, nl_26, nl_27, nl_31, nl_32, nl_33, nl_120, nl_32768, no_1, no_1024, pk_mul, nI_add, nm_ck, nI_clamp, nI_ltI, nI_leI, nI_eq, nb_b2, nb_b1, ↓nb_let, nm_z0, nm_z1, nb_II, nb_IR, nb_RI, nb_RR, nm_IL, nm_IQ, nm_RL, nm_RQ, nm_LI, nm_LR, nm_LL, nm_LQ, nm_QI, nm_QR, nm_QL, nm_QQ, nm_rr, nm_ii, nm_eqm, not_false_eq_true, pk_sub, nm_div, nm_shl, nm_shr, nm_ush, nm_or8, nm_or64, nm_or256, nm_m1, nm_m3, nm_m7, nm_m15, nm_m31, nm_m63, nm_m255, nm_m511, nm_m1023, nm_m2047, nm_m65535, Nat.reduceMod, Nat.reducePow, Nat.reduceAdd, Nat.reduceSub, Nat.reduceMul, nm_bo, nm_bi, nm_rc, nm_ic, nm_ri, nm_rl, nm_rq, nm_ql, nm_qi, nm_li, nm_us, nm_uu, nm_cp, nm_sa31, nm_sa7, nm_m127, nm_m2, nm_nz, nm_nzk, nm_eq32, nm_nzf, if_true, if_false, ↓reduceIte, if_pos, if_neg]
theorem sw_21 (n q l : Nat) {z : Nat → Nat} {B : St} {tk ts op ft : Nat} {tv : Int64} {K P OA : Nat → Int32} {N : Nat → Int64} {X : St × St} (hl : 1 ≤ l) (hl2 : q + l ≤ 120) (hn : 130 < n) (hz : ∀ i : Nat, i < q + l → sR B 0 i = nI (z i) ∧ 32 ≤ z i ∧ z i ≤ 126) (hza : ∀ i : Nat, z i < 127) (hw : l = 2 ∧ z q = 112 ∧ z (q + 1) = 99) : df_X15_scanWord_195 n (mR B (q + l) tk q ts op ft tv K P OA N, X) = some (mR B (q + l) 3 q ts op ft tv K P OA N, X) := by
  have i21 := is_G n q l 25456 z hza hl hl2 hn (by decide) (X := X) (fun i hi => (hz i hi).1) (B := B) (tk := tk) (ts := ts) (op := op) (ft := ft) (tv := tv) (K := K) (P := P) (OA := OA) (N := N) (ap := q + l) (st := q)
  rw [if_pos ((pk_21 hl (fun i hi => (hz i hi).2)).mpr hw)] at i21
  have i21 : df_X15_is n (nI q) (nI (q + l)) 25456 (mR B (q + l) tk q ts op ft tv K P OA N, X) = some (nI 1, (mR B (q + l) tk q ts op ft tv K P OA N, X)) := i21
  simp (disch := (first | assumption | decide | omega)) only [df_X15_scanWord_195, df_X15_scanWord_354, mR_i1, mR_i2, mR_i3, mR_i4, mR_i5, mR_i6, mR_l, mR_r5, mR_r6, mR_r7, mR_q, mR_o, mR_i0, mR_r0, mR_wi1, mR_wi2, mR_wi3, mR_wi4, mR_wi5, mR_wi6, mR_wl, mR_wr5, mR_wr6, mR_wr7, mR_wq, i21, eq_self, Nat.reduceEqDiff, Nat.reduceLeDiff, nl_0, nl_1, nl_2, nl_3, nl_4, nl_5, nl_6, nl_7, nl_8, nl_9, nl_25456, nl_6580592, nl_6581359, nl_1702132066, nl_1718378856, no_1, no_1024, pk_mul, nI_add, nm_ck, nI_clamp, nI_ltI, nI_leI, nI_eq, nb_b2, nb_b1, ↓nb_let, nm_z0, nm_z1, nb_II, nb_IR, nb_RI, nb_RR, nm_IL, nm_IQ, nm_RL, nm_RQ, nm_LI, nm_LR, nm_LL, nm_LQ, nm_QI, nm_QR, nm_QL, nm_QQ, nm_rr, nm_ii, nm_eqm, not_false_eq_true, pk_sub, nm_div, nm_shl, nm_shr, nm_ush, nm_or8, nm_or64, nm_or256, nm_m1, nm_m3, nm_m7, nm_m15, nm_m31, nm_m63, nm_m255, nm_m511, nm_m1023, nm_m2047, nm_m65535, Nat.reduceMod, Nat.reducePow, Nat.reduceAdd, Nat.reduceSub, Nat.reduceMul, nm_bo, nm_bi, nm_rc, nm_ic, nm_ri, nm_rl, nm_rq, nm_ql, nm_qi, nm_li, nm_us, nm_uu, nm_cp, nm_sa31, nm_sa7, nm_m127, nm_m2, nm_nz, nm_nzk, nm_eq32, nm_nzf, if_true, if_false, ↓reduceIte, if_pos, if_neg]
theorem sw_22 (n q l : Nat) {z : Nat → Nat} {B : St} {tk ts op ft : Nat} {tv : Int64} {K P OA : Nat → Int32} {N : Nat → Int64} {X : St × St} (hl : 1 ≤ l) (hl2 : q + l ≤ 120) (hn : 130 < n) (hz : ∀ i : Nat, i < q + l → sR B 0 i = nI (z i) ∧ 32 ≤ z i ∧ z i ≤ 126) (hza : ∀ i : Nat, z i < 127) (hw : l = 3 ∧ z q = 112 ∧ z (q + 1) = 105 ∧ z (q + 2) = 100) : df_X15_scanWord_195 n (mR B (q + l) tk q ts op ft tv K P OA N, X) = some (mR B (q + l) 4 q ts op ft tv K P OA N, X) := by
  have i21 := is_G n q l 25456 z hza hl hl2 hn (by decide) (X := X) (fun i hi => (hz i hi).1) (B := B) (tk := tk) (ts := ts) (op := op) (ft := ft) (tv := tv) (K := K) (P := P) (OA := OA) (N := N) (ap := q + l) (st := q)
  rw [if_neg (fun h => by have := (pk_21 hl (fun i hi => (hz i hi).2)).mp h; omega)] at i21
  have i21 : df_X15_is n (nI q) (nI (q + l)) 25456 (mR B (q + l) tk q ts op ft tv K P OA N, X) = some (nI 0, (mR B (q + l) tk q ts op ft tv K P OA N, X)) := i21
  have i22 := is_G n q l 6580592 z hza hl hl2 hn (by decide) (X := X) (fun i hi => (hz i hi).1) (B := B) (tk := tk) (ts := ts) (op := op) (ft := ft) (tv := tv) (K := K) (P := P) (OA := OA) (N := N) (ap := q + l) (st := q)
  rw [if_pos ((pk_22 hl (fun i hi => (hz i hi).2)).mpr hw)] at i22
  have i22 : df_X15_is n (nI q) (nI (q + l)) 6580592 (mR B (q + l) tk q ts op ft tv K P OA N, X) = some (nI 1, (mR B (q + l) tk q ts op ft tv K P OA N, X)) := i22
  simp (disch := (first | assumption | decide | omega)) only [df_X15_scanWord_195, df_X15_scanWord_354, mR_i1, mR_i2, mR_i3, mR_i4, mR_i5, mR_i6, mR_l, mR_r5, mR_r6, mR_r7, mR_q, mR_o, mR_i0, mR_r0, mR_wi1, mR_wi2, mR_wi3, mR_wi4, mR_wi5, mR_wi6, mR_wl, mR_wr5, mR_wr6, mR_wr7, mR_wq, i21, i22, eq_self, Nat.reduceEqDiff, Nat.reduceLeDiff, nl_0, nl_1, nl_2, nl_3, nl_4, nl_5, nl_6, nl_7, nl_8, nl_9, nl_25456, nl_6580592, nl_6581359, nl_1702132066, nl_1718378856, no_1, no_1024, pk_mul, nI_add, nm_ck, nI_clamp, nI_ltI, nI_leI, nI_eq, nb_b2, nb_b1, ↓nb_let, nm_z0, nm_z1, nb_II, nb_IR, nb_RI, nb_RR, nm_IL, nm_IQ, nm_RL, nm_RQ, nm_LI, nm_LR, nm_LL, nm_LQ, nm_QI, nm_QR, nm_QL, nm_QQ, nm_rr, nm_ii, nm_eqm, not_false_eq_true, pk_sub, nm_div, nm_shl, nm_shr, nm_ush, nm_or8, nm_or64, nm_or256, nm_m1, nm_m3, nm_m7, nm_m15, nm_m31, nm_m63, nm_m255, nm_m511, nm_m1023, nm_m2047, nm_m65535, Nat.reduceMod, Nat.reducePow, Nat.reduceAdd, Nat.reduceSub, Nat.reduceMul, nm_bo, nm_bi, nm_rc, nm_ic, nm_ri, nm_rl, nm_rq, nm_ql, nm_qi, nm_li, nm_us, nm_uu, nm_cp, nm_sa31, nm_sa7, nm_m127, nm_m2, nm_nz, nm_nzk, nm_eq32, nm_nzf, if_true, if_false, ↓reduceIte, if_pos, if_neg]
theorem sw_23 (n q l : Nat) {z : Nat → Nat} {B : St} {tk ts op ft : Nat} {tv : Int64} {K P OA : Nat → Int32} {N : Nat → Int64} {X : St × St} (hl : 1 ≤ l) (hl2 : q + l ≤ 120) (hn : 130 < n) (hz : ∀ i : Nat, i < q + l → sR B 0 i = nI (z i) ∧ 32 ≤ z i ∧ z i ≤ 126) (hza : ∀ i : Nat, z i < 127) (hw : l = 5 ∧ z q = 99 ∧ z (q + 1) = 111 ∧ z (q + 2) = 117 ∧ z (q + 3) = 110 ∧ z (q + 4) = 116) : df_X15_scanWord_195 n (mR B (q + l) tk q ts op ft tv K P OA N, X) = some (mR B (q + l) 5 q ts op ft tv K P OA N, X) := by
  have i21 := is_G n q l 25456 z hza hl hl2 hn (by decide) (X := X) (fun i hi => (hz i hi).1) (B := B) (tk := tk) (ts := ts) (op := op) (ft := ft) (tv := tv) (K := K) (P := P) (OA := OA) (N := N) (ap := q + l) (st := q)
  rw [if_neg (fun h => by have := (pk_21 hl (fun i hi => (hz i hi).2)).mp h; omega)] at i21
  have i21 : df_X15_is n (nI q) (nI (q + l)) 25456 (mR B (q + l) tk q ts op ft tv K P OA N, X) = some (nI 0, (mR B (q + l) tk q ts op ft tv K P OA N, X)) := i21
  have i22 := is_G n q l 6580592 z hza hl hl2 hn (by decide) (X := X) (fun i hi => (hz i hi).1) (B := B) (tk := tk) (ts := ts) (op := op) (ft := ft) (tv := tv) (K := K) (P := P) (OA := OA) (N := N) (ap := q + l) (st := q)
  rw [if_neg (fun h => by have := (pk_22 hl (fun i hi => (hz i hi).2)).mp h; omega)] at i22
  have i22 : df_X15_is n (nI q) (nI (q + l)) 6580592 (mR B (q + l) tk q ts op ft tv K P OA N, X) = some (nI 0, (mR B (q + l) tk q ts op ft tv K P OA N, X)) := i22
  have i23 := is_G n q l 500069396323 z hza hl hl2 hn (by decide) (X := X) (fun i hi => (hz i hi).1) (B := B) (tk := tk) (ts := ts) (op := op) (ft := ft) (tv := tv) (K := K) (P := P) (OA := OA) (N := N) (ap := q + l) (st := q)
  rw [if_pos ((pk_23 hl (fun i hi => (hz i hi).2)).mpr hw)] at i23
  have i23 : df_X15_is n (nI q) (nI (q + l)) 500069396323 (mR B (q + l) tk q ts op ft tv K P OA N, X) = some (nI 1, (mR B (q + l) tk q ts op ft tv K P OA N, X)) := i23
  simp (disch := (first | assumption | decide | omega)) only [df_X15_scanWord_195, df_X15_scanWord_354, mR_i1, mR_i2, mR_i3, mR_i4, mR_i5, mR_i6, mR_l, mR_r5, mR_r6, mR_r7, mR_q, mR_o, mR_i0, mR_r0, mR_wi1, mR_wi2, mR_wi3, mR_wi4, mR_wi5, mR_wi6, mR_wl, mR_wr5, mR_wr6, mR_wr7, mR_wq, i21, i22, i23, eq_self, Nat.reduceEqDiff, Nat.reduceLeDiff, nl_0, nl_1, nl_2, nl_3, nl_4, nl_5, nl_6, nl_7, nl_8, nl_9, nl_25456, nl_6580592, nl_6581359, nl_1702132066, nl_1718378856, no_1, no_1024, pk_mul, nI_add, nm_ck, nI_clamp, nI_ltI, nI_leI, nI_eq, nb_b2, nb_b1, ↓nb_let, nm_z0, nm_z1, nb_II, nb_IR, nb_RI, nb_RR, nm_IL, nm_IQ, nm_RL, nm_RQ, nm_LI, nm_LR, nm_LL, nm_LQ, nm_QI, nm_QR, nm_QL, nm_QQ, nm_rr, nm_ii, nm_eqm, not_false_eq_true, pk_sub, nm_div, nm_shl, nm_shr, nm_ush, nm_or8, nm_or64, nm_or256, nm_m1, nm_m3, nm_m7, nm_m15, nm_m31, nm_m63, nm_m255, nm_m511, nm_m1023, nm_m2047, nm_m65535, Nat.reduceMod, Nat.reducePow, Nat.reduceAdd, Nat.reduceSub, Nat.reduceMul, nm_bo, nm_bi, nm_rc, nm_ic, nm_ri, nm_rl, nm_rq, nm_ql, nm_qi, nm_li, nm_us, nm_uu, nm_cp, nm_sa31, nm_sa7, nm_m127, nm_m2, nm_nz, nm_nzk, nm_eq32, nm_nzf, if_true, if_false, ↓reduceIte, if_pos, if_neg]
theorem sw_24 (n q l : Nat) {z : Nat → Nat} {B : St} {tk ts op ft : Nat} {tv : Int64} {K P OA : Nat → Int32} {N : Nat → Int64} {X : St × St} (hl : 1 ≤ l) (hl2 : q + l ≤ 120) (hn : 130 < n) (hz : ∀ i : Nat, i < q + l → sR B 0 i = nI (z i) ∧ 32 ≤ z i ∧ z i ≤ 126) (hza : ∀ i : Nat, z i < 127) (hw : l = 4 ∧ z q = 98 ∧ z (q + 1) = 121 ∧ z (q + 2) = 116 ∧ z (q + 3) = 101) : df_X15_scanWord_195 n (mR B (q + l) tk q ts op ft tv K P OA N, X) = some (mR B (q + l) 6 q ts op ft tv K P OA N, X) := by
  have i21 := is_G n q l 25456 z hza hl hl2 hn (by decide) (X := X) (fun i hi => (hz i hi).1) (B := B) (tk := tk) (ts := ts) (op := op) (ft := ft) (tv := tv) (K := K) (P := P) (OA := OA) (N := N) (ap := q + l) (st := q)
  rw [if_neg (fun h => by have := (pk_21 hl (fun i hi => (hz i hi).2)).mp h; omega)] at i21
  have i21 : df_X15_is n (nI q) (nI (q + l)) 25456 (mR B (q + l) tk q ts op ft tv K P OA N, X) = some (nI 0, (mR B (q + l) tk q ts op ft tv K P OA N, X)) := i21
  have i22 := is_G n q l 6580592 z hza hl hl2 hn (by decide) (X := X) (fun i hi => (hz i hi).1) (B := B) (tk := tk) (ts := ts) (op := op) (ft := ft) (tv := tv) (K := K) (P := P) (OA := OA) (N := N) (ap := q + l) (st := q)
  rw [if_neg (fun h => by have := (pk_22 hl (fun i hi => (hz i hi).2)).mp h; omega)] at i22
  have i22 : df_X15_is n (nI q) (nI (q + l)) 6580592 (mR B (q + l) tk q ts op ft tv K P OA N, X) = some (nI 0, (mR B (q + l) tk q ts op ft tv K P OA N, X)) := i22
  have i23 := is_G n q l 500069396323 z hza hl hl2 hn (by decide) (X := X) (fun i hi => (hz i hi).1) (B := B) (tk := tk) (ts := ts) (op := op) (ft := ft) (tv := tv) (K := K) (P := P) (OA := OA) (N := N) (ap := q + l) (st := q)
  rw [if_neg (fun h => by have := (pk_23 hl (fun i hi => (hz i hi).2)).mp h; omega)] at i23
  have i23 : df_X15_is n (nI q) (nI (q + l)) 500069396323 (mR B (q + l) tk q ts op ft tv K P OA N, X) = some (nI 0, (mR B (q + l) tk q ts op ft tv K P OA N, X)) := i23
  have i24 := is_G n q l 1702132066 z hza hl hl2 hn (by decide) (X := X) (fun i hi => (hz i hi).1) (B := B) (tk := tk) (ts := ts) (op := op) (ft := ft) (tv := tv) (K := K) (P := P) (OA := OA) (N := N) (ap := q + l) (st := q)
  rw [if_pos ((pk_24 hl (fun i hi => (hz i hi).2)).mpr hw)] at i24
  have i24 : df_X15_is n (nI q) (nI (q + l)) 1702132066 (mR B (q + l) tk q ts op ft tv K P OA N, X) = some (nI 1, (mR B (q + l) tk q ts op ft tv K P OA N, X)) := i24
  simp (disch := (first | assumption | decide | omega)) only [df_X15_scanWord_195, df_X15_scanWord_354, mR_i1, mR_i2, mR_i3, mR_i4, mR_i5, mR_i6, mR_l, mR_r5, mR_r6, mR_r7, mR_q, mR_o, mR_i0, mR_r0, mR_wi1, mR_wi2, mR_wi3, mR_wi4, mR_wi5, mR_wi6, mR_wl, mR_wr5, mR_wr6, mR_wr7, mR_wq, i21, i22, i23, i24, eq_self, Nat.reduceEqDiff, Nat.reduceLeDiff, nl_0, nl_1, nl_2, nl_3, nl_4, nl_5, nl_6, nl_7, nl_8, nl_9, nl_25456, nl_6580592, nl_6581359, nl_1702132066, nl_1718378856, no_1, no_1024, pk_mul, nI_add, nm_ck, nI_clamp, nI_ltI, nI_leI, nI_eq, nb_b2, nb_b1, ↓nb_let, nm_z0, nm_z1, nb_II, nb_IR, nb_RI, nb_RR, nm_IL, nm_IQ, nm_RL, nm_RQ, nm_LI, nm_LR, nm_LL, nm_LQ, nm_QI, nm_QR, nm_QL, nm_QQ, nm_rr, nm_ii, nm_eqm, not_false_eq_true, pk_sub, nm_div, nm_shl, nm_shr, nm_ush, nm_or8, nm_or64, nm_or256, nm_m1, nm_m3, nm_m7, nm_m15, nm_m31, nm_m63, nm_m255, nm_m511, nm_m1023, nm_m2047, nm_m65535, Nat.reduceMod, Nat.reducePow, Nat.reduceAdd, Nat.reduceSub, Nat.reduceMul, nm_bo, nm_bi, nm_rc, nm_ic, nm_ri, nm_rl, nm_rq, nm_ql, nm_qi, nm_li, nm_us, nm_uu, nm_cp, nm_sa31, nm_sa7, nm_m127, nm_m2, nm_nz, nm_nzk, nm_eq32, nm_nzf, if_true, if_false, ↓reduceIte, if_pos, if_neg]
theorem sw_25 (n q l : Nat) {z : Nat → Nat} {B : St} {tk ts op ft : Nat} {tv : Int64} {K P OA : Nat → Int32} {N : Nat → Int64} {X : St × St} (hl : 1 ≤ l) (hl2 : q + l ≤ 120) (hn : 130 < n) (hz : ∀ i : Nat, i < q + l → sR B 0 i = nI (z i) ∧ 32 ≤ z i ∧ z i ≤ 126) (hza : ∀ i : Nat, z i < 127) (hw : l = 4 ∧ z q = 104 ∧ z (q + 1) = 97 ∧ z (q + 2) = 108 ∧ z (q + 3) = 102) : df_X15_scanWord_195 n (mR B (q + l) tk q ts op ft tv K P OA N, X) = some (mR B (q + l) 7 q ts op ft tv K P OA N, X) := by
  have i21 := is_G n q l 25456 z hza hl hl2 hn (by decide) (X := X) (fun i hi => (hz i hi).1) (B := B) (tk := tk) (ts := ts) (op := op) (ft := ft) (tv := tv) (K := K) (P := P) (OA := OA) (N := N) (ap := q + l) (st := q)
  rw [if_neg (fun h => by have := (pk_21 hl (fun i hi => (hz i hi).2)).mp h; omega)] at i21
  have i21 : df_X15_is n (nI q) (nI (q + l)) 25456 (mR B (q + l) tk q ts op ft tv K P OA N, X) = some (nI 0, (mR B (q + l) tk q ts op ft tv K P OA N, X)) := i21
  have i22 := is_G n q l 6580592 z hza hl hl2 hn (by decide) (X := X) (fun i hi => (hz i hi).1) (B := B) (tk := tk) (ts := ts) (op := op) (ft := ft) (tv := tv) (K := K) (P := P) (OA := OA) (N := N) (ap := q + l) (st := q)
  rw [if_neg (fun h => by have := (pk_22 hl (fun i hi => (hz i hi).2)).mp h; omega)] at i22
  have i22 : df_X15_is n (nI q) (nI (q + l)) 6580592 (mR B (q + l) tk q ts op ft tv K P OA N, X) = some (nI 0, (mR B (q + l) tk q ts op ft tv K P OA N, X)) := i22
  have i23 := is_G n q l 500069396323 z hza hl hl2 hn (by decide) (X := X) (fun i hi => (hz i hi).1) (B := B) (tk := tk) (ts := ts) (op := op) (ft := ft) (tv := tv) (K := K) (P := P) (OA := OA) (N := N) (ap := q + l) (st := q)
  rw [if_neg (fun h => by have := (pk_23 hl (fun i hi => (hz i hi).2)).mp h; omega)] at i23
  have i23 : df_X15_is n (nI q) (nI (q + l)) 500069396323 (mR B (q + l) tk q ts op ft tv K P OA N, X) = some (nI 0, (mR B (q + l) tk q ts op ft tv K P OA N, X)) := i23
  have i24 := is_G n q l 1702132066 z hza hl hl2 hn (by decide) (X := X) (fun i hi => (hz i hi).1) (B := B) (tk := tk) (ts := ts) (op := op) (ft := ft) (tv := tv) (K := K) (P := P) (OA := OA) (N := N) (ap := q + l) (st := q)
  rw [if_neg (fun h => by have := (pk_24 hl (fun i hi => (hz i hi).2)).mp h; omega)] at i24
  have i24 : df_X15_is n (nI q) (nI (q + l)) 1702132066 (mR B (q + l) tk q ts op ft tv K P OA N, X) = some (nI 0, (mR B (q + l) tk q ts op ft tv K P OA N, X)) := i24
  have i25 := is_G n q l 1718378856 z hza hl hl2 hn (by decide) (X := X) (fun i hi => (hz i hi).1) (B := B) (tk := tk) (ts := ts) (op := op) (ft := ft) (tv := tv) (K := K) (P := P) (OA := OA) (N := N) (ap := q + l) (st := q)
  rw [if_pos ((pk_25 hl (fun i hi => (hz i hi).2)).mpr hw)] at i25
  have i25 : df_X15_is n (nI q) (nI (q + l)) 1718378856 (mR B (q + l) tk q ts op ft tv K P OA N, X) = some (nI 1, (mR B (q + l) tk q ts op ft tv K P OA N, X)) := i25
  simp (disch := (first | assumption | decide | omega)) only [df_X15_scanWord_195, df_X15_scanWord_354, mR_i1, mR_i2, mR_i3, mR_i4, mR_i5, mR_i6, mR_l, mR_r5, mR_r6, mR_r7, mR_q, mR_o, mR_i0, mR_r0, mR_wi1, mR_wi2, mR_wi3, mR_wi4, mR_wi5, mR_wi6, mR_wl, mR_wr5, mR_wr6, mR_wr7, mR_wq, i21, i22, i23, i24, i25, eq_self, Nat.reduceEqDiff, Nat.reduceLeDiff, nl_0, nl_1, nl_2, nl_3, nl_4, nl_5, nl_6, nl_7, nl_8, nl_9, nl_25456, nl_6580592, nl_6581359, nl_1702132066, nl_1718378856, no_1, no_1024, pk_mul, nI_add, nm_ck, nI_clamp, nI_ltI, nI_leI, nI_eq, nb_b2, nb_b1, ↓nb_let, nm_z0, nm_z1, nb_II, nb_IR, nb_RI, nb_RR, nm_IL, nm_IQ, nm_RL, nm_RQ, nm_LI, nm_LR, nm_LL, nm_LQ, nm_QI, nm_QR, nm_QL, nm_QQ, nm_rr, nm_ii, nm_eqm, not_false_eq_true, pk_sub, nm_div, nm_shl, nm_shr, nm_ush, nm_or8, nm_or64, nm_or256, nm_m1, nm_m3, nm_m7, nm_m15, nm_m31, nm_m63, nm_m255, nm_m511, nm_m1023, nm_m2047, nm_m65535, Nat.reduceMod, Nat.reducePow, Nat.reduceAdd, Nat.reduceSub, Nat.reduceMul, nm_bo, nm_bi, nm_rc, nm_ic, nm_ri, nm_rl, nm_rq, nm_ql, nm_qi, nm_li, nm_us, nm_uu, nm_cp, nm_sa31, nm_sa7, nm_m127, nm_m2, nm_nz, nm_nzk, nm_eq32, nm_nzf, if_true, if_false, ↓reduceIte, if_pos, if_neg]
theorem sw_26 (n q l : Nat) {z : Nat → Nat} {B : St} {tk ts op ft : Nat} {tv : Int64} {K P OA : Nat → Int32} {N : Nat → Int64} {X : St × St} (hl : 1 ≤ l) (hl2 : q + l ≤ 120) (hn : 130 < n) (hz : ∀ i : Nat, i < q + l → sR B 0 i = nI (z i) ∧ 32 ≤ z i ∧ z i ≤ 126) (hza : ∀ i : Nat, z i < 127) (hw : l = 3 ∧ z q = 111 ∧ z (q + 1) = 108 ∧ z (q + 2) = 100) : df_X15_scanWord_195 n (mR B (q + l) tk q ts op ft tv K P OA N, X) = some (mR B (q + l) 8 q ts op ft tv K P OA N, X) := by
  have i21 := is_G n q l 25456 z hza hl hl2 hn (by decide) (X := X) (fun i hi => (hz i hi).1) (B := B) (tk := tk) (ts := ts) (op := op) (ft := ft) (tv := tv) (K := K) (P := P) (OA := OA) (N := N) (ap := q + l) (st := q)
  rw [if_neg (fun h => by have := (pk_21 hl (fun i hi => (hz i hi).2)).mp h; omega)] at i21
  have i21 : df_X15_is n (nI q) (nI (q + l)) 25456 (mR B (q + l) tk q ts op ft tv K P OA N, X) = some (nI 0, (mR B (q + l) tk q ts op ft tv K P OA N, X)) := i21
  have i22 := is_G n q l 6580592 z hza hl hl2 hn (by decide) (X := X) (fun i hi => (hz i hi).1) (B := B) (tk := tk) (ts := ts) (op := op) (ft := ft) (tv := tv) (K := K) (P := P) (OA := OA) (N := N) (ap := q + l) (st := q)
  rw [if_neg (fun h => by have := (pk_22 hl (fun i hi => (hz i hi).2)).mp h; omega)] at i22
  have i22 : df_X15_is n (nI q) (nI (q + l)) 6580592 (mR B (q + l) tk q ts op ft tv K P OA N, X) = some (nI 0, (mR B (q + l) tk q ts op ft tv K P OA N, X)) := i22
  have i23 := is_G n q l 500069396323 z hza hl hl2 hn (by decide) (X := X) (fun i hi => (hz i hi).1) (B := B) (tk := tk) (ts := ts) (op := op) (ft := ft) (tv := tv) (K := K) (P := P) (OA := OA) (N := N) (ap := q + l) (st := q)
  rw [if_neg (fun h => by have := (pk_23 hl (fun i hi => (hz i hi).2)).mp h; omega)] at i23
  have i23 : df_X15_is n (nI q) (nI (q + l)) 500069396323 (mR B (q + l) tk q ts op ft tv K P OA N, X) = some (nI 0, (mR B (q + l) tk q ts op ft tv K P OA N, X)) := i23
  have i24 := is_G n q l 1702132066 z hza hl hl2 hn (by decide) (X := X) (fun i hi => (hz i hi).1) (B := B) (tk := tk) (ts := ts) (op := op) (ft := ft) (tv := tv) (K := K) (P := P) (OA := OA) (N := N) (ap := q + l) (st := q)
  rw [if_neg (fun h => by have := (pk_24 hl (fun i hi => (hz i hi).2)).mp h; omega)] at i24
  have i24 : df_X15_is n (nI q) (nI (q + l)) 1702132066 (mR B (q + l) tk q ts op ft tv K P OA N, X) = some (nI 0, (mR B (q + l) tk q ts op ft tv K P OA N, X)) := i24
  have i25 := is_G n q l 1718378856 z hza hl hl2 hn (by decide) (X := X) (fun i hi => (hz i hi).1) (B := B) (tk := tk) (ts := ts) (op := op) (ft := ft) (tv := tv) (K := K) (P := P) (OA := OA) (N := N) (ap := q + l) (st := q)
  rw [if_neg (fun h => by have := (pk_25 hl (fun i hi => (hz i hi).2)).mp h; omega)] at i25
  have i25 : df_X15_is n (nI q) (nI (q + l)) 1718378856 (mR B (q + l) tk q ts op ft tv K P OA N, X) = some (nI 0, (mR B (q + l) tk q ts op ft tv K P OA N, X)) := i25
  have i26 := is_G n q l 6581359 z hza hl hl2 hn (by decide) (X := X) (fun i hi => (hz i hi).1) (B := B) (tk := tk) (ts := ts) (op := op) (ft := ft) (tv := tv) (K := K) (P := P) (OA := OA) (N := N) (ap := q + l) (st := q)
  rw [if_pos ((pk_26 hl (fun i hi => (hz i hi).2)).mpr hw)] at i26
  have i26 : df_X15_is n (nI q) (nI (q + l)) 6581359 (mR B (q + l) tk q ts op ft tv K P OA N, X) = some (nI 1, (mR B (q + l) tk q ts op ft tv K P OA N, X)) := i26
  simp (disch := (first | assumption | decide | omega)) only [df_X15_scanWord_195, df_X15_scanWord_354, mR_i1, mR_i2, mR_i3, mR_i4, mR_i5, mR_i6, mR_l, mR_r5, mR_r6, mR_r7, mR_q, mR_o, mR_i0, mR_r0, mR_wi1, mR_wi2, mR_wi3, mR_wi4, mR_wi5, mR_wi6, mR_wl, mR_wr5, mR_wr6, mR_wr7, mR_wq, i21, i22, i23, i24, i25, i26, eq_self, Nat.reduceEqDiff, Nat.reduceLeDiff, nl_0, nl_1, nl_2, nl_3, nl_4, nl_5, nl_6, nl_7, nl_8, nl_9, nl_25456, nl_6580592, nl_6581359, nl_1702132066, nl_1718378856, no_1, no_1024, pk_mul, nI_add, nm_ck, nI_clamp, nI_ltI, nI_leI, nI_eq, nb_b2, nb_b1, ↓nb_let, nm_z0, nm_z1, nb_II, nb_IR, nb_RI, nb_RR, nm_IL, nm_IQ, nm_RL, nm_RQ, nm_LI, nm_LR, nm_LL, nm_LQ, nm_QI, nm_QR, nm_QL, nm_QQ, nm_rr, nm_ii, nm_eqm, not_false_eq_true, pk_sub, nm_div, nm_shl, nm_shr, nm_ush, nm_or8, nm_or64, nm_or256, nm_m1, nm_m3, nm_m7, nm_m15, nm_m31, nm_m63, nm_m255, nm_m511, nm_m1023, nm_m2047, nm_m65535, Nat.reduceMod, Nat.reducePow, Nat.reduceAdd, Nat.reduceSub, Nat.reduceMul, nm_bo, nm_bi, nm_rc, nm_ic, nm_ri, nm_rl, nm_rq, nm_ql, nm_qi, nm_li, nm_us, nm_uu, nm_cp, nm_sa31, nm_sa7, nm_m127, nm_m2, nm_nz, nm_nzk, nm_eq32, nm_nzf, if_true, if_false, ↓reduceIte, if_pos, if_neg]
theorem sw_27 (n q l : Nat) {z : Nat → Nat} {B : St} {tk ts op ft : Nat} {tv : Int64} {K P OA : Nat → Int32} {N : Nat → Int64} {X : St × St} (hl : 1 ≤ l) (hl2 : q + l ≤ 120) (hn : 130 < n) (hz : ∀ i : Nat, i < q + l → sR B 0 i = nI (z i) ∧ 32 ≤ z i ∧ z i ≤ 126) (hza : ∀ i : Nat, z i < 127) (hw : l = 7 ∧ z q = 99 ∧ z (q + 1) = 104 ∧ z (q + 2) = 97 ∧ z (q + 3) = 110 ∧ z (q + 4) = 103 ∧ z (q + 5) = 101 ∧ z (q + 6) = 100) : df_X15_scanWord_195 n (mR B (q + l) tk q ts op ft tv K P OA N, X) = some (mR B (q + l) 9 q ts op ft tv K P OA N, X) := by
  have i21 := is_G n q l 25456 z hza hl hl2 hn (by decide) (X := X) (fun i hi => (hz i hi).1) (B := B) (tk := tk) (ts := ts) (op := op) (ft := ft) (tv := tv) (K := K) (P := P) (OA := OA) (N := N) (ap := q + l) (st := q)
  rw [if_neg (fun h => by have := (pk_21 hl (fun i hi => (hz i hi).2)).mp h; omega)] at i21
  have i21 : df_X15_is n (nI q) (nI (q + l)) 25456 (mR B (q + l) tk q ts op ft tv K P OA N, X) = some (nI 0, (mR B (q + l) tk q ts op ft tv K P OA N, X)) := i21
  have i22 := is_G n q l 6580592 z hza hl hl2 hn (by decide) (X := X) (fun i hi => (hz i hi).1) (B := B) (tk := tk) (ts := ts) (op := op) (ft := ft) (tv := tv) (K := K) (P := P) (OA := OA) (N := N) (ap := q + l) (st := q)
  rw [if_neg (fun h => by have := (pk_22 hl (fun i hi => (hz i hi).2)).mp h; omega)] at i22
  have i22 : df_X15_is n (nI q) (nI (q + l)) 6580592 (mR B (q + l) tk q ts op ft tv K P OA N, X) = some (nI 0, (mR B (q + l) tk q ts op ft tv K P OA N, X)) := i22
  have i23 := is_G n q l 500069396323 z hza hl hl2 hn (by decide) (X := X) (fun i hi => (hz i hi).1) (B := B) (tk := tk) (ts := ts) (op := op) (ft := ft) (tv := tv) (K := K) (P := P) (OA := OA) (N := N) (ap := q + l) (st := q)
  rw [if_neg (fun h => by have := (pk_23 hl (fun i hi => (hz i hi).2)).mp h; omega)] at i23
  have i23 : df_X15_is n (nI q) (nI (q + l)) 500069396323 (mR B (q + l) tk q ts op ft tv K P OA N, X) = some (nI 0, (mR B (q + l) tk q ts op ft tv K P OA N, X)) := i23
  have i24 := is_G n q l 1702132066 z hza hl hl2 hn (by decide) (X := X) (fun i hi => (hz i hi).1) (B := B) (tk := tk) (ts := ts) (op := op) (ft := ft) (tv := tv) (K := K) (P := P) (OA := OA) (N := N) (ap := q + l) (st := q)
  rw [if_neg (fun h => by have := (pk_24 hl (fun i hi => (hz i hi).2)).mp h; omega)] at i24
  have i24 : df_X15_is n (nI q) (nI (q + l)) 1702132066 (mR B (q + l) tk q ts op ft tv K P OA N, X) = some (nI 0, (mR B (q + l) tk q ts op ft tv K P OA N, X)) := i24
  have i25 := is_G n q l 1718378856 z hza hl hl2 hn (by decide) (X := X) (fun i hi => (hz i hi).1) (B := B) (tk := tk) (ts := ts) (op := op) (ft := ft) (tv := tv) (K := K) (P := P) (OA := OA) (N := N) (ap := q + l) (st := q)
  rw [if_neg (fun h => by have := (pk_25 hl (fun i hi => (hz i hi).2)).mp h; omega)] at i25
  have i25 : df_X15_is n (nI q) (nI (q + l)) 1718378856 (mR B (q + l) tk q ts op ft tv K P OA N, X) = some (nI 0, (mR B (q + l) tk q ts op ft tv K P OA N, X)) := i25
  have i26 := is_G n q l 6581359 z hza hl hl2 hn (by decide) (X := X) (fun i hi => (hz i hi).1) (B := B) (tk := tk) (ts := ts) (op := op) (ft := ft) (tv := tv) (K := K) (P := P) (OA := OA) (N := N) (ap := q + l) (st := q)
  rw [if_neg (fun h => by have := (pk_26 hl (fun i hi => (hz i hi).2)).mp h; omega)] at i26
  have i26 : df_X15_is n (nI q) (nI (q + l)) 6581359 (mR B (q + l) tk q ts op ft tv K P OA N, X) = some (nI 0, (mR B (q + l) tk q ts op ft tv K P OA N, X)) := i26
  have i27 := is_G n q l 28258992578979939 z hza hl hl2 hn (by decide) (X := X) (fun i hi => (hz i hi).1) (B := B) (tk := tk) (ts := ts) (op := op) (ft := ft) (tv := tv) (K := K) (P := P) (OA := OA) (N := N) (ap := q + l) (st := q)
  rw [if_pos ((pk_27 hl (fun i hi => (hz i hi).2)).mpr hw)] at i27
  have i27 : df_X15_is n (nI q) (nI (q + l)) 28258992578979939 (mR B (q + l) tk q ts op ft tv K P OA N, X) = some (nI 1, (mR B (q + l) tk q ts op ft tv K P OA N, X)) := i27
  simp (disch := (first | assumption | decide | omega)) only [df_X15_scanWord_195, df_X15_scanWord_354, mR_i1, mR_i2, mR_i3, mR_i4, mR_i5, mR_i6, mR_l, mR_r5, mR_r6, mR_r7, mR_q, mR_o, mR_i0, mR_r0, mR_wi1, mR_wi2, mR_wi3, mR_wi4, mR_wi5, mR_wi6, mR_wl, mR_wr5, mR_wr6, mR_wr7, mR_wq, i21, i22, i23, i24, i25, i26, i27, eq_self, Nat.reduceEqDiff, Nat.reduceLeDiff, nl_0, nl_1, nl_2, nl_3, nl_4, nl_5, nl_6, nl_7, nl_8, nl_9, nl_25456, nl_6580592, nl_6581359, nl_1702132066, nl_1718378856, no_1, no_1024, pk_mul, nI_add, nm_ck, nI_clamp, nI_ltI, nI_leI, nI_eq, nb_b2, nb_b1, ↓nb_let, nm_z0, nm_z1, nb_II, nb_IR, nb_RI, nb_RR, nm_IL, nm_IQ, nm_RL, nm_RQ, nm_LI, nm_LR, nm_LL, nm_LQ, nm_QI, nm_QR, nm_QL, nm_QQ, nm_rr, nm_ii, nm_eqm, not_false_eq_true, pk_sub, nm_div, nm_shl, nm_shr, nm_ush, nm_or8, nm_or64, nm_or256, nm_m1, nm_m3, nm_m7, nm_m15, nm_m31, nm_m63, nm_m255, nm_m511, nm_m1023, nm_m2047, nm_m65535, Nat.reduceMod, Nat.reducePow, Nat.reduceAdd, Nat.reduceSub, Nat.reduceMul, nm_bo, nm_bi, nm_rc, nm_ic, nm_ri, nm_rl, nm_rq, nm_ql, nm_qi, nm_li, nm_us, nm_uu, nm_cp, nm_sa31, nm_sa7, nm_m127, nm_m2, nm_nz, nm_nzk, nm_eq32, nm_nzf, if_true, if_false, ↓reduceIte, if_pos, if_neg]
theorem sw_0 (n q l : Nat) {z : Nat → Nat} {B : St} {tk ts op ft : Nat} {tv : Int64} {K P OA : Nat → Int32} {N : Nat → Int64} {X : St × St} (hl : 1 ≤ l) (hl2 : q + l ≤ 120) (hn : 130 < n) (hz : ∀ i : Nat, i < q + l → sR B 0 i = nI (z i) ∧ 32 ≤ z i ∧ z i ≤ 126) (hza : ∀ i : Nat, z i < 127) (w21 : ¬ (l = 2 ∧ z q = 112 ∧ z (q + 1) = 99)) (w22 : ¬ (l = 3 ∧ z q = 112 ∧ z (q + 1) = 105 ∧ z (q + 2) = 100)) (w23 : ¬ (l = 5 ∧ z q = 99 ∧ z (q + 1) = 111 ∧ z (q + 2) = 117 ∧ z (q + 3) = 110 ∧ z (q + 4) = 116)) (w24 : ¬ (l = 4 ∧ z q = 98 ∧ z (q + 1) = 121 ∧ z (q + 2) = 116 ∧ z (q + 3) = 101)) (w25 : ¬ (l = 4 ∧ z q = 104 ∧ z (q + 1) = 97 ∧ z (q + 2) = 108 ∧ z (q + 3) = 102)) (w26 : ¬ (l = 3 ∧ z q = 111 ∧ z (q + 1) = 108 ∧ z (q + 2) = 100)) (w27 : ¬ (l = 7 ∧ z q = 99 ∧ z (q + 1) = 104 ∧ z (q + 2) = 97 ∧ z (q + 3) = 110 ∧ z (q + 4) = 103 ∧ z (q + 5) = 101 ∧ z (q + 6) = 100)) : df_X15_scanWord_195 n (mR B (q + l) tk q ts op ft tv K P OA N, X) = some (mR B (q + l) 0 q ts op ft tv K P OA N, X) := by
  have i21 := is_G n q l 25456 z hza hl hl2 hn (by decide) (X := X) (fun i hi => (hz i hi).1) (B := B) (tk := tk) (ts := ts) (op := op) (ft := ft) (tv := tv) (K := K) (P := P) (OA := OA) (N := N) (ap := q + l) (st := q)
  rw [if_neg (fun h => w21 ((pk_21 hl (fun i hi => (hz i hi).2)).mp h))] at i21
  have i21 : df_X15_is n (nI q) (nI (q + l)) 25456 (mR B (q + l) tk q ts op ft tv K P OA N, X) = some (nI 0, (mR B (q + l) tk q ts op ft tv K P OA N, X)) := i21
  have i22 := is_G n q l 6580592 z hza hl hl2 hn (by decide) (X := X) (fun i hi => (hz i hi).1) (B := B) (tk := tk) (ts := ts) (op := op) (ft := ft) (tv := tv) (K := K) (P := P) (OA := OA) (N := N) (ap := q + l) (st := q)
  rw [if_neg (fun h => w22 ((pk_22 hl (fun i hi => (hz i hi).2)).mp h))] at i22
  have i22 : df_X15_is n (nI q) (nI (q + l)) 6580592 (mR B (q + l) tk q ts op ft tv K P OA N, X) = some (nI 0, (mR B (q + l) tk q ts op ft tv K P OA N, X)) := i22
  have i23 := is_G n q l 500069396323 z hza hl hl2 hn (by decide) (X := X) (fun i hi => (hz i hi).1) (B := B) (tk := tk) (ts := ts) (op := op) (ft := ft) (tv := tv) (K := K) (P := P) (OA := OA) (N := N) (ap := q + l) (st := q)
  rw [if_neg (fun h => w23 ((pk_23 hl (fun i hi => (hz i hi).2)).mp h))] at i23
  have i23 : df_X15_is n (nI q) (nI (q + l)) 500069396323 (mR B (q + l) tk q ts op ft tv K P OA N, X) = some (nI 0, (mR B (q + l) tk q ts op ft tv K P OA N, X)) := i23
  have i24 := is_G n q l 1702132066 z hza hl hl2 hn (by decide) (X := X) (fun i hi => (hz i hi).1) (B := B) (tk := tk) (ts := ts) (op := op) (ft := ft) (tv := tv) (K := K) (P := P) (OA := OA) (N := N) (ap := q + l) (st := q)
  rw [if_neg (fun h => w24 ((pk_24 hl (fun i hi => (hz i hi).2)).mp h))] at i24
  have i24 : df_X15_is n (nI q) (nI (q + l)) 1702132066 (mR B (q + l) tk q ts op ft tv K P OA N, X) = some (nI 0, (mR B (q + l) tk q ts op ft tv K P OA N, X)) := i24
  have i25 := is_G n q l 1718378856 z hza hl hl2 hn (by decide) (X := X) (fun i hi => (hz i hi).1) (B := B) (tk := tk) (ts := ts) (op := op) (ft := ft) (tv := tv) (K := K) (P := P) (OA := OA) (N := N) (ap := q + l) (st := q)
  rw [if_neg (fun h => w25 ((pk_25 hl (fun i hi => (hz i hi).2)).mp h))] at i25
  have i25 : df_X15_is n (nI q) (nI (q + l)) 1718378856 (mR B (q + l) tk q ts op ft tv K P OA N, X) = some (nI 0, (mR B (q + l) tk q ts op ft tv K P OA N, X)) := i25
  have i26 := is_G n q l 6581359 z hza hl hl2 hn (by decide) (X := X) (fun i hi => (hz i hi).1) (B := B) (tk := tk) (ts := ts) (op := op) (ft := ft) (tv := tv) (K := K) (P := P) (OA := OA) (N := N) (ap := q + l) (st := q)
  rw [if_neg (fun h => w26 ((pk_26 hl (fun i hi => (hz i hi).2)).mp h))] at i26
  have i26 : df_X15_is n (nI q) (nI (q + l)) 6581359 (mR B (q + l) tk q ts op ft tv K P OA N, X) = some (nI 0, (mR B (q + l) tk q ts op ft tv K P OA N, X)) := i26
  have i27 := is_G n q l 28258992578979939 z hza hl hl2 hn (by decide) (X := X) (fun i hi => (hz i hi).1) (B := B) (tk := tk) (ts := ts) (op := op) (ft := ft) (tv := tv) (K := K) (P := P) (OA := OA) (N := N) (ap := q + l) (st := q)
  rw [if_neg (fun h => w27 ((pk_27 hl (fun i hi => (hz i hi).2)).mp h))] at i27
  have i27 : df_X15_is n (nI q) (nI (q + l)) 28258992578979939 (mR B (q + l) tk q ts op ft tv K P OA N, X) = some (nI 0, (mR B (q + l) tk q ts op ft tv K P OA N, X)) := i27
  simp (disch := (first | assumption | decide | omega)) only [df_X15_scanWord_195, df_X15_scanWord_354, mR_i1, mR_i2, mR_i3, mR_i4, mR_i5, mR_i6, mR_l, mR_r5, mR_r6, mR_r7, mR_q, mR_o, mR_i0, mR_r0, mR_wi1, mR_wi2, mR_wi3, mR_wi4, mR_wi5, mR_wi6, mR_wl, mR_wr5, mR_wr6, mR_wr7, mR_wq, i21, i22, i23, i24, i25, i26, i27, eq_self, Nat.reduceEqDiff, Nat.reduceLeDiff, nl_0, nl_1, nl_2, nl_3, nl_4, nl_5, nl_6, nl_7, nl_8, nl_9, nl_25456, nl_6580592, nl_6581359, nl_1702132066, nl_1718378856, no_1, no_1024, pk_mul, nI_add, nm_ck, nI_clamp, nI_ltI, nI_leI, nI_eq, nb_b2, nb_b1, ↓nb_let, nm_z0, nm_z1, nb_II, nb_IR, nb_RI, nb_RR, nm_IL, nm_IQ, nm_RL, nm_RQ, nm_LI, nm_LR, nm_LL, nm_LQ, nm_QI, nm_QR, nm_QL, nm_QQ, nm_rr, nm_ii, nm_eqm, not_false_eq_true, pk_sub, nm_div, nm_shl, nm_shr, nm_ush, nm_or8, nm_or64, nm_or256, nm_m1, nm_m3, nm_m7, nm_m15, nm_m31, nm_m63, nm_m255, nm_m511, nm_m1023, nm_m2047, nm_m65535, Nat.reduceMod, Nat.reducePow, Nat.reduceAdd, Nat.reduceSub, Nat.reduceMul, nm_bo, nm_bi, nm_rc, nm_ic, nm_ri, nm_rl, nm_rq, nm_ql, nm_qi, nm_li, nm_us, nm_uu, nm_cp, nm_sa31, nm_sa7, nm_m127, nm_m2, nm_nz, nm_nzk, nm_eq32, nm_nzf, if_true, if_false, ↓reduceIte, if_pos, if_neg]
theorem sw_r (n q l : Nat) {z : Nat → Nat} {B : St} {tk ts op ft : Nat} {tv : Int64} {K P OA : Nat → Int32} {N : Nat → Int64} {X : St × St} (hl : 1 ≤ l) (hl2 : q + l ≤ 120) (hz : ∀ i : Nat, i < q + l → sR B 0 i = nI (z i) ∧ 32 ≤ z i ∧ z i ≤ 126) (hza : ∀ i : Nat, z i < 127) : (∀ g : Nat, z q = 120 → rgV z q l = some g → df_X15_scanWord n (mR B (q + l) tk q ts op ft tv K P OA N, X) = some (mR B (q + l) 2 q ts op ft (nI g).toInt64 K P OA N, X)) ∧ ((z q = 120 → rgV z q l = none) → ∃ v : Int64, df_X15_scanWord n (mR B (q + l) tk q ts op ft tv K P OA N, X) = df_X15_scanWord_195 n (mR B (q + l) tk q ts op ft v K P OA N, X)) := by
  have w : nI (q + l) - nI q = nI l := by rw [pk_sub (by omega)]; congr 1; omega
  have x0 := hz q (by omega)
  by_cases hx : z q = 120
  · rw [hx] at x0
    by_cases l2 : l = 2
    · subst l2
      have x1 := hz (q + 1) (by omega)
      have d1 : df_X15_isDigit n (nI (z (q + 1))) () = some (bI (aD (z (q + 1))), ()) := id_R n ⟨z (q + 1), by omega⟩
      cases y : aD (z (q + 1)) with
      | true =>
        have dd := aD_t y
        rw [y] at d1
        have d1 : df_X15_isDigit n (nI (z (q + 1))) () = some (nI 1, ()) := d1
        have e : nI (z (q + 1)) - nI 48 = nI (z (q + 1) - 48) := pk_sub dd.1
        have rv : rgV z q 2 = some (z (q + 1) - 48) := by unfold rgV; rw [if_pos ⟨rfl, y⟩]
        rw [rv]
        refine ⟨fun g _ hg => ?_, fun h => (nomatch h hx)⟩
        injection hg with hg
        subst hg
        have cm : ¬ nI 0 ≤ lg_cmp (nI (z (q + 1) - 48)).toInt64 32 := fun v => by
          rw [lgB, Int32.toInt_toInt64, nI_toInt (by omega), show (32 : Int64).toInt = 32 from rfl] at v
          omega
        simp (disch := (first | assumption | decide | omega)) only [df_X15_scanWord_354, df_X15_scanWord_195, df_X15_scanWord_172, df_X15_scanWord_106, df_X15_scanWord_105, df_X15_scanWord_101, df_X15_scanWord_46, df_X15_scanWord_0, df_X15_scanWord, mR_i1, mR_i2, mR_i3, mR_i4, mR_i5, mR_i6, mR_l, mR_r5, mR_r6, mR_r7, mR_q, mR_o, mR_i0, mR_r0, mR_wi1, mR_wi2, mR_wi3, mR_wi4, mR_wi5, mR_wi6, mR_wl, mR_wr5, mR_wr6, mR_wr7, mR_wq, w, x0.1, x1.1, d1, e, cm, eq_self, Nat.reduceEqDiff, Nat.reduceLeDiff, nl_0, nl_1, nl_2, nl_3, nl_4, nl_5, nl_6, nl_7, nl_8, nl_9, nl_10, nl_32, nl_48, nl_120, nl_25456, nl_6580592, nl_6581359, nl_1702132066, nl_1718378856, no_1, no_1024, pk_mul, nI_add, nm_ck, nI_clamp, nI_ltI, nI_leI, nI_eq, nb_b2, nb_b1, ↓nb_let, nm_z0, nm_z1, nb_II, nb_IR, nb_RI, nb_RR, nm_IL, nm_IQ, nm_RL, nm_RQ, nm_LI, nm_LR, nm_LL, nm_LQ, nm_QI, nm_QR, nm_QL, nm_QQ, nm_rr, nm_ii, nm_eqm, not_false_eq_true, pk_sub, nm_div, nm_shl, nm_shr, nm_ush, nm_or8, nm_or64, nm_or256, nm_m1, nm_m3, nm_m7, nm_m15, nm_m31, nm_m63, nm_m255, nm_m511, nm_m1023, nm_m2047, nm_m65535, Nat.reduceMod, Nat.reducePow, Nat.reduceAdd, Nat.reduceSub, Nat.reduceMul, nm_bo, nm_bi, nm_rc, nm_ic, nm_ri, nm_rl, nm_rq, nm_ql, nm_qi, nm_li, nm_us, nm_uu, nm_cp, nm_sa31, nm_sa7, nm_m127, nm_m2, nm_nz, nm_nzk, nm_eq32, nm_nzf, if_true, if_false, ↓reduceIte, if_pos, if_neg]
      | false =>
        rw [y] at d1
        have d1 : df_X15_isDigit n (nI (z (q + 1))) () = some (nI 0, ()) := d1
        have rv : rgV z q 2 = none := by unfold rgV; rw [y, if_neg (by decide), if_neg (fun h => absurd h.1 (by decide))]
        rw [rv]
        refine ⟨fun g _ hg => (nomatch hg), fun _ => ⟨0, ?_⟩⟩
        simp (disch := (first | assumption | decide | omega)) only [df_X15_scanWord_354, df_X15_scanWord_172, df_X15_scanWord_106, df_X15_scanWord_105, df_X15_scanWord_101, df_X15_scanWord_46, df_X15_scanWord_0, df_X15_scanWord, mR_i1, mR_i2, mR_i3, mR_i4, mR_i5, mR_i6, mR_l, mR_r5, mR_r6, mR_r7, mR_q, mR_o, mR_i0, mR_r0, mR_wi1, mR_wi2, mR_wi3, mR_wi4, mR_wi5, mR_wi6, mR_wl, mR_wr5, mR_wr6, mR_wr7, mR_wq, w, x0.1, x1.1, d1, eq_self, Nat.reduceEqDiff, Nat.reduceLeDiff, nl_0, nl_1, nl_2, nl_3, nl_10, nl_32, nl_48, nl_120, no_1, no_1024, pk_mul, nI_add, nm_ck, nI_clamp, nI_ltI, nI_leI, nI_eq, nb_b2, nb_b1, ↓nb_let, nm_z0, nm_z1, nb_II, nb_IR, nb_RI, nb_RR, nm_IL, nm_IQ, nm_RL, nm_RQ, nm_LI, nm_LR, nm_LL, nm_LQ, nm_QI, nm_QR, nm_QL, nm_QQ, nm_rr, nm_ii, nm_eqm, not_false_eq_true, pk_sub, nm_div, nm_shl, nm_shr, nm_ush, nm_or8, nm_or64, nm_or256, nm_m1, nm_m3, nm_m7, nm_m15, nm_m31, nm_m63, nm_m255, nm_m511, nm_m1023, nm_m2047, nm_m65535, Nat.reduceMod, Nat.reducePow, Nat.reduceAdd, Nat.reduceSub, Nat.reduceMul, nm_bo, nm_bi, nm_rc, nm_ic, nm_ri, nm_rl, nm_rq, nm_ql, nm_qi, nm_li, nm_us, nm_uu, nm_cp, nm_sa31, nm_sa7, nm_m127, nm_m2, nm_nz, nm_nzk, nm_eq32, nm_nzf, if_true, if_false, ↓reduceIte, if_pos, if_neg]
    · by_cases l3 : l = 3
      · subst l3
        have x1 := hz (q + 1) (by omega)
        have x2 := hz (q + 2) (by omega)
        have d1 : df_X15_isDigit n (nI (z (q + 1))) () = some (bI (aD (z (q + 1))), ()) := id_R n ⟨z (q + 1), by omega⟩
        have d2 : df_X15_isDigit n (nI (z (q + 2))) () = some (bI (aD (z (q + 2))), ()) := id_R n ⟨z (q + 2), by omega⟩
        cases y : aD (z (q + 1)) with
        | false =>
          rw [y] at d1
          have d1 : df_X15_isDigit n (nI (z (q + 1))) () = some (nI 0, ()) := d1
          have rv : rgV z q 3 = none := by unfold rgV; rw [y, if_neg (by decide), if_neg (fun h => absurd h.2.1 (by decide))]
          rw [rv]
          refine ⟨fun g _ hg => (nomatch hg), fun _ => ⟨0, ?_⟩⟩
          simp (disch := (first | assumption | decide | omega)) only [df_X15_scanWord_354, df_X15_scanWord_172, df_X15_scanWord_106, df_X15_scanWord_105, df_X15_scanWord_101, df_X15_scanWord_46, df_X15_scanWord_0, df_X15_scanWord, mR_i1, mR_i2, mR_i3, mR_i4, mR_i5, mR_i6, mR_l, mR_r5, mR_r6, mR_r7, mR_q, mR_o, mR_i0, mR_r0, mR_wi1, mR_wi2, mR_wi3, mR_wi4, mR_wi5, mR_wi6, mR_wl, mR_wr5, mR_wr6, mR_wr7, mR_wq, w, x0.1, x1.1, d1, eq_self, Nat.reduceEqDiff, Nat.reduceLeDiff, nl_0, nl_1, nl_2, nl_3, nl_10, nl_32, nl_48, nl_120, no_1, no_1024, pk_mul, nI_add, nm_ck, nI_clamp, nI_ltI, nI_leI, nI_eq, nb_b2, nb_b1, ↓nb_let, nm_z0, nm_z1, nb_II, nb_IR, nb_RI, nb_RR, nm_IL, nm_IQ, nm_RL, nm_RQ, nm_LI, nm_LR, nm_LL, nm_LQ, nm_QI, nm_QR, nm_QL, nm_QQ, nm_rr, nm_ii, nm_eqm, not_false_eq_true, pk_sub, nm_div, nm_shl, nm_shr, nm_ush, nm_or8, nm_or64, nm_or256, nm_m1, nm_m3, nm_m7, nm_m15, nm_m31, nm_m63, nm_m255, nm_m511, nm_m1023, nm_m2047, nm_m65535, Nat.reduceMod, Nat.reducePow, Nat.reduceAdd, Nat.reduceSub, Nat.reduceMul, nm_bo, nm_bi, nm_rc, nm_ic, nm_ri, nm_rl, nm_rq, nm_ql, nm_qi, nm_li, nm_us, nm_uu, nm_cp, nm_sa31, nm_sa7, nm_m127, nm_m2, nm_nz, nm_nzk, nm_eq32, nm_nzf, if_true, if_false, ↓reduceIte, if_pos, if_neg]
        | true =>
          have dd := aD_t y
          rw [y] at d1
          have d1 : df_X15_isDigit n (nI (z (q + 1))) () = some (nI 1, ()) := d1
          by_cases y1 : 48 < z (q + 1)
          · cases y2 : aD (z (q + 2)) with
            | false =>
              rw [y2] at d2
              have d2 : df_X15_isDigit n (nI (z (q + 2))) () = some (nI 0, ()) := d2
              have rv : rgV z q 3 = none := by unfold rgV; rw [y2, if_neg (by omega), if_neg (fun h => absurd h.2.2.2.1 (by decide))]
              rw [rv]
              refine ⟨fun g _ hg => (nomatch hg), fun _ => ⟨0, ?_⟩⟩
              simp (disch := (first | assumption | decide | omega)) only [df_X15_scanWord_354, df_X15_scanWord_172, df_X15_scanWord_106, df_X15_scanWord_105, df_X15_scanWord_101, df_X15_scanWord_46, df_X15_scanWord_0, df_X15_scanWord, mR_i1, mR_i2, mR_i3, mR_i4, mR_i5, mR_i6, mR_l, mR_r5, mR_r6, mR_r7, mR_q, mR_o, mR_i0, mR_r0, mR_wi1, mR_wi2, mR_wi3, mR_wi4, mR_wi5, mR_wi6, mR_wl, mR_wr5, mR_wr6, mR_wr7, mR_wq, w, x0.1, x1.1, x2.1, d1, d2, eq_self, Nat.reduceEqDiff, Nat.reduceLeDiff, nl_0, nl_1, nl_2, nl_3, nl_10, nl_32, nl_48, nl_120, no_1, no_1024, pk_mul, nI_add, nm_ck, nI_clamp, nI_ltI, nI_leI, nI_eq, nb_b2, nb_b1, ↓nb_let, nm_z0, nm_z1, nb_II, nb_IR, nb_RI, nb_RR, nm_IL, nm_IQ, nm_RL, nm_RQ, nm_LI, nm_LR, nm_LL, nm_LQ, nm_QI, nm_QR, nm_QL, nm_QQ, nm_rr, nm_ii, nm_eqm, not_false_eq_true, pk_sub, nm_div, nm_shl, nm_shr, nm_ush, nm_or8, nm_or64, nm_or256, nm_m1, nm_m3, nm_m7, nm_m15, nm_m31, nm_m63, nm_m255, nm_m511, nm_m1023, nm_m2047, nm_m65535, Nat.reduceMod, Nat.reducePow, Nat.reduceAdd, Nat.reduceSub, Nat.reduceMul, nm_bo, nm_bi, nm_rc, nm_ic, nm_ri, nm_rl, nm_rq, nm_ql, nm_qi, nm_li, nm_us, nm_uu, nm_cp, nm_sa31, nm_sa7, nm_m127, nm_m2, nm_nz, nm_nzk, nm_eq32, nm_nzf, if_true, if_false, ↓reduceIte, if_pos, if_neg]
            | true =>
              have ee := aD_t y2
              rw [y2] at d2
              have d2 : df_X15_isDigit n (nI (z (q + 2))) () = some (nI 1, ()) := d2
              have e : nI (z (q + 1)) - nI 48 = nI (z (q + 1) - 48) := pk_sub dd.1
              have e2 : nI (10 * (z (q + 1) - 48) + z (q + 2)) - nI 48 = nI (10 * (z (q + 1) - 48) + (z (q + 2) - 48)) := by rw [pk_sub (by omega)]; congr 1; omega
              by_cases y3 : 10 * (z (q + 1) - 48) + (z (q + 2) - 48) < 32
              · have rv : rgV z q 3 = some (10 * (z (q + 1) - 48) + (z (q + 2) - 48)) := by unfold rgV; rw [if_neg (by omega), if_pos ⟨rfl, y, y1, y2, y3⟩]
                rw [rv]
                refine ⟨fun g _ hg => ?_, fun h => (nomatch h hx)⟩
                injection hg with hg
                have cm : ¬ nI 0 ≤ lg_cmp (nI (10 * (z (q + 1) - 48) + (z (q + 2) - 48))).toInt64 32 := fun v => by
                  rw [lgB, Int32.toInt_toInt64, nI_toInt (by omega), show (32 : Int64).toInt = 32 from rfl] at v
                  omega
                rw [← hg]
                simp (disch := (first | assumption | decide | omega)) only [df_X15_scanWord_354, df_X15_scanWord_195, df_X15_scanWord_172, df_X15_scanWord_106, df_X15_scanWord_105, df_X15_scanWord_101, df_X15_scanWord_46, df_X15_scanWord_0, df_X15_scanWord, mR_i1, mR_i2, mR_i3, mR_i4, mR_i5, mR_i6, mR_l, mR_r5, mR_r6, mR_r7, mR_q, mR_o, mR_i0, mR_r0, mR_wi1, mR_wi2, mR_wi3, mR_wi4, mR_wi5, mR_wi6, mR_wl, mR_wr5, mR_wr6, mR_wr7, mR_wq, w, x0.1, x1.1, x2.1, d1, d2, e, e2, cm, eq_self, Nat.reduceEqDiff, Nat.reduceLeDiff, nl_0, nl_1, nl_2, nl_3, nl_4, nl_5, nl_6, nl_7, nl_8, nl_9, nl_10, nl_32, nl_48, nl_120, nl_25456, nl_6580592, nl_6581359, nl_1702132066, nl_1718378856, no_1, no_1024, pk_mul, nI_add, nm_ck, nI_clamp, nI_ltI, nI_leI, nI_eq, nb_b2, nb_b1, ↓nb_let, nm_z0, nm_z1, nb_II, nb_IR, nb_RI, nb_RR, nm_IL, nm_IQ, nm_RL, nm_RQ, nm_LI, nm_LR, nm_LL, nm_LQ, nm_QI, nm_QR, nm_QL, nm_QQ, nm_rr, nm_ii, nm_eqm, not_false_eq_true, pk_sub, nm_div, nm_shl, nm_shr, nm_ush, nm_or8, nm_or64, nm_or256, nm_m1, nm_m3, nm_m7, nm_m15, nm_m31, nm_m63, nm_m255, nm_m511, nm_m1023, nm_m2047, nm_m65535, Nat.reduceMod, Nat.reducePow, Nat.reduceAdd, Nat.reduceSub, Nat.reduceMul, nm_bo, nm_bi, nm_rc, nm_ic, nm_ri, nm_rl, nm_rq, nm_ql, nm_qi, nm_li, nm_us, nm_uu, nm_cp, nm_sa31, nm_sa7, nm_m127, nm_m2, nm_nz, nm_nzk, nm_eq32, nm_nzf, if_true, if_false, ↓reduceIte, if_pos, if_neg]
              · have rv : rgV z q 3 = none := by unfold rgV; rw [if_neg (by omega), if_neg (fun h => y3 h.2.2.2.2)]
                rw [rv]
                have cm : nI 0 ≤ lg_cmp (nI (10 * (z (q + 1) - 48) + (z (q + 2) - 48))).toInt64 32 := by
                  rw [lgB, Int32.toInt_toInt64, nI_toInt (by omega), show (32 : Int64).toInt = 32 from rfl]
                  omega
                refine ⟨fun g _ hg => (nomatch hg), fun _ => ⟨(nI (10 * (z (q + 1) - 48) + (z (q + 2) - 48))).toInt64, ?_⟩⟩
                simp (disch := (first | assumption | decide | omega)) only [df_X15_scanWord_354, df_X15_scanWord_172, df_X15_scanWord_106, df_X15_scanWord_105, df_X15_scanWord_101, df_X15_scanWord_46, df_X15_scanWord_0, df_X15_scanWord, mR_i1, mR_i2, mR_i3, mR_i4, mR_i5, mR_i6, mR_l, mR_r5, mR_r6, mR_r7, mR_q, mR_o, mR_i0, mR_r0, mR_wi1, mR_wi2, mR_wi3, mR_wi4, mR_wi5, mR_wi6, mR_wl, mR_wr5, mR_wr6, mR_wr7, mR_wq, w, x0.1, x1.1, x2.1, d1, d2, e, e2, cm, eq_self, Nat.reduceEqDiff, Nat.reduceLeDiff, nl_0, nl_1, nl_2, nl_3, nl_10, nl_32, nl_48, nl_120, no_1, no_1024, pk_mul, nI_add, nm_ck, nI_clamp, nI_ltI, nI_leI, nI_eq, nb_b2, nb_b1, ↓nb_let, nm_z0, nm_z1, nb_II, nb_IR, nb_RI, nb_RR, nm_IL, nm_IQ, nm_RL, nm_RQ, nm_LI, nm_LR, nm_LL, nm_LQ, nm_QI, nm_QR, nm_QL, nm_QQ, nm_rr, nm_ii, nm_eqm, not_false_eq_true, pk_sub, nm_div, nm_shl, nm_shr, nm_ush, nm_or8, nm_or64, nm_or256, nm_m1, nm_m3, nm_m7, nm_m15, nm_m31, nm_m63, nm_m255, nm_m511, nm_m1023, nm_m2047, nm_m65535, Nat.reduceMod, Nat.reducePow, Nat.reduceAdd, Nat.reduceSub, Nat.reduceMul, nm_bo, nm_bi, nm_rc, nm_ic, nm_ri, nm_rl, nm_rq, nm_ql, nm_qi, nm_li, nm_us, nm_uu, nm_cp, nm_sa31, nm_sa7, nm_m127, nm_m2, nm_nz, nm_nzk, nm_eq32, nm_nzf, if_true, if_false, ↓reduceIte, if_pos, if_neg]
          · have rv : rgV z q 3 = none := by unfold rgV; rw [if_neg (by omega), if_neg (fun h => y1 h.2.2.1)]
            rw [rv]
            refine ⟨fun g _ hg => (nomatch hg), fun _ => ⟨0, ?_⟩⟩
            simp (disch := (first | assumption | decide | omega)) only [df_X15_scanWord_354, df_X15_scanWord_172, df_X15_scanWord_106, df_X15_scanWord_105, df_X15_scanWord_101, df_X15_scanWord_46, df_X15_scanWord_0, df_X15_scanWord, mR_i1, mR_i2, mR_i3, mR_i4, mR_i5, mR_i6, mR_l, mR_r5, mR_r6, mR_r7, mR_q, mR_o, mR_i0, mR_r0, mR_wi1, mR_wi2, mR_wi3, mR_wi4, mR_wi5, mR_wi6, mR_wl, mR_wr5, mR_wr6, mR_wr7, mR_wq, w, x0.1, x1.1, d1, eq_self, Nat.reduceEqDiff, Nat.reduceLeDiff, nl_0, nl_1, nl_2, nl_3, nl_10, nl_32, nl_48, nl_120, no_1, no_1024, pk_mul, nI_add, nm_ck, nI_clamp, nI_ltI, nI_leI, nI_eq, nb_b2, nb_b1, ↓nb_let, nm_z0, nm_z1, nb_II, nb_IR, nb_RI, nb_RR, nm_IL, nm_IQ, nm_RL, nm_RQ, nm_LI, nm_LR, nm_LL, nm_LQ, nm_QI, nm_QR, nm_QL, nm_QQ, nm_rr, nm_ii, nm_eqm, not_false_eq_true, pk_sub, nm_div, nm_shl, nm_shr, nm_ush, nm_or8, nm_or64, nm_or256, nm_m1, nm_m3, nm_m7, nm_m15, nm_m31, nm_m63, nm_m255, nm_m511, nm_m1023, nm_m2047, nm_m65535, Nat.reduceMod, Nat.reducePow, Nat.reduceAdd, Nat.reduceSub, Nat.reduceMul, nm_bo, nm_bi, nm_rc, nm_ic, nm_ri, nm_rl, nm_rq, nm_ql, nm_qi, nm_li, nm_us, nm_uu, nm_cp, nm_sa31, nm_sa7, nm_m127, nm_m2, nm_nz, nm_nzk, nm_eq32, nm_nzf, if_true, if_false, ↓reduceIte, if_pos, if_neg]
      · have rv : rgV z q l = none := by unfold rgV; rw [if_neg (by omega), if_neg (by omega)]
        rw [rv]
        refine ⟨fun g _ hg => (nomatch hg), fun _ => ⟨0, ?_⟩⟩
        simp (disch := (first | assumption | decide | omega)) only [df_X15_scanWord_354, df_X15_scanWord_172, df_X15_scanWord_106, df_X15_scanWord_105, df_X15_scanWord_101, df_X15_scanWord_46, df_X15_scanWord_0, df_X15_scanWord, mR_i1, mR_i2, mR_i3, mR_i4, mR_i5, mR_i6, mR_l, mR_r5, mR_r6, mR_r7, mR_q, mR_o, mR_i0, mR_r0, mR_wi1, mR_wi2, mR_wi3, mR_wi4, mR_wi5, mR_wi6, mR_wl, mR_wr5, mR_wr6, mR_wr7, mR_wq, w, x0.1, eq_self, Nat.reduceEqDiff, Nat.reduceLeDiff, nl_0, nl_1, nl_2, nl_3, nl_10, nl_32, nl_48, nl_120, no_1, no_1024, pk_mul, nI_add, nm_ck, nI_clamp, nI_ltI, nI_leI, nI_eq, nb_b2, nb_b1, ↓nb_let, nm_z0, nm_z1, nb_II, nb_IR, nb_RI, nb_RR, nm_IL, nm_IQ, nm_RL, nm_RQ, nm_LI, nm_LR, nm_LL, nm_LQ, nm_QI, nm_QR, nm_QL, nm_QQ, nm_rr, nm_ii, nm_eqm, not_false_eq_true, pk_sub, nm_div, nm_shl, nm_shr, nm_ush, nm_or8, nm_or64, nm_or256, nm_m1, nm_m3, nm_m7, nm_m15, nm_m31, nm_m63, nm_m255, nm_m511, nm_m1023, nm_m2047, nm_m65535, Nat.reduceMod, Nat.reducePow, Nat.reduceAdd, Nat.reduceSub, Nat.reduceMul, nm_bo, nm_bi, nm_rc, nm_ic, nm_ri, nm_rl, nm_rq, nm_ql, nm_qi, nm_li, nm_us, nm_uu, nm_cp, nm_sa31, nm_sa7, nm_m127, nm_m2, nm_nz, nm_nzk, nm_eq32, nm_nzf, if_true, if_false, ↓reduceIte, if_pos, if_neg]
  · refine ⟨fun g h => absurd h hx, fun _ => ⟨0, ?_⟩⟩
    have z31 : z q < 2 ^ 31 := by omega
    simp (disch := (first | assumption | decide | omega)) only [df_X15_scanWord_354, df_X15_scanWord_172, df_X15_scanWord_106, df_X15_scanWord_105, df_X15_scanWord_101, df_X15_scanWord_46, df_X15_scanWord_0, df_X15_scanWord, mR_i1, mR_i2, mR_i3, mR_i4, mR_i5, mR_i6, mR_l, mR_r5, mR_r6, mR_r7, mR_q, mR_o, mR_i0, mR_r0, mR_wi1, mR_wi2, mR_wi3, mR_wi4, mR_wi5, mR_wi6, mR_wl, mR_wr5, mR_wr6, mR_wr7, mR_wq, w, x0.1, eq_self, Nat.reduceEqDiff, Nat.reduceLeDiff, nl_0, nl_1, nl_2, nl_3, nl_10, nl_32, nl_48, nl_120, no_1, no_1024, pk_mul, nI_add, nm_ck, nI_clamp, nI_ltI, nI_leI, nI_eq, nb_b2, nb_b1, ↓nb_let, nm_z0, nm_z1, nb_II, nb_IR, nb_RI, nb_RR, nm_IL, nm_IQ, nm_RL, nm_RQ, nm_LI, nm_LR, nm_LL, nm_LQ, nm_QI, nm_QR, nm_QL, nm_QQ, nm_rr, nm_ii, nm_eqm, not_false_eq_true, pk_sub, nm_div, nm_shl, nm_shr, nm_ush, nm_or8, nm_or64, nm_or256, nm_m1, nm_m3, nm_m7, nm_m15, nm_m31, nm_m63, nm_m255, nm_m511, nm_m1023, nm_m2047, nm_m65535, Nat.reduceMod, Nat.reducePow, Nat.reduceAdd, Nat.reduceSub, Nat.reduceMul, nm_bo, nm_bi, nm_rc, nm_ic, nm_ri, nm_rl, nm_rq, nm_ql, nm_qi, nm_li, nm_us, nm_uu, nm_cp, nm_sa31, nm_sa7, nm_m127, nm_m2, nm_nz, nm_nzk, nm_eq32, nm_nzf, if_true, if_false, ↓reduceIte, if_pos, if_neg]

