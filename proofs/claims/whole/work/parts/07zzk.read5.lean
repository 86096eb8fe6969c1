theorem rc_f (n : Nat) {K : St × (St × (St × St))} {p A N o r m y z : Nat} {a : Int32} (n512 : N ≤ 512) (ho : o < 48) (hr : r < 8) (r1 : ¬ r % 2 = 0) (hm : m ≤ 512) (ma1 : df_X6_mayAll n (nI p) (nI A) (nI N) (nI 2) K.2.2 = some (nI 1, K.2.2)) (o1 : df_X10_openingOf n (nI p) a K.2.2.2 = some (nI o, K.2.2.2)) (of4 : df_X10_of n (nI o) (nI 4) K.2.2.2 = some (nI r, K.2.2.2)) (rw1 : df_X10_readWaits n (nI o) (nI N) K.2.2.2 = some (nI 0, K.2.2.2)) (cC : df_X10_coming n (nI o) (nI N) K.2.2.2 = some (nI m, K.2.2.2)) (fF : df_X6_framesFor n (nI p) (nI A) (nI m) K.2.2 = some (nI y, K.2.2)) (fr : df_X6_framesFree n K.2.2 = some (nI z, K.2.2)) (hy : y < 2 ^ 31) (hz : z < 2 ^ 31) (w3 : ¬ y ≤ z) : df_X5_read n (nI p) a (nI A) (nI N) K = some (4398046511104, K) := by
  have n0 : ¬ N < 0 := by omega
  have ob : ¬ o < 0 := by omega
  have u1 : o < 2 ^ 31 := by omega
  have u2 : N < 2 ^ 31 := by omega
  have u5 : m < 2 ^ 31 := by omega
  have a1 : ¬ nI N < (0 : Int32) := fun z => by
    have z : nI N < nI 0 := z
    rw [nI_ltI u2 (by omega)] at z
    omega
  have a2 : nI N ≤ (512 : Int32) := by
    show nI N ≤ nI 512
    rw [nI_leI u2 (by omega)]
    exact n512
  have a3 : df_X6_mayAll n (nI p) (nI A) (nI N) 2 K.2.2 = some (nI 1, K.2.2) := ma1
  have a4 : ¬ nI o < (0 : Int32) := fun z => by
    have z : nI o < nI 0 := z
    rw [nI_ltI u1 (by omega)] at z
    omega
  have a5 : df_X10_of n (nI o) 4 K.2.2.2 = some (nI r, K.2.2.2) := of4
  have a6 : ¬ nI r &&& (1 : Int32) = 0 := fun z => by
    have z : nI r &&& nI 1 = nI 0 := z
    rw [nm_m1 (by omega)] at z
    exact r1 (nm_inI (by omega) (by omega) z)
  have a7 : df_X5_read n (nI p) a (nI A) (nI N) K = nd_b2 (df_X10_coming n (nI o) (nI N) K.2.2.2) (fun q23 s24 => nd_let (K.1, (K.2.1, (K.2.2.1, s24))) (fun s26 => nd_b2 (df_X6_framesFor n (nI p) (nI A) q23 s26.2.2) (fun q27 s28 => nd_let (s26.1, (s26.2.1, s28)) (fun s30 => nd_b2 (df_X6_framesFree n s30.2.2) (fun q31 s32 => nd_let (s30.1, (s30.2.1, s32)) (fun s34 => if q27 ≤ q31 then (if q23 ≤ 0 then (df_X5_read_157 n (nI p) (nI A) (nI N) (nI o) q23 s34) else (nd_b2 (df_X6_own n (nI p) (nI A) s34.2.2) (fun q55 s56 => nd_let (s34.1, (s34.2.1, s56)) (fun s58 => nd_b2 (df_X6_own n (nI p) ((nI A + q23) - 1) s58.2.2) (fun q59 s60 => nd_let (s58.1, (s58.2.1, s60)) (fun s62 => df_X5_read_157 n (nI p) (nI A) (nI N) (nI o) q23 s62)))))) else some (4398046511104, s34))))))) := by
    unfold df_X5_read df_X5_read_0
    rw [if_neg a1, if_pos a2, a3, nb_b2, nb_let, if_neg (show ¬ nI 1 = (0 : Int32) by decide), o1, nb_b2, nb_let, if_neg a4, a5, nb_b2, nb_let, if_neg a6, rw1, nb_b2, nb_let, if_pos (show nI 0 = (0 : Int32) from rfl)]
  rw [a7, cC, nb_b2, nb_let, fF, nb_b2, nb_let, fr, nb_b2, nb_let]
  rw [if_neg (show ¬ nI y ≤ nI z from fun q => by rw [nI_leI hy hz] at q; exact w3 q)]
theorem rc_0 (n : Nat) {K : St × (St × (St × St))} {p A N o r m y z : Nat} {a : Int32} (n512 : N ≤ 512) (ho : o < 48) (hr : r < 8) (r1 : ¬ r % 2 = 0) (hm : m ≤ 512) (ma1 : df_X6_mayAll n (nI p) (nI A) (nI N) (nI 2) K.2.2 = some (nI 1, K.2.2)) (o1 : df_X10_openingOf n (nI p) a K.2.2.2 = some (nI o, K.2.2.2)) (of4 : df_X10_of n (nI o) (nI 4) K.2.2.2 = some (nI r, K.2.2.2)) (rw1 : df_X10_readWaits n (nI o) (nI N) K.2.2.2 = some (nI 0, K.2.2.2)) (cC : df_X10_coming n (nI o) (nI N) K.2.2.2 = some (nI m, K.2.2.2)) (fF : df_X6_framesFor n (nI p) (nI A) (nI m) K.2.2 = some (nI y, K.2.2)) (fr : df_X6_framesFree n K.2.2 = some (nI z, K.2.2)) (hy : y < 2 ^ 31) (hz : z < 2 ^ 31) (w3 : y ≤ z) (w6 : m ≤ 0) : df_X5_read n (nI p) a (nI A) (nI N) K = df_X5_read_160 n n (nI p) (nI A) (nI N) (nI o) (nI m) (nI 0) K := by
  have n0 : ¬ N < 0 := by omega
  have ob : ¬ o < 0 := by omega
  have u1 : o < 2 ^ 31 := by omega
  have u2 : N < 2 ^ 31 := by omega
  have u5 : m < 2 ^ 31 := by omega
  have a1 : ¬ nI N < (0 : Int32) := fun z => by
    have z : nI N < nI 0 := z
    rw [nI_ltI u2 (by omega)] at z
    omega
  have a2 : nI N ≤ (512 : Int32) := by
    show nI N ≤ nI 512
    rw [nI_leI u2 (by omega)]
    exact n512
  have a3 : df_X6_mayAll n (nI p) (nI A) (nI N) 2 K.2.2 = some (nI 1, K.2.2) := ma1
  have a4 : ¬ nI o < (0 : Int32) := fun z => by
    have z : nI o < nI 0 := z
    rw [nI_ltI u1 (by omega)] at z
    omega
  have a5 : df_X10_of n (nI o) 4 K.2.2.2 = some (nI r, K.2.2.2) := of4
  have a6 : ¬ nI r &&& (1 : Int32) = 0 := fun z => by
    have z : nI r &&& nI 1 = nI 0 := z
    rw [nm_m1 (by omega)] at z
    exact r1 (nm_inI (by omega) (by omega) z)
  have a7 : df_X5_read n (nI p) a (nI A) (nI N) K = nd_b2 (df_X10_coming n (nI o) (nI N) K.2.2.2) (fun q23 s24 => nd_let (K.1, (K.2.1, (K.2.2.1, s24))) (fun s26 => nd_b2 (df_X6_framesFor n (nI p) (nI A) q23 s26.2.2) (fun q27 s28 => nd_let (s26.1, (s26.2.1, s28)) (fun s30 => nd_b2 (df_X6_framesFree n s30.2.2) (fun q31 s32 => nd_let (s30.1, (s30.2.1, s32)) (fun s34 => if q27 ≤ q31 then (if q23 ≤ 0 then (df_X5_read_157 n (nI p) (nI A) (nI N) (nI o) q23 s34) else (nd_b2 (df_X6_own n (nI p) (nI A) s34.2.2) (fun q55 s56 => nd_let (s34.1, (s34.2.1, s56)) (fun s58 => nd_b2 (df_X6_own n (nI p) ((nI A + q23) - 1) s58.2.2) (fun q59 s60 => nd_let (s58.1, (s58.2.1, s60)) (fun s62 => df_X5_read_157 n (nI p) (nI A) (nI N) (nI o) q23 s62)))))) else some (4398046511104, s34))))))) := by
    unfold df_X5_read df_X5_read_0
    rw [if_neg a1, if_pos a2, a3, nb_b2, nb_let, if_neg (show ¬ nI 1 = (0 : Int32) by decide), o1, nb_b2, nb_let, if_neg a4, a5, nb_b2, nb_let, if_neg a6, rw1, nb_b2, nb_let, if_pos (show nI 0 = (0 : Int32) from rfl)]
  rw [a7, cC, nb_b2, nb_let, fF, nb_b2, nb_let, fr, nb_b2, nb_let]
  rw [if_pos (show nI y ≤ nI z by rw [nI_leI hy hz]; exact w3), if_pos (show nI m ≤ (0 : Int32) from (show nI m ≤ nI 0 by rw [nI_leI u5 (by omega)]; exact w6))]
  rfl
theorem rc_1 (n : Nat) {K : St × (St × (St × St))} {p A N o r m y z : Nat} {a : Int32} (n512 : N ≤ 512) (ho : o < 48) (hr : r < 8) (r1 : ¬ r % 2 = 0) (hm : m ≤ 512) (ma1 : df_X6_mayAll n (nI p) (nI A) (nI N) (nI 2) K.2.2 = some (nI 1, K.2.2)) (o1 : df_X10_openingOf n (nI p) a K.2.2.2 = some (nI o, K.2.2.2)) (of4 : df_X10_of n (nI o) (nI 4) K.2.2.2 = some (nI r, K.2.2.2)) (rw1 : df_X10_readWaits n (nI o) (nI N) K.2.2.2 = some (nI 0, K.2.2.2)) (cC : df_X10_coming n (nI o) (nI N) K.2.2.2 = some (nI m, K.2.2.2)) (fF : df_X6_framesFor n (nI p) (nI A) (nI m) K.2.2 = some (nI y, K.2.2)) (fr : df_X6_framesFree n K.2.2 = some (nI z, K.2.2)) (hy : y < 2 ^ 31) (hz : z < 2 ^ 31) (w3 : y ≤ z) (w6 : ¬ m ≤ 0) {M1 M2 : St × St} (p1 : df_X6_own n (nI p) (nI A) K.2.2 = some (nI 1, M1)) (p2 : df_X6_own n (nI p) (nI (A + m - 1)) M1 = some (nI 1, M2)) : df_X5_read n (nI p) a (nI A) (nI N) K = df_X5_read_160 n n (nI p) (nI A) (nI N) (nI o) (nI m) (nI 0) (K.1, (K.2.1, M2)) := by
  have n0 : ¬ N < 0 := by omega
  have ob : ¬ o < 0 := by omega
  have u1 : o < 2 ^ 31 := by omega
  have u2 : N < 2 ^ 31 := by omega
  have u5 : m < 2 ^ 31 := by omega
  have w7 : 1 ≤ A + m := by omega
  have a1 : ¬ nI N < (0 : Int32) := fun z => by
    have z : nI N < nI 0 := z
    rw [nI_ltI u2 (by omega)] at z
    omega
  have a2 : nI N ≤ (512 : Int32) := by
    show nI N ≤ nI 512
    rw [nI_leI u2 (by omega)]
    exact n512
  have a3 : df_X6_mayAll n (nI p) (nI A) (nI N) 2 K.2.2 = some (nI 1, K.2.2) := ma1
  have a4 : ¬ nI o < (0 : Int32) := fun z => by
    have z : nI o < nI 0 := z
    rw [nI_ltI u1 (by omega)] at z
    omega
  have a5 : df_X10_of n (nI o) 4 K.2.2.2 = some (nI r, K.2.2.2) := of4
  have a6 : ¬ nI r &&& (1 : Int32) = 0 := fun z => by
    have z : nI r &&& nI 1 = nI 0 := z
    rw [nm_m1 (by omega)] at z
    exact r1 (nm_inI (by omega) (by omega) z)
  have a7 : df_X5_read n (nI p) a (nI A) (nI N) K = nd_b2 (df_X10_coming n (nI o) (nI N) K.2.2.2) (fun q23 s24 => nd_let (K.1, (K.2.1, (K.2.2.1, s24))) (fun s26 => nd_b2 (df_X6_framesFor n (nI p) (nI A) q23 s26.2.2) (fun q27 s28 => nd_let (s26.1, (s26.2.1, s28)) (fun s30 => nd_b2 (df_X6_framesFree n s30.2.2) (fun q31 s32 => nd_let (s30.1, (s30.2.1, s32)) (fun s34 => if q27 ≤ q31 then (if q23 ≤ 0 then (df_X5_read_157 n (nI p) (nI A) (nI N) (nI o) q23 s34) else (nd_b2 (df_X6_own n (nI p) (nI A) s34.2.2) (fun q55 s56 => nd_let (s34.1, (s34.2.1, s56)) (fun s58 => nd_b2 (df_X6_own n (nI p) ((nI A + q23) - 1) s58.2.2) (fun q59 s60 => nd_let (s58.1, (s58.2.1, s60)) (fun s62 => df_X5_read_157 n (nI p) (nI A) (nI N) (nI o) q23 s62)))))) else some (4398046511104, s34))))))) := by
    unfold df_X5_read df_X5_read_0
    rw [if_neg a1, if_pos a2, a3, nb_b2, nb_let, if_neg (show ¬ nI 1 = (0 : Int32) by decide), o1, nb_b2, nb_let, if_neg a4, a5, nb_b2, nb_let, if_neg a6, rw1, nb_b2, nb_let, if_pos (show nI 0 = (0 : Int32) from rfl)]
  rw [a7, cC, nb_b2, nb_let, fF, nb_b2, nb_let, fr, nb_b2, nb_let]
  have p3 : df_X6_own n (nI p) (nI A + nI m - 1) M1 = some (nI 1, M2) := by
    have : nI A + nI m - 1 = nI (A + m - 1) := by
      rw [nI_add]
      exact pk_sub w7
    rw [this]
    exact p2
  rw [if_pos (show nI y ≤ nI z by rw [nI_leI hy hz]; exact w3), if_neg (show ¬ nI m ≤ (0 : Int32) from fun q => by have q : nI m ≤ nI 0 := q; rw [nI_leI u5 (by omega)] at q; exact w6 q), p1, nb_b2, nb_let, p3, nb_b2, nb_let]
  rfl
theorem rr_f (n : Nat) {X : St × St} {p A N o r m y t : Nat} {a : Int32} (n512 : N ≤ 512) (ho : o < 48) (hr : r < 8) (r1 : ¬ r % 2 = 0) (h3 : sI X.1 12 = nI p) (ma2 : df_X16_mayAll n (nI p) (nI A) (nI N) (nI 2) X = some (nI 1, X)) (o2 : df_X16_openingOf n (nI p) a X = some (nI o, X)) (er : sR X.1 22 o = nI r) (rw2 : df_X16_waits n (nI o) (nI 1) (nI N) X = some (nI 0, X)) (cR : df_X16_comes n (nI o) (nI N) X = some (nI m, X)) (wa : df_X16_wanted n (nI p) (nI A) (nI m) X = some (nI y, X)) (y7 : sR X.1 20 o = nI t) (hF : df_X16_hasFrames n (nI y) X = some (nI 0, X)) : df_X16_read n a (nI A) (nI N) X = some (nI 0, (pI X.1 13 (nI 3), X.2)) := by
  have n0 : ¬ N < 0 := by omega
  have ob : ¬ o < 0 := by omega
  have u1 : o < 2 ^ 31 := by omega
  have u2 : N < 2 ^ 31 := by omega
  simp (disch := (first | assumption | decide | omega)) only [df_X16_read, df_X16_read_0, df_X16_tell_0, df_X16_tell, n0, n512, h3, ma2, o2, er, r1, rw2, cR, wa, hF, eq_self, Nat.reduceEqDiff, Nat.reduceLeDiff, nl_0, nl_1, nl_2, nl_3, nl_12, nl_13, nl_14, nl_20, nl_22, nl_48, nl_512, no_1, no_1024, pk_mul, nI_add, nm_ck, nI_clamp, nI_ltI, nI_leI, nI_eq, nb_b2, nb_b1, ↓nb_let, nm_z0, nm_z1, nb_II, nb_IR, nb_RI, nb_RR, nm_IL, nm_IQ, nm_RL, nm_RQ, nm_LI, nm_LR, nm_LL, nm_LQ, nm_QI, nm_QR, nm_QL, nm_QQ, nm_rr, nm_ii, nm_eqm, not_false_eq_true, pk_sub, nm_div, nm_shl, nm_shr, nm_ush, nm_or8, nm_or64, nm_or256, nm_m1, nm_m3, nm_m7, nm_m15, nm_m31, nm_m63, nm_m255, nm_m511, nm_m1023, nm_m2047, nm_m65535, Nat.reduceMod, Nat.reducePow, Nat.reduceAdd, Nat.reduceSub, Nat.reduceMul, nm_bo, nm_bi, nm_rc, nm_ic, nm_ri, nm_rl, nm_rq, nm_ql, nm_qi, nm_li, nm_us, nm_uu, nm_cp, nm_sa31, nm_sa7, nm_m127, nm_m2, nm_nz, nm_nzk, nm_eq32, nm_nzf, if_true, if_false, ↓reduceIte, if_pos, if_neg]
theorem rr_1 (n : Nat) {X : St × St} {p A N o r m y t : Nat} {a : Int32} (n512 : N ≤ 512) (ho : o < 48) (hr : r < 8) (r1 : ¬ r % 2 = 0) (h3 : sI X.1 12 = nI p) (ma2 : df_X16_mayAll n (nI p) (nI A) (nI N) (nI 2) X = some (nI 1, X)) (o2 : df_X16_openingOf n (nI p) a X = some (nI o, X)) (er : sR X.1 22 o = nI r) (rw2 : df_X16_waits n (nI o) (nI 1) (nI N) X = some (nI 0, X)) (cR : df_X16_comes n (nI o) (nI N) X = some (nI m, X)) (wa : df_X16_wanted n (nI p) (nI A) (nI m) X = some (nI y, X)) (y7 : sR X.1 20 o = nI t) (hF : df_X16_hasFrames n (nI y) X = some (nI 1, X)) : df_X16_read n a (nI A) (nI N) X = df_X16_read_124 n n (nI A) (nI N) (nI o) (nI m) (nI t) (nI 0) X := by
  have n0 : ¬ N < 0 := by omega
  have ob : ¬ o < 0 := by omega
  have u1 : o < 2 ^ 31 := by omega
  have u2 : N < 2 ^ 31 := by omega
  simp (disch := (first | assumption | decide | omega)) only [df_X16_read, df_X16_read_0, n0, n512, h3, ma2, o2, er, r1, rw2, cR, wa, hF, y7, eq_self, Nat.reduceEqDiff, Nat.reduceLeDiff, nl_0, nl_1, nl_2, nl_3, nl_12, nl_14, nl_20, nl_22, nl_48, nl_512, no_1, no_1024, pk_mul, nI_add, nm_ck, nI_clamp, nI_ltI, nI_leI, nI_eq, nb_b2, nb_b1, ↓nb_let, nm_z0, nm_z1, nb_II, nb_IR, nb_RI, nb_RR, nm_IL, nm_IQ, nm_RL, nm_RQ, nm_LI, nm_LR, nm_LL, nm_LQ, nm_QI, nm_QR, nm_QL, nm_QQ, nm_rr, nm_ii, nm_eqm, not_false_eq_true, pk_sub, nm_div, nm_shl, nm_shr, nm_ush, nm_or8, nm_or64, nm_or256, nm_m1, nm_m3, nm_m7, nm_m15, nm_m31, nm_m63, nm_m255, nm_m511, nm_m1023, nm_m2047, nm_m65535, Nat.reduceMod, Nat.reducePow, Nat.reduceAdd, Nat.reduceSub, Nat.reduceMul, nm_bo, nm_bi, nm_rc, nm_ic, nm_ri, nm_rl, nm_rq, nm_ql, nm_qi, nm_li, nm_us, nm_uu, nm_cp, nm_sa31, nm_sa7, nm_m127, nm_m2, nm_nz, nm_nzk, nm_eq32, nm_nzf, if_true, if_false, ↓reduceIte, if_pos, if_neg]
/-- the kernel's call 'read' -/
theorem nq_read (n : Nat) (hn : 1024 < n) {B p : Nat} {K : St × (St × (St × St))} {X : St × St} (h : cP B p K X) (h17 : sR X.1 9 (32 * p + 17) = nI 6) {a b c : Int32} (e10 : sR X.1 9 (32 * p + 10) = a) (e12 : sR X.1 9 (32 * p + 12) = c) : cO B p K X (df_X5_read n (nI p) a b c K) (df_X16_read n a b c X) := by
  obtain ⟨h1, h2, h3, h4, h5, h6, h7⟩ := id h
  obtain ⟨m1, m2, m3, m4, m5, m6, m7⟩ := id h1
  have ans : ∀ (w64 : Int64) (w : Int32), w64 = w.toInt64 → df_X5_read n (nI p) a b c K = some (w64, K) → df_X16_read n a b c X = some (w, X) → cO B p K X (df_X5_read n (nI p) a b c K) (df_X16_read n a b c X) := fun w64 w ew e1 e2 => by
    rw [e1, e2]
    exact cO_id h ew
  rcases sg_cases c with ⟨z, _⟩ | ⟨N, hN, z⟩
  · exact ans (-22) (-nI 22) (by decide) (by simp (disch := (first | assumption | decide | omega)) only [df_X5_read, df_X5_read_0, df_X5_read_13, z, eq_self, Nat.reduceEqDiff, Nat.reduceLeDiff, nl_0, nl_1, nl_2, nl_4, nl_14, nl_22, nl_512, nl_1099511627776, no_1, no_1024, pk_mul, nI_add, nm_ck, nI_clamp, nI_ltI, nI_leI, nI_eq, nb_b2, nb_b1, ↓nb_let, nm_z0, nm_z1, nb_II, nb_IR, nb_RI, nb_RR, nm_IL, nm_IQ, nm_RL, nm_RQ, nm_LI, nm_LR, nm_LL, nm_LQ, nm_QI, nm_QR, nm_QL, nm_QQ, nm_rr, nm_ii, nm_eqm, not_false_eq_true, pk_sub, nm_div, nm_shl, nm_shr, nm_ush, nm_or8, nm_or64, nm_or256, nm_m1, nm_m3, nm_m7, nm_m15, nm_m31, nm_m63, nm_m255, nm_m511, nm_m1023, nm_m2047, nm_m65535, Nat.reduceMod, Nat.reducePow, Nat.reduceAdd, Nat.reduceSub, Nat.reduceMul, nm_bo, nm_bi, nm_rc, nm_ic, nm_ri, nm_rl, nm_rq, nm_ql, nm_qi, nm_li, nm_us, nm_uu, nm_cp, nm_sa31, nm_sa7, nm_m127, nm_m2, nm_nz, nm_nzk, nm_eq32, nm_nzf, if_true, if_false, ↓reduceIte, if_pos, if_neg]) (by simp (disch := (first | assumption | decide | omega)) only [df_X16_read, df_X16_read_0, df_X16_read_11, z, eq_self, Nat.reduceEqDiff, Nat.reduceLeDiff, nl_0, nl_1, nl_2, nl_3, nl_12, nl_14, nl_20, nl_22, nl_48, nl_512, no_1, no_1024, pk_mul, nI_add, nm_ck, nI_clamp, nI_ltI, nI_leI, nI_eq, nb_b2, nb_b1, ↓nb_let, nm_z0, nm_z1, nb_II, nb_IR, nb_RI, nb_RR, nm_IL, nm_IQ, nm_RL, nm_RQ, nm_LI, nm_LR, nm_LL, nm_LQ, nm_QI, nm_QR, nm_QL, nm_QQ, nm_rr, nm_ii, nm_eqm, not_false_eq_true, pk_sub, nm_div, nm_shl, nm_shr, nm_ush, nm_or8, nm_or64, nm_or256, nm_m1, nm_m3, nm_m7, nm_m15, nm_m31, nm_m63, nm_m255, nm_m511, nm_m1023, nm_m2047, nm_m65535, Nat.reduceMod, Nat.reducePow, Nat.reduceAdd, Nat.reduceSub, Nat.reduceMul, nm_bo, nm_bi, nm_rc, nm_ic, nm_ri, nm_rl, nm_rq, nm_ql, nm_qi, nm_li, nm_us, nm_uu, nm_cp, nm_sa31, nm_sa7, nm_m127, nm_m2, nm_nz, nm_nzk, nm_eq32, nm_nzf, if_true, if_false, ↓reduceIte, if_pos, if_neg])
  have n0 : ¬ N < 0 := by omega
  by_cases n512 : ¬ N ≤ 512
  · rw [z] at ans ⊢
    exact ans (-22) (-nI 22) (by decide) (by simp (disch := (first | assumption | decide | omega)) only [df_X5_read, df_X5_read_0, df_X5_read_13, n0, n512, eq_self, Nat.reduceEqDiff, Nat.reduceLeDiff, nl_0, nl_1, nl_2, nl_4, nl_14, nl_22, nl_512, nl_1099511627776, no_1, no_1024, pk_mul, nI_add, nm_ck, nI_clamp, nI_ltI, nI_leI, nI_eq, nb_b2, nb_b1, ↓nb_let, nm_z0, nm_z1, nb_II, nb_IR, nb_RI, nb_RR, nm_IL, nm_IQ, nm_RL, nm_RQ, nm_LI, nm_LR, nm_LL, nm_LQ, nm_QI, nm_QR, nm_QL, nm_QQ, nm_rr, nm_ii, nm_eqm, not_false_eq_true, pk_sub, nm_div, nm_shl, nm_shr, nm_ush, nm_or8, nm_or64, nm_or256, nm_m1, nm_m3, nm_m7, nm_m15, nm_m31, nm_m63, nm_m255, nm_m511, nm_m1023, nm_m2047, nm_m65535, Nat.reduceMod, Nat.reducePow, Nat.reduceAdd, Nat.reduceSub, Nat.reduceMul, nm_bo, nm_bi, nm_rc, nm_ic, nm_ri, nm_rl, nm_rq, nm_ql, nm_qi, nm_li, nm_us, nm_uu, nm_cp, nm_sa31, nm_sa7, nm_m127, nm_m2, nm_nz, nm_nzk, nm_eq32, nm_nzf, if_true, if_false, ↓reduceIte, if_pos, if_neg]) (by simp (disch := (first | assumption | decide | omega)) only [df_X16_read, df_X16_read_0, df_X16_read_11, n0, n512, eq_self, Nat.reduceEqDiff, Nat.reduceLeDiff, nl_0, nl_1, nl_2, nl_3, nl_12, nl_14, nl_20, nl_22, nl_48, nl_512, no_1, no_1024, pk_mul, nI_add, nm_ck, nI_clamp, nI_ltI, nI_leI, nI_eq, nb_b2, nb_b1, ↓nb_let, nm_z0, nm_z1, nb_II, nb_IR, nb_RI, nb_RR, nm_IL, nm_IQ, nm_RL, nm_RQ, nm_LI, nm_LR, nm_LL, nm_LQ, nm_QI, nm_QR, nm_QL, nm_QQ, nm_rr, nm_ii, nm_eqm, not_false_eq_true, pk_sub, nm_div, nm_shl, nm_shr, nm_ush, nm_or8, nm_or64, nm_or256, nm_m1, nm_m3, nm_m7, nm_m15, nm_m31, nm_m63, nm_m255, nm_m511, nm_m1023, nm_m2047, nm_m65535, Nat.reduceMod, Nat.reducePow, Nat.reduceAdd, Nat.reduceSub, Nat.reduceMul, nm_bo, nm_bi, nm_rc, nm_ic, nm_ri, nm_rl, nm_rq, nm_ql, nm_qi, nm_li, nm_us, nm_uu, nm_cp, nm_sa31, nm_sa7, nm_m127, nm_m2, nm_nz, nm_nzk, nm_eq32, nm_nzf, if_true, if_false, ↓reduceIte, if_pos, if_neg])
  have n512 : N ≤ 512 := by omega
  obtain ⟨A, hA, eA⟩ := nI_ex b
  obtain ⟨ma1, ma2⟩ := nk_mayAll n (by omega) m1 h2 hA (show 2 < 8 by omega) (show N ≤ 1024 by omega)
  cases mm : mA X p A N 2 with
  | false =>
    rw [mm, bI_f] at ma1 ma2
    rw [z, eA] at ans ⊢
    exact ans (-14) (-nI 14) (by decide) (by simp (disch := (first | assumption | decide | omega)) only [df_X5_read, df_X5_read_0, n0, n512, ma1, eq_self, Nat.reduceEqDiff, Nat.reduceLeDiff, nl_0, nl_1, nl_2, nl_4, nl_14, nl_512, nl_1099511627776, no_1, no_1024, pk_mul, nI_add, nm_ck, nI_clamp, nI_ltI, nI_leI, nI_eq, nb_b2, nb_b1, ↓nb_let, nm_z0, nm_z1, nb_II, nb_IR, nb_RI, nb_RR, nm_IL, nm_IQ, nm_RL, nm_RQ, nm_LI, nm_LR, nm_LL, nm_LQ, nm_QI, nm_QR, nm_QL, nm_QQ, nm_rr, nm_ii, nm_eqm, not_false_eq_true, pk_sub, nm_div, nm_shl, nm_shr, nm_ush, nm_or8, nm_or64, nm_or256, nm_m1, nm_m3, nm_m7, nm_m15, nm_m31, nm_m63, nm_m255, nm_m511, nm_m1023, nm_m2047, nm_m65535, Nat.reduceMod, Nat.reducePow, Nat.reduceAdd, Nat.reduceSub, Nat.reduceMul, nm_bo, nm_bi, nm_rc, nm_ic, nm_ri, nm_rl, nm_rq, nm_ql, nm_qi, nm_li, nm_us, nm_uu, nm_cp, nm_sa31, nm_sa7, nm_m127, nm_m2, nm_nz, nm_nzk, nm_eq32, nm_nzf, if_true, if_false, ↓reduceIte, if_pos, if_neg]) (by simp (disch := (first | assumption | decide | omega)) only [df_X16_read, df_X16_read_0, n0, n512, h3, ma2, eq_self, Nat.reduceEqDiff, Nat.reduceLeDiff, nl_0, nl_1, nl_2, nl_3, nl_12, nl_14, nl_20, nl_22, nl_48, nl_512, no_1, no_1024, pk_mul, nI_add, nm_ck, nI_clamp, nI_ltI, nI_leI, nI_eq, nb_b2, nb_b1, ↓nb_let, nm_z0, nm_z1, nb_II, nb_IR, nb_RI, nb_RR, nm_IL, nm_IQ, nm_RL, nm_RQ, nm_LI, nm_LR, nm_LL, nm_LQ, nm_QI, nm_QR, nm_QL, nm_QQ, nm_rr, nm_ii, nm_eqm, not_false_eq_true, pk_sub, nm_div, nm_shl, nm_shr, nm_ush, nm_or8, nm_or64, nm_or256, nm_m1, nm_m3, nm_m7, nm_m15, nm_m31, nm_m63, nm_m255, nm_m511, nm_m1023, nm_m2047, nm_m65535, Nat.reduceMod, Nat.reducePow, Nat.reduceAdd, Nat.reduceSub, Nat.reduceMul, nm_bo, nm_bi, nm_rc, nm_ic, nm_ri, nm_rl, nm_rq, nm_ql, nm_qi, nm_li, nm_us, nm_uu, nm_cp, nm_sa31, nm_sa7, nm_m127, nm_m2, nm_nz, nm_nzk, nm_eq32, nm_nzf, if_true, if_false, ↓reduceIte, if_pos, if_neg])
  | true =>
  rw [mm, bI_t] at ma1 ma2
  have hm : ∀ j : Nat, j < N → ma X p (A + j) 2 = true := of_decide_eq_true mm
  rcases nk_opening n m2 h2 a with ⟨o1, o2, _⟩ | ⟨d, o, hd, ho, ed, de, kn, o1, o2⟩
  · rw [z, eA] at ans ⊢
    exact ans (-1) (-nI 1) (by decide) (by simp (disch := (first | assumption | decide | omega)) only [df_X5_read, df_X5_read_0, df_X5_read_67, n0, n512, ma1, o1, nm_ltm, eq_self, Nat.reduceEqDiff, Nat.reduceLeDiff, nl_0, nl_1, nl_2, nl_4, nl_14, nl_512, nl_1099511627776, no_1, no_1024, pk_mul, nI_add, nm_ck, nI_clamp, nI_ltI, nI_leI, nI_eq, nb_b2, nb_b1, ↓nb_let, nm_z0, nm_z1, nb_II, nb_IR, nb_RI, nb_RR, nm_IL, nm_IQ, nm_RL, nm_RQ, nm_LI, nm_LR, nm_LL, nm_LQ, nm_QI, nm_QR, nm_QL, nm_QQ, nm_rr, nm_ii, nm_eqm, not_false_eq_true, pk_sub, nm_div, nm_shl, nm_shr, nm_ush, nm_or8, nm_or64, nm_or256, nm_m1, nm_m3, nm_m7, nm_m15, nm_m31, nm_m63, nm_m255, nm_m511, nm_m1023, nm_m2047, nm_m65535, Nat.reduceMod, Nat.reducePow, Nat.reduceAdd, Nat.reduceSub, Nat.reduceMul, nm_bo, nm_bi, nm_rc, nm_ic, nm_ri, nm_rl, nm_rq, nm_ql, nm_qi, nm_li, nm_us, nm_uu, nm_cp, nm_sa31, nm_sa7, nm_m127, nm_m2, nm_nz, nm_nzk, nm_eq32, nm_nzf, if_true, if_false, ↓reduceIte, if_pos, if_neg]) (by simp (disch := (first | assumption | decide | omega)) only [df_X16_read, df_X16_read_0, df_X16_read_60, n0, n512, h3, ma2, o2, eq_self, Nat.reduceEqDiff, Nat.reduceLeDiff, nl_0, nl_1, nl_2, nl_3, nl_12, nl_14, nl_20, nl_22, nl_48, nl_512, no_1, no_1024, pk_mul, nI_add, nm_ck, nI_clamp, nI_ltI, nI_leI, nI_eq, nb_b2, nb_b1, ↓nb_let, nm_z0, nm_z1, nb_II, nb_IR, nb_RI, nb_RR, nm_IL, nm_IQ, nm_RL, nm_RQ, nm_LI, nm_LR, nm_LL, nm_LQ, nm_QI, nm_QR, nm_QL, nm_QQ, nm_rr, nm_ii, nm_eqm, not_false_eq_true, pk_sub, nm_div, nm_shl, nm_shr, nm_ush, nm_or8, nm_or64, nm_or256, nm_m1, nm_m3, nm_m7, nm_m15, nm_m31, nm_m63, nm_m255, nm_m511, nm_m1023, nm_m2047, nm_m65535, Nat.reduceMod, Nat.reducePow, Nat.reduceAdd, Nat.reduceSub, Nat.reduceMul, nm_bo, nm_bi, nm_rc, nm_ic, nm_ri, nm_rl, nm_rq, nm_ql, nm_qi, nm_li, nm_us, nm_uu, nm_cp, nm_sa31, nm_sa7, nm_m127, nm_m2, nm_nz, nm_nzk, nm_eq32, nm_nzf, if_true, if_false, ↓reduceIte, if_pos, if_neg])
  rcases m2.2.1 o ho with ⟨z1, _⟩ | ⟨k, t, y1, y2, y3, y4, y5, y6, y7, y8, y9, y10, y11, y12, y13, ⟨r, hr, er, er1, er2⟩, y15⟩
  · exact absurd z1 kn
  have ob : ¬ o < 0 := by omega
  have u1 : o < 2 ^ 31 := by omega
  have u3 : o * 5 + 4 < 240 := by omega
  have of4 : df_X10_of n (nI o) (nI 4) K.2.2.2 = some (nI r, K.2.2.2) := by
    have w : sR K.2.2.2 1 (o * 5 + 4) = nI r := y11.trans er
    simp (disch := (first | assumption | decide | omega)) only [df_X10_of_0, df_X10_of, w, eq_self, Nat.reduceEqDiff, Nat.reduceLeDiff, nl_1, nl_5, nl_240, no_1, no_1024, pk_mul, nI_add, nm_ck, nI_clamp, nI_ltI, nI_leI, nI_eq, nb_b2, nb_b1, ↓nb_let, nm_z0, nm_z1, nb_II, nb_IR, nb_RI, nb_RR, nm_IL, nm_IQ, nm_RL, nm_RQ, nm_LI, nm_LR, nm_LL, nm_LQ, nm_QI, nm_QR, nm_QL, nm_QQ, nm_rr, nm_ii, nm_eqm, not_false_eq_true, pk_sub, nm_div, nm_shl, nm_shr, nm_ush, nm_or8, nm_or64, nm_or256, nm_m1, nm_m3, nm_m7, nm_m15, nm_m31, nm_m63, nm_m255, nm_m511, nm_m1023, nm_m2047, nm_m65535, Nat.reduceMod, Nat.reducePow, Nat.reduceAdd, Nat.reduceSub, Nat.reduceMul, nm_bo, nm_bi, nm_rc, nm_ic, nm_ri, nm_rl, nm_rq, nm_ql, nm_qi, nm_li, nm_us, nm_uu, nm_cp, nm_sa31, nm_sa7, nm_m127, nm_m2, nm_nz, nm_nzk, nm_eq32, nm_nzf, if_true, if_false, ↓reduceIte, if_pos, if_neg]
  rw [z, eA] at ans ⊢
  by_cases r1 : r % 2 = 0
  · exact ans (-1) (-nI 1) (by decide) (by simp (disch := (first | assumption | decide | omega)) only [df_X5_read, df_X5_read_0, df_X5_read_67, n0, n512, ma1, o1, ob, of4, r1, eq_self, Nat.reduceEqDiff, Nat.reduceLeDiff, nl_0, nl_1, nl_2, nl_4, nl_14, nl_512, nl_1099511627776, no_1, no_1024, pk_mul, nI_add, nm_ck, nI_clamp, nI_ltI, nI_leI, nI_eq, nb_b2, nb_b1, ↓nb_let, nm_z0, nm_z1, nb_II, nb_IR, nb_RI, nb_RR, nm_IL, nm_IQ, nm_RL, nm_RQ, nm_LI, nm_LR, nm_LL, nm_LQ, nm_QI, nm_QR, nm_QL, nm_QQ, nm_rr, nm_ii, nm_eqm, not_false_eq_true, pk_sub, nm_div, nm_shl, nm_shr, nm_ush, nm_or8, nm_or64, nm_or256, nm_m1, nm_m3, nm_m7, nm_m15, nm_m31, nm_m63, nm_m255, nm_m511, nm_m1023, nm_m2047, nm_m65535, Nat.reduceMod, Nat.reducePow, Nat.reduceAdd, Nat.reduceSub, Nat.reduceMul, nm_bo, nm_bi, nm_rc, nm_ic, nm_ri, nm_rl, nm_rq, nm_ql, nm_qi, nm_li, nm_us, nm_uu, nm_cp, nm_sa31, nm_sa7, nm_m127, nm_m2, nm_nz, nm_nzk, nm_eq32, nm_nzf, if_true, if_false, ↓reduceIte, if_pos, if_neg]) (by simp (disch := (first | assumption | decide | omega)) only [df_X16_read, df_X16_read_0, df_X16_read_60, n0, n512, h3, ma2, o2, er, r1, eq_self, Nat.reduceEqDiff, Nat.reduceLeDiff, nl_0, nl_1, nl_2, nl_3, nl_12, nl_14, nl_20, nl_22, nl_48, nl_512, no_1, no_1024, pk_mul, nI_add, nm_ck, nI_clamp, nI_ltI, nI_leI, nI_eq, nb_b2, nb_b1, ↓nb_let, nm_z0, nm_z1, nb_II, nb_IR, nb_RI, nb_RR, nm_IL, nm_IQ, nm_RL, nm_RQ, nm_LI, nm_LR, nm_LL, nm_LQ, nm_QI, nm_QR, nm_QL, nm_QQ, nm_rr, nm_ii, nm_eqm, not_false_eq_true, pk_sub, nm_div, nm_shl, nm_shr, nm_ush, nm_or8, nm_or64, nm_or256, nm_m1, nm_m3, nm_m7, nm_m15, nm_m31, nm_m63, nm_m255, nm_m511, nm_m1023, nm_m2047, nm_m65535, Nat.reduceMod, Nat.reducePow, Nat.reduceAdd, Nat.reduceSub, Nat.reduceMul, nm_bo, nm_bi, nm_rc, nm_ic, nm_ri, nm_rl, nm_rq, nm_ql, nm_qi, nm_li, nm_us, nm_uu, nm_cp, nm_sa31, nm_sa7, nm_m127, nm_m2, nm_nz, nm_nzk, nm_eq32, nm_nzf, if_true, if_false, ↓reduceIte, if_pos, if_neg])
  have hk : k = 1 ∨ k = 3 ∨ k = 4 := by
    by_cases k2 : k = 2
    · rw [er2 k2] at r1
      exact absurd rfl r1
    · omega
  obtain ⟨bb, rw1, rw2⟩ := nk_readWaits n hn m2 (rTT_l m7) (rTT_t m7) ho kn n512
  cases bb with
  | true =>
    rw [bI_t] at rw1 rw2
    have c1 : df_X5_read n (nI p) a (nI A) (nI N) K = some (1099511627776, K) := by
      simp (disch := (first | assumption | decide | omega)) only [df_X5_read, df_X5_read_0, n0, n512, ma1, o1, ob, of4, r1, rw1, eq_self, Nat.reduceEqDiff, Nat.reduceLeDiff, nl_0, nl_1, nl_2, nl_4, nl_14, nl_512, nl_1099511627776, no_1, no_1024, pk_mul, nI_add, nm_ck, nI_clamp, nI_ltI, nI_leI, nI_eq, nb_b2, nb_b1, ↓nb_let, nm_z0, nm_z1, nb_II, nb_IR, nb_RI, nb_RR, nm_IL, nm_IQ, nm_RL, nm_RQ, nm_LI, nm_LR, nm_LL, nm_LQ, nm_QI, nm_QR, nm_QL, nm_QQ, nm_rr, nm_ii, nm_eqm, not_false_eq_true, pk_sub, nm_div, nm_shl, nm_shr, nm_ush, nm_or8, nm_or64, nm_or256, nm_m1, nm_m3, nm_m7, nm_m15, nm_m31, nm_m63, nm_m255, nm_m511, nm_m1023, nm_m2047, nm_m65535, Nat.reduceMod, Nat.reducePow, Nat.reduceAdd, Nat.reduceSub, Nat.reduceMul, nm_bo, nm_bi, nm_rc, nm_ic, nm_ri, nm_rl, nm_rq, nm_ql, nm_qi, nm_li, nm_us, nm_uu, nm_cp, nm_sa31, nm_sa7, nm_m127, nm_m2, nm_nz, nm_nzk, nm_eq32, nm_nzf, if_true, if_false, ↓reduceIte, if_pos, if_neg]
    have c2 : df_X16_read n a (nI A) (nI N) X = some (nI 0, (pI X.1 13 (nI 1), X.2)) := by
      simp (disch := (first | assumption | decide | omega)) only [df_X16_read, df_X16_read_0, df_X16_tell_0, df_X16_tell, n0, n512, h3, ma2, o2, er, r1, rw2, eq_self, Nat.reduceEqDiff, Nat.reduceLeDiff, nl_0, nl_1, nl_2, nl_3, nl_12, nl_13, nl_14, nl_20, nl_22, nl_48, nl_512, no_1, no_1024, pk_mul, nI_add, nm_ck, nI_clamp, nI_ltI, nI_leI, nI_eq, nb_b2, nb_b1, ↓nb_let, nm_z0, nm_z1, nb_II, nb_IR, nb_RI, nb_RR, nm_IL, nm_IQ, nm_RL, nm_RQ, nm_LI, nm_LR, nm_LL, nm_LQ, nm_QI, nm_QR, nm_QL, nm_QQ, nm_rr, nm_ii, nm_eqm, not_false_eq_true, pk_sub, nm_div, nm_shl, nm_shr, nm_ush, nm_or8, nm_or64, nm_or256, nm_m1, nm_m3, nm_m7, nm_m15, nm_m31, nm_m63, nm_m255, nm_m511, nm_m1023, nm_m2047, nm_m65535, Nat.reduceMod, Nat.reducePow, Nat.reduceAdd, Nat.reduceSub, Nat.reduceMul, nm_bo, nm_bi, nm_rc, nm_ic, nm_ri, nm_rl, nm_rq, nm_ql, nm_qi, nm_li, nm_us, nm_uu, nm_cp, nm_sa31, nm_sa7, nm_m127, nm_m2, nm_nz, nm_nzk, nm_eq32, nm_nzf, if_true, if_false, ↓reduceIte, if_pos, if_neg]
    rw [c1, c2]
    exact cO_w h (Or.inr (Or.inl ⟨Or.inl h17, d, o, N, hd, ho, n512, e10.trans ed, de, e12.trans z⟩))
  | false =>
  rw [bI_f] at rw1 rw2
  obtain ⟨m, v, hmN, cC, cR, f1, f3, f4, hv, hrr⟩ := rd_K n hn (A := A) h1 h3 ho y10 n512 hk y4 y7
  have fu := m1.2.2.2.1
  have us := m1.2.2.2.2
  have cu := cU_le (sR X.1 16)
  have u5 : m < 2 ^ 31 := by omega
  by_cases m0 : m = 0
  · subst m0
    obtain ⟨D', X', t1, t2, t3, ⟨j1, j2, j3, j4, j5, j6, j7⟩, t5⟩ := rd_T n hn h1 ho y10 n512 hmN hk y4 y7 f1 f3 f4 (nI A)
    have fF : df_X6_framesFor n (nI p) (nI A) (nI 0) K.2.2 = some (nI 0, K.2.2) := by simp (disch := (first | assumption | decide | omega)) only [df_X6_framesFor_97, df_X6_framesFor_95, df_X6_framesFor_61, df_X6_framesFor_0, df_X6_framesFor, Nat.lt_irrefl, eq_self, Nat.reduceEqDiff, Nat.reduceLeDiff, nl_0, nl_1, nl_2, nl_3, nl_6, nl_10, nl_31, nl_63, nl_256, nl_1024, no_1, no_1024, pk_mul, nI_add, nm_ck, nI_clamp, nI_ltI, nI_leI, nI_eq, nb_b2, nb_b1, ↓nb_let, nm_z0, nm_z1, nb_II, nb_IR, nb_RI, nb_RR, nm_IL, nm_IQ, nm_RL, nm_RQ, nm_LI, nm_LR, nm_LL, nm_LQ, nm_QI, nm_QR, nm_QL, nm_QQ, nm_rr, nm_ii, nm_eqm, not_false_eq_true, pk_sub, nm_div, nm_shl, nm_shr, nm_ush, nm_or8, nm_or64, nm_or256, nm_m1, nm_m3, nm_m7, nm_m15, nm_m31, nm_m63, nm_m255, nm_m511, nm_m1023, nm_m2047, nm_m65535, Nat.reduceMod, Nat.reducePow, Nat.reduceAdd, Nat.reduceSub, Nat.reduceMul, nm_bo, nm_bi, nm_rc, nm_ic, nm_ri, nm_rl, nm_rq, nm_ql, nm_qi, nm_li, nm_us, nm_uu, nm_cp, nm_sa31, nm_sa7, nm_m127, nm_m2, nm_nz, nm_nzk, nm_eq32, nm_nzf, if_true, if_false, ↓reduceIte, if_pos, if_neg]
    have wa : df_X16_wanted n (nI p) (nI A) (nI 0) X = some (nI 0, X) := by
      have e6 : ∃ F, df_X16_wanted_6 n n = dF_X16_wanted_6 n F := by
        obtain ⟨q, rfl⟩ : ∃ q : Nat, n = q + 1 := ⟨n - 1, by omega⟩
        exact ⟨_, rfl⟩
      obtain ⟨F, e6⟩ := e6
      refine Eq.trans (b := df_X16_wanted_6 n n (nI p) (nI A) (nI 0) (nI 0) (nI 0) X) rfl ?_
      rw [e6]
      simp (disch := (first | assumption | decide | omega)) only [dF_X16_wanted_6, Nat.le_refl, eq_self, Nat.reduceEqDiff, Nat.reduceLeDiff, nl_0, nl_64, nl_1024, no_1, no_1024, pk_mul, nI_add, nm_ck, nI_clamp, nI_ltI, nI_leI, nI_eq, nb_b2, nb_b1, ↓nb_let, nm_z0, nm_z1, nb_II, nb_IR, nb_RI, nb_RR, nm_IL, nm_IQ, nm_RL, nm_RQ, nm_LI, nm_LR, nm_LL, nm_LQ, nm_QI, nm_QR, nm_QL, nm_QQ, nm_rr, nm_ii, nm_eqm, not_false_eq_true, pk_sub, nm_div, nm_shl, nm_shr, nm_ush, nm_or8, nm_or64, nm_or256, nm_m1, nm_m3, nm_m7, nm_m15, nm_m31, nm_m63, nm_m255, nm_m511, nm_m1023, nm_m2047, nm_m65535, Nat.reduceMod, Nat.reducePow, Nat.reduceAdd, Nat.reduceSub, Nat.reduceMul, nm_bo, nm_bi, nm_rc, nm_ic, nm_ri, nm_rl, nm_rq, nm_ql, nm_qi, nm_li, nm_us, nm_uu, nm_cp, nm_sa31, nm_sa7, nm_m127, nm_m2, nm_nz, nm_nzk, nm_eq32, nm_nzf, if_true, if_false, ↓reduceIte, if_pos, if_neg]
    have e160 : ∃ F, df_X5_read_160 n n = dF_X5_read_160 n F := by
      obtain ⟨q, rfl⟩ : ∃ q : Nat, n = q + 1 := ⟨n - 1, by omega⟩
      exact ⟨_, rfl⟩
    have e124 : ∃ F, df_X16_read_124 n n = dF_X16_read_124 n F := by
      obtain ⟨q, rfl⟩ : ∃ q : Nat, n = q + 1 := ⟨n - 1, by omega⟩
      exact ⟨_, rfl⟩
    obtain ⟨F1, e160⟩ := e160
    obtain ⟨F2, e124⟩ := e124
    have nt : df_X6_noteWrite n (nI p) (nI A) (nI 0) K.2.2 = some K.2.2 := by simp (disch := (first | assumption | decide | omega)) only [df_X6_noteWrite_51, df_X6_noteWrite_0, df_X6_noteWrite, Nat.le_refl, eq_self, Nat.reduceEqDiff, Nat.reduceLeDiff, nl_0, nl_1, nl_4, nl_6, nl_7, nl_10, nl_26, nl_31, no_1, no_1024, pk_mul, nI_add, nm_ck, nI_clamp, nI_ltI, nI_leI, nI_eq, nb_b2, nb_b1, ↓nb_let, nm_z0, nm_z1, nb_II, nb_IR, nb_RI, nb_RR, nm_IL, nm_IQ, nm_RL, nm_RQ, nm_LI, nm_LR, nm_LL, nm_LQ, nm_QI, nm_QR, nm_QL, nm_QQ, nm_rr, nm_ii, nm_eqm, not_false_eq_true, pk_sub, nm_div, nm_shl, nm_shr, nm_ush, nm_or8, nm_or64, nm_or256, nm_m1, nm_m3, nm_m7, nm_m15, nm_m31, nm_m63, nm_m255, nm_m511, nm_m1023, nm_m2047, nm_m65535, Nat.reduceMod, Nat.reducePow, Nat.reduceAdd, Nat.reduceSub, Nat.reduceMul, nm_bo, nm_bi, nm_rc, nm_ic, nm_ri, nm_rl, nm_rq, nm_ql, nm_qi, nm_li, nm_us, nm_uu, nm_cp, nm_sa31, nm_sa7, nm_m127, nm_m2, nm_nz, nm_nzk, nm_eq32, nm_nzf, if_true, if_false, ↓reduceIte, if_pos, if_neg]
    have fr : df_X6_framesFree n K.2.2 = some (nI (256 - cU (sR X.1 16)), K.2.2) := by
      generalize cU (sR X.1 16) = x at fu cu
      simp (disch := (first | assumption | decide | omega)) only [df_X6_framesFree_0, df_X6_framesFree, fu, eq_self, Nat.reduceEqDiff, Nat.reduceLeDiff, nl_0, nl_256, no_1, no_1024, pk_mul, nI_add, nm_ck, nI_clamp, nI_ltI, nI_leI, nI_eq, nb_b2, nb_b1, ↓nb_let, nm_z0, nm_z1, nb_II, nb_IR, nb_RI, nb_RR, nm_IL, nm_IQ, nm_RL, nm_RQ, nm_LI, nm_LR, nm_LL, nm_LQ, nm_QI, nm_QR, nm_QL, nm_QQ, nm_rr, nm_ii, nm_eqm, not_false_eq_true, pk_sub, nm_div, nm_shl, nm_shr, nm_ush, nm_or8, nm_or64, nm_or256, nm_m1, nm_m3, nm_m7, nm_m15, nm_m31, nm_m63, nm_m255, nm_m511, nm_m1023, nm_m2047, nm_m65535, Nat.reduceMod, Nat.reducePow, Nat.reduceAdd, Nat.reduceSub, Nat.reduceMul, nm_bo, nm_bi, nm_rc, nm_ic, nm_ri, nm_rl, nm_rq, nm_ql, nm_qi, nm_li, nm_us, nm_uu, nm_cp, nm_sa31, nm_sa7, nm_m127, nm_m2, nm_nz, nm_nzk, nm_eq32, nm_nzf, if_true, if_false, ↓reduceIte, if_pos, if_neg]
    have hF : df_X16_hasFrames n (nI 0) X = some (nI 1, X) := by
      generalize cU (sR X.1 16) = x at us cu
      have w1 : ¬ 256 < x + 0 := by omega
      have w2 : ¬ 256 < x := by omega
      simp (disch := (first | assumption | decide | omega)) only [df_X16_hasFrames_17, df_X16_hasFrames_0, df_X16_hasFrames, us, w1, Nat.add_zero, w2, eq_self, Nat.reduceEqDiff, Nat.reduceLeDiff, nl_0, nl_1, nl_6, nl_256, no_1, no_1024, pk_mul, nI_add, nm_ck, nI_clamp, nI_ltI, nI_leI, nI_eq, nb_b2, nb_b1, ↓nb_let, nm_z0, nm_z1, nb_II, nb_IR, nb_RI, nb_RR, nm_IL, nm_IQ, nm_RL, nm_RQ, nm_LI, nm_LR, nm_LL, nm_LQ, nm_QI, nm_QR, nm_QL, nm_QQ, nm_rr, nm_ii, nm_eqm, not_false_eq_true, pk_sub, nm_div, nm_shl, nm_shr, nm_ush, nm_or8, nm_or64, nm_or256, nm_m1, nm_m3, nm_m7, nm_m15, nm_m31, nm_m63, nm_m255, nm_m511, nm_m1023, nm_m2047, nm_m65535, Nat.reduceMod, Nat.reducePow, Nat.reduceAdd, Nat.reduceSub, Nat.reduceMul, nm_bo, nm_bi, nm_rc, nm_ic, nm_ri, nm_rl, nm_rq, nm_ql, nm_qi, nm_li, nm_us, nm_uu, nm_cp, nm_sa31, nm_sa7, nm_m127, nm_m2, nm_nz, nm_nzk, nm_eq32, nm_nzf, if_true, if_false, ↓reduceIte, if_pos, if_neg]
    generalize cU (sR X.1 16) = x at fr cu
    have w3 : 0 ≤ 256 - x := by omega
    have w4 : 256 - x < 2 ^ 31 := by omega
    have c1 : df_X5_read n (nI p) a (nI A) (nI N) K = df_X5_read_160 n n (nI p) (nI A) (nI N) (nI o) (nI 0) (nI 0) K := by
      exact rc_0 n n512 ho hr r1 (by omega) ma1 o1 of4 rw1 cC fF fr (by omega) w4 w3 (Nat.le_refl 0)
    have c2 : df_X16_read n a (nI A) (nI N) X = df_X16_read_124 n n (nI A) (nI N) (nI o) (nI 0) (nI t) (nI 0) X := by
      exact rr_1 n n512 ho hr r1 h3 ma2 o2 er rw2 cR wa y7 hF
    rw [c1, c2, e124, t2, e160]
    have c3 : dF_X5_read_160 n F1 (nI p) (nI A) (nI N) (nI o) (nI 0) (nI 0) K = some ((nI 0).toInt64, (K.1, (K.2.1, (K.2.2.1, D')))) := by
      simp (disch := (first | assumption | decide | omega)) only [dF_X5_read_160, Nat.le_refl, nt, t1, eq_self, Nat.reduceEqDiff, Nat.reduceLeDiff, nl_1, nl_255, no_1, no_1024, pk_mul, nI_add, nm_ck, nI_clamp, nI_ltI, nI_leI, nI_eq, nb_b2, nb_b1, ↓nb_let, nm_z0, nm_z1, nb_II, nb_IR, nb_RI, nb_RR, nm_IL, nm_IQ, nm_RL, nm_RQ, nm_LI, nm_LR, nm_LL, nm_LQ, nm_QI, nm_QR, nm_QL, nm_QQ, nm_rr, nm_ii, nm_eqm, not_false_eq_true, pk_sub, nm_div, nm_shl, nm_shr, nm_ush, nm_or8, nm_or64, nm_or256, nm_m1, nm_m3, nm_m7, nm_m15, nm_m31, nm_m63, nm_m255, nm_m511, nm_m1023, nm_m2047, nm_m65535, Nat.reduceMod, Nat.reducePow, Nat.reduceAdd, Nat.reduceSub, Nat.reduceMul, nm_bo, nm_bi, nm_rc, nm_ic, nm_ri, nm_rl, nm_rq, nm_ql, nm_qi, nm_li, nm_us, nm_uu, nm_cp, nm_sa31, nm_sa7, nm_m127, nm_m2, nm_nz, nm_nzk, nm_eq32, nm_nzf, if_true, if_false, ↓reduceIte, if_pos, if_neg]
    rw [c3]
    exact ⟨_, nI 0, K.1, (K.2.2.1, D'), X', rfl, rfl, t3, fun _ => rfl, Or.inl ⟨j4.trans h4, rfl⟩, ⟨j1, j2, j3, j5, j6⟩, Or.inl ⟨h6, j7.trans h7⟩, fun _ => by rw [t5]; exact h5, fun y => absurd ((j4.trans h4).symm.trans y) (by decide)⟩
  · obtain ⟨_, fa, ha, ea⟩ := ma_f m1 h2 (hm 0 (by omega))
    rw [Nat.add_zero] at ea
    obtain ⟨hz, fb, hb, eb⟩ := ma_f m1 h2 (hm (m - 1) (by omega))
    have hA2 : A + m ≤ 65536 := by omega
    rw [show A + (m - 1) = A + m - 1 by omega] at eb
    obtain ⟨fF, wa⟩ := nk_wanted n hn m1 h2 (A := A) (m := m) (by omega) (by omega) hA2 ha hb ea eb
    have rE := fun hw => rd_E n hn h (A := A) ho y10 n512 hmN hk y4 y7 f1 f3 f4 hv hrr (by omega) hA2 ha hb ea eb hw
    have fr : df_X6_framesFree n K.2.2 = some (nI (256 - cU (sR X.1 16)), K.2.2) := by
      generalize cU (sR X.1 16) = x at fu cu
      simp (disch := (first | assumption | decide | omega)) only [df_X6_framesFree_0, df_X6_framesFree, fu, eq_self, Nat.reduceEqDiff, Nat.reduceLeDiff, nl_0, nl_256, no_1, no_1024, pk_mul, nI_add, nm_ck, nI_clamp, nI_ltI, nI_leI, nI_eq, nb_b2, nb_b1, ↓nb_let, nm_z0, nm_z1, nb_II, nb_IR, nb_RI, nb_RR, nm_IL, nm_IQ, nm_RL, nm_RQ, nm_LI, nm_LR, nm_LL, nm_LQ, nm_QI, nm_QR, nm_QL, nm_QQ, nm_rr, nm_ii, nm_eqm, not_false_eq_true, pk_sub, nm_div, nm_shl, nm_shr, nm_ush, nm_or8, nm_or64, nm_or256, nm_m1, nm_m3, nm_m7, nm_m15, nm_m31, nm_m63, nm_m255, nm_m511, nm_m1023, nm_m2047, nm_m65535, Nat.reduceMod, Nat.reducePow, Nat.reduceAdd, Nat.reduceSub, Nat.reduceMul, nm_bo, nm_bi, nm_rc, nm_ic, nm_ri, nm_rl, nm_rq, nm_ql, nm_qi, nm_li, nm_us, nm_uu, nm_cp, nm_sa31, nm_sa7, nm_m127, nm_m2, nm_nz, nm_nzk, nm_eq32, nm_nzf, if_true, if_false, ↓reduceIte, if_pos, if_neg]
    have wl : wt (sR X.1 16) (64 * p + A / 1024) (64 * p + (A + m - 1) / 1024) ≤ 2 := by
      unfold wt
      split <;> split <;> (try split) <;> omega
    generalize wt (sR X.1 16) (64 * p + A / 1024) (64 * p + (A + m - 1) / 1024) = y at fF wa rE wl
    have hF : df_X16_hasFrames n (nI y) X = some (if 256 < cU (sR X.1 16) + y then nI 0 else nI 1, X) := by
      generalize cU (sR X.1 16) = x at us cu
      have w1 : x + y < 2 ^ 31 := by omega
      by_cases w : 256 < x + y
      · simp (disch := (first | assumption | decide | omega)) only [df_X16_hasFrames_17, df_X16_hasFrames_0, df_X16_hasFrames, us, w, eq_self, Nat.reduceEqDiff, Nat.reduceLeDiff, nl_0, nl_1, nl_6, nl_256, no_1, no_1024, pk_mul, nI_add, nm_ck, nI_clamp, nI_ltI, nI_leI, nI_eq, nb_b2, nb_b1, ↓nb_let, nm_z0, nm_z1, nb_II, nb_IR, nb_RI, nb_RR, nm_IL, nm_IQ, nm_RL, nm_RQ, nm_LI, nm_LR, nm_LL, nm_LQ, nm_QI, nm_QR, nm_QL, nm_QQ, nm_rr, nm_ii, nm_eqm, not_false_eq_true, pk_sub, nm_div, nm_shl, nm_shr, nm_ush, nm_or8, nm_or64, nm_or256, nm_m1, nm_m3, nm_m7, nm_m15, nm_m31, nm_m63, nm_m255, nm_m511, nm_m1023, nm_m2047, nm_m65535, Nat.reduceMod, Nat.reducePow, Nat.reduceAdd, Nat.reduceSub, Nat.reduceMul, nm_bo, nm_bi, nm_rc, nm_ic, nm_ri, nm_rl, nm_rq, nm_ql, nm_qi, nm_li, nm_us, nm_uu, nm_cp, nm_sa31, nm_sa7, nm_m127, nm_m2, nm_nz, nm_nzk, nm_eq32, nm_nzf, if_true, if_false, ↓reduceIte, if_pos, if_neg]
      · simp (disch := (first | assumption | decide | omega)) only [df_X16_hasFrames_17, df_X16_hasFrames_0, df_X16_hasFrames, us, w, eq_self, Nat.reduceEqDiff, Nat.reduceLeDiff, nl_0, nl_1, nl_6, nl_256, no_1, no_1024, pk_mul, nI_add, nm_ck, nI_clamp, nI_ltI, nI_leI, nI_eq, nb_b2, nb_b1, ↓nb_let, nm_z0, nm_z1, nb_II, nb_IR, nb_RI, nb_RR, nm_IL, nm_IQ, nm_RL, nm_RQ, nm_LI, nm_LR, nm_LL, nm_LQ, nm_QI, nm_QR, nm_QL, nm_QQ, nm_rr, nm_ii, nm_eqm, not_false_eq_true, pk_sub, nm_div, nm_shl, nm_shr, nm_ush, nm_or8, nm_or64, nm_or256, nm_m1, nm_m3, nm_m7, nm_m15, nm_m31, nm_m63, nm_m255, nm_m511, nm_m1023, nm_m2047, nm_m65535, Nat.reduceMod, Nat.reducePow, Nat.reduceAdd, Nat.reduceSub, Nat.reduceMul, nm_bo, nm_bi, nm_rc, nm_ic, nm_ri, nm_rl, nm_rq, nm_ql, nm_qi, nm_li, nm_us, nm_uu, nm_cp, nm_sa31, nm_sa7, nm_m127, nm_m2, nm_nz, nm_nzk, nm_eq32, nm_nzf, if_true, if_false, ↓reduceIte, if_pos, if_neg]
    generalize cU (sR X.1 16) = x at fr cu hF rE
    have w4 : 256 - x < 2 ^ 31 := by omega
    have w5 : y < 2 ^ 31 := by omega
    have w6 : ¬ m ≤ 0 := by omega
    have w7 : 1 ≤ A + m := by omega
    by_cases w : 256 < x + y
    · rw [if_pos w] at hF
      have w3 : ¬ y ≤ 256 - x := by omega
      have c1 : df_X5_read n (nI p) a (nI A) (nI N) K = some (4398046511104, K) := by
        clear rE hrr hv
        exact rc_f n n512 ho hr r1 (by omega) ma1 o1 of4 rw1 cC fF fr w5 w4 w3
      have c2 : df_X16_read n a (nI A) (nI N) X = some (nI 0, (pI X.1 13 (nI 3), X.2)) := by
        clear rE hrr hv
        exact rr_f n n512 ho hr r1 h3 ma2 o2 er rw2 cR wa y7 hF
      rw [c1, c2]
      exact cO_f h
    · rw [if_neg w] at hF
      have w3 : y ≤ 256 - x := by omega
      obtain ⟨M1, M2, p1, p2, p3⟩ := rE (by omega)
      have c1 : df_X5_read n (nI p) a (nI A) (nI N) K = df_X5_read_160 n n (nI p) (nI A) (nI N) (nI o) (nI m) (nI 0) (K.1, (K.2.1, M2)) := by
        clear rE hrr hv p3
        exact rc_1 n n512 ho hr r1 (by omega) ma1 o1 of4 rw1 cC fF fr w5 w4 w3 w6 p1 p2
      have c2 : df_X16_read n a (nI A) (nI N) X = df_X16_read_124 n n (nI A) (nI N) (nI o) (nI m) (nI t) (nI 0) X := by
        clear rE hrr hv p3
        exact rr_1 n n512 ho hr r1 h3 ma2 o2 er rw2 cR wa y7 hF
      rw [c1, c2]
      exact p3
