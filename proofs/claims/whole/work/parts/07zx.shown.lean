theorem a2047 (S : Nat) : Int64.ofNat S &&& 2047 = Int64.ofNat (S % 2048) := by
  apply Int64.toBitVec_inj.mp
  rw [Int64.toBitVec_and]
  apply BitVec.eq_of_toNat_eq
  rw [BitVec.toNat_and]
  show (BitVec.ofNat 64 S).toNat &&& 2047 = (BitVec.ofNat 64 (S % 2048)).toNat
  rw [BitVec.toNat_ofNat, BitVec.toNat_ofNat, show (2047 : Nat) = 2 ^ 11 - 1 from rfl, Nat.and_two_pow_sub_one_eq_mod]
  omega
theorem t32 {k : Nat} (h : k < 2 ^ 31) : (Int64.ofNat k).toInt32 = nI k := by
  apply Int32.toInt_inj.mp
  rw [Int64.toInt_toInt32, nm_lt (by omega), nI_toInt h]
  exact Int.bmod_eq_of_le (by omega) (by omega)
theorem o1_64 (S : Nat) : Int64.ofNat S + 1 = Int64.ofNat (S + 1) := by
  apply Int64.toBitVec_inj.mp
  rw [Int64.toBitVec_add]
  apply BitVec.eq_of_toNat_eq
  rw [BitVec.toNat_add]
  show ((BitVec.ofNat 64 S).toNat + 1) % 2 ^ 64 = (BitVec.ofNat 64 (S + 1)).toNat
  rw [BitVec.toNat_ofNat, BitVec.toNat_ofNat]
  omega
theorem lc_S {S : Nat} (h : S < 2 ^ 62) : (nI 0 ≤ lg_cmp (Int64.ofNat S) 2048 ↔ 2048 ≤ S) ∧ (lg_cmp (Int64.ofNat S) 2048 < nI 0 ↔ ¬ 2048 ≤ S) := by
  have e0 : (2048 : Int64).toInt = 2048 := by decide
  have e1 : (Int64.ofNat S).toInt = S := Int64.toInt_ofNat_of_lt (by omega)
  unfold lg_cmp
  by_cases c : (2048 : Int64) < Int64.ofNat S
  · rw [if_pos c]
    rw [Int64.lt_iff_toInt_lt] at c
    exact ⟨⟨fun _ => by omega, fun _ => by decide⟩, ⟨fun y => absurd y (by decide), fun y => by omega⟩⟩
  · rw [if_neg c]
    rw [Int64.lt_iff_toInt_lt] at c
    by_cases d : Int64.ofNat S = 2048
    · rw [if_pos d]
      have := congrArg Int64.toInt d
      exact ⟨⟨fun _ => by omega, fun _ => by decide⟩, ⟨fun y => absurd y (by decide), fun y => by omega⟩⟩
    · rw [if_neg d]
      have : S ≠ 2048 := fun y => d (Int64.toInt_inj.mp (by omega))
      exact ⟨⟨fun y => absurd y (by decide), fun y => by omega⟩, ⟨fun _ => by omega, fun _ => by decide⟩⟩
/-- a byte is shown: the class -/
theorem sh_C (n : Nat) {D : St} {S : Nat} (e : sL D 0 = Int64.ofNat S) (v : Int32) : df_X10_show n v D = some (pL (pR D 8 (upd (sR D 8) (S % 2048) (vp_nar .byte (v.toInt8.toInt32)))) 0 (Int64.ofNat (S + 1))) := by
  have e1 : (Int64.ofNat S &&& 2047).toInt32 = nI (S % 2048) := by rw [a2047, t32 (by omega)]
  have u1 : S % 2048 < 2048 := by omega
  have u2 : S % 2048 < 2 ^ 31 := by omega
  unfold df_X10_show df_X10_show_0
  rw [e, e1, nm_ck u1 u2, nb_let, nb_let, nI_clamp u2]
  show some (pL (pR D 8 _) 0 (sL D 0 + 1)) = _
  rw [e, o1_64]
/-- the reference -/
theorem sh_R66 (n : Nat) {X : St × St} {S k : Nat} (hk : k < 2048) (e : sL X.1 2 = Int64.ofNat S) (v : Int32) : df_X16_show_66 n v (nI k) X = some (pL (pR X.1 32 (upd (sR X.1 32) k v)) 2 (Int64.ofNat (S + 1)), X.2) := by
  have u2 : k < 2 ^ 31 := by omega
  unfold df_X16_show_66
  rw [nm_ck hk u2, nb_let, nb_let, nI_clamp u2]
  show some (pL (pR X.1 32 _) 2 (sL X.1 2 + 1), X.2) = _
  rw [e, o1_64]
theorem sh_R (n : Nat) (hn : 20000 < n) {X : St × St} {S : Nat} (hS : S < 2 ^ 62) (e : sL X.1 2 = Int64.ofNat S) (v : Int32) : df_X16_show n v X = some (pL (pR X.1 32 (if S < 2048 then upd (sR X.1 32) S v else upd (shk (sR X.1 32) 2047) 2047 v)) 2 (Int64.ofNat (S + 1)), X.2) := by
  obtain ⟨l1, l2⟩ := lc_S hS
  by_cases c : S < 2048
  · rw [if_pos c]
    have c1 := l2.mpr (by omega)
    have c2 : ¬ nI 0 ≤ lg_cmp (Int64.ofNat S) 2048 := fun z => by have := l1.mp z; omega
    have r := sh_R66 n c e v
    unfold df_X16_show df_X16_show_0
    rw [e, show (0 : Int32) = nI 0 from rfl, if_pos c1]
    unfold df_X16_show_40
    rw [e, show (0 : Int32) = nI 0 from rfl, if_neg c2, t32 (by omega)]
    exact r
  · rw [if_neg c]
    have c1 : ¬ lg_cmp (Int64.ofNat S) 2048 < nI 0 := fun z => by have := l2.mp z; omega
    have c2 := l1.mpr (by omega)
    obtain ⟨m, hm⟩ := nm_lq (fun m k => df_X16_show_13 n m v (nI (k + 1)) (pR X.1 32 (shk (sR X.1 32) k), X.2)) 2047 n (by omega) (fun k m hk => by
      have u1 : k + 1 < 2048 := by omega
      have u2 : k + 1 < 2 ^ 31 := by omega
      have u3 : k < 2048 := by omega
      have u4 : k < 2 ^ 31 := by omega
      have k2 : ¬ 2048 ≤ k + 1 := by omega
      have u5 : 1 ≤ k + 1 := by omega
      have u6 : k + 1 - 1 = k := by omega
      have vs := shk_s (sR X.1 32) k
      show df_X16_show_13 n (m + 1) v (nI (k + 1)) _ = df_X16_show_13 n m v (nI (k + 1 + 1)) _
      rw [show df_X16_show_13 n (m + 1) = dF_X16_show_13 n (df_X16_show_13 n m) from rfl]
      generalize df_X16_show_13 n m = G
      simp (disch := (first | assumption | decide | omega)) only [dF_X16_show_13, k2, u6, vs, eq_self, Nat.reduceEqDiff, Nat.reduceLeDiff, nl_1, nl_32, nl_2048, no_1, no_1024, pk_mul, nI_add, nm_ck, nI_clamp, nI_ltI, nI_leI, nI_eq, nb_b2, nb_b1, ↓nb_let, nm_z0, nm_z1, nb_II, nb_IR, nb_RI, nb_RR, nm_IL, nm_IQ, nm_RL, nm_RQ, nm_LI, nm_LR, nm_LL, nm_LQ, nm_QI, nm_QR, nm_QL, nm_QQ, nm_rr, nm_ii, nm_eqm, not_false_eq_true, pk_sub, nm_div, nm_shl, nm_shr, nm_ush, nm_or8, nm_or64, nm_or256, nm_m1, nm_m3, nm_m7, nm_m15, nm_m31, nm_m63, nm_m255, nm_m511, nm_m1023, nm_m2047, nm_m65535, Nat.reduceMod, Nat.reducePow, Nat.reduceAdd, Nat.reduceSub, Nat.reduceMul, nm_bo, nm_bi, nm_rc, nm_ic, nm_ri, nm_rl, nm_rq, nm_ql, nm_qi, nm_li, nm_us, nm_uu, nm_cp, nm_sa31, nm_sa7, nm_m127, nm_m2, nm_nz, nm_nzk, nm_eq32, nm_nzf, if_true, if_false, ↓reduceIte, if_pos, if_neg])
    rw [shk_0, nm_r0] at hm
    have r := sh_R66 n (X := (pR X.1 32 (shk (sR X.1 32) 2047), X.2)) (show 2047 < 2048 by omega) e v
    have r : df_X16_show_66 n v (nI 2047) (pR X.1 32 (shk (sR X.1 32) 2047), X.2) = some (pL (pR (pR X.1 32 (shk (sR X.1 32) 2047)) 32 (upd (shk (sR X.1 32) 2047) 2047 v)) 2 (Int64.ofNat (S + 1)), X.2) := r
    rw [nm_rr] at r
    unfold df_X16_show df_X16_show_0
    rw [e, show (0 : Int32) = nI 0 from rfl, if_neg c1]
    refine Eq.trans (b := df_X16_show_13 n n v (nI (0 + 1)) X) rfl (Eq.trans hm ?_)
    show df_X16_show_13 n (m + 1) v (nI 2048) _ = _
    rw [show df_X16_show_13 n (m + 1) = dF_X16_show_13 n (df_X16_show_13 n m) from rfl]
    have t : ∀ G, dF_X16_show_13 n G v (nI 2048) (pR X.1 32 (shk (sR X.1 32) 2047), X.2) = df_X16_show_40 n v (pR X.1 32 (shk (sR X.1 32) 2047), X.2) := fun G => by
      simp (disch := (first | assumption | decide | omega)) only [dF_X16_show_13, eq_self, Nat.reduceEqDiff, Nat.reduceLeDiff, nl_1, nl_32, nl_2048, no_1, no_1024, pk_mul, nI_add, nm_ck, nI_clamp, nI_ltI, nI_leI, nI_eq, nb_b2, nb_b1, ↓nb_let, nm_z0, nm_z1, nb_II, nb_IR, nb_RI, nb_RR, nm_IL, nm_IQ, nm_RL, nm_RQ, nm_LI, nm_LR, nm_LL, nm_LQ, nm_QI, nm_QR, nm_QL, nm_QQ, nm_rr, nm_ii, nm_eqm, not_false_eq_true, pk_sub, nm_div, nm_shl, nm_shr, nm_ush, nm_or8, nm_or64, nm_or256, nm_m1, nm_m3, nm_m7, nm_m15, nm_m31, nm_m63, nm_m255, nm_m511, nm_m1023, nm_m2047, nm_m65535, Nat.reduceMod, Nat.reducePow, Nat.reduceAdd, Nat.reduceSub, Nat.reduceMul, nm_bo, nm_bi, nm_rc, nm_ic, nm_ri, nm_rl, nm_rq, nm_ql, nm_qi, nm_li, nm_us, nm_uu, nm_cp, nm_sa31, nm_sa7, nm_m127, nm_m2, nm_nz, nm_nzk, nm_eq32, nm_nzf, if_true, if_false, ↓reduceIte, if_pos, if_neg]
    rw [t]
    unfold df_X16_show_40
    rw [show sL (pR X.1 32 (shk (sR X.1 32) 2047), X.2).1 2 = Int64.ofNat S from e, show (0 : Int32) = nI 0 from rfl, if_pos c2]
    exact r
/-- what was shown, in both -/
def rSh (S : Nat) (sh sw : Nat → Int32) : Prop := ∀ i : Nat, i < S → i < 2048 → b8 (sh ((if S ≤ 2048 then i else S + i) % 2048)) (sw i)
theorem rSh_s {S : Nat} {sh sw : Nat → Int32} (h : rSh S sh sw) {v u : Int32} (hv : b8 v u) : rSh (S + 1) (upd sh (S % 2048) v) (if S < 2048 then upd sw S u else upd (shk sw 2047) 2047 u) := by
  intro i hi h2
  by_cases c : S < 2048
  · rw [if_pos c, if_pos (by omega)]
    by_cases d : i = S
    · rw [d, nm_us, nm_us]
      exact hv
    · rw [nm_un (by omega), nm_un d]
      have := h i (by omega) h2
      rw [if_pos (by omega)] at this
      exact this
  · rw [if_neg c, if_neg (by omega)]
    by_cases d : i = 2047
    · rw [d, nm_us, show (S + 1 + 2047) % 2048 = S % 2048 by omega, nm_us]
      exact hv
    · rw [nm_un (by omega), nm_un d, show shk sw 2047 i = sw (i + 1) from if_pos (by omega)]
      have := h (i + 1) (by omega) (by omega)
      by_cases e : S ≤ 2048
      · rw [if_pos e] at this
        rw [show (S + 1 + i) % 2048 = (i + 1) % 2048 by omega]
        exact this
      · rw [if_neg e] at this
        rw [show S + 1 + i = S + (i + 1) by omega]
        exact this
