/-- constants of Strings: their length, their letters, whether one stands somewhere -/
theorem ks_ok : ∀ i : Fin 190, ∀ j : Fin 100, ((ks_b i.1 j.1) &&& 255).toUInt32.toUInt16.toUInt32.toInt32 = ks_b i.1 j.1 ∧ vp_nar .char (ks_b i.1 j.1) = ks_b i.1 j.1 := by decide +kernel
theorem ks_sh : ∀ i : Fin 190, ks_n i.1 ≤ 100 := by decide +kernel
theorem nar_z {α : Type} {t : FieldType} {v : Int32} {x : Option α} (h : vp_nar t v = v) : nd_z t v x = x := if_pos h
theorem ln_1 (n k : Nat) (hk : k < 190) : df_J0_length_8abf5 n k () = some (nI (ks_n k), ()) := by
  have a := ks_sh ⟨k, hk⟩
  have a : ks_n k ≤ 100 := a
  have e : ((0 : Int32) &&& 31) = nI 0 := by decide
  have z : ∀ (x : Option (Int32 × Unit)), nd_z .byte 0 x = x := fun x => nar_z (by decide)
  unfold df_J0_length_8abf5 df_J0_length_8abf5_0 df_J0_coder_7d493 df_J0_coder_7d493_0 df_J0_coder_7d493_14
  rw [nb_lt hk, nb_lt hk, nb_lt hk, nb_lt hk, z, nb_b2, e, show Int32.ofNat (ks_n k) = nI (ks_n k) from rfl, nm_shr (by omega) (by omega), Nat.pow_zero, Nat.div_one]
theorem ch_1 (n k i : Nat) (hk : k < 190) (hi : i < ks_n k) : df_J0_charAt_5068e n k (nI i) () = some (ks_b k i, ()) := by
  have a := ks_sh ⟨k, hk⟩
  have a : ks_n k ≤ 100 := a
  have b := ks_ok ⟨k, hk⟩ ⟨i, by omega⟩
  have b1 : ((ks_b k i) &&& 255).toUInt32.toUInt16.toUInt32.toInt32 = ks_b k i := b.1
  have b2 : vp_nar .char (ks_b k i) = ks_b k i := b.2
  have z : ∀ (x : Option (Int32 × Unit)), nd_z .char (ks_b k i) x = x := fun x => nar_z b2
  have n0 : ¬ nI i < (0 : Int32) := fun z => by have z : nI i < nI 0 := z; rw [nI_ltI (by omega) (by omega)] at z; omega
  have n1 : nI i < nI (ks_n k) := (nI_ltI (by omega) (by omega)).mpr hi
  unfold df_J0_charAt_5068e df_J0_charAt_5068e_0 df_J0_isLatin1_aae02 df_J0_isLatin1_aae02_0 df_J0_isLatin1_aae02_18 df_J1_charAt_3b067 df_J1_charAt_3b067_0 df_J0_checkIndex_df160 df_J0_checkIndex_df160_0 df_J3_checkIndex_8e157 df_J3_checkIndex_8e157_0
  rw [nb_lt hk, nb_lt hk, nb_z1, nb_b2, if_neg (by decide), nb_lt hk, nb_lt hk, show Int32.ofNat (ks_n k) = nI (ks_n k) from rfl, if_neg n0, if_pos n1, nb_b2, nb_b1, nb_lt hk, nm_ck hi (by omega), nI_clamp (by omega), b1, z, nb_b2, z]
def wq (k q l : Nat) (R : Nat → Int32) : Prop := ks_n k = l ∧ ∀ i : Nat, i < l → R (q + i) = ks_b k i
theorem sn_ne (n k q l : Nat) {B : St} (hk : k < 190) (hl : l < 2 ^ 30) (h : ¬ ks_n k = l) : df_X7_stands n k (nI q) (nI l) B = some (nI 0, B) := by
  have a := ks_sh ⟨k, hk⟩
  have a : ks_n k ≤ 100 := a
  unfold df_X7_stands df_X7_stands_0 df_X7_stands_20
  rw [nb_lt hk, ln_1 n k hk, nb_b2, if_neg (fun z => by rw [nI_eq (by omega) (by omega)] at z; exact h z)]
  rfl
theorem sn_25 (n k q l : Nat) {B : St} (hk : k < 190) (hq : q + l ≤ 32768) (hl : ks_n k = l) : ∀ j i m : Nat, i + j = l → j < m → (∀ t : Nat, t < i → sR B 0 (q + t) = ks_b k t) → ((∀ t : Nat, t < l → sR B 0 (q + t) = ks_b k t) → df_X7_stands_25 n m k (nI q) (nI l) (nI i) B = some (nI 1, B)) ∧ ((¬ ∀ t : Nat, t < l → sR B 0 (q + t) = ks_b k t) → df_X7_stands_25 n m k (nI q) (nI l) (nI i) B = some (nI 0, B)) := fun j => by
  induction j with
  | zero =>
    intro i m hi hm h
    obtain ⟨m, rfl⟩ : ∃ g : Nat, m = g + 1 := ⟨m - 1, by omega⟩
    have hi : i = l := by omega
    subst hi
    have u : i < 2 ^ 30 := by omega
    refine ⟨fun _ => ?_, fun z => absurd h z⟩
    simp (disch := (first | assumption | decide | omega)) only [(show df_X7_stands_25 n (m + 1) = dF_X7_stands_25 n (df_X7_stands_25 n m) from rfl), dF_X7_stands_25, df_X7_stands_20, df_X7_stands_0, df_X7_stands, eq_self, Nat.reduceEqDiff, Nat.reduceLeDiff, nl_0, nl_1, nl_190, nl_32768, no_1, no_1024, pk_mul, nI_add, nm_ck, nI_clamp, nI_ltI, nI_leI, nI_eq, nb_b2, nb_b1, ↓nb_let, nm_z0, nm_z1, nb_II, nb_IR, nb_RI, nb_RR, nm_IL, nm_IQ, nm_RL, nm_RQ, nm_LI, nm_LR, nm_LL, nm_LQ, nm_QI, nm_QR, nm_QL, nm_QQ, nm_rr, nm_ii, nm_eqm, not_false_eq_true, pk_sub, nm_div, nm_shl, nm_shr, nm_ush, nm_or8, nm_or64, nm_or256, nm_m1, nm_m3, nm_m7, nm_m15, nm_m31, nm_m63, nm_m255, nm_m511, nm_m1023, nm_m2047, nm_m65535, Nat.reduceMod, Nat.reducePow, Nat.reduceAdd, Nat.reduceSub, Nat.reduceMul, nm_bo, nm_bi, nm_rc, nm_ic, nm_ri, nm_rl, nm_rq, nm_ql, nm_qi, nm_li, nm_us, nm_uu, nm_cp, nm_sa31, nm_sa7, nm_m127, nm_m2, nm_nz, nm_nzk, nm_eq32, nm_nzf, if_true, if_false, ↓reduceIte, if_pos, if_neg]
  | succ j ih =>
    intro i m hi hm h
    obtain ⟨m, rfl⟩ : ∃ g : Nat, m = g + 1 := ⟨m - 1, by omega⟩
    have c := ch_1 n k i hk (by omega)
    have lt : ∀ x : Option (Int32 × St), nd_lt k 190 x = x := fun x => nb_lt hk
    by_cases y : ks_b k i = sR B 0 (q + i)
    · have e : df_X7_stands_25 n (m + 1) k (nI q) (nI l) (nI i) B = df_X7_stands_25 n m k (nI q) (nI l) (nI (i + 1)) B := by
        simp (disch := (first | assumption | decide | omega)) only [(show df_X7_stands_25 n (m + 1) = dF_X7_stands_25 n (df_X7_stands_25 n m) from rfl), dF_X7_stands_25, df_X7_stands_20, df_X7_stands_0, df_X7_stands, lt, c, y, eq_self, Nat.reduceEqDiff, Nat.reduceLeDiff, nl_0, nl_1, nl_190, nl_32768, no_1, no_1024, pk_mul, nI_add, nm_ck, nI_clamp, nI_ltI, nI_leI, nI_eq, nb_b2, nb_b1, ↓nb_let, nm_z0, nm_z1, nb_II, nb_IR, nb_RI, nb_RR, nm_IL, nm_IQ, nm_RL, nm_RQ, nm_LI, nm_LR, nm_LL, nm_LQ, nm_QI, nm_QR, nm_QL, nm_QQ, nm_rr, nm_ii, nm_eqm, not_false_eq_true, pk_sub, nm_div, nm_shl, nm_shr, nm_ush, nm_or8, nm_or64, nm_or256, nm_m1, nm_m3, nm_m7, nm_m15, nm_m31, nm_m63, nm_m255, nm_m511, nm_m1023, nm_m2047, nm_m65535, Nat.reduceMod, Nat.reducePow, Nat.reduceAdd, Nat.reduceSub, Nat.reduceMul, nm_bo, nm_bi, nm_rc, nm_ic, nm_ri, nm_rl, nm_rq, nm_ql, nm_qi, nm_li, nm_us, nm_uu, nm_cp, nm_sa31, nm_sa7, nm_m127, nm_m2, nm_nz, nm_nzk, nm_eq32, nm_nzf, if_true, if_false, ↓reduceIte, if_pos, if_neg]
      rw [e]
      exact ih (i + 1) m (by omega) (by omega) (fun t ht => by
        by_cases z : t = i
        · rw [z]; exact y.symm
        · exact h t (by omega))
    · refine ⟨fun z => absurd (z i (by omega)).symm y, fun _ => ?_⟩
      simp (disch := (first | assumption | decide | omega)) only [(show df_X7_stands_25 n (m + 1) = dF_X7_stands_25 n (df_X7_stands_25 n m) from rfl), dF_X7_stands_25, df_X7_stands_20, df_X7_stands_0, df_X7_stands, lt, c, y, eq_self, Nat.reduceEqDiff, Nat.reduceLeDiff, nl_0, nl_1, nl_190, nl_32768, no_1, no_1024, pk_mul, nI_add, nm_ck, nI_clamp, nI_ltI, nI_leI, nI_eq, nb_b2, nb_b1, ↓nb_let, nm_z0, nm_z1, nb_II, nb_IR, nb_RI, nb_RR, nm_IL, nm_IQ, nm_RL, nm_RQ, nm_LI, nm_LR, nm_LL, nm_LQ, nm_QI, nm_QR, nm_QL, nm_QQ, nm_rr, nm_ii, nm_eqm, not_false_eq_true, pk_sub, nm_div, nm_shl, nm_shr, nm_ush, nm_or8, nm_or64, nm_or256, nm_m1, nm_m3, nm_m7, nm_m15, nm_m31, nm_m63, nm_m255, nm_m511, nm_m1023, nm_m2047, nm_m65535, Nat.reduceMod, Nat.reducePow, Nat.reduceAdd, Nat.reduceSub, Nat.reduceMul, nm_bo, nm_bi, nm_rc, nm_ic, nm_ri, nm_rl, nm_rq, nm_ql, nm_qi, nm_li, nm_us, nm_uu, nm_cp, nm_sa31, nm_sa7, nm_m127, nm_m2, nm_nz, nm_nzk, nm_eq32, nm_nzf, if_true, if_false, ↓reduceIte, if_pos, if_neg]
theorem sn_y (n k q l : Nat) {B : St} (hn : l < n) (hk : k < 190) (hq : q + l ≤ 32768) (h : wq k q l (sR B 0)) : df_X7_stands n k (nI q) (nI l) B = some (nI 1, B) := by
  have e := (sn_25 n k q l hk hq h.1 l 0 n (by omega) hn (fun t ht => by omega)).1 h.2
  unfold df_X7_stands df_X7_stands_0
  rw [nb_lt hk, ln_1 n k hk, nb_b2, if_pos (by rw [h.1]), if_neg (show ¬ nI q < 0 from fun z => by have z : nI q < nI 0 := z; rw [nI_ltI (by omega) (by omega)] at z; omega), if_pos (show nI q + nI l ≤ 32768 by rw [nI_add]; exact (show nI (q + l) ≤ nI 32768 from (nI_leI (by omega) (by omega)).mpr hq))]
  exact e
theorem sn_n (n k q l : Nat) {B : St} (hn : l < n) (hk : k < 190) (hq : q + l ≤ 32768) (h : ¬ wq k q l (sR B 0)) : df_X7_stands n k (nI q) (nI l) B = some (nI 0, B) := by
  by_cases c : ks_n k = l
  · have e := (sn_25 n k q l hk hq c l 0 n (by omega) hn (fun t ht => by omega)).2 (fun z => h ⟨c, z⟩)
    unfold df_X7_stands df_X7_stands_0
    rw [nb_lt hk, ln_1 n k hk, nb_b2, if_pos (by rw [c]), if_neg (show ¬ nI q < 0 from fun z => by have z : nI q < nI 0 := z; rw [nI_ltI (by omega) (by omega)] at z; omega), if_pos (show nI q + nI l ≤ 32768 by rw [nI_add]; exact (show nI (q + l) ≤ nI 32768 from (nI_leI (by omega) (by omega)).mpr hq))]
    exact e
  · exact sn_ne n k q l hk (by omega) c
