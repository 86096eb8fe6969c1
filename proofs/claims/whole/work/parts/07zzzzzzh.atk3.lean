/-- signs, in both -/
def sgA (c : Nat) : Bool := decide (c = 58 ∨ c = 44 ∨ c = 40 ∨ c = 41 ∨ c = 43 ∨ c = 45 ∨ c = 42 ∨ c = 47 ∨ c = 37 ∨ c = 38 ∨ c = 124 ∨ c = 94 ∨ c = 126)
theorem sg_a : ∀ (k : Fin 13) (c : Fin 128), ks_b 17 k.1 = nI c.1 → sgA c.1 = true := by decide +kernel
theorem sg_b : ∀ c : Fin 128, sgA c.1 = true → ∃ k : Fin 13, ks_b 17 k.1 = nI c.1 := by decide +kernel
theorem ch_16 : ∀ c : Fin 128, (nI c.1).toUInt32.toUInt16.toUInt32.toInt32 = nI c.1 := by decide +kernel
theorem ch_8 : ∀ c : Fin 128, (nI c.1).toInt8.toInt32 = nI c.1 := by decide +kernel
theorem ix_17 (n ch : Nat) (hn : 20 < n) (hc : ch < 128) : ∃ r : Int32, df_J0_indexOf_0f7a4 n 17 (nI ch) () = some (r, ()) ∧ (0 ≤ r ↔ sgA ch = true) := by
  have c8 : (nI ch).toInt8.toInt32 = nI ch := ch_8 ⟨ch, hc⟩
  obtain ⟨m, e⟩ := nm_ls (fun g k => df_J1_indexOfChar_4cfef_7 n g 17 (nI 13) (nI ch) (nI k) ()) (fun k => decide (ks_b 17 k = nI ch)) 0 13 n (by omega) (fun k m _ hk hP => by
    have hP := of_decide_eq_false hP
    show dF_J1_indexOfChar_4cfef_7 n (df_J1_indexOfChar_4cfef_7 n m) 17 (nI 13) (nI ch) (nI k) () = df_J1_indexOfChar_4cfef_7 n m 17 (nI 13) (nI ch) (nI (k + 1)) ()
    unfold dF_J1_indexOfChar_4cfef_7
    rw [if_neg (show ¬ nI 13 ≤ nI k from fun z => by rw [nI_leI (by omega) (by omega)] at z; omega), nb_lt (by omega), nm_ck (show k < ks_n 17 from Nat.lt_of_lt_of_le hk (by decide)) (by omega), nI_clamp (by omega), if_neg hP, nb_let, show nI k + Int32.ofInt 1 = nI (k + 1) by rw [show Int32.ofInt 1 = nI 1 from rfl, nI_add]])
  obtain ⟨_, x2, x3, x4⟩ := fN_le (fun k => decide (ks_b 17 k = nI ch)) 13 0
  generalize fN (fun k => decide (ks_b 17 k = nI ch)) 0 13 = E at e x2 x3 x4
  have e : df_J1_indexOfChar_4cfef_7 n n 17 (nI 13) (nI ch) (nI 0) () = dF_J1_indexOfChar_4cfef_7 n (df_J1_indexOfChar_4cfef_7 n m) 17 (nI 13) (nI ch) (nI E) () := e
  have top : ∀ r : Int32, dF_J1_indexOfChar_4cfef_7 n (df_J1_indexOfChar_4cfef_7 n m) 17 (nI 13) (nI ch) (nI E) () = some (r, ()) → df_J0_indexOf_0f7a4 n 17 (nI ch) () = some (r, ()) := fun r h => by
    rw [h] at e
    have ce : df_J1_canEncode_9a6ad n (nI ch) () = some (1, ()) := by
      unfold df_J1_canEncode_9a6ad df_J1_canEncode_9a6ad_0 df_J1_canEncode_9a6ad_16
      rw [if_neg (show ¬ nI ch < 0 from fun z => by have z : nI ch < nI 0 := z; rw [nI_ltI (by omega) (by omega)] at z; omega), if_neg (show ¬ 255 < nI ch from fun z => by have z : nI 255 < nI ch := z; rw [nI_ltI (by omega) (by omega)] at z; omega)]
      rfl
    have l1 : df_J0_isLatin1_aae02 n 17 () = some (1, ()) := rfl
    have l2 : df_J0_length_8abf5 n 17 () = some (nI 13, ()) := rfl
    unfold df_J0_indexOf_0f7a4 df_J0_indexOf_0f7a4_0 df_J0_indexOf_7cf53 df_J0_indexOf_7cf53_0 df_J0_indexOf_7cf53_36 df_J1_indexOf_4cfef df_J1_indexOf_4cfef_0 df_J1_indexOfChar_4cfef df_J1_indexOfChar_4cfef_0
    rw [nb_lt (by omega), nb_lt (by omega), l1, nb_b2, if_neg (by decide), nb_lt (by omega), nb_lt (by omega), l2, nb_b2, ce, nb_b2, if_neg (by decide), nb_let, nb_lt (by omega), nb_let, if_pos (show (if (0 : Int32) < 0 then 0 else 0) < (if (Int32.ofNat (ks_n 17) : Int32) < nI 13 then Int32.ofNat (ks_n 17) else nI 13) by decide), nb_let, c8]
    rw [show (if (Int32.ofNat (ks_n 17) : Int32) < nI 13 then Int32.ofNat (ks_n 17) else nI 13) = nI 13 by decide, show (if (0 : Int32) < 0 then (0 : Int32) else 0) = nI 0 by decide, e, nb_b2, nb_b2, nb_b2]
  by_cases c : E < 13
  · have x3 := of_decide_eq_true (x3 (by omega))
    refine ⟨nI E, top _ ?_, fun _ => sg_a ⟨E, c⟩ ⟨ch, hc⟩ x3, fun _ => by show nI 0 ≤ nI E; rw [nI_leI (by omega) (by omega)]; omega⟩
    unfold dF_J1_indexOfChar_4cfef_7
    rw [if_neg (show ¬ nI 13 ≤ nI E from fun z => by rw [nI_leI (by omega) (by omega)] at z; omega), nb_lt (by omega), nm_ck (show E < ks_n 17 from Nat.lt_of_lt_of_le c (by decide)) (by omega), nI_clamp (by omega), if_pos x3]
  · refine ⟨-1, top _ ?_, fun z => absurd z (by decide), fun z => ?_⟩
    · unfold dF_J1_indexOfChar_4cfef_7
      rw [if_pos (show nI 13 ≤ nI E by rw [nI_leI (by omega) (by omega)]; omega)]
    · obtain ⟨k, hk⟩ := sg_b ⟨ch, hc⟩ z
      exact absurd hk (of_decide_eq_false (x4 k.1 (by omega) (by omega)))
/-- the class's sign -/
theorem ak_S0 {n L e : Nat} {c : Nat → Nat} {BC BR : St} (hT : atx n L e c BC BR) (q kd fr : Nat) (nm : Int32) (hq : q < e) (hp : aP (c q) = false) (h35 : ¬ c q = 35) : df_X9_next_52 n (uC BC q kd fr nm) = if c q = 34 then df_X9_readText n (uC BC q kd q nm) else if c q = 39 then df_X9_readCharacter n (uC BC q kd q nm) else df_X9_readSign n (nI (c q)) (uC BC q kd q nm) := by
  have h127 := hT.2.2.2.1 q
  have hL := hT.2.1
  have heL := hT.2.2.1
  rw [ak_1 hT q kd fr nm hq h35, eT_n c (Nat.le_of_lt hq) hp]
  have hd : ¬ (48 ≤ c q ∧ c q ≤ 57) := fun z => by
    rw [aD_P (aD_v.mpr z)] at hp
    exact absurd hp (by decide)
  have s1 : df_X9_next_140 n (nI (c q)) (uC BC q kd q nm) = df_X9_next_159 n (nI (c q)) (uC BC q kd q nm) := by
    by_cases a : c q < 48
    · simp (disch := (first | assumption | decide | omega)) only [df_X9_next_140, eq_self, Nat.reduceEqDiff, Nat.reduceLeDiff, nl_48, nl_57, no_1, no_1024, pk_mul, nI_add, nm_ck, nI_clamp, nI_ltI, nI_leI, nI_eq, nb_b2, nb_b1, ↓nb_let, nm_z0, nm_z1, nb_II, nb_IR, nb_RI, nb_RR, nm_IL, nm_IQ, nm_RL, nm_RQ, nm_LI, nm_LR, nm_LL, nm_LQ, nm_QI, nm_QR, nm_QL, nm_QQ, nm_rr, nm_ii, nm_eqm, not_false_eq_true, pk_sub, nm_div, nm_shl, nm_shr, nm_ush, nm_or8, nm_or64, nm_or256, nm_m1, nm_m3, nm_m7, nm_m15, nm_m31, nm_m63, nm_m255, nm_m511, nm_m1023, nm_m2047, nm_m65535, Nat.reduceMod, Nat.reducePow, Nat.reduceAdd, Nat.reduceSub, Nat.reduceMul, nm_bo, nm_bi, nm_rc, nm_ic, nm_ri, nm_rl, nm_rq, nm_ql, nm_qi, nm_li, nm_us, nm_uu, nm_cp, nm_sa31, nm_sa7, nm_m127, nm_m2, nm_nz, nm_nzk, nm_eq32, nm_nzf, if_true, if_false, ↓reduceIte, if_pos, if_neg]
    · have b : 57 < c q := by omega
      simp (disch := (first | assumption | decide | omega)) only [df_X9_next_140, eq_self, Nat.reduceEqDiff, Nat.reduceLeDiff, nl_48, nl_57, no_1, no_1024, pk_mul, nI_add, nm_ck, nI_clamp, nI_ltI, nI_leI, nI_eq, nb_b2, nb_b1, ↓nb_let, nm_z0, nm_z1, nb_II, nb_IR, nb_RI, nb_RR, nm_IL, nm_IQ, nm_RL, nm_RQ, nm_LI, nm_LR, nm_LL, nm_LQ, nm_QI, nm_QR, nm_QL, nm_QQ, nm_rr, nm_ii, nm_eqm, not_false_eq_true, pk_sub, nm_div, nm_shl, nm_shr, nm_ush, nm_or8, nm_or64, nm_or256, nm_m1, nm_m3, nm_m7, nm_m15, nm_m31, nm_m63, nm_m255, nm_m511, nm_m1023, nm_m2047, nm_m65535, Nat.reduceMod, Nat.reducePow, Nat.reduceAdd, Nat.reduceSub, Nat.reduceMul, nm_bo, nm_bi, nm_rc, nm_ic, nm_ri, nm_rl, nm_rq, nm_ql, nm_qi, nm_li, nm_us, nm_uu, nm_cp, nm_sa31, nm_sa7, nm_m127, nm_m2, nm_nz, nm_nzk, nm_eq32, nm_nzf, if_true, if_false, ↓reduceIte, if_pos, if_neg]
  rw [s1]
  unfold df_X9_next_159 df_X9_next_228
  rw [uC_i0, uC_i3, if_pos (show nI q ≤ nI q by rw [nI_leI (by omega) (by omega)]; omega)]
  have x1 : ∀ o : Option St, nd_b1 o (fun s => some s) = o := fun o => by cases o <;> rfl
  rw [x1, x1, x1]
  by_cases a : c q = 34
  · rw [if_pos a, if_pos (show nI (c q) = 34 by rw [a]; rfl)]
  · rw [if_neg a, if_neg (show ¬ nI (c q) = 34 from fun z => a (by have z : nI (c q) = nI 34 := z; rw [nI_eq (by omega) (by omega)] at z; exact z))]
    by_cases b : c q = 39
    · rw [if_pos b, if_pos (show nI (c q) = 39 by rw [b]; rfl)]
    · rw [if_neg b, if_neg (show ¬ nI (c q) = 39 from fun z => b (by have z : nI (c q) = nI 39 := z; rw [nI_eq (by omega) (by omega)] at z; exact z))]
theorem mn_1 {y e : Nat} (h : y ≤ e) (he : e < 2 ^ 30) : (if nI e < nI y then nI e else nI y) = nI y := if_neg (fun z => by rw [nI_ltI (by omega) (by omega)] at z; omega)
theorem mn_2 {y e : Nat} (h : y = e + 1) (he : e < 2 ^ 30) : (if nI e < nI y then nI e else nI y) = nI e := if_pos (by rw [nI_ltI (by omega) (by omega)]; omega)
theorem ak_S {n L e : Nat} {c : Nat → Nat} {BC BR : St} (hT : atx n L e c BC BR) (q kd : Nat) (nm : Int32) (hq : q < e) (h60 : ¬ c q = 60) (h62 : ¬ c q = 62) : df_X9_readSign n (nI (c q)) (uC BC q kd q nm) = some (uC BC (q + 1) (if sgA (c q) = true then 5 else 6) q (nI (c q))) := by
  obtain ⟨hn, hL, heL, h127, hend, hce, hO, h1, htC, h0, htR, hch⟩ := id hT
  have q127 := h127 q
  obtain ⟨r, ix, hr⟩ := ix_17 n (c q) (by omega) (by omega)
  have c16 : (nI (c q)).toUInt32.toUInt16.toUInt32.toInt32 = nI (c q) := ch_16 ⟨c q, by omega⟩
  by_cases y : sgA (c q) = true
  · have hr := hr.mpr y
    have hr : nI 0 ≤ r := hr
    rw [if_pos y]
    simp (disch := (first | assumption | decide | omega)) only [df_X9_readSign, df_X9_readSign_0, df_X9_readSign_121, uC_i0, uC_i1, uC_i2, uC_i3, uC_i4, uC_r, uC_o, uC_w0, uC_w2, uC_w3, uC_w4, c16, ix, hr, h60, h62, eq_self, Nat.reduceEqDiff, Nat.reduceLeDiff, nl_0, nl_1, nl_2, nl_4, nl_5, nl_6, nl_17, nl_60, nl_62, no_1, no_1024, pk_mul, nI_add, nm_ck, nI_clamp, nI_ltI, nI_leI, nI_eq, nb_b2, nb_b1, ↓nb_let, nm_z0, nm_z1, nb_II, nb_IR, nb_RI, nb_RR, nm_IL, nm_IQ, nm_RL, nm_RQ, nm_LI, nm_LR, nm_LL, nm_LQ, nm_QI, nm_QR, nm_QL, nm_QQ, nm_rr, nm_ii, nm_eqm, not_false_eq_true, pk_sub, nm_div, nm_shl, nm_shr, nm_ush, nm_or8, nm_or64, nm_or256, nm_m1, nm_m3, nm_m7, nm_m15, nm_m31, nm_m63, nm_m255, nm_m511, nm_m1023, nm_m2047, nm_m65535, Nat.reduceMod, Nat.reducePow, Nat.reduceAdd, Nat.reduceSub, Nat.reduceMul, nm_bo, nm_bi, nm_rc, nm_ic, nm_ri, nm_rl, nm_rq, nm_ql, nm_qi, nm_li, nm_us, nm_uu, nm_cp, nm_sa31, nm_sa7, nm_m127, nm_m2, nm_nz, nm_nzk, nm_eq32, nm_nzf, if_true, if_false, ↓reduceIte, if_pos, if_neg]
  · have hr : ¬ nI 0 ≤ r := fun z => y (hr.mp z)
    rw [if_neg y]
    simp (disch := (first | assumption | decide | omega)) only [df_X9_readSign, df_X9_readSign_0, df_X9_readSign_121, uC_i0, uC_i1, uC_i2, uC_i3, uC_i4, uC_r, uC_o, uC_w0, uC_w2, uC_w3, uC_w4, c16, ix, hr, h60, h62, eq_self, Nat.reduceEqDiff, Nat.reduceLeDiff, nl_0, nl_1, nl_2, nl_4, nl_5, nl_6, nl_17, nl_60, nl_62, no_1, no_1024, pk_mul, nI_add, nm_ck, nI_clamp, nI_ltI, nI_leI, nI_eq, nb_b2, nb_b1, ↓nb_let, nm_z0, nm_z1, nb_II, nb_IR, nb_RI, nb_RR, nm_IL, nm_IQ, nm_RL, nm_RQ, nm_LI, nm_LR, nm_LL, nm_LQ, nm_QI, nm_QR, nm_QL, nm_QQ, nm_rr, nm_ii, nm_eqm, not_false_eq_true, pk_sub, nm_div, nm_shl, nm_shr, nm_ush, nm_or8, nm_or64, nm_or256, nm_m1, nm_m3, nm_m7, nm_m15, nm_m31, nm_m63, nm_m255, nm_m511, nm_m1023, nm_m2047, nm_m65535, Nat.reduceMod, Nat.reducePow, Nat.reduceAdd, Nat.reduceSub, Nat.reduceMul, nm_bo, nm_bi, nm_rc, nm_ic, nm_ri, nm_rl, nm_rq, nm_ql, nm_qi, nm_li, nm_us, nm_uu, nm_cp, nm_sa31, nm_sa7, nm_m127, nm_m2, nm_nz, nm_nzk, nm_eq32, nm_nzf, if_true, if_false, ↓reduceIte, if_pos, if_neg]
theorem ak_L {n L e : Nat} {c : Nat → Nat} {BC BR : St} (hT : atx n L e c BC BR) (q kd : Nat) (nm : Int32) (hq : q < e) (h : c q = 60 ∨ c q = 62) : df_X9_readSign n (nI (c q)) (uC BC q kd q nm) = some (uC BC (if q + 1 < e then q + 2 else e) (if c (q + 1) = c q then 5 else 6) q (nI (if c q = 60 then 256 else 257))) := by
  obtain ⟨hn, hL, heL, h127, hend, hce, hO, h1, htC, h0, htR, hch⟩ := id hT
  by_cases y : q + 1 < e
  · rw [if_pos y]
    have t1 := htC (q + 1) (by omega)
    have r127 := h127 (q + 1)
    have mn := mn_1 (y := q + 1 + 1) (e := e) (by omega) (by omega)
    have le : ¬ e ≤ q + 1 := by omega
    by_cases s : c (q + 1) = c q
    · rw [if_pos s]
      rw [s] at t1
      rcases h with h | h
      · rw [h] at t1 ⊢
        rw [if_pos rfl]
        simp (disch := (first | assumption | decide | omega)) only [df_X9_readSign, df_X9_readSign_0, df_X9_readSign_32, df_X9_readSign_61, df_X9_readSign_63, df_X9_readSign_82, df_X9_readSign_121, uC_i0, uC_i1, uC_i2, uC_i3, uC_i4, uC_r, uC_o, uC_w0, uC_w2, uC_w3, uC_w4, hO, o8, h1, t1, mn, eq_self, Nat.reduceEqDiff, Nat.reduceLeDiff, nl_0, nl_1, nl_2, nl_4, nl_5, nl_6, nl_7, nl_8, nl_17, nl_60, nl_62, nl_256, nl_257, nl_32768, no_1, no_1024, pk_mul, nI_add, nm_ck, nI_clamp, nI_ltI, nI_leI, nI_eq, nb_b2, nb_b1, ↓nb_let, nm_z0, nm_z1, nb_II, nb_IR, nb_RI, nb_RR, nm_IL, nm_IQ, nm_RL, nm_RQ, nm_LI, nm_LR, nm_LL, nm_LQ, nm_QI, nm_QR, nm_QL, nm_QQ, nm_rr, nm_ii, nm_eqm, not_false_eq_true, pk_sub, nm_div, nm_shl, nm_shr, nm_ush, nm_or8, nm_or64, nm_or256, nm_m1, nm_m3, nm_m7, nm_m15, nm_m31, nm_m63, nm_m255, nm_m511, nm_m1023, nm_m2047, nm_m65535, Nat.reduceMod, Nat.reducePow, Nat.reduceAdd, Nat.reduceSub, Nat.reduceMul, nm_bo, nm_bi, nm_rc, nm_ic, nm_ri, nm_rl, nm_rq, nm_ql, nm_qi, nm_li, nm_us, nm_uu, nm_cp, nm_sa31, nm_sa7, nm_m127, nm_m2, nm_nz, nm_nzk, nm_eq32, nm_nzf, if_true, if_false, ↓reduceIte, if_pos, if_neg]
      · rw [h] at t1 ⊢
        rw [if_neg (by decide)]
        simp (disch := (first | assumption | decide | omega)) only [df_X9_readSign, df_X9_readSign_0, df_X9_readSign_32, df_X9_readSign_61, df_X9_readSign_63, df_X9_readSign_82, df_X9_readSign_121, uC_i0, uC_i1, uC_i2, uC_i3, uC_i4, uC_r, uC_o, uC_w0, uC_w2, uC_w3, uC_w4, hO, o8, h1, t1, mn, eq_self, Nat.reduceEqDiff, Nat.reduceLeDiff, nl_0, nl_1, nl_2, nl_4, nl_5, nl_6, nl_7, nl_8, nl_17, nl_60, nl_62, nl_256, nl_257, nl_32768, no_1, no_1024, pk_mul, nI_add, nm_ck, nI_clamp, nI_ltI, nI_leI, nI_eq, nb_b2, nb_b1, ↓nb_let, nm_z0, nm_z1, nb_II, nb_IR, nb_RI, nb_RR, nm_IL, nm_IQ, nm_RL, nm_RQ, nm_LI, nm_LR, nm_LL, nm_LQ, nm_QI, nm_QR, nm_QL, nm_QQ, nm_rr, nm_ii, nm_eqm, not_false_eq_true, pk_sub, nm_div, nm_shl, nm_shr, nm_ush, nm_or8, nm_or64, nm_or256, nm_m1, nm_m3, nm_m7, nm_m15, nm_m31, nm_m63, nm_m255, nm_m511, nm_m1023, nm_m2047, nm_m65535, Nat.reduceMod, Nat.reducePow, Nat.reduceAdd, Nat.reduceSub, Nat.reduceMul, nm_bo, nm_bi, nm_rc, nm_ic, nm_ri, nm_rl, nm_rq, nm_ql, nm_qi, nm_li, nm_us, nm_uu, nm_cp, nm_sa31, nm_sa7, nm_m127, nm_m2, nm_nz, nm_nzk, nm_eq32, nm_nzf, if_true, if_false, ↓reduceIte, if_pos, if_neg]
    · rw [if_neg s]
      rcases h with h | h
      · rw [h] at s ⊢
        rw [if_pos rfl]
        simp (disch := (first | assumption | decide | omega)) only [df_X9_readSign, df_X9_readSign_0, df_X9_readSign_32, df_X9_readSign_61, df_X9_readSign_63, df_X9_readSign_82, df_X9_readSign_121, uC_i0, uC_i1, uC_i2, uC_i3, uC_i4, uC_r, uC_o, uC_w0, uC_w2, uC_w3, uC_w4, hO, o8, h1, t1, mn, s, eq_self, Nat.reduceEqDiff, Nat.reduceLeDiff, nl_0, nl_1, nl_2, nl_4, nl_5, nl_6, nl_7, nl_8, nl_17, nl_60, nl_62, nl_256, nl_257, nl_32768, no_1, no_1024, pk_mul, nI_add, nm_ck, nI_clamp, nI_ltI, nI_leI, nI_eq, nb_b2, nb_b1, ↓nb_let, nm_z0, nm_z1, nb_II, nb_IR, nb_RI, nb_RR, nm_IL, nm_IQ, nm_RL, nm_RQ, nm_LI, nm_LR, nm_LL, nm_LQ, nm_QI, nm_QR, nm_QL, nm_QQ, nm_rr, nm_ii, nm_eqm, not_false_eq_true, pk_sub, nm_div, nm_shl, nm_shr, nm_ush, nm_or8, nm_or64, nm_or256, nm_m1, nm_m3, nm_m7, nm_m15, nm_m31, nm_m63, nm_m255, nm_m511, nm_m1023, nm_m2047, nm_m65535, Nat.reduceMod, Nat.reducePow, Nat.reduceAdd, Nat.reduceSub, Nat.reduceMul, nm_bo, nm_bi, nm_rc, nm_ic, nm_ri, nm_rl, nm_rq, nm_ql, nm_qi, nm_li, nm_us, nm_uu, nm_cp, nm_sa31, nm_sa7, nm_m127, nm_m2, nm_nz, nm_nzk, nm_eq32, nm_nzf, if_true, if_false, ↓reduceIte, if_pos, if_neg]
      · rw [h] at s ⊢
        rw [if_neg (by decide)]
        simp (disch := (first | assumption | decide | omega)) only [df_X9_readSign, df_X9_readSign_0, df_X9_readSign_32, df_X9_readSign_61, df_X9_readSign_63, df_X9_readSign_82, df_X9_readSign_121, uC_i0, uC_i1, uC_i2, uC_i3, uC_i4, uC_r, uC_o, uC_w0, uC_w2, uC_w3, uC_w4, hO, o8, h1, t1, mn, s, eq_self, Nat.reduceEqDiff, Nat.reduceLeDiff, nl_0, nl_1, nl_2, nl_4, nl_5, nl_6, nl_7, nl_8, nl_17, nl_60, nl_62, nl_256, nl_257, nl_32768, no_1, no_1024, pk_mul, nI_add, nm_ck, nI_clamp, nI_ltI, nI_leI, nI_eq, nb_b2, nb_b1, ↓nb_let, nm_z0, nm_z1, nb_II, nb_IR, nb_RI, nb_RR, nm_IL, nm_IQ, nm_RL, nm_RQ, nm_LI, nm_LR, nm_LL, nm_LQ, nm_QI, nm_QR, nm_QL, nm_QQ, nm_rr, nm_ii, nm_eqm, not_false_eq_true, pk_sub, nm_div, nm_shl, nm_shr, nm_ush, nm_or8, nm_or64, nm_or256, nm_m1, nm_m3, nm_m7, nm_m15, nm_m31, nm_m63, nm_m255, nm_m511, nm_m1023, nm_m2047, nm_m65535, Nat.reduceMod, Nat.reducePow, Nat.reduceAdd, Nat.reduceSub, Nat.reduceMul, nm_bo, nm_bi, nm_rc, nm_ic, nm_ri, nm_rl, nm_rq, nm_ql, nm_qi, nm_li, nm_us, nm_uu, nm_cp, nm_sa31, nm_sa7, nm_m127, nm_m2, nm_nz, nm_nzk, nm_eq32, nm_nzf, if_true, if_false, ↓reduceIte, if_pos, if_neg]
  · have y1 : q + 1 = e := by omega
    have s : ¬ c (q + 1) = c q := by rw [y1, hce]; omega
    rw [if_neg y]
    have mn := mn_2 (y := q + 1 + 1) (e := e) (by omega) (by omega)
    have le : e ≤ q + 1 := by omega
    rw [if_neg s]
    rcases h with h | h
    · rw [h, if_pos rfl]
      simp (disch := (first | assumption | decide | omega)) only [df_X9_readSign, df_X9_readSign_0, df_X9_readSign_32, df_X9_readSign_61, df_X9_readSign_63, df_X9_readSign_82, df_X9_readSign_121, uC_i0, uC_i1, uC_i2, uC_i3, uC_i4, uC_r, uC_o, uC_w0, uC_w2, uC_w3, uC_w4, hO, o8, h1, mn, eq_self, Nat.reduceEqDiff, Nat.reduceLeDiff, nl_0, nl_1, nl_2, nl_4, nl_5, nl_6, nl_7, nl_8, nl_17, nl_60, nl_62, nl_256, nl_257, nl_32768, no_1, no_1024, pk_mul, nI_add, nm_ck, nI_clamp, nI_ltI, nI_leI, nI_eq, nb_b2, nb_b1, ↓nb_let, nm_z0, nm_z1, nb_II, nb_IR, nb_RI, nb_RR, nm_IL, nm_IQ, nm_RL, nm_RQ, nm_LI, nm_LR, nm_LL, nm_LQ, nm_QI, nm_QR, nm_QL, nm_QQ, nm_rr, nm_ii, nm_eqm, not_false_eq_true, pk_sub, nm_div, nm_shl, nm_shr, nm_ush, nm_or8, nm_or64, nm_or256, nm_m1, nm_m3, nm_m7, nm_m15, nm_m31, nm_m63, nm_m255, nm_m511, nm_m1023, nm_m2047, nm_m65535, Nat.reduceMod, Nat.reducePow, Nat.reduceAdd, Nat.reduceSub, Nat.reduceMul, nm_bo, nm_bi, nm_rc, nm_ic, nm_ri, nm_rl, nm_rq, nm_ql, nm_qi, nm_li, nm_us, nm_uu, nm_cp, nm_sa31, nm_sa7, nm_m127, nm_m2, nm_nz, nm_nzk, nm_eq32, nm_nzf, if_true, if_false, ↓reduceIte, if_pos, if_neg]
    · rw [h, if_neg (by decide)]
      simp (disch := (first | assumption | decide | omega)) only [df_X9_readSign, df_X9_readSign_0, df_X9_readSign_32, df_X9_readSign_61, df_X9_readSign_63, df_X9_readSign_82, df_X9_readSign_121, uC_i0, uC_i1, uC_i2, uC_i3, uC_i4, uC_r, uC_o, uC_w0, uC_w2, uC_w3, uC_w4, hO, o8, h1, mn, eq_self, Nat.reduceEqDiff, Nat.reduceLeDiff, nl_0, nl_1, nl_2, nl_4, nl_5, nl_6, nl_7, nl_8, nl_17, nl_60, nl_62, nl_256, nl_257, nl_32768, no_1, no_1024, pk_mul, nI_add, nm_ck, nI_clamp, nI_ltI, nI_leI, nI_eq, nb_b2, nb_b1, ↓nb_let, nm_z0, nm_z1, nb_II, nb_IR, nb_RI, nb_RR, nm_IL, nm_IQ, nm_RL, nm_RQ, nm_LI, nm_LR, nm_LL, nm_LQ, nm_QI, nm_QR, nm_QL, nm_QQ, nm_rr, nm_ii, nm_eqm, not_false_eq_true, pk_sub, nm_div, nm_shl, nm_shr, nm_ush, nm_or8, nm_or64, nm_or256, nm_m1, nm_m3, nm_m7, nm_m15, nm_m31, nm_m63, nm_m255, nm_m511, nm_m1023, nm_m2047, nm_m65535, Nat.reduceMod, Nat.reducePow, Nat.reduceAdd, Nat.reduceSub, Nat.reduceMul, nm_bo, nm_bi, nm_rc, nm_ic, nm_ri, nm_rl, nm_rq, nm_ql, nm_qi, nm_li, nm_us, nm_uu, nm_cp, nm_sa31, nm_sa7, nm_m127, nm_m2, nm_nz, nm_nzk, nm_eq32, nm_nzf, if_true, if_false, ↓reduceIte, if_pos, if_neg]
/-- the reference: what is no name and no number -/
theorem as_S0 {n L e : Nat} {c : Nat → Nat} {BC BR : St} (hT : atx n L e c BC BR) {G : St → Option St} (q tk fr to : Nat) (nm : Int32) (hq : q < e) (hp : aP (c q) = false) (hb : ¬ (c q = 32 ∨ c q = 9)) (h35 : ¬ c q = 35) (h10 : ¬ c q = 10) : dF_X13_scan_0 n G (uR BR q tk fr to nm) = if c q = 39 then nd_b1 (df_X13_character n (uR BR q tk q (q + 1) nm)) (fun s => df_X13_scan_348 n s) else if c q = 34 then nd_b1 (df_X13_quote n (uR BR q tk q (q + 1) nm)) (fun s => df_X13_scan_348 n s) else if c q = 60 ∨ c q = 62 then some (if c (q + 1) = c q then uR BR (q + 2) (if c q = 60 then 6 else 7) q (q + 2) nm else uR BR q 5 q q nm) else some (if sgA (c q) = true then uR BR (q + 1) (c q) q (q + 1) nm else uR BR q 5 q q nm) := by
  have h127 := hT.2.2.2.1 q
  have r127 := hT.2.2.2.1 (q + 1)
  have hL := hT.2.1
  have heL := hT.2.2.1
  have hd : ¬ aD (c q) = true := fun hh => by
    rw [aD_P hh] at hp
    exact absurd hp (by decide)
  rw [as_0 hT q tk fr to nm (Nat.le_of_lt hq) hb, if_neg (show ¬ (c q = 10 ∨ c q = 35) by omega), if_neg hd, if_neg (show ¬ aP (c q) = true by rw [hp]; decide)]
  by_cases k39 : c q = 39
  · rw [if_pos k39]
    rw [k39]
    simp (disch := (first | assumption | decide | omega)) only [sgB, uR_i0, uR_i7, uR_i8, uR_i9, uR_i10, uR_i11, uR_r, uR_w7, uR_w8, uR_w9, uR_w10, uR_w11, eq_self, Nat.reduceEqDiff, Nat.reduceLeDiff, nl_0, nl_1, nl_34, nl_37, nl_38, nl_39, nl_40, nl_41, nl_42, nl_43, nl_44, nl_45, nl_47, nl_58, nl_60, nl_62, nl_94, nl_124, nl_126, no_1, no_1024, pk_mul, nI_add, nm_ck, nI_clamp, nI_ltI, nI_leI, nI_eq, nb_b2, nb_b1, ↓nb_let, nm_z0, nm_z1, nb_II, nb_IR, nb_RI, nb_RR, nm_IL, nm_IQ, nm_RL, nm_RQ, nm_LI, nm_LR, nm_LL, nm_LQ, nm_QI, nm_QR, nm_QL, nm_QQ, nm_rr, nm_ii, nm_eqm, not_false_eq_true, pk_sub, nm_div, nm_shl, nm_shr, nm_ush, nm_or8, nm_or64, nm_or256, nm_m1, nm_m3, nm_m7, nm_m15, nm_m31, nm_m63, nm_m255, nm_m511, nm_m1023, nm_m2047, nm_m65535, Nat.reduceMod, Nat.reducePow, Nat.reduceAdd, Nat.reduceSub, Nat.reduceMul, nm_bo, nm_bi, nm_rc, nm_ic, nm_ri, nm_rl, nm_rq, nm_ql, nm_qi, nm_li, nm_us, nm_uu, nm_cp, nm_sa31, nm_sa7, nm_m127, nm_m2, nm_nz, nm_nzk, nm_eq32, nm_nzf, if_true, if_false, ↓reduceIte, if_pos, if_neg]
  rw [if_neg k39]
  by_cases k34 : c q = 34
  · rw [if_pos k34]
    rw [k34]
    simp (disch := (first | assumption | decide | omega)) only [sgB, uR_i0, uR_i7, uR_i8, uR_i9, uR_i10, uR_i11, uR_r, uR_w7, uR_w8, uR_w9, uR_w10, uR_w11, eq_self, Nat.reduceEqDiff, Nat.reduceLeDiff, nl_0, nl_1, nl_34, nl_37, nl_38, nl_39, nl_40, nl_41, nl_42, nl_43, nl_44, nl_45, nl_47, nl_58, nl_60, nl_62, nl_94, nl_124, nl_126, no_1, no_1024, pk_mul, nI_add, nm_ck, nI_clamp, nI_ltI, nI_leI, nI_eq, nb_b2, nb_b1, ↓nb_let, nm_z0, nm_z1, nb_II, nb_IR, nb_RI, nb_RR, nm_IL, nm_IQ, nm_RL, nm_RQ, nm_LI, nm_LR, nm_LL, nm_LQ, nm_QI, nm_QR, nm_QL, nm_QQ, nm_rr, nm_ii, nm_eqm, not_false_eq_true, pk_sub, nm_div, nm_shl, nm_shr, nm_ush, nm_or8, nm_or64, nm_or256, nm_m1, nm_m3, nm_m7, nm_m15, nm_m31, nm_m63, nm_m255, nm_m511, nm_m1023, nm_m2047, nm_m65535, Nat.reduceMod, Nat.reducePow, Nat.reduceAdd, Nat.reduceSub, Nat.reduceMul, nm_bo, nm_bi, nm_rc, nm_ic, nm_ri, nm_rl, nm_rq, nm_ql, nm_qi, nm_li, nm_us, nm_uu, nm_cp, nm_sa31, nm_sa7, nm_m127, nm_m2, nm_nz, nm_nzk, nm_eq32, nm_nzf, if_true, if_false, ↓reduceIte, if_pos, if_neg]
  rw [if_neg k34]
  by_cases k6 : c q = 60 ∨ c q = 62
  · rw [if_pos k6]
    have ca3 := fun t => ca_13 hT (q + 1) q t q (q + 2) nm (by omega)
    rcases k6 with k | k
    · rw [k]
      rw [if_pos rfl]
      have b6 := bad_13 n BR q 6 q (q + 2) nm
      have ca3 := ca3 6
      by_cases s : c (q + 1) = 60
      · rw [if_pos s]
        rw [s] at ca3
        simp (disch := (first | assumption | decide | omega)) only [df_X13_scan_203, df_X13_scan_217, df_X13_scan_348, sgB, uR_i0, uR_i7, uR_i8, uR_i9, uR_i10, uR_i11, uR_r, uR_w7, uR_w8, uR_w9, uR_w10, uR_w11, ca3, eq_self, Nat.reduceEqDiff, Nat.reduceLeDiff, nl_0, nl_1, nl_2, nl_6, nl_7, nl_8, nl_10, nl_34, nl_37, nl_38, nl_39, nl_40, nl_41, nl_42, nl_43, nl_44, nl_45, nl_47, nl_58, nl_60, nl_62, nl_94, nl_124, nl_126, no_1, no_1024, pk_mul, nI_add, nm_ck, nI_clamp, nI_ltI, nI_leI, nI_eq, nb_b2, nb_b1, ↓nb_let, nm_z0, nm_z1, nb_II, nb_IR, nb_RI, nb_RR, nm_IL, nm_IQ, nm_RL, nm_RQ, nm_LI, nm_LR, nm_LL, nm_LQ, nm_QI, nm_QR, nm_QL, nm_QQ, nm_rr, nm_ii, nm_eqm, not_false_eq_true, pk_sub, nm_div, nm_shl, nm_shr, nm_ush, nm_or8, nm_or64, nm_or256, nm_m1, nm_m3, nm_m7, nm_m15, nm_m31, nm_m63, nm_m255, nm_m511, nm_m1023, nm_m2047, nm_m65535, Nat.reduceMod, Nat.reducePow, Nat.reduceAdd, Nat.reduceSub, Nat.reduceMul, nm_bo, nm_bi, nm_rc, nm_ic, nm_ri, nm_rl, nm_rq, nm_ql, nm_qi, nm_li, nm_us, nm_uu, nm_cp, nm_sa31, nm_sa7, nm_m127, nm_m2, nm_nz, nm_nzk, nm_eq32, nm_nzf, if_true, if_false, ↓reduceIte, if_pos, if_neg]
      · rw [if_neg s]
        simp (disch := (first | assumption | decide | omega)) only [df_X13_scan_203, df_X13_scan_217, df_X13_scan_348, sgB, uR_i0, uR_i7, uR_i8, uR_i9, uR_i10, uR_i11, uR_r, uR_w7, uR_w8, uR_w9, uR_w10, uR_w11, ca3, b6, s, eq_self, Nat.reduceEqDiff, Nat.reduceLeDiff, nl_0, nl_1, nl_2, nl_6, nl_7, nl_8, nl_10, nl_34, nl_37, nl_38, nl_39, nl_40, nl_41, nl_42, nl_43, nl_44, nl_45, nl_47, nl_58, nl_60, nl_62, nl_94, nl_124, nl_126, no_1, no_1024, pk_mul, nI_add, nm_ck, nI_clamp, nI_ltI, nI_leI, nI_eq, nb_b2, nb_b1, ↓nb_let, nm_z0, nm_z1, nb_II, nb_IR, nb_RI, nb_RR, nm_IL, nm_IQ, nm_RL, nm_RQ, nm_LI, nm_LR, nm_LL, nm_LQ, nm_QI, nm_QR, nm_QL, nm_QQ, nm_rr, nm_ii, nm_eqm, not_false_eq_true, pk_sub, nm_div, nm_shl, nm_shr, nm_ush, nm_or8, nm_or64, nm_or256, nm_m1, nm_m3, nm_m7, nm_m15, nm_m31, nm_m63, nm_m255, nm_m511, nm_m1023, nm_m2047, nm_m65535, Nat.reduceMod, Nat.reducePow, Nat.reduceAdd, Nat.reduceSub, Nat.reduceMul, nm_bo, nm_bi, nm_rc, nm_ic, nm_ri, nm_rl, nm_rq, nm_ql, nm_qi, nm_li, nm_us, nm_uu, nm_cp, nm_sa31, nm_sa7, nm_m127, nm_m2, nm_nz, nm_nzk, nm_eq32, nm_nzf, if_true, if_false, ↓reduceIte, if_pos, if_neg]
    · rw [k]
      rw [if_neg (show ¬ 62 = 60 by decide)]
      have b6 := bad_13 n BR q 7 q (q + 2) nm
      have ca3 := ca3 7
      by_cases s : c (q + 1) = 62
      · rw [if_pos s]
        rw [s] at ca3
        simp (disch := (first | assumption | decide | omega)) only [df_X13_scan_203, df_X13_scan_217, df_X13_scan_348, sgB, uR_i0, uR_i7, uR_i8, uR_i9, uR_i10, uR_i11, uR_r, uR_w7, uR_w8, uR_w9, uR_w10, uR_w11, ca3, eq_self, Nat.reduceEqDiff, Nat.reduceLeDiff, nl_0, nl_1, nl_2, nl_6, nl_7, nl_8, nl_10, nl_34, nl_37, nl_38, nl_39, nl_40, nl_41, nl_42, nl_43, nl_44, nl_45, nl_47, nl_58, nl_60, nl_62, nl_94, nl_124, nl_126, no_1, no_1024, pk_mul, nI_add, nm_ck, nI_clamp, nI_ltI, nI_leI, nI_eq, nb_b2, nb_b1, ↓nb_let, nm_z0, nm_z1, nb_II, nb_IR, nb_RI, nb_RR, nm_IL, nm_IQ, nm_RL, nm_RQ, nm_LI, nm_LR, nm_LL, nm_LQ, nm_QI, nm_QR, nm_QL, nm_QQ, nm_rr, nm_ii, nm_eqm, not_false_eq_true, pk_sub, nm_div, nm_shl, nm_shr, nm_ush, nm_or8, nm_or64, nm_or256, nm_m1, nm_m3, nm_m7, nm_m15, nm_m31, nm_m63, nm_m255, nm_m511, nm_m1023, nm_m2047, nm_m65535, Nat.reduceMod, Nat.reducePow, Nat.reduceAdd, Nat.reduceSub, Nat.reduceMul, nm_bo, nm_bi, nm_rc, nm_ic, nm_ri, nm_rl, nm_rq, nm_ql, nm_qi, nm_li, nm_us, nm_uu, nm_cp, nm_sa31, nm_sa7, nm_m127, nm_m2, nm_nz, nm_nzk, nm_eq32, nm_nzf, if_true, if_false, ↓reduceIte, if_pos, if_neg]
      · rw [if_neg s]
        simp (disch := (first | assumption | decide | omega)) only [df_X13_scan_203, df_X13_scan_217, df_X13_scan_348, sgB, uR_i0, uR_i7, uR_i8, uR_i9, uR_i10, uR_i11, uR_r, uR_w7, uR_w8, uR_w9, uR_w10, uR_w11, ca3, b6, s, eq_self, Nat.reduceEqDiff, Nat.reduceLeDiff, nl_0, nl_1, nl_2, nl_6, nl_7, nl_8, nl_10, nl_34, nl_37, nl_38, nl_39, nl_40, nl_41, nl_42, nl_43, nl_44, nl_45, nl_47, nl_58, nl_60, nl_62, nl_94, nl_124, nl_126, no_1, no_1024, pk_mul, nI_add, nm_ck, nI_clamp, nI_ltI, nI_leI, nI_eq, nb_b2, nb_b1, ↓nb_let, nm_z0, nm_z1, nb_II, nb_IR, nb_RI, nb_RR, nm_IL, nm_IQ, nm_RL, nm_RQ, nm_LI, nm_LR, nm_LL, nm_LQ, nm_QI, nm_QR, nm_QL, nm_QQ, nm_rr, nm_ii, nm_eqm, not_false_eq_true, pk_sub, nm_div, nm_shl, nm_shr, nm_ush, nm_or8, nm_or64, nm_or256, nm_m1, nm_m3, nm_m7, nm_m15, nm_m31, nm_m63, nm_m255, nm_m511, nm_m1023, nm_m2047, nm_m65535, Nat.reduceMod, Nat.reducePow, Nat.reduceAdd, Nat.reduceSub, Nat.reduceMul, nm_bo, nm_bi, nm_rc, nm_ic, nm_ri, nm_rl, nm_rq, nm_ql, nm_qi, nm_li, nm_us, nm_uu, nm_cp, nm_sa31, nm_sa7, nm_m127, nm_m2, nm_nz, nm_nzk, nm_eq32, nm_nzf, if_true, if_false, ↓reduceIte, if_pos, if_neg]
  rw [if_neg k6]
  have k60 : ¬ c q = 60 := fun z => k6 (Or.inl z)
  have k62 : ¬ c q = 62 := fun z => k6 (Or.inr z)
  by_cases s : sgA (c q) = true
  · rw [if_pos s]
    have s := of_decide_eq_true s
    rcases s with s | s | s | s | s | s | s | s | s | s | s | s | s
    all_goals
      rw [s]
      simp (disch := (first | assumption | decide | omega)) only [df_X13_scan_329, df_X13_scan_334, df_X13_scan_348, sgB, uR_i0, uR_i7, uR_i8, uR_i9, uR_i10, uR_i11, uR_r, uR_w7, uR_w8, uR_w9, uR_w10, uR_w11, eq_self, Nat.reduceEqDiff, Nat.reduceLeDiff, nl_0, nl_1, nl_7, nl_8, nl_10, nl_34, nl_37, nl_38, nl_39, nl_40, nl_41, nl_42, nl_43, nl_44, nl_45, nl_47, nl_58, nl_60, nl_62, nl_94, nl_124, nl_126, no_1, no_1024, pk_mul, nI_add, nm_ck, nI_clamp, nI_ltI, nI_leI, nI_eq, nb_b2, nb_b1, ↓nb_let, nm_z0, nm_z1, nb_II, nb_IR, nb_RI, nb_RR, nm_IL, nm_IQ, nm_RL, nm_RQ, nm_LI, nm_LR, nm_LL, nm_LQ, nm_QI, nm_QR, nm_QL, nm_QQ, nm_rr, nm_ii, nm_eqm, not_false_eq_true, pk_sub, nm_div, nm_shl, nm_shr, nm_ush, nm_or8, nm_or64, nm_or256, nm_m1, nm_m3, nm_m7, nm_m15, nm_m31, nm_m63, nm_m255, nm_m511, nm_m1023, nm_m2047, nm_m65535, Nat.reduceMod, Nat.reducePow, Nat.reduceAdd, Nat.reduceSub, Nat.reduceMul, nm_bo, nm_bi, nm_rc, nm_ic, nm_ri, nm_rl, nm_rq, nm_ql, nm_qi, nm_li, nm_us, nm_uu, nm_cp, nm_sa31, nm_sa7, nm_m127, nm_m2, nm_nz, nm_nzk, nm_eq32, nm_nzf, if_true, if_false, ↓reduceIte, if_pos, if_neg]
  · rw [if_neg s]
    have s : ¬ (c q = 58 ∨ c q = 44 ∨ c q = 40 ∨ c q = 41 ∨ c q = 43 ∨ c q = 45 ∨ c q = 42 ∨ c q = 47 ∨ c q = 37 ∨ c q = 38 ∨ c q = 124 ∨ c q = 94 ∨ c q = 126) := fun z => s (decide_eq_true z)
    have b6 := bad_13 n BR q (c q) q (q + 1) nm
    have s1 : ¬ c q = 58 := fun z => s (by omega)
    have s2 : ¬ c q = 44 := fun z => s (by omega)
    have s3 : ¬ c q = 40 := fun z => s (by omega)
    have s4 : ¬ c q = 41 := fun z => s (by omega)
    have s5 : ¬ c q = 43 := fun z => s (by omega)
    have s6 : ¬ c q = 45 := fun z => s (by omega)
    have s7 : ¬ c q = 42 := fun z => s (by omega)
    have s8 : ¬ c q = 47 := fun z => s (by omega)
    have s9 : ¬ c q = 37 := fun z => s (by omega)
    have s10 : ¬ c q = 38 := fun z => s (by omega)
    have s11 : ¬ c q = 124 := fun z => s (by omega)
    have s12 : ¬ c q = 94 := fun z => s (by omega)
    have s13 : ¬ c q = 126 := fun z => s (by omega)
    clear s
    simp (disch := (first | assumption | decide | omega)) only [df_X13_scan_329, df_X13_scan_334, df_X13_scan_348, sgB, uR_i0, uR_i7, uR_i8, uR_i9, uR_i10, uR_i11, uR_r, uR_w7, uR_w8, uR_w9, uR_w10, uR_w11, b6, k39, k34, k60, k62, s1, s2, s3, s4, s5, s6, s7, s8, s9, s10, s11, s12, s13, eq_self, Nat.reduceEqDiff, Nat.reduceLeDiff, nl_0, nl_1, nl_7, nl_8, nl_10, nl_34, nl_37, nl_38, nl_39, nl_40, nl_41, nl_42, nl_43, nl_44, nl_45, nl_47, nl_58, nl_60, nl_62, nl_94, nl_124, nl_126, no_1, no_1024, pk_mul, nI_add, nm_ck, nI_clamp, nI_ltI, nI_leI, nI_eq, nb_b2, nb_b1, ↓nb_let, nm_z0, nm_z1, nb_II, nb_IR, nb_RI, nb_RR, nm_IL, nm_IQ, nm_RL, nm_RQ, nm_LI, nm_LR, nm_LL, nm_LQ, nm_QI, nm_QR, nm_QL, nm_QQ, nm_rr, nm_ii, nm_eqm, not_false_eq_true, pk_sub, nm_div, nm_shl, nm_shr, nm_ush, nm_or8, nm_or64, nm_or256, nm_m1, nm_m3, nm_m7, nm_m15, nm_m31, nm_m63, nm_m255, nm_m511, nm_m1023, nm_m2047, nm_m65535, Nat.reduceMod, Nat.reducePow, Nat.reduceAdd, Nat.reduceSub, Nat.reduceMul, nm_bo, nm_bi, nm_rc, nm_ic, nm_ri, nm_rl, nm_rq, nm_ql, nm_qi, nm_li, nm_us, nm_uu, nm_cp, nm_sa31, nm_sa7, nm_m127, nm_m2, nm_nz, nm_nzk, nm_eq32, nm_nzf, if_true, if_false, ↓reduceIte, if_pos, if_neg]
/-- what stands in quotes, in both -/
def esv (x : Nat) : Option Nat := if x = 110 then some 10 else if x = 116 then some 9 else if x = 48 then some 0 else if x = 92 ∨ x = 39 ∨ x = 34 then some x else none
def shO (c : Nat → Nat) (e i qt : Nat) : Option Nat := if e ≤ i then none else if c i = 92 then esv (c (i + 1)) else if c i = qt then none else some (c i)
def wdO (c : Nat → Nat) (e i : Nat) : Nat := if i < e ∧ c i = 92 then 2 else 1
def oI (o : Option Nat) : Int32 := match o with | some x => nI x | none => -1
theorem ch_60 (n x : Nat) (S : St) (hx : x < 127) : df_X9_character_60 n (nI x) S = some (oI (esv x), S) := by
  unfold esv
  by_cases a : x = 34
  · subst a; simp (disch := (first | assumption | decide | omega)) only [df_X9_character_60, df_X9_character_132, eq_self, Nat.reduceEqDiff, Nat.reduceLeDiff, nl_0, nl_1, nl_9, nl_10, nl_34, nl_39, nl_48, nl_92, nl_110, nl_116, no_1, no_1024, pk_mul, nI_add, nm_ck, nI_clamp, nI_ltI, nI_leI, nI_eq, nb_b2, nb_b1, ↓nb_let, nm_z0, nm_z1, nb_II, nb_IR, nb_RI, nb_RR, nm_IL, nm_IQ, nm_RL, nm_RQ, nm_LI, nm_LR, nm_LL, nm_LQ, nm_QI, nm_QR, nm_QL, nm_QQ, nm_rr, nm_ii, nm_eqm, not_false_eq_true, pk_sub, nm_div, nm_shl, nm_shr, nm_ush, nm_or8, nm_or64, nm_or256, nm_m1, nm_m3, nm_m7, nm_m15, nm_m31, nm_m63, nm_m255, nm_m511, nm_m1023, nm_m2047, nm_m65535, Nat.reduceMod, Nat.reducePow, Nat.reduceAdd, Nat.reduceSub, Nat.reduceMul, nm_bo, nm_bi, nm_rc, nm_ic, nm_ri, nm_rl, nm_rq, nm_ql, nm_qi, nm_li, nm_us, nm_uu, nm_cp, nm_sa31, nm_sa7, nm_m127, nm_m2, nm_nz, nm_nzk, nm_eq32, nm_nzf, if_true, if_false, ↓reduceIte, if_pos, if_neg]; rfl
  by_cases b : x = 39
  · subst b; simp (disch := (first | assumption | decide | omega)) only [df_X9_character_60, df_X9_character_132, eq_self, Nat.reduceEqDiff, Nat.reduceLeDiff, nl_0, nl_1, nl_9, nl_10, nl_34, nl_39, nl_48, nl_92, nl_110, nl_116, no_1, no_1024, pk_mul, nI_add, nm_ck, nI_clamp, nI_ltI, nI_leI, nI_eq, nb_b2, nb_b1, ↓nb_let, nm_z0, nm_z1, nb_II, nb_IR, nb_RI, nb_RR, nm_IL, nm_IQ, nm_RL, nm_RQ, nm_LI, nm_LR, nm_LL, nm_LQ, nm_QI, nm_QR, nm_QL, nm_QQ, nm_rr, nm_ii, nm_eqm, not_false_eq_true, pk_sub, nm_div, nm_shl, nm_shr, nm_ush, nm_or8, nm_or64, nm_or256, nm_m1, nm_m3, nm_m7, nm_m15, nm_m31, nm_m63, nm_m255, nm_m511, nm_m1023, nm_m2047, nm_m65535, Nat.reduceMod, Nat.reducePow, Nat.reduceAdd, Nat.reduceSub, Nat.reduceMul, nm_bo, nm_bi, nm_rc, nm_ic, nm_ri, nm_rl, nm_rq, nm_ql, nm_qi, nm_li, nm_us, nm_uu, nm_cp, nm_sa31, nm_sa7, nm_m127, nm_m2, nm_nz, nm_nzk, nm_eq32, nm_nzf, if_true, if_false, ↓reduceIte, if_pos, if_neg]; rfl
  by_cases d : x = 48
  · subst d; simp (disch := (first | assumption | decide | omega)) only [df_X9_character_60, df_X9_character_132, eq_self, Nat.reduceEqDiff, Nat.reduceLeDiff, nl_0, nl_1, nl_9, nl_10, nl_34, nl_39, nl_48, nl_92, nl_110, nl_116, no_1, no_1024, pk_mul, nI_add, nm_ck, nI_clamp, nI_ltI, nI_leI, nI_eq, nb_b2, nb_b1, ↓nb_let, nm_z0, nm_z1, nb_II, nb_IR, nb_RI, nb_RR, nm_IL, nm_IQ, nm_RL, nm_RQ, nm_LI, nm_LR, nm_LL, nm_LQ, nm_QI, nm_QR, nm_QL, nm_QQ, nm_rr, nm_ii, nm_eqm, not_false_eq_true, pk_sub, nm_div, nm_shl, nm_shr, nm_ush, nm_or8, nm_or64, nm_or256, nm_m1, nm_m3, nm_m7, nm_m15, nm_m31, nm_m63, nm_m255, nm_m511, nm_m1023, nm_m2047, nm_m65535, Nat.reduceMod, Nat.reducePow, Nat.reduceAdd, Nat.reduceSub, Nat.reduceMul, nm_bo, nm_bi, nm_rc, nm_ic, nm_ri, nm_rl, nm_rq, nm_ql, nm_qi, nm_li, nm_us, nm_uu, nm_cp, nm_sa31, nm_sa7, nm_m127, nm_m2, nm_nz, nm_nzk, nm_eq32, nm_nzf, if_true, if_false, ↓reduceIte, if_pos, if_neg]; rfl
  by_cases f : x = 92
  · subst f; simp (disch := (first | assumption | decide | omega)) only [df_X9_character_60, df_X9_character_132, eq_self, Nat.reduceEqDiff, Nat.reduceLeDiff, nl_0, nl_1, nl_9, nl_10, nl_34, nl_39, nl_48, nl_92, nl_110, nl_116, no_1, no_1024, pk_mul, nI_add, nm_ck, nI_clamp, nI_ltI, nI_leI, nI_eq, nb_b2, nb_b1, ↓nb_let, nm_z0, nm_z1, nb_II, nb_IR, nb_RI, nb_RR, nm_IL, nm_IQ, nm_RL, nm_RQ, nm_LI, nm_LR, nm_LL, nm_LQ, nm_QI, nm_QR, nm_QL, nm_QQ, nm_rr, nm_ii, nm_eqm, not_false_eq_true, pk_sub, nm_div, nm_shl, nm_shr, nm_ush, nm_or8, nm_or64, nm_or256, nm_m1, nm_m3, nm_m7, nm_m15, nm_m31, nm_m63, nm_m255, nm_m511, nm_m1023, nm_m2047, nm_m65535, Nat.reduceMod, Nat.reducePow, Nat.reduceAdd, Nat.reduceSub, Nat.reduceMul, nm_bo, nm_bi, nm_rc, nm_ic, nm_ri, nm_rl, nm_rq, nm_ql, nm_qi, nm_li, nm_us, nm_uu, nm_cp, nm_sa31, nm_sa7, nm_m127, nm_m2, nm_nz, nm_nzk, nm_eq32, nm_nzf, if_true, if_false, ↓reduceIte, if_pos, if_neg]; rfl
  by_cases g : x = 110
  · subst g; simp (disch := (first | assumption | decide | omega)) only [df_X9_character_60, df_X9_character_132, eq_self, Nat.reduceEqDiff, Nat.reduceLeDiff, nl_0, nl_1, nl_9, nl_10, nl_34, nl_39, nl_48, nl_92, nl_110, nl_116, no_1, no_1024, pk_mul, nI_add, nm_ck, nI_clamp, nI_ltI, nI_leI, nI_eq, nb_b2, nb_b1, ↓nb_let, nm_z0, nm_z1, nb_II, nb_IR, nb_RI, nb_RR, nm_IL, nm_IQ, nm_RL, nm_RQ, nm_LI, nm_LR, nm_LL, nm_LQ, nm_QI, nm_QR, nm_QL, nm_QQ, nm_rr, nm_ii, nm_eqm, not_false_eq_true, pk_sub, nm_div, nm_shl, nm_shr, nm_ush, nm_or8, nm_or64, nm_or256, nm_m1, nm_m3, nm_m7, nm_m15, nm_m31, nm_m63, nm_m255, nm_m511, nm_m1023, nm_m2047, nm_m65535, Nat.reduceMod, Nat.reducePow, Nat.reduceAdd, Nat.reduceSub, Nat.reduceMul, nm_bo, nm_bi, nm_rc, nm_ic, nm_ri, nm_rl, nm_rq, nm_ql, nm_qi, nm_li, nm_us, nm_uu, nm_cp, nm_sa31, nm_sa7, nm_m127, nm_m2, nm_nz, nm_nzk, nm_eq32, nm_nzf, if_true, if_false, ↓reduceIte, if_pos, if_neg]; rfl
  by_cases h : x = 116
  · subst h; simp (disch := (first | assumption | decide | omega)) only [df_X9_character_60, df_X9_character_132, eq_self, Nat.reduceEqDiff, Nat.reduceLeDiff, nl_0, nl_1, nl_9, nl_10, nl_34, nl_39, nl_48, nl_92, nl_110, nl_116, no_1, no_1024, pk_mul, nI_add, nm_ck, nI_clamp, nI_ltI, nI_leI, nI_eq, nb_b2, nb_b1, ↓nb_let, nm_z0, nm_z1, nb_II, nb_IR, nb_RI, nb_RR, nm_IL, nm_IQ, nm_RL, nm_RQ, nm_LI, nm_LR, nm_LL, nm_LQ, nm_QI, nm_QR, nm_QL, nm_QQ, nm_rr, nm_ii, nm_eqm, not_false_eq_true, pk_sub, nm_div, nm_shl, nm_shr, nm_ush, nm_or8, nm_or64, nm_or256, nm_m1, nm_m3, nm_m7, nm_m15, nm_m31, nm_m63, nm_m255, nm_m511, nm_m1023, nm_m2047, nm_m65535, Nat.reduceMod, Nat.reducePow, Nat.reduceAdd, Nat.reduceSub, Nat.reduceMul, nm_bo, nm_bi, nm_rc, nm_ic, nm_ri, nm_rl, nm_rq, nm_ql, nm_qi, nm_li, nm_us, nm_uu, nm_cp, nm_sa31, nm_sa7, nm_m127, nm_m2, nm_nz, nm_nzk, nm_eq32, nm_nzf, if_true, if_false, ↓reduceIte, if_pos, if_neg]; rfl
  rw [if_neg g, if_neg h, if_neg d, if_neg (by omega)]
  simp (disch := (first | assumption | decide | omega)) only [df_X9_character_60, df_X9_character_132, a, b, d, f, g, h, eq_self, Nat.reduceEqDiff, Nat.reduceLeDiff, nl_0, nl_1, nl_9, nl_10, nl_34, nl_39, nl_48, nl_92, nl_110, nl_116, no_1, no_1024, pk_mul, nI_add, nm_ck, nI_clamp, nI_ltI, nI_leI, nI_eq, nb_b2, nb_b1, ↓nb_let, nm_z0, nm_z1, nb_II, nb_IR, nb_RI, nb_RR, nm_IL, nm_IQ, nm_RL, nm_RQ, nm_LI, nm_LR, nm_LL, nm_LQ, nm_QI, nm_QR, nm_QL, nm_QQ, nm_rr, nm_ii, nm_eqm, not_false_eq_true, pk_sub, nm_div, nm_shl, nm_shr, nm_ush, nm_or8, nm_or64, nm_or256, nm_m1, nm_m3, nm_m7, nm_m15, nm_m31, nm_m63, nm_m255, nm_m511, nm_m1023, nm_m2047, nm_m65535, Nat.reduceMod, Nat.reducePow, Nat.reduceAdd, Nat.reduceSub, Nat.reduceMul, nm_bo, nm_bi, nm_rc, nm_ic, nm_ri, nm_rl, nm_rq, nm_ql, nm_qi, nm_li, nm_us, nm_uu, nm_cp, nm_sa31, nm_sa7, nm_m127, nm_m2, nm_nz, nm_nzk, nm_eq32, nm_nzf, if_true, if_false, ↓reduceIte, if_pos, if_neg]
  rfl
theorem ak_ch {n L e : Nat} {c : Nat → Nat} {BC BR : St} (hT : atx n L e c BC BR) (i qt ap kd fr : Nat) (nm : Int32) (hi : i < 2 ^ 20) (hq : qt < 100) : df_X9_character n (nI i) (nI qt) (uC BC ap kd fr nm) = some (oI (shO c e i qt), uC BC ap kd fr nm) := by
  obtain ⟨hn, hL, heL, h127, hend, hce, hO, h1, htC, h0, htR, hch⟩ := id hT
  unfold shO
  by_cases y : e ≤ i
  · rw [if_pos y]
    have ny : ¬ i < e := by omega
    simp (disch := (first | assumption | decide | omega)) only [df_X9_character, df_X9_character_0, df_X9_character_12, uC_i0, uC_i1, uC_i2, uC_i3, uC_i4, uC_r, uC_o, uC_w0, uC_w2, uC_w3, uC_w4, h1, eq_self, Nat.reduceEqDiff, Nat.reduceLeDiff, nl_0, nl_1, nl_7, nl_8, nl_92, nl_32768, no_1, no_1024, pk_mul, nI_add, nm_ck, nI_clamp, nI_ltI, nI_leI, nI_eq, nb_b2, nb_b1, ↓nb_let, nm_z0, nm_z1, nb_II, nb_IR, nb_RI, nb_RR, nm_IL, nm_IQ, nm_RL, nm_RQ, nm_LI, nm_LR, nm_LL, nm_LQ, nm_QI, nm_QR, nm_QL, nm_QQ, nm_rr, nm_ii, nm_eqm, not_false_eq_true, pk_sub, nm_div, nm_shl, nm_shr, nm_ush, nm_or8, nm_or64, nm_or256, nm_m1, nm_m3, nm_m7, nm_m15, nm_m31, nm_m63, nm_m255, nm_m511, nm_m1023, nm_m2047, nm_m65535, Nat.reduceMod, Nat.reducePow, Nat.reduceAdd, Nat.reduceSub, Nat.reduceMul, nm_bo, nm_bi, nm_rc, nm_ic, nm_ri, nm_rl, nm_rq, nm_ql, nm_qi, nm_li, nm_us, nm_uu, nm_cp, nm_sa31, nm_sa7, nm_m127, nm_m2, nm_nz, nm_nzk, nm_eq32, nm_nzf, if_true, if_false, ↓reduceIte, if_pos, if_neg]
    rfl
  · rw [if_neg y]
    have ny : i < e := by omega
    have t := htC i (by omega)
    have i127 := h127 i
    by_cases k : c i = 92
    · rw [if_pos k]
      rw [k] at t
      by_cases f : i + 1 < e
      · have t1 := htC (i + 1) (by omega)
        have nf : ¬ e ≤ i + 1 := by omega
        have c6 := ch_60 n (c (i + 1)) (uC BC ap kd fr nm) (h127 (i + 1))
        simp (disch := (first | assumption | decide | omega)) only [df_X9_character, df_X9_character_0, uC_i0, uC_i1, uC_i2, uC_i3, uC_i4, uC_r, uC_o, uC_w0, uC_w2, uC_w3, uC_w4, hO, o8, h1, t, t1, c6, eq_self, Nat.reduceEqDiff, Nat.reduceLeDiff, nl_0, nl_1, nl_7, nl_8, nl_92, nl_32768, no_1, no_1024, pk_mul, nI_add, nm_ck, nI_clamp, nI_ltI, nI_leI, nI_eq, nb_b2, nb_b1, ↓nb_let, nm_z0, nm_z1, nb_II, nb_IR, nb_RI, nb_RR, nm_IL, nm_IQ, nm_RL, nm_RQ, nm_LI, nm_LR, nm_LL, nm_LQ, nm_QI, nm_QR, nm_QL, nm_QQ, nm_rr, nm_ii, nm_eqm, not_false_eq_true, pk_sub, nm_div, nm_shl, nm_shr, nm_ush, nm_or8, nm_or64, nm_or256, nm_m1, nm_m3, nm_m7, nm_m15, nm_m31, nm_m63, nm_m255, nm_m511, nm_m1023, nm_m2047, nm_m65535, Nat.reduceMod, Nat.reducePow, Nat.reduceAdd, Nat.reduceSub, Nat.reduceMul, nm_bo, nm_bi, nm_rc, nm_ic, nm_ri, nm_rl, nm_rq, nm_ql, nm_qi, nm_li, nm_us, nm_uu, nm_cp, nm_sa31, nm_sa7, nm_m127, nm_m2, nm_nz, nm_nzk, nm_eq32, nm_nzf, if_true, if_false, ↓reduceIte, if_pos, if_neg]
      · have f : e ≤ i + 1 := by omega
        have c6 := ch_60 n 0 (uC BC ap kd fr nm) (by omega)
        rw [show i + 1 = e by omega, hce, show esv 10 = esv 0 from rfl]
        simp (disch := (first | assumption | decide | omega)) only [df_X9_character, df_X9_character_0, uC_i0, uC_i1, uC_i2, uC_i3, uC_i4, uC_r, uC_o, uC_w0, uC_w2, uC_w3, uC_w4, hO, o8, h1, t, c6, eq_self, Nat.reduceEqDiff, Nat.reduceLeDiff, nl_0, nl_1, nl_7, nl_8, nl_92, nl_32768, no_1, no_1024, pk_mul, nI_add, nm_ck, nI_clamp, nI_ltI, nI_leI, nI_eq, nb_b2, nb_b1, ↓nb_let, nm_z0, nm_z1, nb_II, nb_IR, nb_RI, nb_RR, nm_IL, nm_IQ, nm_RL, nm_RQ, nm_LI, nm_LR, nm_LL, nm_LQ, nm_QI, nm_QR, nm_QL, nm_QQ, nm_rr, nm_ii, nm_eqm, not_false_eq_true, pk_sub, nm_div, nm_shl, nm_shr, nm_ush, nm_or8, nm_or64, nm_or256, nm_m1, nm_m3, nm_m7, nm_m15, nm_m31, nm_m63, nm_m255, nm_m511, nm_m1023, nm_m2047, nm_m65535, Nat.reduceMod, Nat.reducePow, Nat.reduceAdd, Nat.reduceSub, Nat.reduceMul, nm_bo, nm_bi, nm_rc, nm_ic, nm_ri, nm_rl, nm_rq, nm_ql, nm_qi, nm_li, nm_us, nm_uu, nm_cp, nm_sa31, nm_sa7, nm_m127, nm_m2, nm_nz, nm_nzk, nm_eq32, nm_nzf, if_true, if_false, ↓reduceIte, if_pos, if_neg]
    · rw [if_neg k]
      by_cases f : c i = qt
      · rw [if_pos f]
        rw [f] at t k
        simp (disch := (first | assumption | decide | omega)) only [df_X9_character, df_X9_character_0, df_X9_character_37, uC_i0, uC_i1, uC_i2, uC_i3, uC_i4, uC_r, uC_o, uC_w0, uC_w2, uC_w3, uC_w4, hO, o8, h1, t, k, eq_self, Nat.reduceEqDiff, Nat.reduceLeDiff, nl_0, nl_1, nl_7, nl_8, nl_92, nl_32768, no_1, no_1024, pk_mul, nI_add, nm_ck, nI_clamp, nI_ltI, nI_leI, nI_eq, nb_b2, nb_b1, ↓nb_let, nm_z0, nm_z1, nb_II, nb_IR, nb_RI, nb_RR, nm_IL, nm_IQ, nm_RL, nm_RQ, nm_LI, nm_LR, nm_LL, nm_LQ, nm_QI, nm_QR, nm_QL, nm_QQ, nm_rr, nm_ii, nm_eqm, not_false_eq_true, pk_sub, nm_div, nm_shl, nm_shr, nm_ush, nm_or8, nm_or64, nm_or256, nm_m1, nm_m3, nm_m7, nm_m15, nm_m31, nm_m63, nm_m255, nm_m511, nm_m1023, nm_m2047, nm_m65535, Nat.reduceMod, Nat.reducePow, Nat.reduceAdd, Nat.reduceSub, Nat.reduceMul, nm_bo, nm_bi, nm_rc, nm_ic, nm_ri, nm_rl, nm_rq, nm_ql, nm_qi, nm_li, nm_us, nm_uu, nm_cp, nm_sa31, nm_sa7, nm_m127, nm_m2, nm_nz, nm_nzk, nm_eq32, nm_nzf, if_true, if_false, ↓reduceIte, if_pos, if_neg]
        rfl
      · rw [if_neg f]
        simp (disch := (first | assumption | decide | omega)) only [df_X9_character, df_X9_character_0, df_X9_character_37, uC_i0, uC_i1, uC_i2, uC_i3, uC_i4, uC_r, uC_o, uC_w0, uC_w2, uC_w3, uC_w4, hO, o8, h1, t, k, f, eq_self, Nat.reduceEqDiff, Nat.reduceLeDiff, nl_0, nl_1, nl_7, nl_8, nl_92, nl_32768, no_1, no_1024, pk_mul, nI_add, nm_ck, nI_clamp, nI_ltI, nI_leI, nI_eq, nb_b2, nb_b1, ↓nb_let, nm_z0, nm_z1, nb_II, nb_IR, nb_RI, nb_RR, nm_IL, nm_IQ, nm_RL, nm_RQ, nm_LI, nm_LR, nm_LL, nm_LQ, nm_QI, nm_QR, nm_QL, nm_QQ, nm_rr, nm_ii, nm_eqm, not_false_eq_true, pk_sub, nm_div, nm_shl, nm_shr, nm_ush, nm_or8, nm_or64, nm_or256, nm_m1, nm_m3, nm_m7, nm_m15, nm_m31, nm_m63, nm_m255, nm_m511, nm_m1023, nm_m2047, nm_m65535, Nat.reduceMod, Nat.reducePow, Nat.reduceAdd, Nat.reduceSub, Nat.reduceMul, nm_bo, nm_bi, nm_rc, nm_ic, nm_ri, nm_rl, nm_rq, nm_ql, nm_qi, nm_li, nm_us, nm_uu, nm_cp, nm_sa31, nm_sa7, nm_m127, nm_m2, nm_nz, nm_nzk, nm_eq32, nm_nzf, if_true, if_false, ↓reduceIte, if_pos, if_neg]
        rfl
theorem ak_wd {n L e : Nat} {c : Nat → Nat} {BC BR : St} (hT : atx n L e c BC BR) (i ap kd fr : Nat) (nm : Int32) (hi : i < 2 ^ 20) : df_X9_width n (nI i) (uC BC ap kd fr nm) = some (nI (wdO c e i), uC BC ap kd fr nm) := by
  obtain ⟨hn, hL, heL, h127, hend, hce, hO, h1, htC, h0, htR, hch⟩ := id hT
  unfold wdO
  by_cases y : e ≤ i
  · rw [if_neg (by omega)]
    simp (disch := (first | assumption | decide | omega)) only [df_X9_width_28, df_X9_width_27, df_X9_width_0, df_X9_width, uC_i0, uC_i1, uC_i2, uC_i3, uC_i4, uC_r, uC_o, uC_w0, uC_w2, uC_w3, uC_w4, h1, eq_self, Nat.reduceEqDiff, Nat.reduceLeDiff, nl_0, nl_1, nl_2, nl_7, nl_8, nl_92, nl_32768, no_1, no_1024, pk_mul, nI_add, nm_ck, nI_clamp, nI_ltI, nI_leI, nI_eq, nb_b2, nb_b1, ↓nb_let, nm_z0, nm_z1, nb_II, nb_IR, nb_RI, nb_RR, nm_IL, nm_IQ, nm_RL, nm_RQ, nm_LI, nm_LR, nm_LL, nm_LQ, nm_QI, nm_QR, nm_QL, nm_QQ, nm_rr, nm_ii, nm_eqm, not_false_eq_true, pk_sub, nm_div, nm_shl, nm_shr, nm_ush, nm_or8, nm_or64, nm_or256, nm_m1, nm_m3, nm_m7, nm_m15, nm_m31, nm_m63, nm_m255, nm_m511, nm_m1023, nm_m2047, nm_m65535, Nat.reduceMod, Nat.reducePow, Nat.reduceAdd, Nat.reduceSub, Nat.reduceMul, nm_bo, nm_bi, nm_rc, nm_ic, nm_ri, nm_rl, nm_rq, nm_ql, nm_qi, nm_li, nm_us, nm_uu, nm_cp, nm_sa31, nm_sa7, nm_m127, nm_m2, nm_nz, nm_nzk, nm_eq32, nm_nzf, if_true, if_false, ↓reduceIte, if_pos, if_neg]
  · have ny : i < e := by omega
    have t := htC i (by omega)
    have i127 := h127 i
    by_cases k : c i = 92
    · rw [if_pos ⟨ny, k⟩]
      rw [k] at t
      simp (disch := (first | assumption | decide | omega)) only [df_X9_width_28, df_X9_width_27, df_X9_width_0, df_X9_width, uC_i0, uC_i1, uC_i2, uC_i3, uC_i4, uC_r, uC_o, uC_w0, uC_w2, uC_w3, uC_w4, hO, o8, h1, t, eq_self, Nat.reduceEqDiff, Nat.reduceLeDiff, nl_0, nl_1, nl_2, nl_7, nl_8, nl_92, nl_32768, no_1, no_1024, pk_mul, nI_add, nm_ck, nI_clamp, nI_ltI, nI_leI, nI_eq, nb_b2, nb_b1, ↓nb_let, nm_z0, nm_z1, nb_II, nb_IR, nb_RI, nb_RR, nm_IL, nm_IQ, nm_RL, nm_RQ, nm_LI, nm_LR, nm_LL, nm_LQ, nm_QI, nm_QR, nm_QL, nm_QQ, nm_rr, nm_ii, nm_eqm, not_false_eq_true, pk_sub, nm_div, nm_shl, nm_shr, nm_ush, nm_or8, nm_or64, nm_or256, nm_m1, nm_m3, nm_m7, nm_m15, nm_m31, nm_m63, nm_m255, nm_m511, nm_m1023, nm_m2047, nm_m65535, Nat.reduceMod, Nat.reducePow, Nat.reduceAdd, Nat.reduceSub, Nat.reduceMul, nm_bo, nm_bi, nm_rc, nm_ic, nm_ri, nm_rl, nm_rq, nm_ql, nm_qi, nm_li, nm_us, nm_uu, nm_cp, nm_sa31, nm_sa7, nm_m127, nm_m2, nm_nz, nm_nzk, nm_eq32, nm_nzf, if_true, if_false, ↓reduceIte, if_pos, if_neg]
    · rw [if_neg (fun z => k z.2)]
      simp (disch := (first | assumption | decide | omega)) only [df_X9_width_28, df_X9_width_27, df_X9_width_0, df_X9_width, uC_i0, uC_i1, uC_i2, uC_i3, uC_i4, uC_r, uC_o, uC_w0, uC_w2, uC_w3, uC_w4, hO, o8, h1, t, k, eq_self, Nat.reduceEqDiff, Nat.reduceLeDiff, nl_0, nl_1, nl_2, nl_7, nl_8, nl_92, nl_32768, no_1, no_1024, pk_mul, nI_add, nm_ck, nI_clamp, nI_ltI, nI_leI, nI_eq, nb_b2, nb_b1, ↓nb_let, nm_z0, nm_z1, nb_II, nb_IR, nb_RI, nb_RR, nm_IL, nm_IQ, nm_RL, nm_RQ, nm_LI, nm_LR, nm_LL, nm_LQ, nm_QI, nm_QR, nm_QL, nm_QQ, nm_rr, nm_ii, nm_eqm, not_false_eq_true, pk_sub, nm_div, nm_shl, nm_shr, nm_ush, nm_or8, nm_or64, nm_or256, nm_m1, nm_m3, nm_m7, nm_m15, nm_m31, nm_m63, nm_m255, nm_m511, nm_m1023, nm_m2047, nm_m65535, Nat.reduceMod, Nat.reducePow, Nat.reduceAdd, Nat.reduceSub, Nat.reduceMul, nm_bo, nm_bi, nm_rc, nm_ic, nm_ri, nm_rl, nm_rq, nm_ql, nm_qi, nm_li, nm_us, nm_uu, nm_cp, nm_sa31, nm_sa7, nm_m127, nm_m2, nm_nz, nm_nzk, nm_eq32, nm_nzf, if_true, if_false, ↓reduceIte, if_pos, if_neg]
theorem es_13 (n x : Nat) (S : St) (hx : x < 127) : (if nI x = 110 then df_X13_shown_124 n 10 S else if nI x = 116 then df_X13_shown_124 n 9 S else if nI x = 48 then df_X13_shown_124 n 0 S else if nI x = 92 then df_X13_shown_118 n (nI x) S else if nI x = 39 then df_X13_shown_118 n (nI x) S else if nI x = 34 then df_X13_shown_118 n (nI x) S else df_X13_shown_124 n (-1) S) = some (oI (esv x), S) := by
  by_cases g : x = 110
  · subst g; rfl
  by_cases h : x = 116
  · subst h; rfl
  by_cases d : x = 48
  · subst d; rfl
  by_cases f : x = 92
  · subst f; rfl
  by_cases b : x = 39
  · subst b; rfl
  by_cases a : x = 34
  · subst a; rfl
  unfold esv
  rw [if_neg g, if_neg h, if_neg d, if_neg (show ¬ (x = 92 ∨ x = 39 ∨ x = 34) by omega)]
  rw [if_neg (show ¬ nI x = 110 from ne_I (b := 110) (by omega) (by omega) g), if_neg (show ¬ nI x = 116 from ne_I (b := 116) (by omega) (by omega) h), if_neg (show ¬ nI x = 48 from ne_I (b := 48) (by omega) (by omega) d), if_neg (show ¬ nI x = 92 from ne_I (b := 92) (by omega) (by omega) f), if_neg (show ¬ nI x = 39 from ne_I (b := 39) (by omega) (by omega) b), if_neg (show ¬ nI x = 34 from ne_I (b := 34) (by omega) (by omega) a)]
  rfl
theorem ar_sh {n L e : Nat} {c : Nat → Nat} {BC BR : St} (hT : atx n L e c BC BR) (i qt ap tk fr to : Nat) (nm : Int32) (hi : i ≤ e) (hq : qt = 34 ∨ qt = 39) (hl : i < e → ¬ c i = 10) : df_X13_shown n (nI i) (nI qt) (uR BR ap tk fr to nm) = some (oI (shO c e i qt), uR BR ap tk fr (if i < e then i + wdO c e i else i + 1) nm) := by
  obtain ⟨hn, hL, heL, h127, hend, hce, hO, h1, htC, h0, htR, hch⟩ := id hT
  have ca := ca_13 hT i ap tk fr to nm (by omega)
  have ca1 := ca_13 hT (i + 1) ap tk fr (i + 1) nm (by omega)
  have i127 := h127 i
  have r127 := h127 (i + 1)
  have w1 : nI i + 1 = nI (i + 1) := nI_add i 1
  have w2 : nI i + 2 = nI (i + 2) := nI_add i 2
  have hd : df_X13_shown n (nI i) (nI qt) (uR BR ap tk fr to nm) = if c i = qt then some (-1, uR BR ap tk fr (i + 1) nm) else if c i = 9 ∨ 32 ≤ c i then df_X13_shown_38 n (nI i) (nI (c i)) (uR BR ap tk fr (i + 1) nm) else some (-1, uR BR ap tk fr (i + 1) nm) := by
    unfold df_X13_shown df_X13_shown_0 df_X13_shown_36
    rw [ca, nb_b2, w1, uR_w10, nb_let]
    by_cases f : c i = qt
    · rw [if_pos (show nI (c i) = nI qt by rw [f]), if_pos f]
    · rw [if_neg (show ¬ nI (c i) = nI qt from ne_I (by omega) (by omega) f), if_neg f]
      by_cases g : c i = 9
      · rw [if_pos (show nI (c i) = 9 by rw [g]; rfl), if_pos (Or.inl g)]
      · rw [if_neg (show ¬ nI (c i) = 9 from ne_I (b := 9) (by omega) (by omega) g)]
        by_cases k : c i < 32
        · rw [if_pos (show nI (c i) < 32 by show nI (c i) < nI 32; rw [nI_ltI (by omega) (by omega)]; exact k), if_neg (show ¬ (c i = 9 ∨ 32 ≤ c i) by omega)]
        · rw [if_neg (show ¬ nI (c i) < 32 from fun z => k (by have z : nI (c i) < nI 32 := z; rw [nI_ltI (by omega) (by omega)] at z; exact z)), if_pos (show nI (c i) ≤ 126 by show nI (c i) ≤ nI 126; rw [nI_leI (by omega) (by omega)]; omega), if_pos (show c i = 9 ∨ 32 ≤ c i by omega)]
  rw [hd]
  unfold shO wdO
  by_cases y : i < e
  · have i10 := hl y
    have c0 := hch i
    rw [if_neg (show ¬ e ≤ i by omega), if_pos y]
    by_cases k : c i = 92
    · rw [if_pos k, if_pos (show i < e ∧ c i = 92 from ⟨y, k⟩), if_neg (show ¬ c i = qt by omega), if_pos (show c i = 9 ∨ 32 ≤ c i by omega), k]
      unfold df_X13_shown_38
      rw [if_pos (show nI 92 = 92 from rfl), w1, ca1, nb_b2, w2, uR_w10, nb_let]
      exact es_13 n (c (i + 1)) _ r127
    · rw [if_neg k, if_neg (show ¬ (i < e ∧ c i = 92) from fun z => k z.2)]
      by_cases f : c i = qt
      · rw [if_pos f, if_pos f]
        rfl
      · rw [if_neg f, if_neg f, if_pos (show c i = 9 ∨ 32 ≤ c i by omega)]
        unfold df_X13_shown_38
        rw [if_neg (show ¬ nI (c i) = 92 from ne_I (b := 92) (by omega) (by omega) k)]
        rfl
  · have y1 : i = e := by omega
    rw [if_pos (show e ≤ i by omega), if_neg y, if_neg (show ¬ c i = qt by rw [y1, hce]; omega), if_neg (show ¬ (c i = 9 ∨ 32 ≤ c i) by rw [y1, hce]; omega)]
    rfl
