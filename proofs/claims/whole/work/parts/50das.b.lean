/-- part, opens with a fault -/
theorem pt_f (n : Nat) {B : St} {cs tp os ap kd fr ft pt : Nat} {nm : Int64} {C S SA F T : Nat → Int32} {A : Nat → Int64} (h : 0 < ft) (h2 : ft < 2 ^ 31) (hp : pt < 100) : df_X2_part n (mC B cs tp os ap kd fr ft pt nm C S SA F T A) = some (mC B cs tp os ap kd fr ft (pt + 1) nm C S SA F T A) := by
  have e := bl_0 n 3 (B := B) (cs := cs) (tp := tp) (os := os) (ap := ap) (kd := kd) (fr := fr) (ft := ft) (pt := pt + 1) (nm := nm) (C := C) (S := S) (SA := SA) (F := F) (T := T) (A := A) h h2
  by_cases y : pt + 1 ≤ 40
  · simp (disch := (first | assumption | decide | omega)) only [df_X2_part_24, df_X2_part_0, df_X2_part, mC_i0, mC_i1, mC_i2, mC_i5, mC_i6, mC_i7, mC_i8, mC_i9, mC_l, mC_r0, mC_r1, mC_r2, mC_r3, mC_r4, mC_q, mC_o, mC_i4, mC_wi0, mC_wi1, mC_wi2, mC_wi5, mC_wi6, mC_wi7, mC_wi8, mC_wi9, mC_wl, mC_wr0, mC_wr1, mC_wr2, mC_wr3, mC_wr4, mC_wq, e, eq_self, Nat.reduceEqDiff, Nat.reduceLeDiff, nl_1, nl_3, nl_9, nl_40, no_1, no_1024, pk_mul, nI_add, nm_ck, nI_clamp, nI_ltI, nI_leI, nI_eq, nb_b2, nb_b1, ↓nb_let, nm_z0, nm_z1, nb_II, nb_IR, nb_RI, nb_RR, nm_IL, nm_IQ, nm_RL, nm_RQ, nm_LI, nm_LR, nm_LL, nm_LQ, nm_QI, nm_QR, nm_QL, nm_QQ, nm_rr, nm_ii, nm_eqm, not_false_eq_true, pk_sub, nm_div, nm_shl, nm_shr, nm_ush, nm_or8, nm_or64, nm_or256, nm_m1, nm_m3, nm_m7, nm_m15, nm_m31, nm_m63, nm_m255, nm_m511, nm_m1023, nm_m2047, nm_m65535, Nat.reduceMod, Nat.reducePow, Nat.reduceAdd, Nat.reduceSub, Nat.reduceMul, nm_bo, nm_bi, nm_rc, nm_ic, nm_ri, nm_rl, nm_rq, nm_ql, nm_qi, nm_li, nm_us, nm_uu, nm_cp, nm_sa31, nm_sa7, nm_m127, nm_m2, nm_nz, nm_nzk, nm_eq32, nm_nzf, if_true, if_false, ↓reduceIte, if_pos, if_neg]
  · simp (disch := (first | assumption | decide | omega)) only [df_X2_part_24, df_X2_part_0, df_X2_part, mC_i0, mC_i1, mC_i2, mC_i5, mC_i6, mC_i7, mC_i8, mC_i9, mC_l, mC_r0, mC_r1, mC_r2, mC_r3, mC_r4, mC_q, mC_o, mC_i4, mC_wi0, mC_wi1, mC_wi2, mC_wi5, mC_wi6, mC_wi7, mC_wi8, mC_wi9, mC_wl, mC_wr0, mC_wr1, mC_wr2, mC_wr3, mC_wr4, mC_wq, e, eq_self, Nat.reduceEqDiff, Nat.reduceLeDiff, nl_1, nl_3, nl_9, nl_40, no_1, no_1024, pk_mul, nI_add, nm_ck, nI_clamp, nI_ltI, nI_leI, nI_eq, nb_b2, nb_b1, ↓nb_let, nm_z0, nm_z1, nb_II, nb_IR, nb_RI, nb_RR, nm_IL, nm_IQ, nm_RL, nm_RQ, nm_LI, nm_LR, nm_LL, nm_LQ, nm_QI, nm_QR, nm_QL, nm_QQ, nm_rr, nm_ii, nm_eqm, not_false_eq_true, pk_sub, nm_div, nm_shl, nm_shr, nm_ush, nm_or8, nm_or64, nm_or256, nm_m1, nm_m3, nm_m7, nm_m15, nm_m31, nm_m63, nm_m255, nm_m511, nm_m1023, nm_m2047, nm_m65535, Nat.reduceMod, Nat.reducePow, Nat.reduceAdd, Nat.reduceSub, Nat.reduceMul, nm_bo, nm_bi, nm_rc, nm_ic, nm_ri, nm_rl, nm_rq, nm_ql, nm_qi, nm_li, nm_us, nm_uu, nm_cp, nm_sa31, nm_sa7, nm_m127, nm_m2, nm_nz, nm_nzk, nm_eq32, nm_nzf, if_true, if_false, ↓reduceIte, if_pos, if_neg]
theorem op_f (n v w : Nat) {B : St} {cs tp os ap kd fr ft pt : Nat} {nm : Int64} {C S SA F T : Nat → Int32} {A : Nat → Int64} (hn : 41 < n) (ht : tp ≤ 40) (s : Nat → Nat) (hs : ∀ i : Nat, i < tp → S i = nI (s i) ∧ s i < 100) (h : 0 < ft) (h2 : ft < 2 ^ 31) (hp : pt < 100) : df_X2_opens n (nI v) (nI w) (mC B cs tp os ap kd fr ft pt nm C S SA F T A) = some (mC B cs tp os ap kd fr ft (pt + 1) nm C S SA F T A) := by
  have e1 := pt_f n (B := B) (cs := cs) (tp := tp) (os := os) (ap := ap) (kd := kd) (fr := fr) (ft := ft) (pt := pt) (nm := nm) (C := C) (S := S) (SA := SA) (F := F) (T := T) (A := A) h h2 hp
  have e2 := wa_1 n 22 27 (by decide) (by decide) (B := B) (cs := cs) (tp := tp) (os := os) (ap := ap) (kd := kd) (fr := fr) (ft := ft) (pt := pt + 1) (nm := nm) (C := C) (S := S) (SA := SA) (F := F) (T := T) (A := A) (by omega) hn s hs
  have e4 := bl_0 n 4 (B := B) (cs := cs) (tp := tp) (os := os) (ap := ap) (kd := kd) (fr := fr) (ft := ft) (pt := pt + 1) (nm := nm) (C := C) (S := S) (SA := SA) (F := F) (T := T) (A := A) h h2
  have e3 := pu_0c n v w (B := B) (cs := cs) (tp := tp) (os := os) (ap := ap) (kd := kd) (fr := fr) (ft := ft) (pt := pt + 1) (nm := nm) (C := C) (S := S) (SA := SA) (F := F) (T := T) (A := A) h h2
  have cl := cN_le (fun i => decide (22 ≤ s i ∧ s i ≤ 27)) tp
  generalize cN (fun i => decide (22 ≤ s i ∧ s i ≤ 27)) tp = x at e2 cl
  by_cases h8 : x < 8
  · simp (disch := (first | assumption | decide | omega)) only [df_X2_opens_22, df_X2_opens_0, df_X2_opens, mC_i0, mC_i1, mC_i2, mC_i5, mC_i6, mC_i7, mC_i8, mC_i9, mC_l, mC_r0, mC_r1, mC_r2, mC_r3, mC_r4, mC_q, mC_o, mC_i4, mC_wi0, mC_wi1, mC_wi2, mC_wi5, mC_wi6, mC_wi7, mC_wi8, mC_wi9, mC_wl, mC_wr0, mC_wr1, mC_wr2, mC_wr3, mC_wr4, mC_wq, e1, e2, e4, e3, eq_self, Nat.reduceEqDiff, Nat.reduceLeDiff, nl_4, nl_8, nl_22, nl_27, no_1, no_1024, pk_mul, nI_add, nm_ck, nI_clamp, nI_ltI, nI_leI, nI_eq, nb_b2, nb_b1, ↓nb_let, nm_z0, nm_z1, nb_II, nb_IR, nb_RI, nb_RR, nm_IL, nm_IQ, nm_RL, nm_RQ, nm_LI, nm_LR, nm_LL, nm_LQ, nm_QI, nm_QR, nm_QL, nm_QQ, nm_rr, nm_ii, nm_eqm, not_false_eq_true, pk_sub, nm_div, nm_shl, nm_shr, nm_ush, nm_or8, nm_or64, nm_or256, nm_m1, nm_m3, nm_m7, nm_m15, nm_m31, nm_m63, nm_m255, nm_m511, nm_m1023, nm_m2047, nm_m65535, Nat.reduceMod, Nat.reducePow, Nat.reduceAdd, Nat.reduceSub, Nat.reduceMul, nm_bo, nm_bi, nm_rc, nm_ic, nm_ri, nm_rl, nm_rq, nm_ql, nm_qi, nm_li, nm_us, nm_uu, nm_cp, nm_sa31, nm_sa7, nm_m127, nm_m2, nm_nz, nm_nzk, nm_eq32, nm_nzf, if_true, if_false, ↓reduceIte, if_pos, if_neg]
  · simp (disch := (first | assumption | decide | omega)) only [df_X2_opens_22, df_X2_opens_0, df_X2_opens, mC_i0, mC_i1, mC_i2, mC_i5, mC_i6, mC_i7, mC_i8, mC_i9, mC_l, mC_r0, mC_r1, mC_r2, mC_r3, mC_r4, mC_q, mC_o, mC_i4, mC_wi0, mC_wi1, mC_wi2, mC_wi5, mC_wi6, mC_wi7, mC_wi8, mC_wi9, mC_wl, mC_wr0, mC_wr1, mC_wr2, mC_wr3, mC_wr4, mC_wq, e1, e2, e4, e3, eq_self, Nat.reduceEqDiff, Nat.reduceLeDiff, nl_4, nl_8, nl_22, nl_27, no_1, no_1024, pk_mul, nI_add, nm_ck, nI_clamp, nI_ltI, nI_leI, nI_eq, nb_b2, nb_b1, ↓nb_let, nm_z0, nm_z1, nb_II, nb_IR, nb_RI, nb_RR, nm_IL, nm_IQ, nm_RL, nm_RQ, nm_LI, nm_LR, nm_LL, nm_LQ, nm_QI, nm_QR, nm_QL, nm_QQ, nm_rr, nm_ii, nm_eqm, not_false_eq_true, pk_sub, nm_div, nm_shl, nm_shr, nm_ush, nm_or8, nm_or64, nm_or256, nm_m1, nm_m3, nm_m7, nm_m15, nm_m31, nm_m63, nm_m255, nm_m511, nm_m1023, nm_m2047, nm_m65535, Nat.reduceMod, Nat.reducePow, Nat.reduceAdd, Nat.reduceSub, Nat.reduceMul, nm_bo, nm_bi, nm_rc, nm_ic, nm_ri, nm_rl, nm_rq, nm_ql, nm_qi, nm_li, nm_us, nm_uu, nm_cp, nm_sa31, nm_sa7, nm_m127, nm_m2, nm_nz, nm_nzk, nm_eq32, nm_nzf, if_true, if_false, ↓reduceIte, if_pos, if_neg]
/-- takeWord, a step at a time -/
theorem ne_I {a b : Nat} (ha : a < 2 ^ 31) (hb : b < 2 ^ 31) (h : ¬ a = b) : ¬ nI a = nI b := fun z => h (by rw [nI_eq ha hb] at z; exact z)
theorem tws_22 (n Tp μ : Nat) {S0 S1 : St × St} (hM : df_X2_meaning n Tp S0 = some (nI μ, S1)) (h3 : ¬ μ = 23) (h4 : ¬ μ = 24) (hl : μ < 100) : df_X2_takeWord n Tp S0 = df_X2_takeWord_22 n Tp (nI μ) (nI 0) S1 := by
  unfold df_X2_takeWord df_X2_takeWord_0
  rw [hM, nb_b2, if_neg (show ¬ nI μ = 23 from ne_I (b := 23) (by omega) (by omega) h3), if_neg (show ¬ nI μ = 24 from ne_I (b := 24) (by omega) (by omega) h4)]
  rfl
theorem tws_17 (n Tp μ : Nat) {S0 S1 : St × St} (hM : df_X2_meaning n Tp S0 = some (nI μ, S1)) (h : μ = 23 ∨ μ = 24) : df_X2_takeWord n Tp S0 = df_X2_takeWord_22 n Tp (nI μ) (nI 1) S1 := by
  unfold df_X2_takeWord df_X2_takeWord_0
  rcases h with rfl | rfl
  · rw [hM, nb_b2, if_pos (show nI 23 = 23 from rfl)]
    rfl
  · rw [hM, nb_b2, if_neg (show ¬ nI 24 = 23 by decide), if_pos (show nI 24 = 24 from rfl)]
    rfl
theorem tws_57 (n Tp μ : Nat) {S : St × St} (h : 0 < μ) (hl : μ < 100) : df_X2_takeWord_22 n Tp (nI μ) (nI 0) S = df_X2_takeWord_57 n Tp (nI μ) (nI 0) S := by
  unfold df_X2_takeWord_22
  rw [if_neg (show ¬ nI μ = 0 from ne_I (b := 0) (by omega) (by omega) (by omega)), if_pos (show nI 0 = 0 from rfl)]
theorem tws_0 (n Tp : Nat) {tpe M M' : St} (hb : df_X2_blame n (nI 2) M = some M') : df_X2_takeWord_22 n Tp (nI 0) (nI 0) (tpe, M) = some (nI 0, (tpe, M')) := by
  unfold df_X2_takeWord_22 df_X2_takeWord_42 df_X2_takeWord_52
  rw [if_pos (show nI 0 = 0 from rfl), if_pos (show nI 0 = 0 from rfl)]
  show nd_b1 (df_X2_blame n (nI 2) M) _ = _
  rw [hb, nb_b1, nb_let]
  rfl
theorem tws_57r (n Tp μ : Nat) {tpe M : St} (h : μ = 23 ∨ μ = 24) (hw : df_X2_waiting n (nI 23) (nI 24) M = some (nI 0, M)) : df_X2_takeWord_22 n Tp (nI μ) (nI 1) (tpe, M) = df_X2_takeWord_57 n Tp (nI μ) (nI 1) (tpe, M) := by
  unfold df_X2_takeWord_22
  rw [if_neg (show ¬ nI μ = 0 from ne_I (b := 0) (by omega) (by omega) (by omega)), if_neg (show ¬ nI 1 = 0 by decide)]
  show nd_b2 (df_X2_waiting n (nI 23) (nI 24) M) _ = _
  rw [hw, nb_b2, nb_let, if_pos (show nI 0 ≤ 0 by decide)]
theorem tws_42r (n Tp μ k : Nat) {tpe M M' : St} (h : μ = 23 ∨ μ = 24) (hk : 0 < k) (hk2 : k < 100) (hw : df_X2_waiting n (nI 23) (nI 24) M = some (nI k, M)) (hb : df_X2_blame n (nI 1) M = some M') : df_X2_takeWord_22 n Tp (nI μ) (nI 1) (tpe, M) = some (nI 0, (tpe, M')) := by
  unfold df_X2_takeWord_22
  rw [if_neg (show ¬ nI μ = 0 from ne_I (b := 0) (by omega) (by omega) (by omega)), if_neg (show ¬ nI 1 = 0 by decide)]
  show nd_b2 (df_X2_waiting n (nI 23) (nI 24) M) _ = _
  rw [hw, nb_b2, nb_let, if_neg (show ¬ nI k ≤ 0 from fun z => by have z : nI k ≤ nI 0 := z; rw [nI_leI (by omega) (by omega)] at z; omega)]
  unfold df_X2_takeWord_42 df_X2_takeWord_52
  rw [if_neg (show ¬ nI μ = 0 from ne_I (b := 0) (by omega) (by omega) (by omega))]
  show nd_b1 (df_X2_blame n (nI 1) M) _ = _
  rw [hb, nb_b1, nb_let]
  rfl
theorem tws_79 (n Tp μ : Nat) {tpe M M' M2 : St} (h : μ = 31 ∨ μ = 32 ∨ μ = 33) (hp : df_X2_part n M = some M') (he : df_X2_emit n (nI μ) (sL M' 0) M' = some M2) : df_X2_takeWord_57 n Tp (nI μ) (nI 0) (tpe, M) = some (nI 0, (tpe, M2)) := by
  have f : df_X2_takeWord_79 n Tp (nI μ) (tpe, M') = some (nI 0, (tpe, M2)) := by
    unfold df_X2_takeWord_79
    show nd_b1 (df_X2_emit n (nI μ) (sL M' 0) M') _ = _
    rw [he, nb_b1, nb_let]
    rfl
  unfold df_X2_takeWord_57
  show nd_b1 (df_X2_part n M) _ = _
  rw [hp, nb_b1, nb_let]
  rcases h with rfl | rfl | rfl
  · rw [if_pos (show nI 31 = 31 from rfl), f]
  · rw [if_neg (show ¬ nI 32 = 31 by decide), if_pos (show nI 32 = 32 from rfl), f]
  · rw [if_neg (show ¬ nI 33 = 31 by decide), if_neg (show ¬ nI 33 = 32 by decide), if_pos (show nI 33 = 33 from rfl), f]
theorem tws_pf (n Tp μ : Nat) {x2 : Int32} {tpe M M' : St} (h : μ < 31) (hp : df_X2_part n M = some M') (h8 : ¬ sI M' 8 = 0) : df_X2_takeWord_57 n Tp (nI μ) x2 (tpe, M) = some (nI 0, (tpe, M')) := by
  unfold df_X2_takeWord_57
  show nd_b1 (df_X2_part n M) _ = _
  rw [hp, nb_b1, nb_let, if_neg (show ¬ nI μ = 31 from ne_I (b := 31) (by omega) (by omega) (by omega)), if_neg (show ¬ nI μ = 32 from ne_I (b := 32) (by omega) (by omega) (by omega)), if_neg (show ¬ nI μ = 33 from ne_I (b := 33) (by omega) (by omega) (by omega))]
  rw [if_neg h8]
  rfl
theorem tws_p (n Tp μ r sg : Nat) {tpe M M' M2 : St} (h : μ < 31) (hr : r = 0 ∧ sg = 25 ∨ r = 1 ∧ sg = 22) (hp : df_X2_part n M = some M') (h8 : sI M' 8 = 0) (hN : df_X2_next n Tp (tpe, M') = some (tpe, M2)) : df_X2_takeWord_57 n Tp (nI μ) (nI r) (tpe, M) = if sI M2 6 = 3 then df_X2_takeWord_126 n Tp (nI μ) (nI r) (sL M2 0) (nI sg) (tpe, M2) else df_X2_takeWord_131 n Tp (nI μ) (nI r) (tpe, M2) := by
  unfold df_X2_takeWord_57
  show nd_b1 (df_X2_part n M) _ = _
  rw [hp, nb_b1, nb_let, if_neg (show ¬ nI μ = 31 from ne_I (b := 31) (by omega) (by omega) (by omega)), if_neg (show ¬ nI μ = 32 from ne_I (b := 32) (by omega) (by omega) (by omega)), if_neg (show ¬ nI μ = 33 from ne_I (b := 33) (by omega) (by omega) (by omega))]
  rw [if_pos h8, hN, nb_b1]
  rcases hr with ⟨rfl, rfl⟩ | ⟨rfl, rfl⟩
  · rw [if_pos (show nI 0 = 0 from rfl)]
    rfl
  · rw [if_neg (show ¬ nI 1 = 0 by decide)]
    rfl
theorem tws_136f (n Tp os : Nat) {x1 x2 : Int32} {tpe M M' : St} (ho : df_X2_opens n x1 (sI M 2) M = some M') (h8 : ¬ sI M' 8 = 0) : df_X2_takeWord_136 n Tp x1 x2 (tpe, M) = some (nI 1, (tpe, M')) := by
  unfold df_X2_takeWord_136 df_X2_takeWord_208
  show nd_b1 (df_X2_opens n x1 (sI M 2) M) _ = _
  rw [ho, nb_b1, nb_let, if_neg h8]
  rfl
theorem tws_136n (n Tp : Nat) {x1 : Int32} {tpe M M' : St} (ho : df_X2_opens n x1 (sI M 2) M = some M') (h8 : sI M' 8 = 0) : df_X2_takeWord_136 n Tp x1 (nI 0) (tpe, M) = some (nI 1, (tpe, M')) := by
  unfold df_X2_takeWord_136 df_X2_takeWord_208
  show nd_b1 (df_X2_opens n x1 (sI M 2) M) _ = _
  rw [ho, nb_b1, nb_let, if_pos h8, if_pos (show nI 0 = 0 from rfl)]
  rfl
theorem tws_185 (n Tp os : Nat) {tpe M : St} (h2 : sI M 2 = nI os) (ho : os < 40) : df_X2_takeWord_185 n Tp (tpe, M) = some (nI 1, (tpe, pI (pR M 3 (upd (sR M 3) os (sI M 0))) 2 (nI (os + 1)))) := by
  unfold df_X2_takeWord_185 df_X2_takeWord_208
  show nd_ck (sI M 2) 40 (nd_let (tpe, pR M 3 (upd (sR M 3) (Int32.toNatClampNeg (sI M 2)) (sI M 0))) (fun (s41 : St × St) => nd_let (s41.1, pI s41.2 2 (sI s41.2 2 + 1)) (fun (s42 : St × St) => some ((1 : Int32), s42)))) = _
  rw [h2, nm_ck (by omega) (by omega), nb_let, nb_let]
  show some ((1 : Int32), (tpe, pI (pR M 3 (upd (sR M 3) (Int32.toNatClampNeg (nI os)) (sI M 0))) 2 (sI M 2 + 1))) = _
  rw [h2, nI_clamp (by omega), show nI os + 1 = nI (os + 1) by rw [show (1 : Int32) = nI 1 from rfl, nI_add]]
  rfl
theorem tws_136r (n Tp os : Nat) {tpe M M' : St} (ho : df_X2_opens n (nI 24) (sI M 2) M = some M') (h8 : sI M' 8 = 0) (h2 : sI M' 2 = nI os) (hos : os < 40) : df_X2_takeWord_136 n Tp (nI 24) (nI 1) (tpe, M) = some (nI 1, (tpe, pI (pR M' 3 (upd (sR M' 3) os (sI M' 0))) 2 (nI (os + 1)))) := by
  unfold df_X2_takeWord_136
  show nd_b1 (df_X2_opens n (nI 24) (sI M 2) M) _ = _
  rw [ho, nb_b1, nb_let, if_pos h8, if_neg (show ¬ nI 1 = 0 by decide)]
  rw [if_neg (show ¬ (40 : Int32) ≤ sI M' 2 from fun z => by rw [h2] at z; have z : nI 40 ≤ nI os := z; rw [nI_leI (by omega) (by omega)] at z; omega), if_neg (show ¬ nI 24 = 23 by decide)]
  exact tws_185 n Tp os h2 hos
theorem tws_136o (n Tp os : Nat) {tpe M M' M2 : St} (ho : df_X2_opens n (nI 23) (sI M 2) M = some M') (h8 : sI M' 8 = 0) (h2 : sI M' 2 = nI os) (hos : os < 40) (he : df_X2_emit n (nI 23) (nI os).toInt64 M' = some M2) (h22 : sI M2 2 = nI os) : df_X2_takeWord_136 n Tp (nI 23) (nI 1) (tpe, M) = some (nI 1, (tpe, pI (pR M2 3 (upd (sR M2 3) os (sI M2 0))) 2 (nI (os + 1)))) := by
  unfold df_X2_takeWord_136
  show nd_b1 (df_X2_opens n (nI 23) (sI M 2) M) _ = _
  rw [ho, nb_b1, nb_let, if_pos h8, if_neg (show ¬ nI 1 = 0 by decide)]
  rw [if_neg (show ¬ (40 : Int32) ≤ sI M' 2 from fun z => by rw [h2] at z; have z : nI 40 ≤ nI os := z; rw [nI_leI (by omega) (by omega)] at z; omega), if_pos (show nI 23 = 23 from rfl)]
  show nd_b1 (df_X2_emit n (nI 23) (sI M' 2).toInt64 M') _ = _
  rw [h2, he, nb_b1, nb_let]
  exact tws_185 n Tp os h22 hos
theorem tws_126 (n Tp a b : Nat) {x1 x2 : Int32} {S : St × St} (ha : a < 100) (hb : b < 100) : df_X2_takeWord_126 n Tp x1 x2 (nI a).toInt64 (nI b) S = if a = b then df_X2_takeWord_136 n Tp x1 x2 S else df_X2_takeWord_131 n Tp x1 x2 S := by
  have q := (lg_s (a := a) (b := b) (by omega) (by omega)).1
  unfold df_X2_takeWord_126
  by_cases y : a = b
  · rw [if_pos y, if_pos (show lg_cmp (nI a).toInt64 (nI b).toInt64 = 0 from q.mpr y)]
  · rw [if_neg y, if_neg (show ¬ lg_cmp (nI a).toInt64 (nI b).toInt64 = 0 from fun z => y (q.mp z))]
theorem tws_131 (n Tp : Nat) {x1 x2 : Int32} {tpe M M1 M' : St} (hb : df_X2_blame n (nI 1) M = some M1) (ho : df_X2_opens n x1 (sI M1 2) M1 = some M') (h8 : ¬ sI M' 8 = 0) : df_X2_takeWord_131 n Tp x1 x2 (tpe, M) = some (nI 1, (tpe, M')) := by
  unfold df_X2_takeWord_131
  show nd_b1 (df_X2_blame n (nI 1) M) _ = _
  rw [hb, nb_b1, nb_let]
  exact tws_136f n Tp 0 ho h8
theorem tw_0 (n Tp : Nat) {tpe : St} {x : Int64} {B : St} {cs tp os ap kd fr pt : Nat} {nm : Int64} {C S SA F T : Nat → Int32} {A : Nat → Int64} (hM : df_X2_meaning n Tp (tpe, mC B cs tp os ap kd fr 0 pt nm C S SA F T A) = some (nI 0, (tpe, mC B cs tp os ap kd fr 0 pt x C S SA F T A))) : df_X2_takeWord n Tp (tpe, mC B cs tp os ap kd fr 0 pt nm C S SA F T A) = some (nI 0, (tpe, mC B cs tp os ap kd fr (2 + 8 * fr) pt x C S SA F T A)) := (tws_22 n Tp 0 hM (by omega) (by omega) (by omega)).trans (tws_0 n Tp (bl_1 n 2))
theorem tw_31 (n Tp : Nat) {tpe : St} {x : Int64} {B : St} {cs tp os ap kd fr pt : Nat} {nm : Int64} {C S SA F T : Nat → Int32} {A : Nat → Int64} (hM : df_X2_meaning n Tp (tpe, mC B cs tp os ap kd fr 0 pt nm C S SA F T A) = some (nI 31, (tpe, mC B cs tp os ap kd fr 0 pt x C S SA F T A))) (hp : pt < 40) (hc : cs < 160) : df_X2_takeWord n Tp (tpe, mC B cs tp os ap kd fr 0 pt nm C S SA F T A) = some (nI 0, (tpe, mC B (cs + 1) tp os ap kd fr 0 (pt + 1) x (upd C cs (nI 31)) S SA F T (vp_updL A cs x))) := ((tws_22 n Tp 31 hM (by omega) (by omega) (by omega)).trans (tws_57 n Tp 31 (by omega) (by omega))).trans (tws_79 n Tp 31 (by omega) (pt_1 n hp) (em_1 n 31 x hc))
theorem tw_31f (n Tp : Nat) {tpe : St} {x : Int64} {B : St} {cs tp os ap kd fr : Nat} {nm : Int64} {C S SA F T : Nat → Int32} {A : Nat → Int64} (hM : df_X2_meaning n Tp (tpe, mC B cs tp os ap kd fr 0 40 nm C S SA F T A) = some (nI 31, (tpe, mC B cs tp os ap kd fr 0 40 x C S SA F T A))) (hf2 : fr < 200) : df_X2_takeWord n Tp (tpe, mC B cs tp os ap kd fr 0 40 nm C S SA F T A) = some (nI 0, (tpe, mC B cs tp os ap kd fr (3 + 8 * fr) 41 x C S SA F T A)) := ((tws_22 n Tp 31 hM (by omega) (by omega) (by omega)).trans (tws_57 n Tp 31 (by omega) (by omega))).trans (tws_79 n Tp 31 (by omega) (pt_0 n) (em_0 n 31 x (by omega) (by omega)))
theorem tw_32 (n Tp : Nat) {tpe : St} {x : Int64} {B : St} {cs tp os ap kd fr pt : Nat} {nm : Int64} {C S SA F T : Nat → Int32} {A : Nat → Int64} (hM : df_X2_meaning n Tp (tpe, mC B cs tp os ap kd fr 0 pt nm C S SA F T A) = some (nI 32, (tpe, mC B cs tp os ap kd fr 0 pt x C S SA F T A))) (hp : pt < 40) (hc : cs < 160) : df_X2_takeWord n Tp (tpe, mC B cs tp os ap kd fr 0 pt nm C S SA F T A) = some (nI 0, (tpe, mC B (cs + 1) tp os ap kd fr 0 (pt + 1) x (upd C cs (nI 32)) S SA F T (vp_updL A cs x))) := ((tws_22 n Tp 32 hM (by omega) (by omega) (by omega)).trans (tws_57 n Tp 32 (by omega) (by omega))).trans (tws_79 n Tp 32 (by omega) (pt_1 n hp) (em_1 n 32 x hc))
theorem tw_32f (n Tp : Nat) {tpe : St} {x : Int64} {B : St} {cs tp os ap kd fr : Nat} {nm : Int64} {C S SA F T : Nat → Int32} {A : Nat → Int64} (hM : df_X2_meaning n Tp (tpe, mC B cs tp os ap kd fr 0 40 nm C S SA F T A) = some (nI 32, (tpe, mC B cs tp os ap kd fr 0 40 x C S SA F T A))) (hf2 : fr < 200) : df_X2_takeWord n Tp (tpe, mC B cs tp os ap kd fr 0 40 nm C S SA F T A) = some (nI 0, (tpe, mC B cs tp os ap kd fr (3 + 8 * fr) 41 x C S SA F T A)) := ((tws_22 n Tp 32 hM (by omega) (by omega) (by omega)).trans (tws_57 n Tp 32 (by omega) (by omega))).trans (tws_79 n Tp 32 (by omega) (pt_0 n) (em_0 n 32 x (by omega) (by omega)))
theorem tw_33 (n Tp : Nat) {tpe : St} {x : Int64} {B : St} {cs tp os ap kd fr pt : Nat} {nm : Int64} {C S SA F T : Nat → Int32} {A : Nat → Int64} (hM : df_X2_meaning n Tp (tpe, mC B cs tp os ap kd fr 0 pt nm C S SA F T A) = some (nI 33, (tpe, mC B cs tp os ap kd fr 0 pt x C S SA F T A))) (hp : pt < 40) (hc : cs < 160) : df_X2_takeWord n Tp (tpe, mC B cs tp os ap kd fr 0 pt nm C S SA F T A) = some (nI 0, (tpe, mC B (cs + 1) tp os ap kd fr 0 (pt + 1) x (upd C cs (nI 33)) S SA F T (vp_updL A cs x))) := ((tws_22 n Tp 33 hM (by omega) (by omega) (by omega)).trans (tws_57 n Tp 33 (by omega) (by omega))).trans (tws_79 n Tp 33 (by omega) (pt_1 n hp) (em_1 n 33 x hc))
theorem tw_33f (n Tp : Nat) {tpe : St} {x : Int64} {B : St} {cs tp os ap kd fr : Nat} {nm : Int64} {C S SA F T : Nat → Int32} {A : Nat → Int64} (hM : df_X2_meaning n Tp (tpe, mC B cs tp os ap kd fr 0 40 nm C S SA F T A) = some (nI 33, (tpe, mC B cs tp os ap kd fr 0 40 x C S SA F T A))) (hf2 : fr < 200) : df_X2_takeWord n Tp (tpe, mC B cs tp os ap kd fr 0 40 nm C S SA F T A) = some (nI 0, (tpe, mC B cs tp os ap kd fr (3 + 8 * fr) 41 x C S SA F T A)) := ((tws_22 n Tp 33 hM (by omega) (by omega) (by omega)).trans (tws_57 n Tp 33 (by omega) (by omega))).trans (tws_79 n Tp 33 (by omega) (pt_0 n) (em_0 n 33 x (by omega) (by omega)))
theorem tw_263 (n Tp : Nat) {tpe : St} {x : Int64} {B : St} {cs tp os ap kd fr : Nat} {nm : Int64} {C S SA F T : Nat → Int32} {A : Nat → Int64} (hM : df_X2_meaning n Tp (tpe, mC B cs tp os ap kd fr 0 40 nm C S SA F T A) = some (nI 26, (tpe, mC B cs tp os ap kd fr 0 40 x C S SA F T A))) (hf2 : fr < 200) : df_X2_takeWord n Tp (tpe, mC B cs tp os ap kd fr 0 40 nm C S SA F T A) = some (nI 0, (tpe, mC B cs tp os ap kd fr (3 + 8 * fr) 41 x C S SA F T A)) := (((tws_22 n Tp 26 hM (by omega) (by omega) (by omega)).trans (tws_57 n Tp 26 (by omega) (by omega))).trans (tws_pf n Tp 26 (by omega) (pt_0 n) (show ¬ nI (3 + 8 * fr) = (0 : Int32) from ne_I (b := 0) (by omega) (by omega) (by omega))))
theorem tw_261 (n Tp a2 k2 f2 : Nat) {tpe : St} {x y : Int64} {B : St} {cs tp os ap kd fr pt : Nat} {nm : Int64} {C S SA F T : Nat → Int32} {A : Nat → Int64} (hn : 41 < n) (ht : tp ≤ 40) (s : Nat → Nat) (hs : ∀ i : Nat, i < tp → S i = nI (s i) ∧ s i < 100) (hM : df_X2_meaning n Tp (tpe, mC B cs tp os ap kd fr 0 pt nm C S SA F T A) = some (nI 26, (tpe, mC B cs tp os ap kd fr 0 pt x C S SA F T A))) (hp : pt < 40) (hN : df_X2_next n Tp (tpe, mC B cs tp os ap kd fr 0 (pt + 1) x C S SA F T A) = some (tpe, mC B cs tp os a2 k2 f2 0 (pt + 1) y C S SA F T A)) (hb : ¬ k2 = 3 ∨ ∃ s2 : Nat, s2 < 100 ∧ y = (nI s2).toInt64 ∧ ¬ s2 = 25) (hk2 : k2 < 100) (hf2 : f2 < 200) : df_X2_takeWord n Tp (tpe, mC B cs tp os ap kd fr 0 pt nm C S SA F T A) = some (nI 1, (tpe, mC B cs tp os a2 k2 f2 (1 + 8 * f2) (pt + 1 + 1) y C S SA F T A)) := by
  have e := (((tws_22 n Tp 26 hM (by omega) (by omega) (by omega)).trans (tws_57 n Tp 26 (by omega) (by omega))).trans (tws_p n Tp 26 0 25 (by omega) (by omega) (pt_1 n hp) rfl hN))
  rw [e]
  have f : df_X2_takeWord_131 n Tp (nI 26) (nI 0) (tpe, mC B cs tp os a2 k2 f2 0 (pt + 1) y C S SA F T A) = some (nI 1, (tpe, mC B cs tp os a2 k2 f2 (1 + 8 * f2) (pt + 1 + 1) y C S SA F T A)) := tws_131 n Tp (bl_1 n 1) (op_f n 26 os hn ht s hs (by omega) (by omega) (by omega)) (show ¬ nI (1 + 8 * f2) = (0 : Int32) from ne_I (b := 0) (by omega) (by omega) (by omega))
  by_cases k : k2 = 3
  · obtain ⟨s2, h1, h2, h3⟩ := hb.resolve_left (fun z => z k)
    subst h2
    rw [if_pos (show sI (mC B cs tp os a2 k2 f2 0 (pt + 1) (nI s2).toInt64 C S SA F T A) 6 = 3 by rw [mC_i6, k]; rfl), mC_l, tws_126 n Tp s2 25 h1 (by omega), if_neg h3, f]
  · rw [if_neg (show ¬ sI (mC B cs tp os a2 k2 f2 0 (pt + 1) y C S SA F T A) 6 = 3 from ne_I (a := k2) (b := 3) (by omega) (by omega) k), f]
theorem tw_264 (n Tp a2 f2 P2 G2 : Nat) {tpe : St} {x : Int64} {B : St} {cs tp os ap kd fr pt : Nat} {nm : Int64} {C S SA F T : Nat → Int32} {A : Nat → Int64} (hM : df_X2_meaning n Tp (tpe, mC B cs tp os ap kd fr 0 pt nm C S SA F T A) = some (nI 26, (tpe, mC B cs tp os ap kd fr 0 pt x C S SA F T A))) (hp : pt < 40) (hN : df_X2_next n Tp (tpe, mC B cs tp os ap kd fr 0 (pt + 1) x C S SA F T A) = some (tpe, mC B cs tp os a2 3 f2 0 (pt + 1) (nI 25).toInt64 C S SA F T A)) (hO : df_X2_opens n (nI 26) (nI os) (mC B cs tp os a2 3 f2 0 (pt + 1) (nI 25).toInt64 C S SA F T A) = some (mC B cs tp os a2 3 f2 G2 P2 (nI 25).toInt64 C S SA F T A)) (hg : 0 < G2) (hg2 : G2 < 2 ^ 31) : df_X2_takeWord n Tp (tpe, mC B cs tp os ap kd fr 0 pt nm C S SA F T A) = some (nI 1, (tpe, mC B cs tp os a2 3 f2 G2 P2 (nI 25).toInt64 C S SA F T A)) := by
  have e := (((tws_22 n Tp 26 hM (by omega) (by omega) (by omega)).trans (tws_57 n Tp 26 (by omega) (by omega))).trans (tws_p n Tp 26 0 25 (by omega) (by omega) (pt_1 n hp) rfl hN))
  rw [e, if_pos (show sI (mC B cs tp os a2 3 f2 0 (pt + 1) (nI 25).toInt64 C S SA F T A) 6 = 3 from rfl), mC_l, tws_126 n Tp 25 25 (by omega) (by omega), if_pos rfl]
  exact tws_136f n Tp 0 hO (show ¬ nI (G2) = (0 : Int32) from ne_I (b := 0) (by omega) (by omega) (by omega))
theorem tw_26o (n Tp a2 f2 : Nat) {tpe : St} {x : Int64} {B : St} {cs tp os ap kd fr pt : Nat} {nm : Int64} {C S SA F T : Nat → Int32} {A : Nat → Int64} (hM : df_X2_meaning n Tp (tpe, mC B cs tp os ap kd fr 0 pt nm C S SA F T A) = some (nI 26, (tpe, mC B cs tp os ap kd fr 0 pt x C S SA F T A))) (hp : pt < 40) (hN : df_X2_next n Tp (tpe, mC B cs tp os ap kd fr 0 (pt + 1) x C S SA F T A) = some (tpe, mC B cs tp os a2 3 f2 0 (pt + 1) (nI 25).toInt64 C S SA F T A)) (hO : df_X2_opens n (nI 26) (nI os) (mC B cs tp os a2 3 f2 0 (pt + 1) (nI 25).toInt64 C S SA F T A) = some (mC B cs (tp + 1) os a2 3 f2 0 (pt + 1 + 1) (nI 25).toInt64 C (upd S tp (nI 26)) (upd SA tp (nI os)) F T A)) : df_X2_takeWord n Tp (tpe, mC B cs tp os ap kd fr 0 pt nm C S SA F T A) = some (nI 1, (tpe, mC B cs (tp + 1) os a2 3 f2 0 (pt + 1 + 1) (nI 25).toInt64 C (upd S tp (nI 26)) (upd SA tp (nI os)) F T A)) := by
  have e := (((tws_22 n Tp 26 hM (by omega) (by omega) (by omega)).trans (tws_57 n Tp 26 (by omega) (by omega))).trans (tws_p n Tp 26 0 25 (by omega) (by omega) (pt_1 n hp) rfl hN))
  rw [e, if_pos (show sI (mC B cs tp os a2 3 f2 0 (pt + 1) (nI 25).toInt64 C S SA F T A) 6 = 3 from rfl), mC_l, tws_126 n Tp 25 25 (by omega) (by omega), if_pos rfl]
  exact tws_136n n Tp hO rfl
theorem tw_273 (n Tp : Nat) {tpe : St} {x : Int64} {B : St} {cs tp os ap kd fr : Nat} {nm : Int64} {C S SA F T : Nat → Int32} {A : Nat → Int64} (hM : df_X2_meaning n Tp (tpe, mC B cs tp os ap kd fr 0 40 nm C S SA F T A) = some (nI 27, (tpe, mC B cs tp os ap kd fr 0 40 x C S SA F T A))) (hf2 : fr < 200) : df_X2_takeWord n Tp (tpe, mC B cs tp os ap kd fr 0 40 nm C S SA F T A) = some (nI 0, (tpe, mC B cs tp os ap kd fr (3 + 8 * fr) 41 x C S SA F T A)) := (((tws_22 n Tp 27 hM (by omega) (by omega) (by omega)).trans (tws_57 n Tp 27 (by omega) (by omega))).trans (tws_pf n Tp 27 (by omega) (pt_0 n) (show ¬ nI (3 + 8 * fr) = (0 : Int32) from ne_I (b := 0) (by omega) (by omega) (by omega))))
theorem tw_271 (n Tp a2 k2 f2 : Nat) {tpe : St} {x y : Int64} {B : St} {cs tp os ap kd fr pt : Nat} {nm : Int64} {C S SA F T : Nat → Int32} {A : Nat → Int64} (hn : 41 < n) (ht : tp ≤ 40) (s : Nat → Nat) (hs : ∀ i : Nat, i < tp → S i = nI (s i) ∧ s i < 100) (hM : df_X2_meaning n Tp (tpe, mC B cs tp os ap kd fr 0 pt nm C S SA F T A) = some (nI 27, (tpe, mC B cs tp os ap kd fr 0 pt x C S SA F T A))) (hp : pt < 40) (hN : df_X2_next n Tp (tpe, mC B cs tp os ap kd fr 0 (pt + 1) x C S SA F T A) = some (tpe, mC B cs tp os a2 k2 f2 0 (pt + 1) y C S SA F T A)) (hb : ¬ k2 = 3 ∨ ∃ s2 : Nat, s2 < 100 ∧ y = (nI s2).toInt64 ∧ ¬ s2 = 25) (hk2 : k2 < 100) (hf2 : f2 < 200) : df_X2_takeWord n Tp (tpe, mC B cs tp os ap kd fr 0 pt nm C S SA F T A) = some (nI 1, (tpe, mC B cs tp os a2 k2 f2 (1 + 8 * f2) (pt + 1 + 1) y C S SA F T A)) := by
  have e := (((tws_22 n Tp 27 hM (by omega) (by omega) (by omega)).trans (tws_57 n Tp 27 (by omega) (by omega))).trans (tws_p n Tp 27 0 25 (by omega) (by omega) (pt_1 n hp) rfl hN))
  rw [e]
  have f : df_X2_takeWord_131 n Tp (nI 27) (nI 0) (tpe, mC B cs tp os a2 k2 f2 0 (pt + 1) y C S SA F T A) = some (nI 1, (tpe, mC B cs tp os a2 k2 f2 (1 + 8 * f2) (pt + 1 + 1) y C S SA F T A)) := tws_131 n Tp (bl_1 n 1) (op_f n 27 os hn ht s hs (by omega) (by omega) (by omega)) (show ¬ nI (1 + 8 * f2) = (0 : Int32) from ne_I (b := 0) (by omega) (by omega) (by omega))
  by_cases k : k2 = 3
  · obtain ⟨s2, h1, h2, h3⟩ := hb.resolve_left (fun z => z k)
    subst h2
    rw [if_pos (show sI (mC B cs tp os a2 k2 f2 0 (pt + 1) (nI s2).toInt64 C S SA F T A) 6 = 3 by rw [mC_i6, k]; rfl), mC_l, tws_126 n Tp s2 25 h1 (by omega), if_neg h3, f]
  · rw [if_neg (show ¬ sI (mC B cs tp os a2 k2 f2 0 (pt + 1) y C S SA F T A) 6 = 3 from ne_I (a := k2) (b := 3) (by omega) (by omega) k), f]
theorem tw_274 (n Tp a2 f2 P2 G2 : Nat) {tpe : St} {x : Int64} {B : St} {cs tp os ap kd fr pt : Nat} {nm : Int64} {C S SA F T : Nat → Int32} {A : Nat → Int64} (hM : df_X2_meaning n Tp (tpe, mC B cs tp os ap kd fr 0 pt nm C S SA F T A) = some (nI 27, (tpe, mC B cs tp os ap kd fr 0 pt x C S SA F T A))) (hp : pt < 40) (hN : df_X2_next n Tp (tpe, mC B cs tp os ap kd fr 0 (pt + 1) x C S SA F T A) = some (tpe, mC B cs tp os a2 3 f2 0 (pt + 1) (nI 25).toInt64 C S SA F T A)) (hO : df_X2_opens n (nI 27) (nI os) (mC B cs tp os a2 3 f2 0 (pt + 1) (nI 25).toInt64 C S SA F T A) = some (mC B cs tp os a2 3 f2 G2 P2 (nI 25).toInt64 C S SA F T A)) (hg : 0 < G2) (hg2 : G2 < 2 ^ 31) : df_X2_takeWord n Tp (tpe, mC B cs tp os ap kd fr 0 pt nm C S SA F T A) = some (nI 1, (tpe, mC B cs tp os a2 3 f2 G2 P2 (nI 25).toInt64 C S SA F T A)) := by
  have e := (((tws_22 n Tp 27 hM (by omega) (by omega) (by omega)).trans (tws_57 n Tp 27 (by omega) (by omega))).trans (tws_p n Tp 27 0 25 (by omega) (by omega) (pt_1 n hp) rfl hN))
  rw [e, if_pos (show sI (mC B cs tp os a2 3 f2 0 (pt + 1) (nI 25).toInt64 C S SA F T A) 6 = 3 from rfl), mC_l, tws_126 n Tp 25 25 (by omega) (by omega), if_pos rfl]
  exact tws_136f n Tp 0 hO (show ¬ nI (G2) = (0 : Int32) from ne_I (b := 0) (by omega) (by omega) (by omega))
theorem tw_27o (n Tp a2 f2 : Nat) {tpe : St} {x : Int64} {B : St} {cs tp os ap kd fr pt : Nat} {nm : Int64} {C S SA F T : Nat → Int32} {A : Nat → Int64} (hM : df_X2_meaning n Tp (tpe, mC B cs tp os ap kd fr 0 pt nm C S SA F T A) = some (nI 27, (tpe, mC B cs tp os ap kd fr 0 pt x C S SA F T A))) (hp : pt < 40) (hN : df_X2_next n Tp (tpe, mC B cs tp os ap kd fr 0 (pt + 1) x C S SA F T A) = some (tpe, mC B cs tp os a2 3 f2 0 (pt + 1) (nI 25).toInt64 C S SA F T A)) (hO : df_X2_opens n (nI 27) (nI os) (mC B cs tp os a2 3 f2 0 (pt + 1) (nI 25).toInt64 C S SA F T A) = some (mC B cs (tp + 1) os a2 3 f2 0 (pt + 1 + 1) (nI 25).toInt64 C (upd S tp (nI 27)) (upd SA tp (nI os)) F T A)) : df_X2_takeWord n Tp (tpe, mC B cs tp os ap kd fr 0 pt nm C S SA F T A) = some (nI 1, (tpe, mC B cs (tp + 1) os a2 3 f2 0 (pt + 1 + 1) (nI 25).toInt64 C (upd S tp (nI 27)) (upd SA tp (nI os)) F T A)) := by
  have e := (((tws_22 n Tp 27 hM (by omega) (by omega) (by omega)).trans (tws_57 n Tp 27 (by omega) (by omega))).trans (tws_p n Tp 27 0 25 (by omega) (by omega) (pt_1 n hp) rfl hN))
  rw [e, if_pos (show sI (mC B cs tp os a2 3 f2 0 (pt + 1) (nI 25).toInt64 C S SA F T A) 6 = 3 from rfl), mC_l, tws_126 n Tp 25 25 (by omega) (by omega), if_pos rfl]
  exact tws_136n n Tp hO rfl
theorem tw_233 (n Tp : Nat) {tpe : St} {x : Int64} {B : St} {cs tp os ap kd fr : Nat} {nm : Int64} {C S SA F T : Nat → Int32} {A : Nat → Int64} (hn : 41 < n) (ht : tp ≤ 40) (s : Nat → Nat) (hs : ∀ i : Nat, i < tp → S i = nI (s i) ∧ s i < 100) (hw : cN (fun i => decide (23 ≤ s i ∧ s i ≤ 24)) tp = 0) (hM : df_X2_meaning n Tp (tpe, mC B cs tp os ap kd fr 0 40 nm C S SA F T A) = some (nI 23, (tpe, mC B cs tp os ap kd fr 0 40 x C S SA F T A))) (hf2 : fr < 200) : df_X2_takeWord n Tp (tpe, mC B cs tp os ap kd fr 0 40 nm C S SA F T A) = some (nI 0, (tpe, mC B cs tp os ap kd fr (3 + 8 * fr) 41 x C S SA F T A)) := (((tws_17 n Tp 23 hM (by omega)).trans (tws_57r n Tp 23 (by omega) (by rw [show nI 0 = nI (cN (fun i => decide (23 ≤ s i ∧ s i ≤ 24)) tp) by rw [hw]]; exact wa_1 n 23 24 (by decide) (by decide) (by omega) hn s hs))).trans (tws_pf n Tp 23 (by omega) (pt_0 n) (show ¬ nI (3 + 8 * fr) = (0 : Int32) from ne_I (b := 0) (by omega) (by omega) (by omega))))
theorem tw_231 (n Tp a2 k2 f2 : Nat) {tpe : St} {x y : Int64} {B : St} {cs tp os ap kd fr pt : Nat} {nm : Int64} {C S SA F T : Nat → Int32} {A : Nat → Int64} (hn : 41 < n) (ht : tp ≤ 40) (s : Nat → Nat) (hs : ∀ i : Nat, i < tp → S i = nI (s i) ∧ s i < 100) (hw : cN (fun i => decide (23 ≤ s i ∧ s i ≤ 24)) tp = 0) (hM : df_X2_meaning n Tp (tpe, mC B cs tp os ap kd fr 0 pt nm C S SA F T A) = some (nI 23, (tpe, mC B cs tp os ap kd fr 0 pt x C S SA F T A))) (hp : pt < 40) (hN : df_X2_next n Tp (tpe, mC B cs tp os ap kd fr 0 (pt + 1) x C S SA F T A) = some (tpe, mC B cs tp os a2 k2 f2 0 (pt + 1) y C S SA F T A)) (hb : ¬ k2 = 3 ∨ ∃ s2 : Nat, s2 < 100 ∧ y = (nI s2).toInt64 ∧ ¬ s2 = 22) (hk2 : k2 < 100) (hf2 : f2 < 200) : df_X2_takeWord n Tp (tpe, mC B cs tp os ap kd fr 0 pt nm C S SA F T A) = some (nI 1, (tpe, mC B cs tp os a2 k2 f2 (1 + 8 * f2) (pt + 1 + 1) y C S SA F T A)) := by
  have e := (((tws_17 n Tp 23 hM (by omega)).trans (tws_57r n Tp 23 (by omega) (by rw [show nI 0 = nI (cN (fun i => decide (23 ≤ s i ∧ s i ≤ 24)) tp) by rw [hw]]; exact wa_1 n 23 24 (by decide) (by decide) (by omega) hn s hs))).trans (tws_p n Tp 23 1 22 (by omega) (by omega) (pt_1 n hp) rfl hN))
  rw [e]
  have f : df_X2_takeWord_131 n Tp (nI 23) (nI 1) (tpe, mC B cs tp os a2 k2 f2 0 (pt + 1) y C S SA F T A) = some (nI 1, (tpe, mC B cs tp os a2 k2 f2 (1 + 8 * f2) (pt + 1 + 1) y C S SA F T A)) := tws_131 n Tp (bl_1 n 1) (op_f n 23 os hn ht s hs (by omega) (by omega) (by omega)) (show ¬ nI (1 + 8 * f2) = (0 : Int32) from ne_I (b := 0) (by omega) (by omega) (by omega))
  by_cases k : k2 = 3
  · obtain ⟨s2, h1, h2, h3⟩ := hb.resolve_left (fun z => z k)
    subst h2
    rw [if_pos (show sI (mC B cs tp os a2 k2 f2 0 (pt + 1) (nI s2).toInt64 C S SA F T A) 6 = 3 by rw [mC_i6, k]; rfl), mC_l, tws_126 n Tp s2 22 h1 (by omega), if_neg h3, f]
  · rw [if_neg (show ¬ sI (mC B cs tp os a2 k2 f2 0 (pt + 1) y C S SA F T A) 6 = 3 from ne_I (a := k2) (b := 3) (by omega) (by omega) k), f]
theorem tw_234 (n Tp a2 f2 P2 G2 : Nat) {tpe : St} {x : Int64} {B : St} {cs tp os ap kd fr pt : Nat} {nm : Int64} {C S SA F T : Nat → Int32} {A : Nat → Int64} (hn : 41 < n) (ht : tp ≤ 40) (s : Nat → Nat) (hs : ∀ i : Nat, i < tp → S i = nI (s i) ∧ s i < 100) (hw : cN (fun i => decide (23 ≤ s i ∧ s i ≤ 24)) tp = 0) (hM : df_X2_meaning n Tp (tpe, mC B cs tp os ap kd fr 0 pt nm C S SA F T A) = some (nI 23, (tpe, mC B cs tp os ap kd fr 0 pt x C S SA F T A))) (hp : pt < 40) (hN : df_X2_next n Tp (tpe, mC B cs tp os ap kd fr 0 (pt + 1) x C S SA F T A) = some (tpe, mC B cs tp os a2 3 f2 0 (pt + 1) (nI 22).toInt64 C S SA F T A)) (hO : df_X2_opens n (nI 23) (nI os) (mC B cs tp os a2 3 f2 0 (pt + 1) (nI 22).toInt64 C S SA F T A) = some (mC B cs tp os a2 3 f2 G2 P2 (nI 22).toInt64 C S SA F T A)) (hg : 0 < G2) (hg2 : G2 < 2 ^ 31) : df_X2_takeWord n Tp (tpe, mC B cs tp os ap kd fr 0 pt nm C S SA F T A) = some (nI 1, (tpe, mC B cs tp os a2 3 f2 G2 P2 (nI 22).toInt64 C S SA F T A)) := by
  have e := (((tws_17 n Tp 23 hM (by omega)).trans (tws_57r n Tp 23 (by omega) (by rw [show nI 0 = nI (cN (fun i => decide (23 ≤ s i ∧ s i ≤ 24)) tp) by rw [hw]]; exact wa_1 n 23 24 (by decide) (by decide) (by omega) hn s hs))).trans (tws_p n Tp 23 1 22 (by omega) (by omega) (pt_1 n hp) rfl hN))
  rw [e, if_pos (show sI (mC B cs tp os a2 3 f2 0 (pt + 1) (nI 22).toInt64 C S SA F T A) 6 = 3 from rfl), mC_l, tws_126 n Tp 22 22 (by omega) (by omega), if_pos rfl]
  exact tws_136f n Tp 0 hO (show ¬ nI (G2) = (0 : Int32) from ne_I (b := 0) (by omega) (by omega) (by omega))
theorem tw_23o (n Tp a2 f2 : Nat) {tpe : St} {x : Int64} {B : St} {cs tp os ap kd fr pt : Nat} {nm : Int64} {C S SA F T : Nat → Int32} {A : Nat → Int64} (hn : 41 < n) (ht : tp ≤ 40) (s : Nat → Nat) (hs : ∀ i : Nat, i < tp → S i = nI (s i) ∧ s i < 100) (hw : cN (fun i => decide (23 ≤ s i ∧ s i ≤ 24)) tp = 0) (hM : df_X2_meaning n Tp (tpe, mC B cs tp os ap kd fr 0 pt nm C S SA F T A) = some (nI 23, (tpe, mC B cs tp os ap kd fr 0 pt x C S SA F T A))) (hp : pt < 40) (hN : df_X2_next n Tp (tpe, mC B cs tp os ap kd fr 0 (pt + 1) x C S SA F T A) = some (tpe, mC B cs tp os a2 3 f2 0 (pt + 1) (nI 22).toInt64 C S SA F T A)) (hos : os < 40) (hc : cs < 160) (hO : df_X2_opens n (nI 23) (nI os) (mC B cs tp os a2 3 f2 0 (pt + 1) (nI 22).toInt64 C S SA F T A) = some (mC B cs (tp + 1) os a2 3 f2 0 (pt + 1 + 1) (nI 22).toInt64 C (upd S tp (nI 23)) (upd SA tp (nI os)) F T A)) : df_X2_takeWord n Tp (tpe, mC B cs tp os ap kd fr 0 pt nm C S SA F T A) = some (nI 1, (tpe, mC B (cs + 1) (tp + 1) (os + 1) a2 3 f2 0 (pt + 1 + 1) (nI 22).toInt64 (upd C cs (nI 23)) (upd S tp (nI 23)) (upd SA tp (nI os)) (upd F os (nI (cs + 1))) T (vp_updL A cs (nI os).toInt64))) := by
  have e := (((tws_17 n Tp 23 hM (by omega)).trans (tws_57r n Tp 23 (by omega) (by rw [show nI 0 = nI (cN (fun i => decide (23 ≤ s i ∧ s i ≤ 24)) tp) by rw [hw]]; exact wa_1 n 23 24 (by decide) (by decide) (by omega) hn s hs))).trans (tws_p n Tp 23 1 22 (by omega) (by omega) (pt_1 n hp) rfl hN))
  rw [e, if_pos (show sI (mC B cs tp os a2 3 f2 0 (pt + 1) (nI 22).toInt64 C S SA F T A) 6 = 3 from rfl), mC_l, tws_126 n Tp 22 22 (by omega) (by omega), if_pos rfl]
  rw [tws_136o n Tp os hO rfl rfl hos (em_1 n 23 (nI os).toInt64 hc) rfl, mC_r3, mC_i0, mC_wr3, mC_wi2]
theorem tw_23n (n Tp : Nat) {tpe : St} {x : Int64} {B : St} {cs tp os ap kd fr pt : Nat} {nm : Int64} {C S SA F T : Nat → Int32} {A : Nat → Int64} (hn : 41 < n) (ht : tp ≤ 40) (s : Nat → Nat) (hs : ∀ i : Nat, i < tp → S i = nI (s i) ∧ s i < 100) (hw : 0 < cN (fun i => decide (23 ≤ s i ∧ s i ≤ 24)) tp) (hM : df_X2_meaning n Tp (tpe, mC B cs tp os ap kd fr 0 pt nm C S SA F T A) = some (nI 23, (tpe, mC B cs tp os ap kd fr 0 pt x C S SA F T A))) : df_X2_takeWord n Tp (tpe, mC B cs tp os ap kd fr 0 pt nm C S SA F T A) = some (nI 0, (tpe, mC B cs tp os ap kd fr (1 + 8 * fr) pt x C S SA F T A)) := by
  have cl := cN_le (fun i => decide (23 ≤ s i ∧ s i ≤ 24)) tp
  exact (tws_17 n Tp 23 hM (by omega)).trans (tws_42r n Tp 23 _ (by omega) hw (by omega) (wa_1 n 23 24 (by decide) (by decide) (by omega) hn s hs) (bl_1 n 1))
theorem tw_243 (n Tp : Nat) {tpe : St} {x : Int64} {B : St} {cs tp os ap kd fr : Nat} {nm : Int64} {C S SA F T : Nat → Int32} {A : Nat → Int64} (hn : 41 < n) (ht : tp ≤ 40) (s : Nat → Nat) (hs : ∀ i : Nat, i < tp → S i = nI (s i) ∧ s i < 100) (hw : cN (fun i => decide (23 ≤ s i ∧ s i ≤ 24)) tp = 0) (hM : df_X2_meaning n Tp (tpe, mC B cs tp os ap kd fr 0 40 nm C S SA F T A) = some (nI 24, (tpe, mC B cs tp os ap kd fr 0 40 x C S SA F T A))) (hf2 : fr < 200) : df_X2_takeWord n Tp (tpe, mC B cs tp os ap kd fr 0 40 nm C S SA F T A) = some (nI 0, (tpe, mC B cs tp os ap kd fr (3 + 8 * fr) 41 x C S SA F T A)) := (((tws_17 n Tp 24 hM (by omega)).trans (tws_57r n Tp 24 (by omega) (by rw [show nI 0 = nI (cN (fun i => decide (23 ≤ s i ∧ s i ≤ 24)) tp) by rw [hw]]; exact wa_1 n 23 24 (by decide) (by decide) (by omega) hn s hs))).trans (tws_pf n Tp 24 (by omega) (pt_0 n) (show ¬ nI (3 + 8 * fr) = (0 : Int32) from ne_I (b := 0) (by omega) (by omega) (by omega))))
theorem tw_241 (n Tp a2 k2 f2 : Nat) {tpe : St} {x y : Int64} {B : St} {cs tp os ap kd fr pt : Nat} {nm : Int64} {C S SA F T : Nat → Int32} {A : Nat → Int64} (hn : 41 < n) (ht : tp ≤ 40) (s : Nat → Nat) (hs : ∀ i : Nat, i < tp → S i = nI (s i) ∧ s i < 100) (hw : cN (fun i => decide (23 ≤ s i ∧ s i ≤ 24)) tp = 0) (hM : df_X2_meaning n Tp (tpe, mC B cs tp os ap kd fr 0 pt nm C S SA F T A) = some (nI 24, (tpe, mC B cs tp os ap kd fr 0 pt x C S SA F T A))) (hp : pt < 40) (hN : df_X2_next n Tp (tpe, mC B cs tp os ap kd fr 0 (pt + 1) x C S SA F T A) = some (tpe, mC B cs tp os a2 k2 f2 0 (pt + 1) y C S SA F T A)) (hb : ¬ k2 = 3 ∨ ∃ s2 : Nat, s2 < 100 ∧ y = (nI s2).toInt64 ∧ ¬ s2 = 22) (hk2 : k2 < 100) (hf2 : f2 < 200) : df_X2_takeWord n Tp (tpe, mC B cs tp os ap kd fr 0 pt nm C S SA F T A) = some (nI 1, (tpe, mC B cs tp os a2 k2 f2 (1 + 8 * f2) (pt + 1 + 1) y C S SA F T A)) := by
  have e := (((tws_17 n Tp 24 hM (by omega)).trans (tws_57r n Tp 24 (by omega) (by rw [show nI 0 = nI (cN (fun i => decide (23 ≤ s i ∧ s i ≤ 24)) tp) by rw [hw]]; exact wa_1 n 23 24 (by decide) (by decide) (by omega) hn s hs))).trans (tws_p n Tp 24 1 22 (by omega) (by omega) (pt_1 n hp) rfl hN))
  rw [e]
  have f : df_X2_takeWord_131 n Tp (nI 24) (nI 1) (tpe, mC B cs tp os a2 k2 f2 0 (pt + 1) y C S SA F T A) = some (nI 1, (tpe, mC B cs tp os a2 k2 f2 (1 + 8 * f2) (pt + 1 + 1) y C S SA F T A)) := tws_131 n Tp (bl_1 n 1) (op_f n 24 os hn ht s hs (by omega) (by omega) (by omega)) (show ¬ nI (1 + 8 * f2) = (0 : Int32) from ne_I (b := 0) (by omega) (by omega) (by omega))
  by_cases k : k2 = 3
  · obtain ⟨s2, h1, h2, h3⟩ := hb.resolve_left (fun z => z k)
    subst h2
    rw [if_pos (show sI (mC B cs tp os a2 k2 f2 0 (pt + 1) (nI s2).toInt64 C S SA F T A) 6 = 3 by rw [mC_i6, k]; rfl), mC_l, tws_126 n Tp s2 22 h1 (by omega), if_neg h3, f]
  · rw [if_neg (show ¬ sI (mC B cs tp os a2 k2 f2 0 (pt + 1) y C S SA F T A) 6 = 3 from ne_I (a := k2) (b := 3) (by omega) (by omega) k), f]
theorem tw_244 (n Tp a2 f2 P2 G2 : Nat) {tpe : St} {x : Int64} {B : St} {cs tp os ap kd fr pt : Nat} {nm : Int64} {C S SA F T : Nat → Int32} {A : Nat → Int64} (hn : 41 < n) (ht : tp ≤ 40) (s : Nat → Nat) (hs : ∀ i : Nat, i < tp → S i = nI (s i) ∧ s i < 100) (hw : cN (fun i => decide (23 ≤ s i ∧ s i ≤ 24)) tp = 0) (hM : df_X2_meaning n Tp (tpe, mC B cs tp os ap kd fr 0 pt nm C S SA F T A) = some (nI 24, (tpe, mC B cs tp os ap kd fr 0 pt x C S SA F T A))) (hp : pt < 40) (hN : df_X2_next n Tp (tpe, mC B cs tp os ap kd fr 0 (pt + 1) x C S SA F T A) = some (tpe, mC B cs tp os a2 3 f2 0 (pt + 1) (nI 22).toInt64 C S SA F T A)) (hO : df_X2_opens n (nI 24) (nI os) (mC B cs tp os a2 3 f2 0 (pt + 1) (nI 22).toInt64 C S SA F T A) = some (mC B cs tp os a2 3 f2 G2 P2 (nI 22).toInt64 C S SA F T A)) (hg : 0 < G2) (hg2 : G2 < 2 ^ 31) : df_X2_takeWord n Tp (tpe, mC B cs tp os ap kd fr 0 pt nm C S SA F T A) = some (nI 1, (tpe, mC B cs tp os a2 3 f2 G2 P2 (nI 22).toInt64 C S SA F T A)) := by
  have e := (((tws_17 n Tp 24 hM (by omega)).trans (tws_57r n Tp 24 (by omega) (by rw [show nI 0 = nI (cN (fun i => decide (23 ≤ s i ∧ s i ≤ 24)) tp) by rw [hw]]; exact wa_1 n 23 24 (by decide) (by decide) (by omega) hn s hs))).trans (tws_p n Tp 24 1 22 (by omega) (by omega) (pt_1 n hp) rfl hN))
  rw [e, if_pos (show sI (mC B cs tp os a2 3 f2 0 (pt + 1) (nI 22).toInt64 C S SA F T A) 6 = 3 from rfl), mC_l, tws_126 n Tp 22 22 (by omega) (by omega), if_pos rfl]
  exact tws_136f n Tp 0 hO (show ¬ nI (G2) = (0 : Int32) from ne_I (b := 0) (by omega) (by omega) (by omega))
theorem tw_24o (n Tp a2 f2 : Nat) {tpe : St} {x : Int64} {B : St} {cs tp os ap kd fr pt : Nat} {nm : Int64} {C S SA F T : Nat → Int32} {A : Nat → Int64} (hn : 41 < n) (ht : tp ≤ 40) (s : Nat → Nat) (hs : ∀ i : Nat, i < tp → S i = nI (s i) ∧ s i < 100) (hw : cN (fun i => decide (23 ≤ s i ∧ s i ≤ 24)) tp = 0) (hM : df_X2_meaning n Tp (tpe, mC B cs tp os ap kd fr 0 pt nm C S SA F T A) = some (nI 24, (tpe, mC B cs tp os ap kd fr 0 pt x C S SA F T A))) (hp : pt < 40) (hN : df_X2_next n Tp (tpe, mC B cs tp os ap kd fr 0 (pt + 1) x C S SA F T A) = some (tpe, mC B cs tp os a2 3 f2 0 (pt + 1) (nI 22).toInt64 C S SA F T A)) (hos : os < 40) (hc : cs < 160) (hO : df_X2_opens n (nI 24) (nI os) (mC B cs tp os a2 3 f2 0 (pt + 1) (nI 22).toInt64 C S SA F T A) = some (mC B cs (tp + 1) os a2 3 f2 0 (pt + 1 + 1) (nI 22).toInt64 C (upd S tp (nI 24)) (upd SA tp (nI os)) F T A)) : df_X2_takeWord n Tp (tpe, mC B cs tp os ap kd fr 0 pt nm C S SA F T A) = some (nI 1, (tpe, mC B cs (tp + 1) (os + 1) a2 3 f2 0 (pt + 1 + 1) (nI 22).toInt64 C (upd S tp (nI 24)) (upd SA tp (nI os)) (upd F os (nI cs)) T A)) := by
  have e := (((tws_17 n Tp 24 hM (by omega)).trans (tws_57r n Tp 24 (by omega) (by rw [show nI 0 = nI (cN (fun i => decide (23 ≤ s i ∧ s i ≤ 24)) tp) by rw [hw]]; exact wa_1 n 23 24 (by decide) (by decide) (by omega) hn s hs))).trans (tws_p n Tp 24 1 22 (by omega) (by omega) (pt_1 n hp) rfl hN))
  rw [e, if_pos (show sI (mC B cs tp os a2 3 f2 0 (pt + 1) (nI 22).toInt64 C S SA F T A) 6 = 3 from rfl), mC_l, tws_126 n Tp 22 22 (by omega) (by omega), if_pos rfl]
  rw [tws_136r n Tp os hO rfl rfl hos, mC_r3, mC_i0, mC_wr3, mC_wi2]
theorem tw_24n (n Tp : Nat) {tpe : St} {x : Int64} {B : St} {cs tp os ap kd fr pt : Nat} {nm : Int64} {C S SA F T : Nat → Int32} {A : Nat → Int64} (hn : 41 < n) (ht : tp ≤ 40) (s : Nat → Nat) (hs : ∀ i : Nat, i < tp → S i = nI (s i) ∧ s i < 100) (hw : 0 < cN (fun i => decide (23 ≤ s i ∧ s i ≤ 24)) tp) (hM : df_X2_meaning n Tp (tpe, mC B cs tp os ap kd fr 0 pt nm C S SA F T A) = some (nI 24, (tpe, mC B cs tp os ap kd fr 0 pt x C S SA F T A))) : df_X2_takeWord n Tp (tpe, mC B cs tp os ap kd fr 0 pt nm C S SA F T A) = some (nI 0, (tpe, mC B cs tp os ap kd fr (1 + 8 * fr) pt x C S SA F T A)) := by
  have cl := cN_le (fun i => decide (23 ≤ s i ∧ s i ≤ 24)) tp
  exact (tws_17 n Tp 24 hM (by omega)).trans (tws_42r n Tp 24 _ (by omega) hw (by omega) (wa_1 n 23 24 (by decide) (by decide) (by omega) hn s hs) (bl_1 n 1))

/-- both readers, joined: the text; how both end; what stays between two tokens, before an operand (iA) and behind one (iB) -/
def txt (n Tp L : Nat) (z : Nat → Nat) (tpe BC BR : St) : Prop := sO BC 0 = some Tp ∧ sI BC 4 = nI L ∧ sI BR 0 = nI L ∧ L ≤ 120 ∧ 130 < n ∧ (∀ i : Nat, i < L → 32 ≤ z i ∧ z i ≤ 126) ∧ (∀ i : Nat, z i < 127) ∧ (∀ i : Nat, i < L → sR tpe 0 i = nI (z i)) ∧ (∀ i : Nat, i < L → sR BR 0 i = nI (z i))
def wEnd (BC BR tpe : St) (X : St × St) (c : Option (St × St)) (r : Option (Int32 × (St × (St × St)))) : Prop := ∃ (cs tp os ap kd fr ft pt : Nat) (nm : Int64) (C S SA F T : Nat → Int32) (A : Nat → Int64) (x1 : Int32) (bp tk st ts op : Nat) (tv : Int64) (K P OA : Nat → Int32) (N : Nat → Int64), c = some (tpe, mC BC cs tp os ap kd fr ft pt nm C S SA F T A) ∧ r = some (x1, (mR BR bp tk st ts op ft tv K P OA N, X)) ∧ ft < 2 ^ 31 ∧ (ft = 0 → ∃ (d : Dn) (s oc ro : Nat) (pos : Nat → Nat), gJ d s oc ro 0 cs 0 ts 0 os C A F T K P N pos ∧ cs ≤ 160 ∧ s ≤ 41 ∧ os ≤ 40)
theorem wE_f {BC BR tpe : St} {X : St × St} {cs tp os ap kd fr ft pt : Nat} {nm : Int64} {C S SA F T : Nat → Int32} {A : Nat → Int64} {x1 : Int32} {bp tk st ts op : Nat} {tv : Int64} {K P OA : Nat → Int32} {N : Nat → Int64} (h : 0 < ft) (h2 : ft < 2 ^ 31) : wEnd BC BR tpe X (some (tpe, mC BC cs tp os ap kd fr ft pt nm C S SA F T A)) (some (x1, (mR BR bp tk st ts op ft tv K P OA N, X))) := ⟨cs, tp, os, ap, kd, fr, ft, pt, nm, C, S, SA, F, T, A, x1, bp, tk, st, ts, op, tv, K, P, OA, N, rfl, rfl, h2, fun z => absurd z (by omega)⟩
theorem nx_e {n Tp L : Nat} {z : Nat → Nat} {tpe BC BR : St} (hT : txt n Tp L z tpe BC BR) {p : Nat} (hp : p ≤ L) (cs tp os kd fr ft pt : Nat) (nm : Int64) (C S SA F T : Nat → Int32) (A : Nat → Int64) : ∃ (p' κ q : Nat) (x : Int64), df_X2_next n Tp (tpe, mC BC cs tp os p kd fr ft pt nm C S SA F T A) = some (tpe, mC BC cs tp os p' κ q ft pt x C S SA F T A) := by
  obtain ⟨h1, h2, h3, h4, h5, h6, h7, h8, h9⟩ := hT
  obtain ⟨q, p', κ, s, τ, μ, g, v, e1, e2, e3, e4, e5, e6⟩ := tk_all n Tp L p h1 h2 h3 h4 h5 h6 h7 h8 h9 hp
  obtain ⟨x, hx, _⟩ := e5 cs tp os kd fr ft pt nm C S SA F T A
  exact ⟨p', κ, q, x, hx⟩
theorem t169 (n Tp b : Nat) {s u : St × St} (hb : b < 2) (h : df_X2_next n Tp s = some u) : df_X2_takeOperand_169 n Tp (nI b) s = some (nI b, u) := by
  rcases (show b = 0 ∨ b = 1 by omega) with rfl | rfl
  · simp (disch := (first | assumption | decide | omega)) only [df_X2_takeOperand_169, h, eq_self, Nat.reduceEqDiff, Nat.reduceLeDiff, no_1, no_1024, pk_mul, nI_add, nm_ck, nI_clamp, nI_ltI, nI_leI, nI_eq, nb_b2, nb_b1, ↓nb_let, nm_z0, nm_z1, nb_II, nb_IR, nb_RI, nb_RR, nm_IL, nm_IQ, nm_RL, nm_RQ, nm_LI, nm_LR, nm_LL, nm_LQ, nm_QI, nm_QR, nm_QL, nm_QQ, nm_rr, nm_ii, nm_eqm, not_false_eq_true, pk_sub, nm_div, nm_shl, nm_shr, nm_ush, nm_or8, nm_or64, nm_or256, nm_m1, nm_m3, nm_m7, nm_m15, nm_m31, nm_m63, nm_m255, nm_m511, nm_m1023, nm_m2047, nm_m65535, Nat.reduceMod, Nat.reducePow, Nat.reduceAdd, Nat.reduceSub, Nat.reduceMul, nm_bo, nm_bi, nm_rc, nm_ic, nm_ri, nm_rl, nm_rq, nm_ql, nm_qi, nm_li, nm_us, nm_uu, nm_cp, nm_sa31, nm_sa7, nm_m127, nm_m2, nm_nz, nm_nzk, nm_eq32, nm_nzf, if_true, if_false, ↓reduceIte, if_pos, if_neg]
  · simp (disch := (first | assumption | decide | omega)) only [df_X2_takeOperand_169, h, eq_self, Nat.reduceEqDiff, Nat.reduceLeDiff, no_1, no_1024, pk_mul, nI_add, nm_ck, nI_clamp, nI_ltI, nI_leI, nI_eq, nb_b2, nb_b1, ↓nb_let, nm_z0, nm_z1, nb_II, nb_IR, nb_RI, nb_RR, nm_IL, nm_IQ, nm_RL, nm_RQ, nm_LI, nm_LR, nm_LL, nm_LQ, nm_QI, nm_QR, nm_QL, nm_QQ, nm_rr, nm_ii, nm_eqm, not_false_eq_true, pk_sub, nm_div, nm_shl, nm_shr, nm_ush, nm_or8, nm_or64, nm_or256, nm_m1, nm_m3, nm_m7, nm_m15, nm_m31, nm_m63, nm_m255, nm_m511, nm_m1023, nm_m2047, nm_m65535, Nat.reduceMod, Nat.reducePow, Nat.reduceAdd, Nat.reduceSub, Nat.reduceMul, nm_bo, nm_bi, nm_rc, nm_ic, nm_ri, nm_rl, nm_rq, nm_ql, nm_qi, nm_li, nm_us, nm_uu, nm_cp, nm_sa31, nm_sa7, nm_m127, nm_m2, nm_nz, nm_nzk, nm_eq32, nm_nzf, if_true, if_false, ↓reduceIte, if_pos, if_neg]
theorem t148 (n Tp b : Nat) {s u : St × St} (hb : b < 2) (h : df_X2_next n Tp s = some u) : df_X2_takeOperator_148 n Tp (nI b) s = some (nI b, u) := by
  rcases (show b = 0 ∨ b = 1 by omega) with rfl | rfl
  · simp (disch := (first | assumption | decide | omega)) only [df_X2_takeOperator_148, h, eq_self, Nat.reduceEqDiff, Nat.reduceLeDiff, no_1, no_1024, pk_mul, nI_add, nm_ck, nI_clamp, nI_ltI, nI_leI, nI_eq, nb_b2, nb_b1, ↓nb_let, nm_z0, nm_z1, nb_II, nb_IR, nb_RI, nb_RR, nm_IL, nm_IQ, nm_RL, nm_RQ, nm_LI, nm_LR, nm_LL, nm_LQ, nm_QI, nm_QR, nm_QL, nm_QQ, nm_rr, nm_ii, nm_eqm, not_false_eq_true, pk_sub, nm_div, nm_shl, nm_shr, nm_ush, nm_or8, nm_or64, nm_or256, nm_m1, nm_m3, nm_m7, nm_m15, nm_m31, nm_m63, nm_m255, nm_m511, nm_m1023, nm_m2047, nm_m65535, Nat.reduceMod, Nat.reducePow, Nat.reduceAdd, Nat.reduceSub, Nat.reduceMul, nm_bo, nm_bi, nm_rc, nm_ic, nm_ri, nm_rl, nm_rq, nm_ql, nm_qi, nm_li, nm_us, nm_uu, nm_cp, nm_sa31, nm_sa7, nm_m127, nm_m2, nm_nz, nm_nzk, nm_eq32, nm_nzf, if_true, if_false, ↓reduceIte, if_pos, if_neg]
  · simp (disch := (first | assumption | decide | omega)) only [df_X2_takeOperator_148, h, eq_self, Nat.reduceEqDiff, Nat.reduceLeDiff, no_1, no_1024, pk_mul, nI_add, nm_ck, nI_clamp, nI_ltI, nI_leI, nI_eq, nb_b2, nb_b1, ↓nb_let, nm_z0, nm_z1, nb_II, nb_IR, nb_RI, nb_RR, nm_IL, nm_IQ, nm_RL, nm_RQ, nm_LI, nm_LR, nm_LL, nm_LQ, nm_QI, nm_QR, nm_QL, nm_QQ, nm_rr, nm_ii, nm_eqm, not_false_eq_true, pk_sub, nm_div, nm_shl, nm_shr, nm_ush, nm_or8, nm_or64, nm_or256, nm_m1, nm_m3, nm_m7, nm_m15, nm_m31, nm_m63, nm_m255, nm_m511, nm_m1023, nm_m2047, nm_m65535, Nat.reduceMod, Nat.reducePow, Nat.reduceAdd, Nat.reduceSub, Nat.reduceMul, nm_bo, nm_bi, nm_rc, nm_ic, nm_ri, nm_rl, nm_rq, nm_ql, nm_qi, nm_li, nm_us, nm_uu, nm_cp, nm_sa31, nm_sa7, nm_m127, nm_m2, nm_nz, nm_nzk, nm_eq32, nm_nzf, if_true, if_false, ↓reduceIte, if_pos, if_neg]
theorem wA_f {n Tp L : Nat} {z : Nat → Nat} {tpe BC BR : St} (hT : txt n Tp L z tpe BC BR) {X : St × St} {r : Option (Int32 × (St × (St × St)))} (m k b : Nat) {cs tp os ap kd fr pt cs2 tp2 os2 ap2 kd2 fr2 ft pt2 : Nat} {nm nm2 : Int64} {C S SA F T C2 S2 SA2 F2 T2 : Nat → Int32} {A A2 : Nat → Int64} {x1 : Int32} {bp tk st ts op : Nat} {tv : Int64} {K P OA : Nat → Int32} {N : Nat → Int64} (hto : df_X2_takeOperand n Tp (tpe, mC BC cs tp os ap kd fr 0 pt nm C S SA F T A) = df_X2_takeOperand_169 n Tp (nI b) (tpe, mC BC cs2 tp2 os2 ap2 kd2 fr2 ft pt2 nm2 C2 S2 SA2 F2 T2 A2)) (hb : b < 2) (hp : ap2 ≤ L) (hf : 0 < ft) (hf2 : ft < 2 ^ 31) (hk : k < 1000) (hr : r = some (x1, (mR BR bp tk st ts op ft tv K P OA N, X))) : wEnd BC BR tpe X (df_X2_read_11 n Tp (m + 2) (nI 1) (nI 1) (nI (k + 1)) (tpe, mC BC cs tp os ap kd fr 0 pt nm C S SA F T A)) r := by
  obtain ⟨p3, κ3, q3, x3, e⟩ := nx_e hT hp cs2 tp2 os2 kd2 fr2 ft pt2 nm2 C2 S2 SA2 F2 T2 A2
  rw [lpt_1 n Tp (m + 1) k hk (hto.trans (t169 n Tp b hb e)), lp_f n Tp m _ _ _ hf hf2, hr]
  exact wE_f hf hf2
theorem wB_f {n Tp L : Nat} {z : Nat → Nat} {tpe BC BR : St} (hT : txt n Tp L z tpe BC BR) {X : St × St} {r : Option (Int32 × (St × (St × St)))} (m k b : Nat) {cs tp os ap kd fr pt cs2 tp2 os2 ap2 kd2 fr2 ft pt2 : Nat} {nm nm2 : Int64} {C S SA F T C2 S2 SA2 F2 T2 : Nat → Int32} {A A2 : Nat → Int64} {x1 : Int32} {bp tk st ts op : Nat} {tv : Int64} {K P OA : Nat → Int32} {N : Nat → Int64} (hkd : 0 < kd) (hkd2 : kd < 100) (hto : df_X2_takeOperator n Tp (tpe, mC BC cs tp os ap kd fr 0 pt nm C S SA F T A) = df_X2_takeOperator_148 n Tp (nI b) (tpe, mC BC cs2 tp2 os2 ap2 kd2 fr2 ft pt2 nm2 C2 S2 SA2 F2 T2 A2)) (hb : b < 2) (hp : ap2 ≤ L) (hf : 0 < ft) (hf2 : ft < 2 ^ 31) (hk : k < 1000) (hr : r = some (x1, (mR BR bp tk st ts op ft tv K P OA N, X))) : wEnd BC BR tpe X (df_X2_read_11 n Tp (m + 2) (nI 0) (nI 1) (nI (k + 1)) (tpe, mC BC cs tp os ap kd fr 0 pt nm C S SA F T A)) r := by
  obtain ⟨p3, κ3, q3, x3, e⟩ := nx_e hT hp cs2 tp2 os2 kd2 fr2 ft pt2 nm2 C2 S2 SA2 F2 T2 A2
  rw [lp_o n Tp (m + 1) k hk hkd hkd2 (hto.trans (t148 n Tp b hb e)), lp_f n Tp m _ _ _ hf hf2, hr]
  exact wE_f hf hf2
def iA (l : List Nat) (L p cs ts os σ pt : Nat) (C : Nat → Int32) (A : Nat → Int64) (F T K P : Nat → Int32) (N : Nat → Int64) (pos : Nat → Nat) (S SA OA : Nat → Int32) : Prop := frs C A F T K P N pos S SA OA l cs ts os σ ∧ nOp l ≤ 8 ∧ pt ≤ 40 ∧ cs + l.length ≤ 2 * pt ∧ l.length ≤ pt ∧ σ ≤ pt ∧ 2 * os ≤ pt ∧ ts ≤ p ∧ p ≤ L
def iB (l : List Nat) (L p cs ts os pt : Nat) (C : Nat → Int32) (A : Nat → Int64) (F T K P : Nat → Int32) (N : Nat → Int64) (pos : Nat → Nat) (S SA OA : Nat → Int32) : Prop := ∃ (c t j σ s : Nat) (d : Dn), frs C A F T K P N pos S SA OA l c t j σ ∧ gJ d s 20 0 c cs t ts j os C A F T K P N pos ∧ (hOb l = true → os = j) ∧ σ + s ≤ pt ∧ nOp l ≤ 8 ∧ pt ≤ 40 ∧ cs + l.length ≤ 2 * pt ∧ l.length ≤ pt ∧ 2 * os ≤ pt ∧ ts ≤ p ∧ p ≤ L
theorem nOp_u {o : Nat} {l : List Nat} (h : o < 22) : nOp (o :: l) = nOp l := by
  show (if 22 ≤ o then 1 else 0) + nOp l = nOp l
  rw [if_neg (by omega), Nat.zero_add]
theorem nOp_o {o : Nat} {l : List Nat} (h : 22 ≤ o) : nOp (o :: l) = nOp l + 1 := by
  show (if 22 ≤ o then 1 else 0) + nOp l = nOp l + 1
  rw [if_pos h, Nat.add_comm]
/-- leaves -/
def lf (o τ : Nat) (a w : Int64) : Prop := (o = 30 ∧ τ = 1 ∧ a = w) ∨ (o = 31 ∧ τ = 2 ∧ ∃ g : Nat, g < 32 ∧ a = (nI g).toInt64 ∧ w = (nI g).toInt64) ∨ (o = 31 ∧ τ = 3 ∧ a = (nI 32).toInt64) ∨ (o = 32 ∧ τ = 4) ∨ (o = 33 ∧ τ = 5)
theorem op30 (n c : Nat) (a : Int64) (M : St × St) : df_X2_operand n (nI c) (nI 30) a M = some (a, M) := by
  simp (disch := (first | assumption | decide | omega)) only [df_X2_operand_50, df_X2_operand_0, df_X2_operand, eq_self, Nat.reduceEqDiff, Nat.reduceLeDiff, nl_0, nl_3, nl_31, nl_32, nl_33, no_1, no_1024, pk_mul, nI_add, nm_ck, nI_clamp, nI_ltI, nI_leI, nI_eq, nb_b2, nb_b1, ↓nb_let, nm_z0, nm_z1, nb_II, nb_IR, nb_RI, nb_RR, nm_IL, nm_IQ, nm_RL, nm_RQ, nm_LI, nm_LR, nm_LL, nm_LQ, nm_QI, nm_QR, nm_QL, nm_QQ, nm_rr, nm_ii, nm_eqm, not_false_eq_true, pk_sub, nm_div, nm_shl, nm_shr, nm_ush, nm_or8, nm_or64, nm_or256, nm_m1, nm_m3, nm_m7, nm_m15, nm_m31, nm_m63, nm_m255, nm_m511, nm_m1023, nm_m2047, nm_m65535, Nat.reduceMod, Nat.reducePow, Nat.reduceAdd, Nat.reduceSub, Nat.reduceMul, nm_bo, nm_bi, nm_rc, nm_ic, nm_ri, nm_rl, nm_rq, nm_ql, nm_qi, nm_li, nm_us, nm_uu, nm_cp, nm_sa31, nm_sa7, nm_m127, nm_m2, nm_nz, nm_nzk, nm_eq32, nm_nzf, if_true, if_false, ↓reduceIte, if_pos, if_neg]
theorem lf_g {o τ : Nat} {a w : Int64} (h : lf o τ a w) {b f j : Nat} {C : Nat → Int32} {A : Nat → Int64} {T K P : Nat → Int32} {N : Nat → Int64} {pos : Nat → Nat} (hC : C b = nI o) (hA : A b = a) (hK : K f = nI τ) (hN : N f = w) (hf : f < 120) : ∃ d : Dn, gC d 1 b (b + 1) j j C A T ∧ gR d 20 0 f (f + 1) j j K P N pos := by
  have pN : ∀ {β : Nat} {Y : St}, plc β f (f + 1) K P N Y → sQ Y 0 (β + f) = w := fun hp => ((hp f (Nat.le_refl f) (by omega)).2.1).trans hN
  rcases h with ⟨rfl, rfl, rfl⟩ | ⟨rfl, rfl, g, hg, rfl, rfl⟩ | ⟨rfl, rfl, rfl⟩ | ⟨rfl, rfl⟩ | ⟨rfl, rfl⟩
  · refine ⟨fun _ _ => some a, gC_leaf (by omega) (by omega) (fun _ => a) hC (fun n c M E _ => by rw [hA]; exact op30 n c a M), gR_leaf (fun _ _ => a) hf (Nat.le_refl j) (by omega) (by omega) hK (fun n β X E w' Y d' hE hp hb hd h9 h7 hl => ?_)⟩
    rw [en_1 n d' (β + f) (β + f + 1) hd (by omega) (by omega) h9 h7 hl, pN hp]
  · refine ⟨fun E _ => some (E.1 g), gC_leaf (by omega) (by omega) (fun E => E.1 g) hC (fun n c M E hE => by rw [hA]; exact hE.1 g (by omega)), gR_leaf (fun E _ => E.1 g) hf (Nat.le_refl j) (by omega) (by omega) hK (fun n β X E w' Y d' hE hp hb hd h9 h7 hl => ?_)⟩
    obtain ⟨v, e1, e2⟩ := hE.1 g (by omega)
    rw [en_2 n d' (β + f) (β + f + 1) (v := v) (by rw [pN hp, t3b]; exact e1) hd (by omega) (by omega) h9 h7 hl, e2]
  · refine ⟨fun E _ => some (E.1 32), gC_leaf (by omega) (by omega) (fun E => E.1 32) hC (fun n c M E hE => by rw [hA]; exact hE.1 32 (by omega)), gR_leaf (fun E _ => E.1 32) hf (Nat.le_refl j) (by omega) (by omega) hK (fun n β X E w' Y d' hE hp hb hd h9 h7 hl => ?_)⟩
    obtain ⟨v, e1, e2⟩ := hE.1 32 (by omega)
    rw [en_3 n d' (β + f) (β + f + 1) (v := v) e1 hd (by omega) (by omega) h9 h7 hl, e2]
  · refine ⟨fun E _ => some E.2.1, gC_leaf (by omega) (by omega) (fun E => E.2.1) hC (fun n c M E hE => hE.2.1 _), gR_leaf (fun E _ => E.2.1) hf (Nat.le_refl j) (by omega) (by omega) hK (fun n β X E w' Y d' hE hp hb hd h9 h7 hl => ?_)⟩
    rw [en_4 n d' (β + f) (β + f + 1) hE.2.1 hd (by omega) (by omega) h9 h7 hl]
  · refine ⟨fun E _ => some E.2.2.1, gC_leaf (by omega) (by omega) (fun E => E.2.2.1) hC (fun n c M E hE => hE.2.2.1 _), gR_leaf (fun E _ => E.2.2.1) hf (Nat.le_refl j) (by omega) (by omega) hK (fun n β X E w' Y d' hE hp hb hd h9 h7 hl => ?_)⟩
    obtain ⟨v, e1, e2⟩ := hE.2.2.1
    rw [en_5 n d' (β + f) (β + f + 1) (v := v) e1 hd (by omega) (by omega) h9 h7 hl, e2]
theorem lf_t {o τ : Nat} {a w : Int64} (h : lf o τ a w) : τ ≤ 5 ∧ 1 ≤ τ := by
  rcases h with ⟨_, rfl, _⟩ | ⟨_, rfl, _⟩ | ⟨_, rfl, _⟩ | ⟨_, rfl⟩ | ⟨_, rfl⟩ <;> decide
theorem iA_leaf {l : List Nat} {L p p' cs ts os σ pt o τ : Nat} {a w : Int64} {C : Nat → Int32} {A : Nat → Int64} {F T K P : Nat → Int32} {N : Nat → Int64} {pos : Nat → Nat} {S SA OA : Nat → Int32} (h : iA l L p cs ts os σ pt C A F T K P N pos S SA OA) (hl : lf o τ a w) (hp : pt < 40) (hpp : p < p') (hL : p' ≤ L) (hL2 : L ≤ 120) : iB l L p' (cs + 1) (ts + 1) os (pt + 1) (upd C cs (nI o)) (vp_updL A cs a) F T (upd K ts (nI τ)) (upd P ts (-nI 1)) (vp_updL N ts w) pos S SA OA := by
  obtain ⟨h1, h2, h3, h4, h5, h6, h7, h8, h9⟩ := h
  have ht := lf_t hl
  obtain ⟨d, gc, gr⟩ := lf_g hl (b := cs) (f := ts) (j := os) (C := upd C cs (nI o)) (A := vp_updL A cs a) (T := T) (K := (upd K ts (nI τ))) (P := (upd P ts (-nI 1))) (N := (vp_updL N ts w)) (pos := pos) nm_us updL_s nm_us updL_s (by omega)
  refine ⟨cs, ts, os, σ, 1, d, frs_st (C' := upd C cs (nI o)) (A' := vp_updL A cs a) (F' := F) (T' := T) (K' := (upd K ts (nI τ))) (P' := (upd P ts (-nI 1))) (N' := (vp_updL N ts w)) (pos' := pos) (S' := S) (SA' := SA) (OA' := OA) l cs ts os σ h1 (fun i x => ⟨nm_un (by omega), updL_n (by omega)⟩) (fun i x => ⟨rfl, rfl, rfl⟩) (fun i x => ⟨nm_un (by omega), nm_un (by omega), updL_n (by omega)⟩) (fun i x => ⟨rfl, rfl⟩) (fun i x => rfl), ⟨gc, gr, fun j x y => by omega, fun t x y q => ?_⟩, fun _ => rfl, by omega, h2, by omega, by omega, by omega, by omega, by omega, hL⟩
  rw [show t = ts by omega] at q
  exact absurd q (nk89 nm_us (by omega) (by omega) (by omega))
theorem iA_un {l : List Nat} {L p p' cs ts os σ pt o : Nat} {w : Int64} {C : Nat → Int32} {A : Nat → Int64} {F T K P : Nat → Int32} {N : Nat → Int64} {pos : Nat → Nat} {S SA OA : Nat → Int32} (h : iA l L p cs ts os σ pt C A F T K P N pos S SA OA) (o1 : 19 ≤ o) (o2 : o ≤ 21) (hp : pt < 40) (hpp : p < p') (hL : p' ≤ L) : iA (o :: l) L p' cs (ts + 1) os σ (pt + 1) C A F T (upd K ts (nI (tU o))) (upd P ts (-nI 1)) (vp_updL N ts w) pos (upd S l.length (nI o)) (upd SA l.length (nI 0)) OA := by
  obtain ⟨h1, h2, h3, h4, h5, h6, h7, h8, h9⟩ := h
  refine ⟨⟨nm_us, cs, ts, os, σ, frs_st (C' := C) (A' := A) (F' := F) (T' := T) (K' := (upd K ts (nI (tU o)))) (P' := (upd P ts (-nI 1))) (N' := (vp_updL N ts w)) (pos' := pos) (S' := (upd S l.length (nI o))) (SA' := (upd SA l.length (nI 0))) (OA' := OA) l cs ts os σ h1 (fun i x => ⟨rfl, rfl⟩) (fun i x => ⟨rfl, rfl, rfl⟩) (fun i x => ⟨nm_un (by omega), nm_un (by omega), updL_n (by omega)⟩) (fun i x => ⟨nm_un (by omega), nm_un (by omega)⟩) (fun i x => rfl), Or.inr (Or.inl ⟨o1, o2, rfl, rfl, rfl, rfl, nm_us⟩)⟩, by rw [nOp_u (by omega)]; exact h2, by omega, by show cs + (l.length + 1) ≤ _; omega, by show l.length + 1 ≤ _; omega, by omega, by omega, by omega, hL⟩
theorem iA_op {l : List Nat} {L p p' cs ts os σ pt o : Nat} {w : Int64} {C : Nat → Int32} {A : Nat → Int64} {F T K P : Nat → Int32} {N : Nat → Int64} {pos : Nat → Nat} {S SA OA : Nat → Int32} (h : iA l L p cs ts os σ pt C A F T K P N pos S SA OA) (ho : o = 22 ∨ o = 25) (hp : pt < 40) (h8' : nOp l < 8) (hpp : p < p') (hL : p' ≤ L) : iA (o :: l) L p' cs (ts + 1) os σ (pt + 1) C A F T (upd K ts (nI (if o = 22 then 30 else 32))) (upd P ts (-nI 1)) (vp_updL N ts w) pos (upd S l.length (nI o)) (upd SA l.length (nI 0)) (upd OA (nOp l) (nI ts)) := by
  obtain ⟨h1, h2, h3, h4, h5, h6, h7, h8, h9⟩ := h
  refine ⟨⟨nm_us, cs, ts, os, σ, frs_st (C' := C) (A' := A) (F' := F) (T' := T) (K' := (upd K ts (nI (if o = 22 then 30 else 32)))) (P' := (upd P ts (-nI 1))) (N' := (vp_updL N ts w)) (pos' := pos) (S' := (upd S l.length (nI o))) (SA' := (upd SA l.length (nI 0))) (OA' := (upd OA (nOp l) (nI ts))) l cs ts os σ h1 (fun i x => ⟨rfl, rfl⟩) (fun i x => ⟨rfl, rfl, rfl⟩) (fun i x => ⟨nm_un (by omega), nm_un (by omega), updL_n (by omega)⟩) (fun i x => ⟨nm_un (by omega), nm_un (by omega)⟩) (fun i x => nm_un (by omega)), Or.inr (Or.inr ⟨by omega, by omega, rfl, Or.inl ⟨ho, rfl, rfl, rfl, nm_us, nm_us⟩⟩)⟩, by rw [nOp_o (by omega)]; omega, by omega, by show cs + (l.length + 1) ≤ _; omega, by show l.length + 1 ≤ _; omega, by omega, by omega, by omega, hL⟩
theorem iA_wd {l : List Nat} {L p p' cs ts os σ pt o : Nat} {w w2 : Int64} {C : Nat → Int32} {A : Nat → Int64} {F T K P : Nat → Int32} {N : Nat → Int64} {pos : Nat → Nat} {S SA OA : Nat → Int32} (h : iA l L p cs ts os σ pt C A F T K P N pos S SA OA) (ho : o = 26 ∨ o = 27) (hp : pt + 1 < 40) (h8' : nOp l < 8) (hpp : p + 1 < p') (hL : p' ≤ L) : iA (o :: l) L p' cs (ts + 2) os σ (pt + 2) C A F T (upd (upd K ts (nI (33 - o))) (ts + 1) (nI 32)) (upd (upd P ts (-nI 1)) (ts + 1) (-nI 1)) (vp_updL (vp_updL N ts w) (ts + 1) w2) pos (upd S l.length (nI o)) (upd SA l.length (nI os)) (upd OA (nOp l) (nI (ts + 1))) := by
  obtain ⟨h1, h2, h3, h4, h5, h6, h7, h8, h9⟩ := h
  refine ⟨⟨nm_us, cs, ts, os, σ, frs_st (C' := C) (A' := A) (F' := F) (T' := T) (K' := (upd (upd K ts (nI (33 - o))) (ts + 1) (nI 32))) (P' := (upd (upd P ts (-nI 1)) (ts + 1) (-nI 1))) (N' := (vp_updL (vp_updL N ts w) (ts + 1) w2)) (pos' := pos) (S' := (upd S l.length (nI o))) (SA' := (upd SA l.length (nI os))) (OA' := (upd OA (nOp l) (nI (ts + 1)))) l cs ts os σ h1 (fun i x => ⟨rfl, rfl⟩) (fun i x => ⟨rfl, rfl, rfl⟩) (fun i x => ⟨(nm_un (by omega)).trans (nm_un (by omega)), (nm_un (by omega)).trans (nm_un (by omega)), (updL_n (by omega)).trans (updL_n (by omega))⟩) (fun i x => ⟨nm_un (by omega), nm_un (by omega)⟩) (fun i x => nm_un (by omega)), Or.inr (Or.inr ⟨by omega, by omega, rfl, Or.inr (Or.inl ⟨ho, rfl, rfl, rfl, (nm_un (by omega)).trans nm_us, nm_us, nm_us⟩)⟩)⟩, by rw [nOp_o (by omega)]; omega, by omega, by show cs + (l.length + 1) ≤ _; omega, by show l.length + 1 ≤ _; omega, by omega, by omega, by omega, hL⟩
theorem iA_23 {l : List Nat} {L p p' cs ts os σ pt : Nat} {w w2 : Int64} {C : Nat → Int32} {A : Nat → Int64} {F T K P : Nat → Int32} {N : Nat → Int64} {pos : Nat → Nat} {S SA OA : Nat → Int32} (h : iA l L p cs ts os σ pt C A F T K P N pos S SA OA) (hp : pt + 1 < 40) (h8' : nOp l < 8) (hb : hOb l = false) (hpp : p + 1 < p') (hL : p' ≤ L) : iA (23 :: l) L p' (cs + 1) (ts + 2) (os + 1) σ (pt + 2) (upd C cs (nI 23)) (vp_updL A cs (nI os).toInt64) (upd F os (nI (cs + 1))) T (upd (upd K ts (nI 8)) (ts + 1) (nI 30)) (upd (upd P ts (-nI 1)) (ts + 1) (-nI 1)) (vp_updL (vp_updL N ts w) (ts + 1) w2) (fun i => if i = os then ts else pos i) (upd S l.length (nI 23)) (upd SA l.length (nI os)) (upd OA (nOp l) (nI (ts + 1))) := by
  obtain ⟨h1, h2, h3, h4, h5, h6, h7, h8, h9⟩ := h
  refine ⟨⟨nm_us, cs, ts, os, σ, frs_st (C' := (upd C cs (nI 23))) (A' := (vp_updL A cs (nI os).toInt64)) (F' := (upd F os (nI (cs + 1)))) (T' := T) (K' := (upd (upd K ts (nI 8)) (ts + 1) (nI 30))) (P' := (upd (upd P ts (-nI 1)) (ts + 1) (-nI 1))) (N' := (vp_updL (vp_updL N ts w) (ts + 1) w2)) (pos' := (fun i => if i = os then ts else pos i)) (S' := (upd S l.length (nI 23))) (SA' := (upd SA l.length (nI os))) (OA' := (upd OA (nOp l) (nI (ts + 1)))) l cs ts os σ h1 (fun i x => ⟨nm_un (by omega), updL_n (by omega)⟩) (fun i x => ⟨nm_un (by omega), rfl, if_neg (by omega)⟩) (fun i x => ⟨(nm_un (by omega)).trans (nm_un (by omega)), (nm_un (by omega)).trans (nm_un (by omega)), (updL_n (by omega)).trans (updL_n (by omega))⟩) (fun i x => ⟨nm_un (by omega), nm_un (by omega)⟩) (fun i x => nm_un (by omega)), Or.inr (Or.inr ⟨by omega, by omega, rfl, Or.inr (Or.inr ⟨by omega, rfl, (nm_un (by omega)).trans nm_us, nm_us, nm_us, rfl, by omega, if_pos rfl, nm_us, nm_us, hb, Or.inl ⟨rfl, rfl, nm_us, updL_s⟩⟩)⟩)⟩, by rw [nOp_o (by omega)]; omega, by omega, by show (cs + 1) + (l.length + 1) ≤ _; omega, by show l.length + 1 ≤ _; omega, by omega, by omega, by omega, hL⟩
theorem iA_24 {l : List Nat} {L p p' cs ts os σ pt : Nat} {w w2 : Int64} {C : Nat → Int32} {A : Nat → Int64} {F T K P : Nat → Int32} {N : Nat → Int64} {pos : Nat → Nat} {S SA OA : Nat → Int32} (h : iA l L p cs ts os σ pt C A F T K P N pos S SA OA) (hp : pt + 1 < 40) (h8' : nOp l < 8) (hb : hOb l = false) (hpp : p + 1 < p') (hL : p' ≤ L) : iA (24 :: l) L p' cs (ts + 2) (os + 1) σ (pt + 2) C A (upd F os (nI cs)) T (upd (upd K ts (nI 9)) (ts + 1) (nI 30)) (upd (upd P ts (-nI 1)) (ts + 1) (-nI 1)) (vp_updL (vp_updL N ts w) (ts + 1) w2) (fun i => if i = os then ts else pos i) (upd S l.length (nI 24)) (upd SA l.length (nI os)) (upd OA (nOp l) (nI (ts + 1))) := by
  obtain ⟨h1, h2, h3, h4, h5, h6, h7, h8, h9⟩ := h
  refine ⟨⟨nm_us, cs, ts, os, σ, frs_st (C' := C) (A' := A) (F' := (upd F os (nI cs))) (T' := T) (K' := (upd (upd K ts (nI 9)) (ts + 1) (nI 30))) (P' := (upd (upd P ts (-nI 1)) (ts + 1) (-nI 1))) (N' := (vp_updL (vp_updL N ts w) (ts + 1) w2)) (pos' := (fun i => if i = os then ts else pos i)) (S' := (upd S l.length (nI 24))) (SA' := (upd SA l.length (nI os))) (OA' := (upd OA (nOp l) (nI (ts + 1)))) l cs ts os σ h1 (fun i x => ⟨rfl, rfl⟩) (fun i x => ⟨nm_un (by omega), rfl, if_neg (by omega)⟩) (fun i x => ⟨(nm_un (by omega)).trans (nm_un (by omega)), (nm_un (by omega)).trans (nm_un (by omega)), (updL_n (by omega)).trans (updL_n (by omega))⟩) (fun i x => ⟨nm_un (by omega), nm_un (by omega)⟩) (fun i x => nm_un (by omega)), Or.inr (Or.inr ⟨by omega, by omega, rfl, Or.inr (Or.inr ⟨by omega, rfl, (nm_un (by omega)).trans nm_us, nm_us, nm_us, rfl, by omega, if_pos rfl, nm_us, nm_us, hb, Or.inr ⟨rfl, rfl⟩⟩)⟩)⟩, by rw [nOp_o (by omega)]; omega, by omega, by show cs + (l.length + 1) ≤ _; omega, by show l.length + 1 ≤ _; omega, by omega, by omega, by omega, hL⟩
theorem iB_s {l : List Nat} {L p p' cs c t ts j os σ s oc ro pt o : Nat} {d : Dn} {w : Int64} {C : Nat → Int32} {A : Nat → Int64} {F T K P : Nat → Int32} {N : Nat → Int64} {pos : Nat → Nat} {S SA OA : Nat → Int32} (h1 : frs C A F T K P N pos S SA OA l c t j σ) (hJ : gJ d s oc ro c cs t ts j os C A F T K P N pos) (o1 : 1 ≤ o) (o2 : o ≤ 18) (ho : 3 ≤ o) (hr : 19 ≤ oc ∨ rkC o ≤ rk oc + 1) (he : endT (rkC o) l) (hb : hOb l = true → os = j) (h2 : nOp l ≤ 8) (hp : pt < 40) (h4 : cs + l.length ≤ 2 * pt) (h5 : l.length ≤ pt) (h6 : σ + s ≤ pt) (h7 : 2 * os ≤ pt) (h8 : ts ≤ p) (hpp : p < p') (hL : p' ≤ L) : iA (o :: l) L p' cs (ts + 1) os (σ + s) (pt + 1) C A F T (upd K ts (nI (o + 9))) (upd P ts (-nI 1)) (vp_updL N ts w) pos (upd S l.length (nI o)) (upd SA l.length (nI cs)) OA := by
  have k1 := hJ.1.1
  have k2 := hJ.2.1.1
  have k3 := hJ.1.2.2.1
  have rb := rkC_b o1 o2
  have J1 := gJ_st (C' := C) (A' := A) (F' := F) (T' := T) (K' := (upd K ts (nI (o + 9)))) (P' := (upd P ts (-nI 1))) (N' := (vp_updL N ts w)) (pos' := pos) hJ (fun i x y => ⟨rfl, rfl⟩) (fun i x y => ⟨rfl, rfl, rfl⟩) (fun i x y => ⟨nm_un (by omega), nm_un (by omega), updL_n (by omega)⟩)
  have ob : ordB o l := by
    match l, he with
    | [], _ => exact True.intro
    | o' :: _, e =>
      rcases e with e | ⟨e, e2⟩
      · exact Or.inl e
      · exact Or.inr ⟨e, by omega⟩
  refine ⟨⟨nm_us, c, t, j, σ, frs_st (C' := C) (A' := A) (F' := F) (T' := T) (K' := (upd K ts (nI (o + 9)))) (P' := (upd P ts (-nI 1))) (N' := (vp_updL N ts w)) (pos' := pos) (S' := (upd S l.length (nI o))) (SA' := (upd SA l.length (nI cs))) (OA' := OA) l c t j σ h1 (fun i x => ⟨rfl, rfl⟩) (fun i x => ⟨rfl, rfl, rfl⟩) (fun i x => ⟨nm_un (by omega), nm_un (by omega), updL_n (by omega)⟩) (fun i x => ⟨nm_un (by omega), nm_un (by omega)⟩) (fun i x => rfl), Or.inl ⟨o1, o2, ob, hb, d, s, oc, ro, cs, ts, J1, by omega, nm_us, rfl, rfl, Or.inr ⟨ho, rfl⟩⟩⟩, by rw [nOp_u (by omega)]; exact h2, by omega, by show cs + (l.length + 1) ≤ _; omega, by show l.length + 1 ≤ _; omega, by omega, by omega, by omega, hL⟩
theorem iB_g {l : List Nat} {L p p' cs c t ts j os σ s oc ro pt o : Nat} {d : Dn} {w : Int64} {C : Nat → Int32} {A : Nat → Int64} {F T K P : Nat → Int32} {N : Nat → Int64} {pos : Nat → Nat} {S SA OA : Nat → Int32} (h1 : frs C A F T K P N pos S SA OA l c t j σ) (hJ : gJ d s oc ro c cs t ts j os C A F T K P N pos) (o1 : 1 ≤ o) (o2 : o ≤ 18) (ho : o ≤ 2) (hr : 19 ≤ oc ∨ rkC o ≤ rk oc + 1) (he : endT (rkC o) l) (hb : hOb l = true → os = j) (h2 : nOp l ≤ 8) (hp : pt < 40) (h4 : cs + l.length ≤ 2 * pt) (h5 : l.length ≤ pt) (h6 : σ + s ≤ pt) (h7 : 2 * os ≤ pt) (h8 : ts ≤ p) (hpp : p < p') (hL : p' ≤ L) : iA (o :: l) L p' (cs + 1) (ts + 1) os (σ + s) (pt + 1) (upd C cs (nI (36 - o))) (vp_updL A cs 0) F T (upd K ts (nI (o + 9))) (upd P ts (-nI 1)) (vp_updL N ts w) pos (upd S l.length (nI o)) (upd SA l.length (nI cs)) OA := by
  have k1 := hJ.1.1
  have k2 := hJ.2.1.1
  have k3 := hJ.1.2.2.1
  have rb := rkC_b o1 o2
  have J1 := gJ_st (C' := (upd C cs (nI (36 - o)))) (A' := (vp_updL A cs 0)) (F' := F) (T' := T) (K' := (upd K ts (nI (o + 9)))) (P' := (upd P ts (-nI 1))) (N' := (vp_updL N ts w)) (pos' := pos) hJ (fun i x y => ⟨nm_un (by omega), updL_n (by omega)⟩) (fun i x y => ⟨rfl, rfl, rfl⟩) (fun i x y => ⟨nm_un (by omega), nm_un (by omega), updL_n (by omega)⟩)
  have ob : ordB o l := by
    match l, he with
    | [], _ => exact True.intro
    | o' :: _, e =>
      rcases e with e | ⟨e, e2⟩
      · exact Or.inl e
      · exact Or.inr ⟨e, by omega⟩
  refine ⟨⟨nm_us, c, t, j, σ, frs_st (C' := (upd C cs (nI (36 - o)))) (A' := (vp_updL A cs 0)) (F' := F) (T' := T) (K' := (upd K ts (nI (o + 9)))) (P' := (upd P ts (-nI 1))) (N' := (vp_updL N ts w)) (pos' := pos) (S' := (upd S l.length (nI o))) (SA' := (upd SA l.length (nI cs))) (OA' := OA) l c t j σ h1 (fun i x => ⟨nm_un (by omega), updL_n (by omega)⟩) (fun i x => ⟨rfl, rfl, rfl⟩) (fun i x => ⟨nm_un (by omega), nm_un (by omega), updL_n (by omega)⟩) (fun i x => ⟨nm_un (by omega), nm_un (by omega)⟩) (fun i x => rfl), Or.inl ⟨o1, o2, ob, hb, d, s, oc, ro, cs, ts, J1, by omega, nm_us, rfl, rfl, Or.inl ⟨ho, nm_us, rfl, nm_us⟩⟩⟩, by rw [nOp_u (by omega)]; exact h2, by omega, by show (cs + 1) + (l.length + 1) ≤ _; omega, by show l.length + 1 ≤ _; omega, by omega, by omega, by omega, hL⟩

def wA (n Tp L : Nat) (tpe BC BR : St) (X : St × St) (g : Nat) : Prop := ∀ (p k m m2 pt os cs ts σ tk st kd fr : Nat) (l : List Nat) (nm tv : Int64) (C S SA F T K P OA : Nat → Int32) (A N : Nat → Int64) (pos : Nat → Nat) (u : St × St), L - p < g → L - p < k → k ≤ 121 → k < m → L - p < m2 → iA l L p cs ts os σ pt C A F T K P N pos S SA OA → df_X2_next n Tp (tpe, mC BC cs l.length os p kd fr 0 pt nm C S SA F T A) = some u → wEnd BC BR tpe X (df_X2_read_11 n Tp m (nI 1) (nI 1) (nI k) u) (df_X15_read_24 n m2 (nI pt) (nI 0) (mR BR p tk st ts (nOp l) 0 tv K P OA N, X))
def wB (n Tp L : Nat) (tpe BC BR : St) (X : St × St) (g : Nat) : Prop := ∀ (p k m m2 pt os cs ts tk st kd fr : Nat) (l : List Nat) (nm tv : Int64) (C S SA F T K P OA : Nat → Int32) (A N : Nat → Int64) (pos : Nat → Nat) (u : St × St), L - p < g → L - p < k → k ≤ 121 → k < m → L - p < m2 → iB l L p cs ts os pt C A F T K P N pos S SA OA → df_X2_next n Tp (tpe, mC BC cs l.length os p kd fr 0 pt nm C S SA F T A) = some u → wEnd BC BR tpe X (df_X2_read_11 n Tp m (nI 0) (nI 1) (nI k) u) (df_X15_read_24 n m2 (nI pt) (nI 1) (mR BR p tk st ts (nOp l) 0 tv K P OA N, X))
theorem tS_v {s : Nat} (h1 : 1 ≤ s) (h : s ≤ 19 ∨ s = 21 ∨ s = 22 ∨ s = 25 ∨ s = 28 ∨ s = 29) : (s ≤ 18 ∧ tS s = s + 9) ∨ (s = 19 ∧ tS s = 28) ∨ (s = 21 ∧ tS s = 29) ∨ (s = 22 ∧ tS s = 30) ∨ (s = 25 ∧ tS s = 32) ∨ (s = 28 ∧ tS s = 31) ∨ (s = 29 ∧ tS s = 33) := by
  by_cases a : s ≤ 18
  · refine Or.inl ⟨a, ?_⟩
    unfold tS
    rw [if_neg (by omega), if_pos a]
  · rcases (show s = 19 ∨ s = 21 ∨ s = 22 ∨ s = 25 ∨ s = 28 ∨ s = 29 by omega) with rfl | rfl | rfl | rfl | rfl | rfl
    · exact Or.inr (Or.inl ⟨rfl, rfl⟩)
    · exact Or.inr (Or.inr (Or.inl ⟨rfl, rfl⟩))
    · exact Or.inr (Or.inr (Or.inr (Or.inl ⟨rfl, rfl⟩)))
    · exact Or.inr (Or.inr (Or.inr (Or.inr (Or.inl ⟨rfl, rfl⟩))))
    · exact Or.inr (Or.inr (Or.inr (Or.inr (Or.inr (Or.inl ⟨rfl, rfl⟩)))))
    · exact Or.inr (Or.inr (Or.inr (Or.inr (Or.inr (Or.inr ⟨rfl, rfl⟩)))))
theorem tk_v {κ s τ μ g : Nat} {Q : Prop} (hd : (κ = 1 ∧ τ = 1) ∨ (κ = 2 ∧ tkT μ τ g ∧ Q) ∨ (κ = 3 ∧ 1 ≤ s ∧ (s ≤ 19 ∨ s = 21 ∨ s = 22 ∨ s = 25 ∨ s = 28 ∨ s = 29) ∧ τ = tS s) ∨ (κ = 4 ∧ τ = 34)) : τ < 100 ∧ (τ = 32 → κ = 3 ∧ s = 25) ∧ (τ = 30 → κ = 3 ∧ s = 22) ∧ (κ = 3 → s < 100) ∧ 0 < κ ∧ κ < 5 ∧ (κ = 3 ∧ s = 25 → τ = 32) ∧ (κ = 3 ∧ s = 22 → τ = 30) := by
  rcases hd with ⟨h1, h2⟩ | ⟨h1, h2, _⟩ | ⟨h1, h2, h3, h4⟩ | ⟨h1, h2⟩
  · omega
  · unfold tkT at h2
    omega
  · have e := tS_v h2 h3
    rw [← h4] at e
    omega
  · omega
theorem to_w2 (n Tp : Nat) {tpe : St} {B : St} {cs tp os ap fr ft pt : Nat} {nm : Int64} {C S SA F T : Nat → Int32} {A : Nat → Int64} {b : Int32} {u : St × St} (h : df_X2_takeWord n Tp (tpe, mC B cs tp os ap 2 fr ft pt nm C S SA F T A) = some (b, u)) : df_X2_takeOperand n Tp (tpe, mC B cs tp os ap 2 fr ft pt nm C S SA F T A) = df_X2_takeOperand_169 n Tp b u := by
  rw [to_w, h, nb_b2]
/-- a leaf -/
theorem sA_leaf {n Tp L : Nat} {z : Nat → Nat} {tpe BC BR : St} {X : St × St} {g : Nat} (hT : txt n Tp L z tpe BC BR) (ihB : wB n Tp L tpe BC BR X g) {p q p' k m m2 pt os cs ts σ : Nat} {l : List Nat} {x w : Int64} {C : Nat → Int32} {A : Nat → Int64} {F T K P : Nat → Int32} {N : Nat → Int64} {pos : Nat → Nat} {S SA OA : Nat → Int32} (hI : iA l L p cs ts os σ pt C A F T K P N pos S SA OA) (hg : L - p < g + 1) (hk : L - p < k + 1) (hk2 : k + 1 ≤ 121) (hm : k + 1 < m + 2) (hm2 : L - p < m2 + 1) (pq : p ≤ q) (qp : q < p') (pL : p' ≤ L) {y a : Int64} {κ o τ : Nat} (h1 : pt < 40 → df_X2_takeOperand n Tp (tpe, mC BC cs l.length os p' κ q 0 pt x C S SA F T A) = df_X2_takeOperand_169 n Tp (nI 0) (tpe, mC BC (cs + 1) l.length os p' κ q 0 (pt + 1) y (upd C cs (nI o)) S SA F T (vp_updL A cs a))) (h2 : pt = 40 → df_X2_takeOperand n Tp (tpe, mC BC cs l.length os p' κ q 0 pt x C S SA F T A) = df_X2_takeOperand_169 n Tp (nI 0) (tpe, mC BC cs l.length os p' κ q (3 + 8 * q) 41 y C S SA F T A)) (hl : lf o τ a w) : wEnd BC BR tpe X (df_X2_read_11 n Tp (m + 2) (nI 1) (nI 1) (nI (k + 1)) (tpe, mC BC cs l.length os p' κ q 0 pt x C S SA F T A)) (df_X15_read_126 n (df_X15_read_24 n m2) (nI pt) (nI 0) (mR BR p' τ q ts (nOp l) 0 w K P OA N, X)) := by
  have ht := lf_t hl
  have hL := hT.2.2.2.1
  have i3 := hI.2.2.1
  have i8 := hI.2.2.2.2.2.2.2.1
  rw [r126_y n (nI pt) (Or.inl (by omega))]
  by_cases hp : pt < 40
  · rw [r262_t n pt (nI 0) hp (by omega) (by omega), r397 n _ (by omega) (by omega), show stT τ = 1 by unfold stT; rw [if_neg (by omega), if_neg (by omega), if_pos (by omega)]]
    obtain ⟨p3, κ3, q3, x3, e⟩ := nx_e hT pL (cs + 1) l.length os κ q 0 (pt + 1) y (upd C cs (nI o)) S SA F T (vp_updL A cs a)
    rw [lpt_1 n Tp (m + 1) k (by omega) ((h1 hp).trans (t169 n Tp 0 (by omega) e))]
    exact ihB p' k (m + 1) m2 (pt + 1) os (cs + 1) (ts + 1) τ q κ q l y w (upd C cs (nI o)) S SA F T (upd K ts (nI τ)) (upd P ts (-nI 1)) OA (vp_updL A cs a) (vp_updL N ts w) pos _ (by omega) (by omega) (by omega) (by omega) (by omega) (iA_leaf hI hl hp (by omega) pL hL) e
  · have hp40 : pt = 40 := by omega
    subst hp40
    rw [r262_3 n (nI 0) (nI 0) (by omega) (by omega) (by omega)]
    exact wA_f hT m k 0 (h2 rfl) (by omega) pL (by omega) (by omega) (by omega) rfl
theorem sA_u19 {n Tp L : Nat} {z : Nat → Nat} {tpe BC BR : St} {X : St × St} {g : Nat} (hT : txt n Tp L z tpe BC BR) (ihA : wA n Tp L tpe BC BR X g) {p q p' k m m2 pt os cs ts σ : Nat} {l : List Nat} {x w : Int64} {C : Nat → Int32} {A : Nat → Int64} {F T K P : Nat → Int32} {N : Nat → Int64} {pos : Nat → Nat} {S SA OA : Nat → Int32} (hI : iA l L p cs ts os σ pt C A F T K P N pos S SA OA) (hg : L - p < g + 1) (hk : L - p < k + 1) (hk2 : k + 1 ≤ 121) (hm : k + 1 < m + 2) (hm2 : L - p < m2 + 1) (pq : p ≤ q) (qp : q < p') (pL : p' ≤ L) : wEnd BC BR tpe X (df_X2_read_11 n Tp (m + 2) (nI 1) (nI 1) (nI (k + 1)) (tpe, mC BC cs l.length os p' 3 q 0 pt (nI 19).toInt64 C S SA F T A)) (df_X15_read_126 n (df_X15_read_24 n m2) (nI pt) (nI 0) (mR BR p' 28 q ts (nOp l) 0 w K P OA N, X)) := by
  have hL := hT.2.2.2.1
  have i3 := hI.2.2.1
  have i5 := hI.2.2.2.2.1
  have i8 := hI.2.2.2.2.2.2.2.1
  rw [r126_y n (nI pt) (by omega)]
  by_cases hp : pt < 40
  · rw [r262_t n pt (nI 0) hp (by omega) (by omega), r397 n _ (by omega) (by omega), show stT 28 = 0 from rfl]
    obtain ⟨p3, κ3, q3, x3, e⟩ := nx_e hT pL cs (l.length + 1) os 3 q 0 (pt + 1) (nI 19).toInt64 C (upd S l.length (nI 19)) (upd SA l.length (nI 0)) F T A
    rw [lpt_1 n Tp (m + 1) k (by omega) ((to_u19 n Tp hp (by omega)).trans (t169 n Tp 1 (by omega) e))]
    have f := ihA p' k (m + 1) m2 (pt + 1) os cs (ts + 1) σ 28 q 3 q (19 :: l) (nI 19).toInt64 w C (upd S l.length (nI 19)) (upd SA l.length (nI 0)) F T (upd K ts (nI 28)) (upd P ts (-nI 1)) OA A (vp_updL N ts w) pos _ (by omega) (by omega) (by omega) (by omega) (by omega) (iA_un hI (by omega) (by omega) hp (by omega) pL) e
    rw [nOp_u (by omega)] at f
    exact f
  · have hp40 : pt = 40 := by omega
    subst hp40
    rw [r262_3 n (nI 0) (nI 0) (by omega) (by omega) (by omega)]
    exact wA_f hT m k 1 (to_u19f n Tp (by omega)) (by omega) pL (by omega) (by omega) (by omega) rfl
theorem sA_u15 {n Tp L : Nat} {z : Nat → Nat} {tpe BC BR : St} {X : St × St} {g : Nat} (hT : txt n Tp L z tpe BC BR) (ihA : wA n Tp L tpe BC BR X g) {p q p' k m m2 pt os cs ts σ : Nat} {l : List Nat} {x w : Int64} {C : Nat → Int32} {A : Nat → Int64} {F T K P : Nat → Int32} {N : Nat → Int64} {pos : Nat → Nat} {S SA OA : Nat → Int32} (hI : iA l L p cs ts os σ pt C A F T K P N pos S SA OA) (hg : L - p < g + 1) (hk : L - p < k + 1) (hk2 : k + 1 ≤ 121) (hm : k + 1 < m + 2) (hm2 : L - p < m2 + 1) (pq : p ≤ q) (qp : q < p') (pL : p' ≤ L) : wEnd BC BR tpe X (df_X2_read_11 n Tp (m + 2) (nI 1) (nI 1) (nI (k + 1)) (tpe, mC BC cs l.length os p' 3 q 0 pt (nI 15).toInt64 C S SA F T A)) (df_X15_read_126 n (df_X15_read_24 n m2) (nI pt) (nI 0) (mR BR p' 24 q ts (nOp l) 0 w K P OA N, X)) := by
  have hL := hT.2.2.2.1
  have i3 := hI.2.2.1
  have i5 := hI.2.2.2.2.1
  have i8 := hI.2.2.2.2.2.2.2.1
  rw [r126_y n (nI pt) (by omega)]
  by_cases hp : pt < 40
  · rw [r262_t n pt (nI 0) hp (by omega) (by omega), r397 n _ (by omega) (by omega), show stT 24 = 0 from rfl]
    obtain ⟨p3, κ3, q3, x3, e⟩ := nx_e hT pL cs (l.length + 1) os 3 q 0 (pt + 1) (nI 15).toInt64 C (upd S l.length (nI 20)) (upd SA l.length (nI 0)) F T A
    rw [lpt_1 n Tp (m + 1) k (by omega) ((to_u15 n Tp hp (by omega)).trans (t169 n Tp 1 (by omega) e))]
    have f := ihA p' k (m + 1) m2 (pt + 1) os cs (ts + 1) σ 24 q 3 q (20 :: l) (nI 15).toInt64 w C (upd S l.length (nI 20)) (upd SA l.length (nI 0)) F T (upd K ts (nI 24)) (upd P ts (-nI 1)) OA A (vp_updL N ts w) pos _ (by omega) (by omega) (by omega) (by omega) (by omega) (iA_un hI (by omega) (by omega) hp (by omega) pL) e
    rw [nOp_u (by omega)] at f
    exact f
  · have hp40 : pt = 40 := by omega
    subst hp40
    rw [r262_3 n (nI 0) (nI 0) (by omega) (by omega) (by omega)]
    exact wA_f hT m k 1 (to_u15f n Tp (by omega)) (by omega) pL (by omega) (by omega) (by omega) rfl
theorem sA_u21 {n Tp L : Nat} {z : Nat → Nat} {tpe BC BR : St} {X : St × St} {g : Nat} (hT : txt n Tp L z tpe BC BR) (ihA : wA n Tp L tpe BC BR X g) {p q p' k m m2 pt os cs ts σ : Nat} {l : List Nat} {x w : Int64} {C : Nat → Int32} {A : Nat → Int64} {F T K P : Nat → Int32} {N : Nat → Int64} {pos : Nat → Nat} {S SA OA : Nat → Int32} (hI : iA l L p cs ts os σ pt C A F T K P N pos S SA OA) (hg : L - p < g + 1) (hk : L - p < k + 1) (hk2 : k + 1 ≤ 121) (hm : k + 1 < m + 2) (hm2 : L - p < m2 + 1) (pq : p ≤ q) (qp : q < p') (pL : p' ≤ L) : wEnd BC BR tpe X (df_X2_read_11 n Tp (m + 2) (nI 1) (nI 1) (nI (k + 1)) (tpe, mC BC cs l.length os p' 3 q 0 pt (nI 21).toInt64 C S SA F T A)) (df_X15_read_126 n (df_X15_read_24 n m2) (nI pt) (nI 0) (mR BR p' 29 q ts (nOp l) 0 w K P OA N, X)) := by
  have hL := hT.2.2.2.1
  have i3 := hI.2.2.1
  have i5 := hI.2.2.2.2.1
  have i8 := hI.2.2.2.2.2.2.2.1
  rw [r126_y n (nI pt) (by omega)]
  by_cases hp : pt < 40
  · rw [r262_t n pt (nI 0) hp (by omega) (by omega), r397 n _ (by omega) (by omega), show stT 29 = 0 from rfl]
    obtain ⟨p3, κ3, q3, x3, e⟩ := nx_e hT pL cs (l.length + 1) os 3 q 0 (pt + 1) (nI 21).toInt64 C (upd S l.length (nI 21)) (upd SA l.length (nI 0)) F T A
    rw [lpt_1 n Tp (m + 1) k (by omega) ((to_u21 n Tp hp (by omega)).trans (t169 n Tp 1 (by omega) e))]
    have f := ihA p' k (m + 1) m2 (pt + 1) os cs (ts + 1) σ 29 q 3 q (21 :: l) (nI 21).toInt64 w C (upd S l.length (nI 21)) (upd SA l.length (nI 0)) F T (upd K ts (nI 29)) (upd P ts (-nI 1)) OA A (vp_updL N ts w) pos _ (by omega) (by omega) (by omega) (by omega) (by omega) (iA_un hI (by omega) (by omega) hp (by omega) pL) e
    rw [nOp_u (by omega)] at f
    exact f
  · have hp40 : pt = 40 := by omega
    subst hp40
    rw [r262_3 n (nI 0) (nI 0) (by omega) (by omega) (by omega)]
    exact wA_f hT m k 1 (to_u21f n Tp (by omega)) (by omega) pL (by omega) (by omega) (by omega) rfl
theorem sA_o22 {n Tp L : Nat} {z : Nat → Nat} {tpe BC BR : St} {X : St × St} {g : Nat} (hT : txt n Tp L z tpe BC BR) (ihA : wA n Tp L tpe BC BR X g) {p q p' k m m2 pt os cs ts σ : Nat} {l : List Nat} {x w : Int64} {C : Nat → Int32} {A : Nat → Int64} {F T K P : Nat → Int32} {N : Nat → Int64} {pos : Nat → Nat} {S SA OA : Nat → Int32} (hI : iA l L p cs ts os σ pt C A F T K P N pos S SA OA) (hg : L - p < g + 1) (hk : L - p < k + 1) (hk2 : k + 1 ≤ 121) (hm : k + 1 < m + 2) (hm2 : L - p < m2 + 1) (pq : p ≤ q) (qp : q < p') (pL : p' ≤ L) : wEnd BC BR tpe X (df_X2_read_11 n Tp (m + 2) (nI 1) (nI 1) (nI (k + 1)) (tpe, mC BC cs l.length os p' 3 q 0 pt (nI 22).toInt64 C S SA F T A)) (df_X15_read_126 n (df_X15_read_24 n m2) (nI pt) (nI 0) (mR BR p' 30 q ts (nOp l) 0 w K P OA N, X)) := by
  have hL := hT.2.2.2.1
  have hn := hT.2.2.2.2.1
  have i3 := hI.2.2.1
  have i5 := hI.2.2.2.2.1
  have i8 := hI.2.2.2.2.2.2.2.1
  have fS := frs_S l cs ts os σ hI.1
  rw [r126_o n (nI pt) (by omega)]
  by_cases hp : pt < 40
  · by_cases h8 : nOp l < 8
    · rw [r262_o n pt (nI 0) hp (by omega) (by omega) h8, r397 n _ (by omega) (by omega), show stT 30 = 0 from rfl]
      have hO := op_1 n 22 0 (B := BC) (cs := cs) (tp := l.length) (os := os) (ap := p') (kd := 3) (fr := q) (pt := pt) (nm := (nI 22).toInt64) (C := C) (S := S) (SA := SA) (F := F) (T := T) (A := A) (by omega) (by omega) (sgL l) fS.1 hp (by rw [fS.2.1]; exact h8)
      obtain ⟨p3, κ3, q3, x3, e⟩ := nx_e hT pL cs (l.length + 1) os 3 q 0 (pt + 1) (nI 22).toInt64 C (upd S l.length (nI 22)) (upd SA l.length (nI 0)) F T A
      rw [lpt_1 n Tp (m + 1) k (by omega) ((to_o22 n Tp hO).trans (t169 n Tp 1 (by omega) e))]
      have f := ihA p' k (m + 1) m2 (pt + 1) os cs (ts + 1) σ 30 q 3 q (22 :: l) (nI 22).toInt64 w C (upd S l.length (nI 22)) (upd SA l.length (nI 0)) F T (upd K ts (nI 30)) (upd P ts (-nI 1)) (upd OA (nOp l) (nI ts)) A (vp_updL N ts w) pos _ (by omega) (by omega) (by omega) (by omega) (by omega) (iA_op hI (by omega) hp h8 (by omega) pL) e
      rw [nOp_o (by omega)] at f
      exact f
    · have h88 : nOp l = 8 := by have := hI.2.1; omega
      have hO := op_4 n 22 0 (B := BC) (cs := cs) (tp := l.length) (os := os) (ap := p') (kd := 3) (fr := q) (pt := pt) (nm := (nI 22).toInt64) (C := C) (S := S) (SA := SA) (F := F) (T := T) (A := A) (by omega) (by omega) (sgL l) fS.1 (by omega) hp (by rw [fS.2.1]; exact h8)
      rw [h88, r262_4 n pt (nI 0) (by omega) hp (by omega) (by omega)]
      exact wA_f hT m k 1 (to_o22 n Tp hO) (by omega) pL (by omega) (by omega) (by omega) rfl
  · have hp40 : pt = 40 := by omega
    subst hp40
    have hO := op_3 n 22 0 (B := BC) (cs := cs) (tp := l.length) (os := os) (ap := p') (kd := 3) (fr := q) (nm := (nI 22).toInt64) (C := C) (S := S) (SA := SA) (F := F) (T := T) (A := A) (by omega) (by omega) (sgL l) fS.1 (by omega)
    rw [r262_3 n (nI 0) (nI 1) (by omega) (by omega) (by omega)]
    exact wA_f hT m k 1 (to_o22 n Tp hO) (by omega) pL (by omega) (by omega) (by omega) rfl
theorem sA_o25 {n Tp L : Nat} {z : Nat → Nat} {tpe BC BR : St} {X : St × St} {g : Nat} (hT : txt n Tp L z tpe BC BR) (ihA : wA n Tp L tpe BC BR X g) {p q p' k m m2 pt os cs ts σ : Nat} {l : List Nat} {x w : Int64} {C : Nat → Int32} {A : Nat → Int64} {F T K P : Nat → Int32} {N : Nat → Int64} {pos : Nat → Nat} {S SA OA : Nat → Int32} (hI : iA l L p cs ts os σ pt C A F T K P N pos S SA OA) (hg : L - p < g + 1) (hk : L - p < k + 1) (hk2 : k + 1 ≤ 121) (hm : k + 1 < m + 2) (hm2 : L - p < m2 + 1) (pq : p ≤ q) (qp : q < p') (pL : p' ≤ L) : wEnd BC BR tpe X (df_X2_read_11 n Tp (m + 2) (nI 1) (nI 1) (nI (k + 1)) (tpe, mC BC cs l.length os p' 3 q 0 pt (nI 25).toInt64 C S SA F T A)) (df_X15_read_126 n (df_X15_read_24 n m2) (nI pt) (nI 0) (mR BR p' 32 q ts (nOp l) 0 w K P OA N, X)) := by
  have hL := hT.2.2.2.1
  have hn := hT.2.2.2.2.1
  have i3 := hI.2.2.1
  have i5 := hI.2.2.2.2.1
  have i8 := hI.2.2.2.2.2.2.2.1
  have fS := frs_S l cs ts os σ hI.1
  rw [r126_o n (nI pt) (by omega)]
  by_cases hp : pt < 40
  · by_cases h8 : nOp l < 8
    · rw [r262_o n pt (nI 0) hp (by omega) (by omega) h8, r397 n _ (by omega) (by omega), show stT 32 = 0 from rfl]
      have hO := op_1 n 25 0 (B := BC) (cs := cs) (tp := l.length) (os := os) (ap := p') (kd := 3) (fr := q) (pt := pt) (nm := (nI 25).toInt64) (C := C) (S := S) (SA := SA) (F := F) (T := T) (A := A) (by omega) (by omega) (sgL l) fS.1 hp (by rw [fS.2.1]; exact h8)
      obtain ⟨p3, κ3, q3, x3, e⟩ := nx_e hT pL cs (l.length + 1) os 3 q 0 (pt + 1) (nI 25).toInt64 C (upd S l.length (nI 25)) (upd SA l.length (nI 0)) F T A
      rw [lpt_1 n Tp (m + 1) k (by omega) ((to_o25 n Tp hO).trans (t169 n Tp 1 (by omega) e))]
      have f := ihA p' k (m + 1) m2 (pt + 1) os cs (ts + 1) σ 32 q 3 q (25 :: l) (nI 25).toInt64 w C (upd S l.length (nI 25)) (upd SA l.length (nI 0)) F T (upd K ts (nI 32)) (upd P ts (-nI 1)) (upd OA (nOp l) (nI ts)) A (vp_updL N ts w) pos _ (by omega) (by omega) (by omega) (by omega) (by omega) (iA_op hI (by omega) hp h8 (by omega) pL) e
      rw [nOp_o (by omega)] at f
      exact f
    · have h88 : nOp l = 8 := by have := hI.2.1; omega
      have hO := op_4 n 25 0 (B := BC) (cs := cs) (tp := l.length) (os := os) (ap := p') (kd := 3) (fr := q) (pt := pt) (nm := (nI 25).toInt64) (C := C) (S := S) (SA := SA) (F := F) (T := T) (A := A) (by omega) (by omega) (sgL l) fS.1 (by omega) hp (by rw [fS.2.1]; exact h8)
      rw [h88, r262_4 n pt (nI 0) (by omega) hp (by omega) (by omega)]
      exact wA_f hT m k 1 (to_o25 n Tp hO) (by omega) pL (by omega) (by omega) (by omega) rfl
  · have hp40 : pt = 40 := by omega
    subst hp40
    have hO := op_3 n 25 0 (B := BC) (cs := cs) (tp := l.length) (os := os) (ap := p') (kd := 3) (fr := q) (nm := (nI 25).toInt64) (C := C) (S := S) (SA := SA) (F := F) (T := T) (A := A) (by omega) (by omega) (sgL l) fS.1 (by omega)
    rw [r262_3 n (nI 0) (nI 1) (by omega) (by omega) (by omega)]
    exact wA_f hT m k 1 (to_o25 n Tp hO) (by omega) pL (by omega) (by omega) (by omega) rfl
theorem sA_b {n Tp L : Nat} {z : Nat → Nat} {tpe BC BR : St} {X : St × St} {g : Nat} (hT : txt n Tp L z tpe BC BR) {p q p' k m m2 pt os cs ts σ : Nat} {l : List Nat} {x w : Int64} {C : Nat → Int32} {A : Nat → Int64} {F T K P : Nat → Int32} {N : Nat → Int64} {pos : Nat → Nat} {S SA OA : Nat → Int32} (hI : iA l L p cs ts os σ pt C A F T K P N pos S SA OA) (hg : L - p < g + 1) (hk : L - p < k + 1) (hk2 : k + 1 ≤ 121) (hm : k + 1 < m + 2) (hm2 : L - p < m2 + 1) (pq : p ≤ q) (qp : q < p') (pL : p' ≤ L) {κ τ : Nat} (hto : df_X2_takeOperand n Tp (tpe, mC BC cs l.length os p' κ q 0 pt x C S SA F T A) = df_X2_takeOperand_169 n Tp (nI 0) (tpe, mC BC cs l.length os p' κ q (1 + 8 * q) pt x C S SA F T A)) (hτ : ¬ (τ < 10 ∨ τ = 24 ∨ τ = 28 ∨ τ = 29 ∨ τ = 30 ∨ τ = 32)) (hτ2 : τ < 100) : wEnd BC BR tpe X (df_X2_read_11 n Tp (m + 2) (nI 1) (nI 1) (nI (k + 1)) (tpe, mC BC cs l.length os p' κ q 0 pt x C S SA F T A)) (df_X15_read_126 n (df_X15_read_24 n m2) (nI pt) (nI 0) (mR BR p' τ q ts (nOp l) 0 w K P OA N, X)) := by
  have hL := hT.2.2.2.1
  rw [r126_n n (nI pt) hτ hτ2, r262_0 n (nI 0) (nI pt) (nI 0) (nI 0) (by omega)]
  exact wA_f hT m k 0 hto (by omega) pL (by omega) (by omega) (by omega) rfl
theorem sA_w0 {n Tp L : Nat} {z : Nat → Nat} {tpe BC BR : St} {X : St × St} {g : Nat} (hT : txt n Tp L z tpe BC BR) {p q p' k m m2 pt os cs ts σ : Nat} {l : List Nat} {x w : Int64} {C : Nat → Int32} {A : Nat → Int64} {F T K P : Nat → Int32} {N : Nat → Int64} {pos : Nat → Nat} {S SA OA : Nat → Int32} (hI : iA l L p cs ts os σ pt C A F T K P N pos S SA OA) (hg : L - p < g + 1) (hk : L - p < k + 1) (hk2 : k + 1 ≤ 121) (hm : k + 1 < m + 2) (hm2 : L - p < m2 + 1) (pq : p ≤ q) (qp : q < p') (pL : p' ≤ L) {gg : Nat} (hM' : tkM n Tp q p' 0 gg tpe BC) : wEnd BC BR tpe X (df_X2_read_11 n Tp (m + 2) (nI 1) (nI 1) (nI (k + 1)) (tpe, mC BC cs l.length os p' 2 q 0 pt x C S SA F T A)) (df_X15_read_126 n (df_X15_read_24 n m2) (nI pt) (nI 0) (mR BR p' 0 q ts (nOp l) 0 w K P OA N, X)) := by
  have hL := hT.2.2.2.1
  obtain ⟨y, hM, _⟩ := hM' cs l.length os 2 0 pt x C S SA F T A
  rw [r126_y n (nI pt) (by omega), r262_2 n (nI 0) (nI pt) (nI 0) (nI 0) (by omega)]
  exact wA_f hT m k 0 (to_w2 n Tp (tw_0 n Tp hM)) (by omega) pL (by omega) (by omega) (by omega) rfl
theorem sA_w31 {n Tp L : Nat} {z : Nat → Nat} {tpe BC BR : St} {X : St × St} {g : Nat} (hT : txt n Tp L z tpe BC BR) (ihB : wB n Tp L tpe BC BR X g) {p q p' k m m2 pt os cs ts σ : Nat} {l : List Nat} {x w : Int64} {C : Nat → Int32} {A : Nat → Int64} {F T K P : Nat → Int32} {N : Nat → Int64} {pos : Nat → Nat} {S SA OA : Nat → Int32} (hI : iA l L p cs ts os σ pt C A F T K P N pos S SA OA) (hg : L - p < g + 1) (hk : L - p < k + 1) (hk2 : k + 1 ≤ 121) (hm : k + 1 < m + 2) (hm2 : L - p < m2 + 1) (pq : p ≤ q) (qp : q < p') (pL : p' ≤ L) {gg : Nat} (hM' : tkM n Tp q p' 31 gg tpe BC) {τ : Nat} (hτ : τ = 2 ∧ gg < 32 ∧ w = (nI gg).toInt64 ∨ τ = 3 ∧ gg = 32) : wEnd BC BR tpe X (df_X2_read_11 n Tp (m + 2) (nI 1) (nI 1) (nI (k + 1)) (tpe, mC BC cs l.length os p' 2 q 0 pt x C S SA F T A)) (df_X15_read_126 n (df_X15_read_24 n m2) (nI pt) (nI 0) (mR BR p' τ q ts (nOp l) 0 w K P OA N, X)) := by
  have hL := hT.2.2.2.1
  have i3 := hI.2.2.1
  have i4 := hI.2.2.2.1
  obtain ⟨y, hM, hy⟩ := hM' cs l.length os 2 0 pt x C S SA F T A
  have hl : lf 31 τ y w := (hτ.elim (fun q => Or.inr (Or.inl ⟨rfl, q.1, gg, q.2.1, hy rfl, q.2.2⟩)) (fun q => Or.inr (Or.inr (Or.inl ⟨rfl, q.1, by rw [← q.2]; exact hy rfl⟩))))
  exact sA_leaf hT ihB hI hg hk hk2 hm hm2 pq qp pL (fun hp => to_w2 n Tp (tw_31 n Tp hM hp (by omega))) (fun hp => by subst hp; exact to_w2 n Tp (tw_31f n Tp hM (by omega))) hl
theorem sA_w32 {n Tp L : Nat} {z : Nat → Nat} {tpe BC BR : St} {X : St × St} {g : Nat} (hT : txt n Tp L z tpe BC BR) (ihB : wB n Tp L tpe BC BR X g) {p q p' k m m2 pt os cs ts σ : Nat} {l : List Nat} {x w : Int64} {C : Nat → Int32} {A : Nat → Int64} {F T K P : Nat → Int32} {N : Nat → Int64} {pos : Nat → Nat} {S SA OA : Nat → Int32} (hI : iA l L p cs ts os σ pt C A F T K P N pos S SA OA) (hg : L - p < g + 1) (hk : L - p < k + 1) (hk2 : k + 1 ≤ 121) (hm : k + 1 < m + 2) (hm2 : L - p < m2 + 1) (pq : p ≤ q) (qp : q < p') (pL : p' ≤ L) {gg : Nat} (hM' : tkM n Tp q p' 32 gg tpe BC) : wEnd BC BR tpe X (df_X2_read_11 n Tp (m + 2) (nI 1) (nI 1) (nI (k + 1)) (tpe, mC BC cs l.length os p' 2 q 0 pt x C S SA F T A)) (df_X15_read_126 n (df_X15_read_24 n m2) (nI pt) (nI 0) (mR BR p' 4 q ts (nOp l) 0 w K P OA N, X)) := by
  have hL := hT.2.2.2.1
  have i3 := hI.2.2.1
  have i4 := hI.2.2.2.1
  obtain ⟨y, hM, hy⟩ := hM' cs l.length os 2 0 pt x C S SA F T A
  have hl : lf 32 4 y w := Or.inr (Or.inr (Or.inr (Or.inl ⟨rfl, rfl⟩)))
  exact sA_leaf hT ihB hI hg hk hk2 hm hm2 pq qp pL (fun hp => to_w2 n Tp (tw_32 n Tp hM hp (by omega))) (fun hp => by subst hp; exact to_w2 n Tp (tw_32f n Tp hM (by omega))) hl
theorem sA_w33 {n Tp L : Nat} {z : Nat → Nat} {tpe BC BR : St} {X : St × St} {g : Nat} (hT : txt n Tp L z tpe BC BR) (ihB : wB n Tp L tpe BC BR X g) {p q p' k m m2 pt os cs ts σ : Nat} {l : List Nat} {x w : Int64} {C : Nat → Int32} {A : Nat → Int64} {F T K P : Nat → Int32} {N : Nat → Int64} {pos : Nat → Nat} {S SA OA : Nat → Int32} (hI : iA l L p cs ts os σ pt C A F T K P N pos S SA OA) (hg : L - p < g + 1) (hk : L - p < k + 1) (hk2 : k + 1 ≤ 121) (hm : k + 1 < m + 2) (hm2 : L - p < m2 + 1) (pq : p ≤ q) (qp : q < p') (pL : p' ≤ L) {gg : Nat} (hM' : tkM n Tp q p' 33 gg tpe BC) : wEnd BC BR tpe X (df_X2_read_11 n Tp (m + 2) (nI 1) (nI 1) (nI (k + 1)) (tpe, mC BC cs l.length os p' 2 q 0 pt x C S SA F T A)) (df_X15_read_126 n (df_X15_read_24 n m2) (nI pt) (nI 0) (mR BR p' 5 q ts (nOp l) 0 w K P OA N, X)) := by
  have hL := hT.2.2.2.1
  have i3 := hI.2.2.1
  have i4 := hI.2.2.2.1
  obtain ⟨y, hM, hy⟩ := hM' cs l.length os 2 0 pt x C S SA F T A
  have hl : lf 33 5 y w := Or.inr (Or.inr (Or.inr (Or.inr ⟨rfl, rfl⟩)))
  exact sA_leaf hT ihB hI hg hk hk2 hm hm2 pq qp pL (fun hp => to_w2 n Tp (tw_33 n Tp hM hp (by omega))) (fun hp => by subst hp; exact to_w2 n Tp (tw_33f n Tp hM (by omega))) hl
theorem sA_w27 {n Tp L : Nat} {z : Nat → Nat} {tpe BC BR : St} {X : St × St} {g : Nat} (hT : txt n Tp L z tpe BC BR) (ihA : wA n Tp L tpe BC BR X g) {p q p' k m m2 pt os cs ts σ : Nat} {l : List Nat} {x w : Int64} {C : Nat → Int32} {A : Nat → Int64} {F T K P : Nat → Int32} {N : Nat → Int64} {pos : Nat → Nat} {S SA OA : Nat → Int32} (hI : iA l L p cs ts os σ pt C A F T K P N pos S SA OA) (hg : L - p < g + 1) (hk : L - p < k + 1) (hk2 : k + 1 ≤ 121) (hm : k + 1 < m + 2) (hm2 : L - p < m2 + 1) (pq : p ≤ q) (qp : q < p') (pL : p' ≤ L) {gg : Nat} (hM' : tkM n Tp q p' 27 gg tpe BC) : wEnd BC BR tpe X (df_X2_read_11 n Tp (m + 2) (nI 1) (nI 1) (nI (k + 1)) (tpe, mC BC cs l.length os p' 2 q 0 pt x C S SA F T A)) (df_X15_read_126 n (df_X15_read_24 n m2) (nI pt) (nI 0) (mR BR p' 6 q ts (nOp l) 0 w K P OA N, X)) := by
  obtain ⟨T1, T2, T3, T4, T5, T6, T7, T8, T9⟩ := id hT
  have i3 := hI.2.2.1
  have i4 := hI.2.2.2.1
  have i5 := hI.2.2.2.2.1
  have i7 := hI.2.2.2.2.2.2.1
  have i8 := hI.2.2.2.2.2.2.2.1
  have fS := frs_S l cs ts os σ hI.1
  obtain ⟨y, hM, _⟩ := hM' cs l.length os 2 0 pt x C S SA F T A
  rw [r126_y n (nI pt) (by omega)]
  by_cases hp : pt < 40
  · rw [r262_t n pt (nI 0) hp (by omega) (by omega), r397 n _ (by omega) (by omega), show stT 6 = 2 from rfl]
    obtain ⟨m3, rfl⟩ : ∃ m3 : Nat, m2 = m3 + 1 := ⟨m2 - 1, by omega⟩
    obtain ⟨q2, p2, κ2, s2, τ2, μ2, g2, v2, e1, e2, e3, e4, e5, e6⟩ := tk_all n Tp L p' T1 T2 T3 T4 T5 T6 T7 T8 T9 pL
    obtain ⟨y2, hN, hN1, hN3⟩ := e5 cs l.length os 2 q 0 (pt + 1) y C S SA F T A
    rcases e6 with ⟨z1, z2, z3⟩ | ⟨hqL2, hqp2, h322, hR2, hd⟩
    · subst z1
      subst z3
      rw [go_E n m3 p2 p' _ (nI 2) T3 T4 T5 T6 T9 pL (e1.symm.trans z2), r463_e n p2 2 _ T3 (by omega) (by have := hI.2.1; omega) (Or.inl (by omega))]
      have tw := tw_271 n Tp p2 0 q2 (by omega) (by omega) (sgL l) fS.1 hM hp hN (Or.inl (by omega)) (by omega) (by omega)
      rw [z2] at tw
      exact wA_f hT m k 1 (to_w2 n Tp tw) (by omega) (Nat.le_refl _) (by omega) (by omega) (by omega) rfl
    obtain ⟨d1, d2, d3, d4, d5, d6, d7, d8⟩ := tk_v hd
    obtain ⟨w2, hR, _⟩ := hR2 6 q (ts + 1) (nOp l) 0 w (upd K ts (nI 6)) (upd P ts (-nI 1)) OA (vp_updL N ts w) X
    rw [go_0 n m3 L p' q2 p2 τ2 w2 _ (nI 2) T3 T4 T5 T6 T9 pL e1.symm hqL2 h322 hR (by decide)]
    by_cases hs : κ2 = 3 ∧ s2 = 25
    · have hτ2 := d7 hs
      obtain ⟨hs1, hs2⟩ := hs
      subst hs1
      subst hs2
      subst hτ2
      have hy2 : y2 = (nI 25).toInt64 := hN3 rfl
      subst hy2
      rw [r126_2]
      by_cases hp1 : pt + 1 < 40
      · by_cases h8 : nOp l < 8
        · rw [r262_o n (pt + 1) (nI 2) hp1 (by omega) (by omega) h8, r397 n _ (by omega) (by omega), show stT 32 = 0 from rfl]
          have hO := op_1 n 27 os (B := BC) (cs := cs) (tp := l.length) (os := os) (ap := p2) (kd := 3) (fr := q2) (pt := pt + 1) (nm := (nI 25).toInt64) (C := C) (S := S) (SA := SA) (F := F) (T := T) (A := A) (by omega) (by omega) (sgL l) fS.1 hp1 (by rw [fS.2.1]; exact h8)
          have tw := tw_27o n Tp p2 q2 hM hp hN hO
          obtain ⟨p3, κ3, q3, x3, e⟩ := nx_e hT e4 cs (l.length + 1) os 3 q2 0 (pt + 1 + 1) (nI 25).toInt64 C (upd S l.length (nI 27)) (upd SA l.length (nI os)) F T A
          rw [lpt_1 n Tp (m + 1) k (by omega) ((to_w2 n Tp tw).trans (t169 n Tp 1 (by omega) e))]
          have f := ihA p2 k (m + 1) m3 (pt + 2) os cs (ts + 2) σ 32 q2 3 q2 (27 :: l) (nI 25).toInt64 w2 C (upd S l.length (nI 27)) (upd SA l.length (nI os)) F T (upd (upd K ts (nI 6)) (ts + 1) (nI 32)) (upd (upd P ts (-nI 1)) (ts + 1) (-nI 1)) (upd OA (nOp l) (nI (ts + 1))) A (vp_updL (vp_updL N ts w) (ts + 1) w2) pos _ (by omega) (by omega) (by omega) (by omega) (by omega) (iA_wd hI (by omega) (by omega) h8 (by omega) e4) e
          rw [nOp_o (by omega)] at f
          exact f
        · have h88 : nOp l = 8 := by have := hI.2.1; omega
          have hO := op_4 n 27 os (B := BC) (cs := cs) (tp := l.length) (os := os) (ap := p2) (kd := 3) (fr := q2) (pt := pt + 1) (nm := (nI 25).toInt64) (C := C) (S := S) (SA := SA) (F := F) (T := T) (A := A) (by omega) (by omega) (sgL l) fS.1 (by omega) hp1 (by rw [fS.2.1]; exact h8)
          rw [h88, r262_4 n (pt + 1) (nI 2) (by omega) hp1 (by omega) (by omega)]
          exact wA_f hT m k 1 (to_w2 n Tp (tw_274 n Tp p2 q2 (pt + 1 + 1) (4 + 8 * q2) hM hp hN hO (by omega) (by omega))) (by omega) e4 (by omega) (by omega) (by omega) rfl
      · have hp39 : pt = 39 := by omega
        subst hp39
        have hO := op_3 n 27 os (B := BC) (cs := cs) (tp := l.length) (os := os) (ap := p2) (kd := 3) (fr := q2) (nm := (nI 25).toInt64) (C := C) (S := S) (SA := SA) (F := F) (T := T) (A := A) (by omega) (by omega) (sgL l) fS.1 (by omega)
        rw [show nI (39 + 1) = nI 40 from rfl, r262_3 n (nI 2) (nI 1) (by omega) (by omega) (by omega)]
        exact wA_f hT m k 1 (to_w2 n Tp (tw_274 n Tp p2 q2 41 (3 + 8 * q2) hM hp hN hO (by omega) (by omega))) (by omega) e4 (by omega) (by omega) (by omega) rfl
    · obtain ⟨x5, r⟩ := r126_2n n (nI (pt + 1)) (G := df_X15_read_24 n m3) (B := BR) (ap := p2) (tk := τ2) (st := q2) (ts := ts + 1) (op := nOp l) (ft := 0) (tv := w2) (K := upd K ts (nI 6)) (P := (upd P ts (-nI 1))) (OA := OA) (N := (vp_updL N ts w)) (X := X) (fun y => hs (d2 y)) d1
      rw [r, r262_0 n (nI 2) (nI (pt + 1)) (nI 0) x5 (by omega)]
      have tw := tw_271 n Tp p2 κ2 q2 (by omega) (by omega) (sgL l) fS.1 hM hp hN (by
        by_cases c3 : κ2 = 3
        · exact Or.inr ⟨s2, d4 c3, hN3 c3, fun y => hs ⟨c3, y⟩⟩
        · exact Or.inl c3) (by omega) (by omega)
      exact wA_f hT m k 1 (to_w2 n Tp tw) (by omega) e4 (by omega) (by omega) (by omega) rfl
  · have hp40 : pt = 40 := by omega
    subst hp40
    rw [r262_3 n (nI 0) (nI 0) (by omega) (by omega) (by omega)]
    exact wA_f hT m k 0 (to_w2 n Tp (tw_273 n Tp hM (by omega))) (by omega) pL (by omega) (by omega) (by omega) rfl
theorem sA_w26 {n Tp L : Nat} {z : Nat → Nat} {tpe BC BR : St} {X : St × St} {g : Nat} (hT : txt n Tp L z tpe BC BR) (ihA : wA n Tp L tpe BC BR X g) {p q p' k m m2 pt os cs ts σ : Nat} {l : List Nat} {x w : Int64} {C : Nat → Int32} {A : Nat → Int64} {F T K P : Nat → Int32} {N : Nat → Int64} {pos : Nat → Nat} {S SA OA : Nat → Int32} (hI : iA l L p cs ts os σ pt C A F T K P N pos S SA OA) (hg : L - p < g + 1) (hk : L - p < k + 1) (hk2 : k + 1 ≤ 121) (hm : k + 1 < m + 2) (hm2 : L - p < m2 + 1) (pq : p ≤ q) (qp : q < p') (pL : p' ≤ L) {gg : Nat} (hM' : tkM n Tp q p' 26 gg tpe BC) : wEnd BC BR tpe X (df_X2_read_11 n Tp (m + 2) (nI 1) (nI 1) (nI (k + 1)) (tpe, mC BC cs l.length os p' 2 q 0 pt x C S SA F T A)) (df_X15_read_126 n (df_X15_read_24 n m2) (nI pt) (nI 0) (mR BR p' 7 q ts (nOp l) 0 w K P OA N, X)) := by
  obtain ⟨T1, T2, T3, T4, T5, T6, T7, T8, T9⟩ := id hT
  have i3 := hI.2.2.1
  have i4 := hI.2.2.2.1
  have i5 := hI.2.2.2.2.1
  have i7 := hI.2.2.2.2.2.2.1
  have i8 := hI.2.2.2.2.2.2.2.1
  have fS := frs_S l cs ts os σ hI.1
  obtain ⟨y, hM, _⟩ := hM' cs l.length os 2 0 pt x C S SA F T A
  rw [r126_y n (nI pt) (by omega)]
  by_cases hp : pt < 40
  · rw [r262_t n pt (nI 0) hp (by omega) (by omega), r397 n _ (by omega) (by omega), show stT 7 = 2 from rfl]
    obtain ⟨m3, rfl⟩ : ∃ m3 : Nat, m2 = m3 + 1 := ⟨m2 - 1, by omega⟩
    obtain ⟨q2, p2, κ2, s2, τ2, μ2, g2, v2, e1, e2, e3, e4, e5, e6⟩ := tk_all n Tp L p' T1 T2 T3 T4 T5 T6 T7 T8 T9 pL
    obtain ⟨y2, hN, hN1, hN3⟩ := e5 cs l.length os 2 q 0 (pt + 1) y C S SA F T A
    rcases e6 with ⟨z1, z2, z3⟩ | ⟨hqL2, hqp2, h322, hR2, hd⟩
    · subst z1
      subst z3
      rw [go_E n m3 p2 p' _ (nI 2) T3 T4 T5 T6 T9 pL (e1.symm.trans z2), r463_e n p2 2 _ T3 (by omega) (by have := hI.2.1; omega) (Or.inl (by omega))]
      have tw := tw_261 n Tp p2 0 q2 (by omega) (by omega) (sgL l) fS.1 hM hp hN (Or.inl (by omega)) (by omega) (by omega)
      rw [z2] at tw
      exact wA_f hT m k 1 (to_w2 n Tp tw) (by omega) (Nat.le_refl _) (by omega) (by omega) (by omega) rfl
    obtain ⟨d1, d2, d3, d4, d5, d6, d7, d8⟩ := tk_v hd
    obtain ⟨w2, hR, _⟩ := hR2 7 q (ts + 1) (nOp l) 0 w (upd K ts (nI 7)) (upd P ts (-nI 1)) OA (vp_updL N ts w) X
    rw [go_0 n m3 L p' q2 p2 τ2 w2 _ (nI 2) T3 T4 T5 T6 T9 pL e1.symm hqL2 h322 hR (by decide)]
    by_cases hs : κ2 = 3 ∧ s2 = 25
    · have hτ2 := d7 hs
      obtain ⟨hs1, hs2⟩ := hs
      subst hs1
      subst hs2
      subst hτ2
      have hy2 : y2 = (nI 25).toInt64 := hN3 rfl
      subst hy2
      rw [r126_2]
      by_cases hp1 : pt + 1 < 40
      · by_cases h8 : nOp l < 8
        · rw [r262_o n (pt + 1) (nI 2) hp1 (by omega) (by omega) h8, r397 n _ (by omega) (by omega), show stT 32 = 0 from rfl]
          have hO := op_1 n 26 os (B := BC) (cs := cs) (tp := l.length) (os := os) (ap := p2) (kd := 3) (fr := q2) (pt := pt + 1) (nm := (nI 25).toInt64) (C := C) (S := S) (SA := SA) (F := F) (T := T) (A := A) (by omega) (by omega) (sgL l) fS.1 hp1 (by rw [fS.2.1]; exact h8)
          have tw := tw_26o n Tp p2 q2 hM hp hN hO
          obtain ⟨p3, κ3, q3, x3, e⟩ := nx_e hT e4 cs (l.length + 1) os 3 q2 0 (pt + 1 + 1) (nI 25).toInt64 C (upd S l.length (nI 26)) (upd SA l.length (nI os)) F T A
          rw [lpt_1 n Tp (m + 1) k (by omega) ((to_w2 n Tp tw).trans (t169 n Tp 1 (by omega) e))]
          have f := ihA p2 k (m + 1) m3 (pt + 2) os cs (ts + 2) σ 32 q2 3 q2 (26 :: l) (nI 25).toInt64 w2 C (upd S l.length (nI 26)) (upd SA l.length (nI os)) F T (upd (upd K ts (nI 7)) (ts + 1) (nI 32)) (upd (upd P ts (-nI 1)) (ts + 1) (-nI 1)) (upd OA (nOp l) (nI (ts + 1))) A (vp_updL (vp_updL N ts w) (ts + 1) w2) pos _ (by omega) (by omega) (by omega) (by omega) (by omega) (iA_wd hI (by omega) (by omega) h8 (by omega) e4) e
          rw [nOp_o (by omega)] at f
          exact f
        · have h88 : nOp l = 8 := by have := hI.2.1; omega
          have hO := op_4 n 26 os (B := BC) (cs := cs) (tp := l.length) (os := os) (ap := p2) (kd := 3) (fr := q2) (pt := pt + 1) (nm := (nI 25).toInt64) (C := C) (S := S) (SA := SA) (F := F) (T := T) (A := A) (by omega) (by omega) (sgL l) fS.1 (by omega) hp1 (by rw [fS.2.1]; exact h8)
          rw [h88, r262_4 n (pt + 1) (nI 2) (by omega) hp1 (by omega) (by omega)]
          exact wA_f hT m k 1 (to_w2 n Tp (tw_264 n Tp p2 q2 (pt + 1 + 1) (4 + 8 * q2) hM hp hN hO (by omega) (by omega))) (by omega) e4 (by omega) (by omega) (by omega) rfl
      · have hp39 : pt = 39 := by omega
        subst hp39
        have hO := op_3 n 26 os (B := BC) (cs := cs) (tp := l.length) (os := os) (ap := p2) (kd := 3) (fr := q2) (nm := (nI 25).toInt64) (C := C) (S := S) (SA := SA) (F := F) (T := T) (A := A) (by omega) (by omega) (sgL l) fS.1 (by omega)
        rw [show nI (39 + 1) = nI 40 from rfl, r262_3 n (nI 2) (nI 1) (by omega) (by omega) (by omega)]
        exact wA_f hT m k 1 (to_w2 n Tp (tw_264 n Tp p2 q2 41 (3 + 8 * q2) hM hp hN hO (by omega) (by omega))) (by omega) e4 (by omega) (by omega) (by omega) rfl
    · obtain ⟨x5, r⟩ := r126_2n n (nI (pt + 1)) (G := df_X15_read_24 n m3) (B := BR) (ap := p2) (tk := τ2) (st := q2) (ts := ts + 1) (op := nOp l) (ft := 0) (tv := w2) (K := upd K ts (nI 7)) (P := (upd P ts (-nI 1))) (OA := OA) (N := (vp_updL N ts w)) (X := X) (fun y => hs (d2 y)) d1
      rw [r, r262_0 n (nI 2) (nI (pt + 1)) (nI 0) x5 (by omega)]
      have tw := tw_261 n Tp p2 κ2 q2 (by omega) (by omega) (sgL l) fS.1 hM hp hN (by
        by_cases c3 : κ2 = 3
        · exact Or.inr ⟨s2, d4 c3, hN3 c3, fun y => hs ⟨c3, y⟩⟩
        · exact Or.inl c3) (by omega) (by omega)
      exact wA_f hT m k 1 (to_w2 n Tp tw) (by omega) e4 (by omega) (by omega) (by omega) rfl
  · have hp40 : pt = 40 := by omega
    subst hp40
    rw [r262_3 n (nI 0) (nI 0) (by omega) (by omega) (by omega)]
    exact wA_f hT m k 0 (to_w2 n Tp (tw_263 n Tp hM (by omega))) (by omega) pL (by omega) (by omega) (by omega) rfl
theorem sA_w23 {n Tp L : Nat} {z : Nat → Nat} {tpe BC BR : St} {X : St × St} {g : Nat} (hT : txt n Tp L z tpe BC BR) (ihA : wA n Tp L tpe BC BR X g) {p q p' k m m2 pt os cs ts σ : Nat} {l : List Nat} {x w : Int64} {C : Nat → Int32} {A : Nat → Int64} {F T K P : Nat → Int32} {N : Nat → Int64} {pos : Nat → Nat} {S SA OA : Nat → Int32} (hI : iA l L p cs ts os σ pt C A F T K P N pos S SA OA) (hg : L - p < g + 1) (hk : L - p < k + 1) (hk2 : k + 1 ≤ 121) (hm : k + 1 < m + 2) (hm2 : L - p < m2 + 1) (pq : p ≤ q) (qp : q < p') (pL : p' ≤ L) {gg : Nat} (hM' : tkM n Tp q p' 23 gg tpe BC) : wEnd BC BR tpe X (df_X2_read_11 n Tp (m + 2) (nI 1) (nI 1) (nI (k + 1)) (tpe, mC BC cs l.length os p' 2 q 0 pt x C S SA F T A)) (df_X15_read_126 n (df_X15_read_24 n m2) (nI pt) (nI 0) (mR BR p' 8 q ts (nOp l) 0 w K P OA N, X)) := by
  obtain ⟨T1, T2, T3, T4, T5, T6, T7, T8, T9⟩ := id hT
  have i3 := hI.2.2.1
  have i4 := hI.2.2.2.1
  have i5 := hI.2.2.2.2.1
  have i7 := hI.2.2.2.2.2.2.1
  have i8 := hI.2.2.2.2.2.2.2.1
  have fS := frs_S l cs ts os σ hI.1
  obtain ⟨y, hM, _⟩ := hM' cs l.length os 2 0 pt x C S SA F T A
  have re := re_R n (by omega) (B := BR) (ap := p') (tk := 8) (st := q) (ts := ts) (ft := 0) (tv := w) (K := K) (P := P) (OA := OA) (N := N) (X := X) hI.1 hI.2.1 (by omega)
  rw [r126_r n (nI pt) (hOb l) (by omega) re]
  by_cases hob : hOb l = true
  · rw [hob, if_pos rfl, r262_0 n (nI 0) (nI pt) (nI 0) (nI 0) (by omega)]
    have hw : 0 < cN (fun i => decide (23 ≤ sgL l i ∧ sgL l i ≤ 24)) l.length := by
      rcases Nat.eq_zero_or_pos (cN (fun i => decide (23 ≤ sgL l i ∧ sgL l i ≤ 24)) l.length) with y0 | y0
      · rw [fS.2.2.1.mp y0] at hob
        exact absurd hob (by decide)
      · exact y0
    exact wA_f hT m k 0 (to_w2 n Tp (tw_23n n Tp (by omega) (by omega) (sgL l) fS.1 hw hM)) (by omega) pL (by omega) (by omega) (by omega) rfl
  have hob : hOb l = false := Bool.eq_false_iff.mpr hob
  have hw := fS.2.2.1.mpr hob
  rw [hob, if_neg (show ¬ false = true by decide)]
  by_cases hp : pt < 40
  · rw [r262_t n pt (nI 0) hp (by omega) (by omega), r397 n _ (by omega) (by omega), show stT 8 = 3 from rfl]
    obtain ⟨m3, rfl⟩ : ∃ m3 : Nat, m2 = m3 + 1 := ⟨m2 - 1, by omega⟩
    obtain ⟨q2, p2, κ2, s2, τ2, μ2, g2, v2, e1, e2, e3, e4, e5, e6⟩ := tk_all n Tp L p' T1 T2 T3 T4 T5 T6 T7 T8 T9 pL
    obtain ⟨y2, hN, hN1, hN3⟩ := e5 cs l.length os 2 q 0 (pt + 1) y C S SA F T A
    rcases e6 with ⟨z1, z2, z3⟩ | ⟨hqL2, hqp2, h322, hR2, hd⟩
    · subst z1
      subst z3
      rw [go_E n m3 p2 p' _ (nI 3) T3 T4 T5 T6 T9 pL (e1.symm.trans z2), r463_e n p2 3 _ T3 (by omega) (by have := hI.2.1; omega) (Or.inl (by omega))]
      have tw := tw_231 n Tp p2 0 q2 (by omega) (by omega) (sgL l) fS.1 hw hM hp hN (Or.inl (by omega)) (by omega) (by omega)
      rw [z2] at tw
      exact wA_f hT m k 1 (to_w2 n Tp tw) (by omega) (Nat.le_refl _) (by omega) (by omega) (by omega) rfl
    obtain ⟨d1, d2, d3, d4, d5, d6, d7, d8⟩ := tk_v hd
    obtain ⟨w2, hR, _⟩ := hR2 8 q (ts + 1) (nOp l) 0 w (upd K ts (nI 8)) (upd P ts (-nI 1)) OA (vp_updL N ts w) X
    rw [go_0 n m3 L p' q2 p2 τ2 w2 _ (nI 3) T3 T4 T5 T6 T9 pL e1.symm hqL2 h322 hR (by decide)]
    by_cases hs : κ2 = 3 ∧ s2 = 22
    · have hτ2 := d8 hs
      obtain ⟨hs1, hs2⟩ := hs
      subst hs1
      subst hs2
      subst hτ2
      have hy2 : y2 = (nI 22).toInt64 := hN3 rfl
      subst hy2
      rw [r126_3]
      by_cases hp1 : pt + 1 < 40
      · by_cases h8 : nOp l < 8
        · rw [r262_o n (pt + 1) (nI 3) hp1 (by omega) (by omega) h8, r397 n _ (by omega) (by omega), show stT 30 = 0 from rfl]
          have hO := op_1 n 23 os (B := BC) (cs := cs) (tp := l.length) (os := os) (ap := p2) (kd := 3) (fr := q2) (pt := pt + 1) (nm := (nI 22).toInt64) (C := C) (S := S) (SA := SA) (F := F) (T := T) (A := A) (by omega) (by omega) (sgL l) fS.1 hp1 (by rw [fS.2.1]; exact h8)
          have tw := tw_23o n Tp p2 q2 (by omega) (by omega) (sgL l) fS.1 hw hM hp hN (by omega) (by omega) hO
          obtain ⟨p3, κ3, q3, x3, e⟩ := nx_e hT e4 (cs + 1) (l.length + 1) (os + 1) 3 q2 0 (pt + 1 + 1) (nI 22).toInt64 (upd C cs (nI 23)) (upd S l.length (nI 23)) (upd SA l.length (nI os)) (upd F os (nI (cs + 1))) T (vp_updL A cs (nI os).toInt64)
          rw [lpt_1 n Tp (m + 1) k (by omega) ((to_w2 n Tp tw).trans (t169 n Tp 1 (by omega) e))]
          have f := ihA p2 k (m + 1) m3 (pt + 2) (os + 1) (cs + 1) (ts + 2) σ 30 q2 3 q2 (23 :: l) (nI 22).toInt64 w2 (upd C cs (nI 23)) (upd S l.length (nI 23)) (upd SA l.length (nI os)) (upd F os (nI (cs + 1))) T (upd (upd K ts (nI 8)) (ts + 1) (nI 30)) (upd (upd P ts (-nI 1)) (ts + 1) (-nI 1)) (upd OA (nOp l) (nI (ts + 1))) (vp_updL A cs (nI os).toInt64) (vp_updL (vp_updL N ts w) (ts + 1) w2) (fun i => if i = os then ts else pos i) _ (by omega) (by omega) (by omega) (by omega) (by omega) (iA_23 hI (by omega) h8 hob (by omega) e4) e
          rw [nOp_o (by omega)] at f
          exact f
        · have h88 : nOp l = 8 := by have := hI.2.1; omega
          have hO := op_4 n 23 os (B := BC) (cs := cs) (tp := l.length) (os := os) (ap := p2) (kd := 3) (fr := q2) (pt := pt + 1) (nm := (nI 22).toInt64) (C := C) (S := S) (SA := SA) (F := F) (T := T) (A := A) (by omega) (by omega) (sgL l) fS.1 (by omega) hp1 (by rw [fS.2.1]; exact h8)
          rw [h88, r262_4 n (pt + 1) (nI 3) (by omega) hp1 (by omega) (by omega)]
          exact wA_f hT m k 1 (to_w2 n Tp (tw_234 n Tp p2 q2 (pt + 1 + 1) (4 + 8 * q2) (by omega) (by omega) (sgL l) fS.1 hw hM hp hN hO (by omega) (by omega))) (by omega) e4 (by omega) (by omega) (by omega) rfl
      · have hp39 : pt = 39 := by omega
        subst hp39
        have hO := op_3 n 23 os (B := BC) (cs := cs) (tp := l.length) (os := os) (ap := p2) (kd := 3) (fr := q2) (nm := (nI 22).toInt64) (C := C) (S := S) (SA := SA) (F := F) (T := T) (A := A) (by omega) (by omega) (sgL l) fS.1 (by omega)
        rw [show nI (39 + 1) = nI 40 from rfl, r262_3 n (nI 3) (nI 1) (by omega) (by omega) (by omega)]
        exact wA_f hT m k 1 (to_w2 n Tp (tw_234 n Tp p2 q2 41 (3 + 8 * q2) (by omega) (by omega) (sgL l) fS.1 hw hM hp hN hO (by omega) (by omega))) (by omega) e4 (by omega) (by omega) (by omega) rfl
    · obtain ⟨x5, r⟩ := r126_3n n (nI (pt + 1)) (G := df_X15_read_24 n m3) (B := BR) (ap := p2) (tk := τ2) (st := q2) (ts := ts + 1) (op := nOp l) (ft := 0) (tv := w2) (K := upd K ts (nI 8)) (P := (upd P ts (-nI 1))) (OA := OA) (N := (vp_updL N ts w)) (X := X) (fun y => hs (d3 y)) d1
      rw [r, r262_0 n (nI 3) (nI (pt + 1)) (nI 0) x5 (by omega)]
      have tw := tw_231 n Tp p2 κ2 q2 (by omega) (by omega) (sgL l) fS.1 hw hM hp hN (by
        by_cases c3 : κ2 = 3
        · exact Or.inr ⟨s2, d4 c3, hN3 c3, fun y => hs ⟨c3, y⟩⟩
        · exact Or.inl c3) (by omega) (by omega)
      exact wA_f hT m k 1 (to_w2 n Tp tw) (by omega) e4 (by omega) (by omega) (by omega) rfl
  · have hp40 : pt = 40 := by omega
    subst hp40
    rw [r262_3 n (nI 0) (nI 0) (by omega) (by omega) (by omega)]
    exact wA_f hT m k 0 (to_w2 n Tp (tw_233 n Tp (by omega) (by omega) (sgL l) fS.1 hw hM (by omega))) (by omega) pL (by omega) (by omega) (by omega) rfl
theorem sA_w24 {n Tp L : Nat} {z : Nat → Nat} {tpe BC BR : St} {X : St × St} {g : Nat} (hT : txt n Tp L z tpe BC BR) (ihA : wA n Tp L tpe BC BR X g) {p q p' k m m2 pt os cs ts σ : Nat} {l : List Nat} {x w : Int64} {C : Nat → Int32} {A : Nat → Int64} {F T K P : Nat → Int32} {N : Nat → Int64} {pos : Nat → Nat} {S SA OA : Nat → Int32} (hI : iA l L p cs ts os σ pt C A F T K P N pos S SA OA) (hg : L - p < g + 1) (hk : L - p < k + 1) (hk2 : k + 1 ≤ 121) (hm : k + 1 < m + 2) (hm2 : L - p < m2 + 1) (pq : p ≤ q) (qp : q < p') (pL : p' ≤ L) {gg : Nat} (hM' : tkM n Tp q p' 24 gg tpe BC) : wEnd BC BR tpe X (df_X2_read_11 n Tp (m + 2) (nI 1) (nI 1) (nI (k + 1)) (tpe, mC BC cs l.length os p' 2 q 0 pt x C S SA F T A)) (df_X15_read_126 n (df_X15_read_24 n m2) (nI pt) (nI 0) (mR BR p' 9 q ts (nOp l) 0 w K P OA N, X)) := by
  obtain ⟨T1, T2, T3, T4, T5, T6, T7, T8, T9⟩ := id hT
  have i3 := hI.2.2.1
  have i4 := hI.2.2.2.1
  have i5 := hI.2.2.2.2.1
  have i7 := hI.2.2.2.2.2.2.1
  have i8 := hI.2.2.2.2.2.2.2.1
  have fS := frs_S l cs ts os σ hI.1
  obtain ⟨y, hM, _⟩ := hM' cs l.length os 2 0 pt x C S SA F T A
  have re := re_R n (by omega) (B := BR) (ap := p') (tk := 9) (st := q) (ts := ts) (ft := 0) (tv := w) (K := K) (P := P) (OA := OA) (N := N) (X := X) hI.1 hI.2.1 (by omega)
  rw [r126_r n (nI pt) (hOb l) (by omega) re]
  by_cases hob : hOb l = true
  · rw [hob, if_pos rfl, r262_0 n (nI 0) (nI pt) (nI 0) (nI 0) (by omega)]
    have hw : 0 < cN (fun i => decide (23 ≤ sgL l i ∧ sgL l i ≤ 24)) l.length := by
      rcases Nat.eq_zero_or_pos (cN (fun i => decide (23 ≤ sgL l i ∧ sgL l i ≤ 24)) l.length) with y0 | y0
      · rw [fS.2.2.1.mp y0] at hob
        exact absurd hob (by decide)
      · exact y0
    exact wA_f hT m k 0 (to_w2 n Tp (tw_24n n Tp (by omega) (by omega) (sgL l) fS.1 hw hM)) (by omega) pL (by omega) (by omega) (by omega) rfl
  have hob : hOb l = false := Bool.eq_false_iff.mpr hob
  have hw := fS.2.2.1.mpr hob
  rw [hob, if_neg (show ¬ false = true by decide)]
  by_cases hp : pt < 40
  · rw [r262_t n pt (nI 0) hp (by omega) (by omega), r397 n _ (by omega) (by omega), show stT 9 = 3 from rfl]
    obtain ⟨m3, rfl⟩ : ∃ m3 : Nat, m2 = m3 + 1 := ⟨m2 - 1, by omega⟩
    obtain ⟨q2, p2, κ2, s2, τ2, μ2, g2, v2, e1, e2, e3, e4, e5, e6⟩ := tk_all n Tp L p' T1 T2 T3 T4 T5 T6 T7 T8 T9 pL
    obtain ⟨y2, hN, hN1, hN3⟩ := e5 cs l.length os 2 q 0 (pt + 1) y C S SA F T A
    rcases e6 with ⟨z1, z2, z3⟩ | ⟨hqL2, hqp2, h322, hR2, hd⟩
    · subst z1
      subst z3
      rw [go_E n m3 p2 p' _ (nI 3) T3 T4 T5 T6 T9 pL (e1.symm.trans z2), r463_e n p2 3 _ T3 (by omega) (by have := hI.2.1; omega) (Or.inl (by omega))]
      have tw := tw_241 n Tp p2 0 q2 (by omega) (by omega) (sgL l) fS.1 hw hM hp hN (Or.inl (by omega)) (by omega) (by omega)
      rw [z2] at tw
      exact wA_f hT m k 1 (to_w2 n Tp tw) (by omega) (Nat.le_refl _) (by omega) (by omega) (by omega) rfl
    obtain ⟨d1, d2, d3, d4, d5, d6, d7, d8⟩ := tk_v hd
    obtain ⟨w2, hR, _⟩ := hR2 9 q (ts + 1) (nOp l) 0 w (upd K ts (nI 9)) (upd P ts (-nI 1)) OA (vp_updL N ts w) X
    rw [go_0 n m3 L p' q2 p2 τ2 w2 _ (nI 3) T3 T4 T5 T6 T9 pL e1.symm hqL2 h322 hR (by decide)]
    by_cases hs : κ2 = 3 ∧ s2 = 22
    · have hτ2 := d8 hs
      obtain ⟨hs1, hs2⟩ := hs
      subst hs1
      subst hs2
      subst hτ2
      have hy2 : y2 = (nI 22).toInt64 := hN3 rfl
      subst hy2
      rw [r126_3]
      by_cases hp1 : pt + 1 < 40
      · by_cases h8 : nOp l < 8
        · rw [r262_o n (pt + 1) (nI 3) hp1 (by omega) (by omega) h8, r397 n _ (by omega) (by omega), show stT 30 = 0 from rfl]
          have hO := op_1 n 24 os (B := BC) (cs := cs) (tp := l.length) (os := os) (ap := p2) (kd := 3) (fr := q2) (pt := pt + 1) (nm := (nI 22).toInt64) (C := C) (S := S) (SA := SA) (F := F) (T := T) (A := A) (by omega) (by omega) (sgL l) fS.1 hp1 (by rw [fS.2.1]; exact h8)
          have tw := tw_24o n Tp p2 q2 (by omega) (by omega) (sgL l) fS.1 hw hM hp hN (by omega) (by omega) hO
          obtain ⟨p3, κ3, q3, x3, e⟩ := nx_e hT e4 cs (l.length + 1) (os + 1) 3 q2 0 (pt + 1 + 1) (nI 22).toInt64 C (upd S l.length (nI 24)) (upd SA l.length (nI os)) (upd F os (nI cs)) T A
          rw [lpt_1 n Tp (m + 1) k (by omega) ((to_w2 n Tp tw).trans (t169 n Tp 1 (by omega) e))]
          have f := ihA p2 k (m + 1) m3 (pt + 2) (os + 1) cs (ts + 2) σ 30 q2 3 q2 (24 :: l) (nI 22).toInt64 w2 C (upd S l.length (nI 24)) (upd SA l.length (nI os)) (upd F os (nI cs)) T (upd (upd K ts (nI 9)) (ts + 1) (nI 30)) (upd (upd P ts (-nI 1)) (ts + 1) (-nI 1)) (upd OA (nOp l) (nI (ts + 1))) A (vp_updL (vp_updL N ts w) (ts + 1) w2) (fun i => if i = os then ts else pos i) _ (by omega) (by omega) (by omega) (by omega) (by omega) (iA_24 hI (by omega) h8 hob (by omega) e4) e
          rw [nOp_o (by omega)] at f
          exact f
        · have h88 : nOp l = 8 := by have := hI.2.1; omega
          have hO := op_4 n 24 os (B := BC) (cs := cs) (tp := l.length) (os := os) (ap := p2) (kd := 3) (fr := q2) (pt := pt + 1) (nm := (nI 22).toInt64) (C := C) (S := S) (SA := SA) (F := F) (T := T) (A := A) (by omega) (by omega) (sgL l) fS.1 (by omega) hp1 (by rw [fS.2.1]; exact h8)
          rw [h88, r262_4 n (pt + 1) (nI 3) (by omega) hp1 (by omega) (by omega)]
          exact wA_f hT m k 1 (to_w2 n Tp (tw_244 n Tp p2 q2 (pt + 1 + 1) (4 + 8 * q2) (by omega) (by omega) (sgL l) fS.1 hw hM hp hN hO (by omega) (by omega))) (by omega) e4 (by omega) (by omega) (by omega) rfl
      · have hp39 : pt = 39 := by omega
        subst hp39
        have hO := op_3 n 24 os (B := BC) (cs := cs) (tp := l.length) (os := os) (ap := p2) (kd := 3) (fr := q2) (nm := (nI 22).toInt64) (C := C) (S := S) (SA := SA) (F := F) (T := T) (A := A) (by omega) (by omega) (sgL l) fS.1 (by omega)
        rw [show nI (39 + 1) = nI 40 from rfl, r262_3 n (nI 3) (nI 1) (by omega) (by omega) (by omega)]
        exact wA_f hT m k 1 (to_w2 n Tp (tw_244 n Tp p2 q2 41 (3 + 8 * q2) (by omega) (by omega) (sgL l) fS.1 hw hM hp hN hO (by omega) (by omega))) (by omega) e4 (by omega) (by omega) (by omega) rfl
    · obtain ⟨x5, r⟩ := r126_3n n (nI (pt + 1)) (G := df_X15_read_24 n m3) (B := BR) (ap := p2) (tk := τ2) (st := q2) (ts := ts + 1) (op := nOp l) (ft := 0) (tv := w2) (K := upd K ts (nI 9)) (P := (upd P ts (-nI 1))) (OA := OA) (N := (vp_updL N ts w)) (X := X) (fun y => hs (d3 y)) d1
      rw [r, r262_0 n (nI 3) (nI (pt + 1)) (nI 0) x5 (by omega)]
      have tw := tw_241 n Tp p2 κ2 q2 (by omega) (by omega) (sgL l) fS.1 hw hM hp hN (by
        by_cases c3 : κ2 = 3
        · exact Or.inr ⟨s2, d4 c3, hN3 c3, fun y => hs ⟨c3, y⟩⟩
        · exact Or.inl c3) (by omega) (by omega)
      exact wA_f hT m k 1 (to_w2 n Tp tw) (by omega) e4 (by omega) (by omega) (by omega) rfl
  · have hp40 : pt = 40 := by omega
    subst hp40
    rw [r262_3 n (nI 0) (nI 0) (by omega) (by omega) (by omega)]
    exact wA_f hT m k 0 (to_w2 n Tp (tw_243 n Tp (by omega) (by omega) (sgL l) fS.1 hw hM (by omega))) (by omega) pL (by omega) (by omega) (by omega) rfl
theorem sA_all {n Tp L : Nat} {z : Nat → Nat} {tpe BC BR : St} {X : St × St} {g : Nat} (hT : txt n Tp L z tpe BC BR) (ihA : wA n Tp L tpe BC BR X g) (ihB : wB n Tp L tpe BC BR X g) : wA n Tp L tpe BC BR X (g + 1) := by
  intro p k m m2 pt os cs ts σ tk st kd fr l nm tv C S SA F T K P OA A N pos u hg hk hk2 hm hm2 hI hu
  obtain ⟨T1, T2, T3, T4, T5, T6, T7, T8, T9⟩ := id hT
  have i4 := hI.2.2.2.1
  have i9 := hI.2.2.2.2.2.2.2.2
  have i2 := hI.2.1
  have i3 := hI.2.2.1
  obtain ⟨k, rfl⟩ : ∃ j : Nat, k = j + 1 := ⟨k - 1, by omega⟩
  obtain ⟨m, rfl⟩ : ∃ j : Nat, m = j + 2 := ⟨m - 2, by omega⟩
  obtain ⟨m2, rfl⟩ : ∃ j : Nat, m2 = j + 1 := ⟨m2 - 1, by omega⟩
  obtain ⟨q, p', κ, s, τ, μ, gg, v, e1, e2, e3, e4, e5, e6⟩ := tk_all n Tp L p T1 T2 T3 T4 T5 T6 T7 T8 T9 i9
  obtain ⟨x, hN, hN1, hN3⟩ := e5 cs l.length os kd fr 0 pt nm C S SA F T A
  rw [hN] at hu
  obtain rfl := Option.some.inj hu
  rcases e6 with ⟨z1, z2, z3⟩ | ⟨hqL, hqp, h32, hR2, hd⟩
  · subst z1
    subst z3
    rw [go_E n m2 p' p _ (nI 0) T3 T4 T5 T6 T9 i9 (e1.symm.trans z2), r463_e n p' 0 _ T3 (by omega) (by omega) (Or.inl (by omega))]
    have tw := to_b n Tp (tpe := tpe) (B := BC) (cs := cs) (tp := l.length) (os := os) (ap := p') (kd := 0) (fr := q) (pt := pt) (nm := x) (C := C) (S := S) (SA := SA) (F := F) (T := T) (A := A) (Or.inl rfl)
    rw [z2] at tw ⊢
    exact wA_f hT m k 0 tw (by omega) (Nat.le_refl _) (by omega) (by omega) (by omega) rfl
  obtain ⟨d1, d2, d3, d4, d5, d6, d7, d8⟩ := tk_v hd
  obtain ⟨w, hR, hR1, hR22⟩ := hR2 tk st ts (nOp l) 0 tv K P OA N X
  rw [go_0 n m2 L p q p' τ w _ (nI 0) T3 T4 T5 T6 T9 i9 e1.symm hqL h32 hR (by decide)]
  rcases hd with ⟨rfl, rfl⟩ | ⟨rfl, ht, hM⟩ | ⟨rfl, h1, h2, h3⟩ | ⟨rfl, rfl⟩
  · have hx : x = w := (hN1 rfl).trans (hR1 rfl).symm
    subst hx
    exact sA_leaf hT ihB hI hg hk hk2 hm hm2 e2 hqp e4 (fun hp => to_1 n Tp hp (by omega)) (fun hp => by subst hp; exact to_1f n Tp (by omega)) (Or.inl ⟨rfl, rfl, rfl⟩)
  · rcases ht with ⟨rfl, rfl⟩ | ⟨rfl, rfl, hgg⟩ | ⟨rfl, rfl, hgg⟩ | ⟨rfl, rfl⟩ | ⟨rfl, rfl⟩ | ⟨rfl, rfl⟩ | ⟨rfl, rfl⟩ | ⟨rfl, rfl⟩ | ⟨rfl, rfl⟩
    · exact sA_w0 hT hI hg hk hk2 hm hm2 e2 hqp e4 hM
    · exact sA_w31 hT ihB hI hg hk hk2 hm hm2 e2 hqp e4 hM (Or.inl ⟨rfl, hgg, hR22 rfl⟩)
    · exact sA_w31 hT ihB hI hg hk hk2 hm hm2 e2 hqp e4 hM (Or.inr ⟨rfl, hgg⟩)
    · exact sA_w32 hT ihB hI hg hk hk2 hm hm2 e2 hqp e4 hM
    · exact sA_w33 hT ihB hI hg hk hk2 hm hm2 e2 hqp e4 hM
    · exact sA_w27 hT ihA hI hg hk hk2 hm hm2 e2 hqp e4 hM
    · exact sA_w26 hT ihA hI hg hk hk2 hm hm2 e2 hqp e4 hM
    · exact sA_w23 hT ihA hI hg hk hk2 hm hm2 e2 hqp e4 hM
    · exact sA_w24 hT ihA hI hg hk hk2 hm hm2 e2 hqp e4 hM
  · have hx : x = (nI s).toInt64 := hN3 rfl
    subst hx
    by_cases c1 : s = 15 ∨ s = 19 ∨ s = 21 ∨ s = 22 ∨ s = 25
    · rcases c1 with rfl | rfl | rfl | rfl | rfl
      · rw [show τ = 24 from h3]
        exact sA_u15 (x := 0) hT ihA hI hg hk hk2 hm hm2 e2 hqp e4
      · rw [show τ = 28 from h3]
        exact sA_u19 (x := 0) hT ihA hI hg hk hk2 hm hm2 e2 hqp e4
      · rw [show τ = 29 from h3]
        exact sA_u21 (x := 0) hT ihA hI hg hk hk2 hm hm2 e2 hqp e4
      · rw [show τ = 30 from h3]
        exact sA_o22 (x := 0) hT ihA hI hg hk hk2 hm hm2 e2 hqp e4
      · rw [show τ = 32 from h3]
        exact sA_o25 (x := 0) hT ihA hI hg hk hk2 hm hm2 e2 hqp e4
    · have e := tS_v h1 h2
      rw [← h3] at e
      exact sA_b hT hI hg hk hk2 hm hm2 e2 hqp e4 (to_bs n Tp s c1 (by omega)) (by omega) d1
  · exact sA_b hT hI hg hk hk2 hm hm2 e2 hqp e4 (to_b n Tp (Or.inr rfl)) (by omega) (by omega)

/-- behind an operand -/
theorem ordT20 : ∀ l : List Nat, ordT 20 l := fun l => by
  match l with
  | [] => exact True.intro
  | o :: _ =>
    show 22 ≤ o ∨ (19 ≤ o ∧ 19 ≤ 20) ∨ (o ≤ 18 ∧ (19 ≤ 20 ∨ rk o < rk 20))
    by_cases h : o ≤ 18
    · exact Or.inr (Or.inr ⟨h, Or.inl (by omega)⟩)
    · exact Or.inr (Or.inl ⟨by omega, by omega⟩)
theorem pop_B (n ρ : Nat) (hρ : ρ ≤ 9) (hn : 130 < n) {l : List Nat} {L p cs ts os pt : Nat} {C : Nat → Int32} {A : Nat → Int64} {F T K P : Nat → Int32} {N : Nat → Int64} {pos : Nat → Nat} {S SA OA : Nat → Int32} (hI : iB l L p cs ts os pt C A F T K P N pos S SA OA) (B : St) (ap kd fr pt' : Nat) (nm : Int64) : ∃ (l' : List Nat) (c' t' j' σ' s' oc' ro' cs' : Nat) (d' : Dn) (C' : Nat → Int32) (A' : Nat → Int64), df_X2_popTo n (nI ρ) (mC B cs l.length os ap kd fr 0 pt' nm C S SA F T A) = some (mC B cs' l'.length os ap kd fr 0 pt' nm C' S SA F T A') ∧ frs C' A' F T K P N pos S SA OA l' c' t' j' σ' ∧ gJ d' s' oc' ro' c' cs' t' ts j' os C' A' F T K P N pos ∧ (19 ≤ oc' ∨ ρ ≤ rk oc' + 1) ∧ endT ρ l' ∧ (hOb l' = true → os = j') ∧ nOp l' = nOp l ∧ tpO l' = tpO l ∧ cs' + l'.length ≤ 2 * pt ∧ l'.length ≤ pt ∧ σ' + s' ≤ pt := by
  obtain ⟨c, t, j, σ, s, d, h1, h2, h3, h4, h5, h6, h7, h8, h9, h10, h11⟩ := hI
  obtain ⟨l', c', t', j', σ', s', oc', ro', cs', d', C', A', a1, a2, a3, a4, a5, a6, a7, a8, a9, a10, a11, a12⟩ := pop_all n ρ hρ (B := B) (os := os) (ap := ap) (kd := kd) (fr := fr) (pt := pt') (nm := nm) l n cs c t j σ s 20 0 d C A (by omega) h1 h2 (ordT20 l) h3 (Or.inl (by omega)) (by omega) (by omega)
  exact ⟨l', c', t', j', σ', s', oc', ro', cs', d', C', A', a1, a2, a3, a4, a5, a6, a7, a8, by omega, by omega, by omega⟩
theorem lp_e (n Tp m k : Nat) {tpe : St} {u : St} {B : St} {cs tp os ap fr pt : Nat} {nm : Int64} {C S SA F T : Nat → Int32} {A : Nat → Int64} {cz : Nat} {D : Nat → Int32} {Z : Nat → Int64} (hk : k < 1000) (h : df_X2_popTo n (nI 0) (mC B cs tp os ap 0 fr 0 pt nm C S SA F T A) = some (mC B cz 0 os ap 0 fr 0 pt nm D S SA F T Z)) : df_X2_read_11 n Tp (m + 1) (nI 0) (nI 1) (nI (k + 1)) (tpe, mC B cs tp os ap 0 fr 0 pt nm C S SA F T A) = df_X2_read_11 n Tp m (nI 0) (nI 0) (nI k) (tpe, mC B cz 0 os ap 0 fr 0 pt nm D S SA F T Z) := by
  have w : nI (k + 1) + Int32.ofInt (-1) = nI k := m1I (by omega) (by omega)
  simp (disch := (first | assumption | decide | omega)) only [(show df_X2_read_11 n Tp (m + 1) = dF_X2_read_11 n Tp (df_X2_read_11 n Tp m) from rfl), dF_X2_read_11, df_X2_read_78, df_X2_read_72, df_X2_read_0, df_X2_read, mC_i0, mC_i1, mC_i2, mC_i5, mC_i6, mC_i7, mC_i8, mC_i9, mC_l, mC_r0, mC_r1, mC_r2, mC_r3, mC_r4, mC_q, mC_o, mC_i4, mC_wi0, mC_wi1, mC_wi2, mC_wi5, mC_wi6, mC_wi7, mC_wi8, mC_wi9, mC_wl, mC_wr0, mC_wr1, mC_wr2, mC_wr3, mC_wr4, mC_wq, h, w, eq_self, Nat.reduceEqDiff, Nat.reduceLeDiff, nl_0, nl_1, nl_6, nl_8, nl_121, no_1, no_1024, pk_mul, nI_add, nm_ck, nI_clamp, nI_ltI, nI_leI, nI_eq, nb_b2, nb_b1, ↓nb_let, nm_z0, nm_z1, nb_II, nb_IR, nb_RI, nb_RR, nm_IL, nm_IQ, nm_RL, nm_RQ, nm_LI, nm_LR, nm_LL, nm_LQ, nm_QI, nm_QR, nm_QL, nm_QQ, nm_rr, nm_ii, nm_eqm, not_false_eq_true, pk_sub, nm_div, nm_shl, nm_shr, nm_ush, nm_or8, nm_or64, nm_or256, nm_m1, nm_m3, nm_m7, nm_m15, nm_m31, nm_m63, nm_m255, nm_m511, nm_m1023, nm_m2047, nm_m65535, Nat.reduceMod, Nat.reducePow, Nat.reduceAdd, Nat.reduceSub, Nat.reduceMul, nm_bo, nm_bi, nm_rc, nm_ic, nm_ri, nm_rl, nm_rq, nm_ql, nm_qi, nm_li, nm_us, nm_uu, nm_cp, nm_sa31, nm_sa7, nm_m127, nm_m2, nm_nz, nm_nzk, nm_eq32, nm_nzf, if_true, if_false, ↓reduceIte, if_pos, if_neg]
theorem lp_e1 (n Tp m k kk : Nat) {tpe : St} {B : St} {cs tp os ap fr pt : Nat} {nm : Int64} {C S SA F T : Nat → Int32} {A : Nat → Int64} {cz : Nat} {D : Nat → Int32} {Z : Nat → Int64} (hk : k < 1000) (hkk : kk < 100) (h : df_X2_popTo n (nI 0) (mC B cs tp os ap 0 fr 0 pt nm C S SA F T A) = some (mC B cz (kk + 1) os ap 0 fr 0 pt nm D S SA F T Z)) : df_X2_read_11 n Tp (m + 1) (nI 0) (nI 1) (nI (k + 1)) (tpe, mC B cs tp os ap 0 fr 0 pt nm C S SA F T A) = df_X2_read_11 n Tp m (nI 0) (nI 0) (nI k) (tpe, mC B cz (kk + 1) os ap 0 fr (1 + 8 * fr) pt nm D S SA F T Z) := by
  have w : nI (k + 1) + Int32.ofInt (-1) = nI k := m1I (by omega) (by omega)
  have e := bl_1 n 1 (B := B) (cs := cz) (tp := kk + 1) (os := os) (ap := ap) (kd := 0) (fr := fr) (pt := pt) (nm := nm) (C := D) (S := S) (SA := SA) (F := F) (T := T) (A := Z)
  simp (disch := (first | assumption | decide | omega)) only [(show df_X2_read_11 n Tp (m + 1) = dF_X2_read_11 n Tp (df_X2_read_11 n Tp m) from rfl), dF_X2_read_11, df_X2_read_78, df_X2_read_72, df_X2_read_0, df_X2_read, mC_i0, mC_i1, mC_i2, mC_i5, mC_i6, mC_i7, mC_i8, mC_i9, mC_l, mC_r0, mC_r1, mC_r2, mC_r3, mC_r4, mC_q, mC_o, mC_i4, mC_wi0, mC_wi1, mC_wi2, mC_wi5, mC_wi6, mC_wi7, mC_wi8, mC_wi9, mC_wl, mC_wr0, mC_wr1, mC_wr2, mC_wr3, mC_wr4, mC_wq, h, w, e, eq_self, Nat.reduceEqDiff, Nat.reduceLeDiff, nl_0, nl_1, nl_6, nl_8, nl_121, no_1, no_1024, pk_mul, nI_add, nm_ck, nI_clamp, nI_ltI, nI_leI, nI_eq, nb_b2, nb_b1, ↓nb_let, nm_z0, nm_z1, nb_II, nb_IR, nb_RI, nb_RR, nm_IL, nm_IQ, nm_RL, nm_RQ, nm_LI, nm_LR, nm_LL, nm_LQ, nm_QI, nm_QR, nm_QL, nm_QQ, nm_rr, nm_ii, nm_eqm, not_false_eq_true, pk_sub, nm_div, nm_shl, nm_shr, nm_ush, nm_or8, nm_or64, nm_or256, nm_m1, nm_m3, nm_m7, nm_m15, nm_m31, nm_m63, nm_m255, nm_m511, nm_m1023, nm_m2047, nm_m65535, Nat.reduceMod, Nat.reducePow, Nat.reduceAdd, Nat.reduceSub, Nat.reduceMul, nm_bo, nm_bi, nm_rc, nm_ic, nm_ri, nm_rl, nm_rq, nm_ql, nm_qi, nm_li, nm_us, nm_uu, nm_cp, nm_sa31, nm_sa7, nm_m127, nm_m2, nm_nz, nm_nzk, nm_eq32, nm_nzf, if_true, if_false, ↓reduceIte, if_pos, if_neg]
theorem lp_z (n Tp m : Nat) (x1 x3 : Int32) (u : St × St) : df_X2_read_11 n Tp (m + 1) x1 (nI 0) x3 u = some u := by
  show dF_X2_read_11 n Tp (df_X2_read_11 n Tp m) x1 (nI 0) x3 u = _
  unfold dF_X2_read_11 df_X2_read_78
  split
  · rfl
  · exact if_pos rfl
theorem goB_n {n Tp L : Nat} {z : Nat → Nat} {tpe BC BR : St} {X : St × St} {g : Nat} (hT : txt n Tp L z tpe BC BR) {p q p' k m m2 pt os cs ts : Nat} {l : List Nat} {x w : Int64} {C : Nat → Int32} {A : Nat → Int64} {F T K P : Nat → Int32} {N : Nat → Int64} {pos : Nat → Nat} {S SA OA : Nat → Int32} (hI : iB l L p cs ts os pt C A F T K P N pos S SA OA) (hg : L - p < g + 1) (hk : L - p < k + 1) (hk2 : k + 1 ≤ 121) (hm : k + 1 < m + 2) (hm2 : L - p < m2 + 1) (pq : p ≤ q) (qp : q < p') (pL : p' ≤ L) {τ tk st : Nat} {tv : Int64} (hq : q = qS z L p) (hqL : q < L) (h32 : ¬ z q = 32) (hR : df_X15_scan n (mR BR q tk st ts (nOp l) 0 tv K P OA N, X) = some (mR BR p' τ q ts (nOp l) 0 w K P OA N, X)) (hτ : τ < 100) (hne : 0 < nOp l → ¬ τ = (if tpO l ≤ 24 then 31 else 33)) : df_X15_read_24 n (m2 + 1) (nI pt) (nI 1) (mR BR p tk st ts (nOp l) 0 tv K P OA N, X) = df_X15_read_126 n (df_X15_read_24 n m2) (nI pt) (nI 1) (mR BR p' τ q ts (nOp l) 0 w K P OA N, X) := by
  obtain ⟨T1, T2, T3, T4, T5, T6, T7, T8, T9⟩ := id hT
  obtain ⟨c, t, j, σ, s, d, h1, h2, h3, h4, h5, h6, h7, h8, h9, h10, h11⟩ := hI
  have fO := (frs_O l c t j σ h1).2.2
  have k2 := h2.2.1.1
  generalize hop : nOp l = op at hR hne fO h5 ⊢
  match op with
  | 0 => exact go_1a n m2 L p q p' τ w (nI pt) T3 T4 T5 T6 T9 h11 hq.symm hqL h32 hR
  | op + 1 =>
    obtain ⟨y, f1, f2, f3, f4, f5⟩ := fO (by omega)
    rw [Nat.add_sub_cancel] at f1
    have hne := hne (by omega)
    by_cases c24 : tpO l ≤ 24
    · rw [if_pos c24] at f5 hne
      rw [go_1b n m2 L p q p' τ y 30 w (nI pt) T3 T4 T5 T6 T9 h11 hq.symm hqL h32 hR (by omega) f1 (by omega) f5 (Or.inl rfl), if_pos rfl]
      exact r119_n n 31 (nI pt) hne hτ (by omega)
    · rw [if_neg c24] at f5 hne
      rw [go_1b n m2 L p q p' τ y 32 w (nI pt) T3 T4 T5 T6 T9 h11 hq.symm hqL h32 hR (by omega) f1 (by omega) f5 (Or.inr rfl), if_neg (by omega)]
      exact r119_n n 33 (nI pt) hne hτ (by omega)
theorem goB_c {n Tp L : Nat} {z : Nat → Nat} {tpe BC BR : St} {X : St × St} {g : Nat} (hT : txt n Tp L z tpe BC BR) {p q p' k m m2 pt os cs ts : Nat} {l : List Nat} {x w : Int64} {C : Nat → Int32} {A : Nat → Int64} {F T K P : Nat → Int32} {N : Nat → Int64} {pos : Nat → Nat} {S SA OA : Nat → Int32} (hI : iB l L p cs ts os pt C A F T K P N pos S SA OA) (hg : L - p < g + 1) (hk : L - p < k + 1) (hk2 : k + 1 ≤ 121) (hm : k + 1 < m + 2) (hm2 : L - p < m2 + 1) (pq : p ≤ q) (qp : q < p') (pL : p' ≤ L) {τ tk st : Nat} {tv : Int64} (hq : q = qS z L p) (hqL : q < L) (h32 : ¬ z q = 32) (hR : df_X15_scan n (mR BR q tk st ts (nOp l) 0 tv K P OA N, X) = some (mR BR p' τ q ts (nOp l) 0 w K P OA N, X)) (h0 : 0 < nOp l) (hτ : τ = (if tpO l ≤ 24 then 31 else 33)) : df_X15_read_24 n (m2 + 1) (nI pt) (nI 1) (mR BR p tk st ts (nOp l) 0 tv K P OA N, X) = df_X15_read_262 n (df_X15_read_24 n m2) (nI pt) (nI 1) (nI 1) (nI 0) (nI 1) (mR BR p' τ q ts (nOp l) 0 w K P OA N, X) := by
  obtain ⟨T1, T2, T3, T4, T5, T6, T7, T8, T9⟩ := id hT
  obtain ⟨c, t, j, σ, s, d, h1, h2, h3, h4, h5, h6, h7, h8, h9, h10, h11⟩ := hI
  have fO := (frs_O l c t j σ h1).2.2
  have k2 := h2.2.1.1
  generalize hop : nOp l = op at hR fO h5 h0 ⊢
  match op with
  | 0 => omega
  | op + 1 =>
    obtain ⟨y, f1, f2, f3, f4, f5⟩ := fO (by omega)
    rw [Nat.add_sub_cancel] at f1
    by_cases c24 : tpO l ≤ 24
    · rw [if_pos c24] at f5 hτ
      subst hτ
      rw [go_1b n m2 L p q p' 31 y 30 w (nI pt) T3 T4 T5 T6 T9 h11 hq.symm hqL h32 hR (by omega) f1 (by omega) f5 (Or.inl rfl), if_pos rfl]
      exact r119_s n 31 (nI pt) (Or.inl rfl)
    · rw [if_neg c24] at f5 hτ
      subst hτ
      rw [go_1b n m2 L p q p' 33 y 32 w (nI pt) T3 T4 T5 T6 T9 h11 hq.symm hqL h32 hR (by omega) f1 (by omega) f5 (Or.inr rfl), if_neg (by omega)]
      exact r119_s n 33 (nI pt) (Or.inr rfl)
/-- what can't stand there -/
theorem sB_b {n Tp L : Nat} {z : Nat → Nat} {tpe BC BR : St} {X : St × St} {g : Nat} (hT : txt n Tp L z tpe BC BR) {p q p' k m m2 pt os cs ts : Nat} {l : List Nat} {x w : Int64} {C : Nat → Int32} {A : Nat → Int64} {F T K P : Nat → Int32} {N : Nat → Int64} {pos : Nat → Nat} {S SA OA : Nat → Int32} (hI : iB l L p cs ts os pt C A F T K P N pos S SA OA) (hg : L - p < g + 1) (hk : L - p < k + 1) (hk2 : k + 1 ≤ 121) (hm : k + 1 < m + 2) (hm2 : L - p < m2 + 1) (pq : p ≤ q) (qp : q < p') (pL : p' ≤ L) {τ tk st : Nat} {tv : Int64} (hq : q = qS z L p) (hqL : q < L) (h32 : ¬ z q = 32) (hR : df_X15_scan n (mR BR q tk st ts (nOp l) 0 tv K P OA N, X) = some (mR BR p' τ q ts (nOp l) 0 w K P OA N, X)) {κ : Nat} (hκ : 0 < κ) (hκ2 : κ < 100) (hτ : τ < 100) (hne : 0 < nOp l → ¬ τ = (if tpO l ≤ 24 then 31 else 33)) (hbt : ¬ (10 ≤ τ ∧ τ ≤ 27)) {cs2 tp2 pt2 : Nat} {C2 S2 SA2 F2 T2 : Nat → Int32} {A2 : Nat → Int64} {x2 : Int64} (hto : df_X2_takeOperator n Tp (tpe, mC BC cs l.length os p' κ q 0 pt x C S SA F T A) = df_X2_takeOperator_148 n Tp (nI 0) (tpe, mC BC cs2 tp2 os p' κ q (1 + 8 * q) pt2 x2 C2 S2 SA2 F2 T2 A2)) : wEnd BC BR tpe X (df_X2_read_11 n Tp (m + 2) (nI 0) (nI 1) (nI (k + 1)) (tpe, mC BC cs l.length os p' κ q 0 pt x C S SA F T A)) (df_X15_read_24 n (m2 + 1) (nI pt) (nI 1) (mR BR p tk st ts (nOp l) 0 tv K P OA N, X)) := by
  have hL := hT.2.2.2.1
  rw [goB_n (x := 0) hT hI hg hk hk2 hm hm2 pq qp pL hq hqL h32 hR hτ hne]
  obtain ⟨x5, r⟩ := r126_bn n (nI pt) (G := df_X15_read_24 n m2) (B := BR) (ap := p') (tk := τ) (st := q) (ts := ts) (op := nOp l) (ft := 0) (tv := w) (K := K) (P := P) (OA := OA) (N := N) (X := X) hbt hτ
  rw [r, r262_0 n (nI 1) (nI pt) (nI 0) x5 (by omega)]
  exact wB_f hT m k 0 hκ hκ2 hto (by omega) pL (by omega) (by omega) (by omega) rfl
/-- the end of the text -/
theorem sB_E {n Tp L : Nat} {z : Nat → Nat} {tpe BC BR : St} {X : St × St} (hT : txt n Tp L z tpe BC BR) {p k m m2 pt os cs ts tk st : Nat} {l : List Nat} {x tv : Int64} {C : Nat → Int32} {A : Nat → Int64} {F T K P : Nat → Int32} {N : Nat → Int64} {pos : Nat → Nat} {S SA OA : Nat → Int32} (hI : iB l L p cs ts os pt C A F T K P N pos S SA OA) (hk : L - p < k + 1) (hk2 : k + 1 ≤ 121) (hq : L = qS z L p) : wEnd BC BR tpe X (df_X2_read_11 n Tp (m + 2) (nI 0) (nI 1) (nI (k + 1)) (tpe, mC BC cs l.length os L 0 L 0 pt x C S SA F T A)) (df_X15_read_24 n (m2 + 1) (nI pt) (nI 1) (mR BR p tk st ts (nOp l) 0 tv K P OA N, X)) := by
  obtain ⟨T1, T2, T3, T4, T5, T6, T7, T8, T9⟩ := id hT
  obtain ⟨l', c', t', j', σ', s', oc', ro', cs', d', C', A', a1, a2, a3, a4, a5, a6, a7, a8, a9, a10, a11⟩ := pop_B n 0 (by omega) T5 hI BC L 0 L pt x
  obtain ⟨c, t, j, σ, s, d, h1, h2, h3, h4, h5, h6, h7, h8, h9, h10, h11⟩ := hI
  rw [go_E n m2 L p _ (nI 1) T3 T4 T5 T6 T9 h11 hq.symm]
  match l', a1, a2, a5, a7, a9, a10 with
  | [], a1, a2, a5, a7, a9, a10 =>
    have a7 : nOp l = 0 := a7.symm
    obtain ⟨z1, z2, z3, z4⟩ := a2
    subst z1
    subst z2
    subst z3
    rw [lp_e n Tp (m + 1) k (by omega) a1 (u := BC), lp_z, a7, r463_1]
    exact ⟨cs', 0, os, L, 0, L, 0, pt, x, C', S, SA, F, T, A', nI pt, L, tk, st, ts, 0, tv, K, P, OA, N, rfl, rfl, by decide, fun _ => ⟨d', s', oc', ro', pos, a3, by omega, by omega, by omega⟩⟩
  | o :: r, a1, a2, a5, a7, a9, a10 =>
    have o22 : 22 ≤ o := by
      rcases a5 with e | ⟨e, e2⟩
      · exact e
      · omega
    rw [nOp_o o22] at a7
    have hl1 : r.length + 1 ≤ pt := a10
    rw [lp_e1 n Tp (m + 1) k r.length (by omega) (by omega) a1, lp_z, r463_e n L 1 _ T3 (by omega) (by omega) (Or.inr (by omega))]
    exact wE_f (by omega) (by omega)
theorem sB_s {n Tp L : Nat} {z : Nat → Nat} {tpe BC BR : St} {X : St × St} {g : Nat} (hT : txt n Tp L z tpe BC BR) (ihA : wA n Tp L tpe BC BR X g) {p q p' k m m2 pt os cs ts : Nat} {l : List Nat} {x w : Int64} {C : Nat → Int32} {A : Nat → Int64} {F T K P : Nat → Int32} {N : Nat → Int64} {pos : Nat → Nat} {S SA OA : Nat → Int32} (hI : iB l L p cs ts os pt C A F T K P N pos S SA OA) (hg : L - p < g + 1) (hk : L - p < k + 1) (hk2 : k + 1 ≤ 121) (hm : k + 1 < m + 2) (hm2 : L - p < m2 + 1) (pq : p ≤ q) (qp : q < p') (pL : p' ≤ L) {s tk st : Nat} {tv : Int64} (hs1 : 1 ≤ s) (hs2 : s ≤ 18) (hc : 3 ≤ s) (hq : q = qS z L p) (hqL : q < L) (h32 : ¬ z q = 32) (hR : df_X15_scan n (mR BR q tk st ts (nOp l) 0 tv K P OA N, X) = some (mR BR p' (s + 9) q ts (nOp l) 0 w K P OA N, X)) : wEnd BC BR tpe X (df_X2_read_11 n Tp (m + 2) (nI 0) (nI 1) (nI (k + 1)) (tpe, mC BC cs l.length os p' 3 q 0 pt (nI s).toInt64 C S SA F T A)) (df_X15_read_24 n (m2 + 1) (nI pt) (nI 1) (mR BR p tk st ts (nOp l) 0 tv K P OA N, X)) := by
  have hn := hT.2.2.2.2.1
  have hL := hT.2.2.2.1
  have rb := rkC_b hs1 hs2
  have rl := rk_le s
  have i1 : pt ≤ 40 := by obtain ⟨c, t, j, σ, s, d, h1, h2, h3, h4, h5, h6, h7, h8, h9, h10, h11⟩ := hI; exact h6
  have i2 : nOp l ≤ 8 ∧ 2 * os ≤ pt ∧ ts ≤ p ∧ cs + l.length ≤ 2 * pt ∧ l.length ≤ pt := by obtain ⟨c, t, j, σ, s, d, h1, h2, h3, h4, h5, h6, h7, h8, h9, h10, h11⟩ := hI; exact ⟨h5, h9, h10, h7, h8⟩
  rw [goB_n (x := 0) hT hI hg hk hk2 hm hm2 pq qp pL hq hqL h32 hR (by omega) (fun _ => by split <;> omega), r126_b n (nI pt) (by omega) (by omega)]
  by_cases hp : pt < 40
  · obtain ⟨l', c', t', j', σ', s', oc', ro', cs', d', C', A', a1, a2, a3, a4, a5, a6, a7, a8, a9, a10, a11⟩ := pop_B n (rkC s) (by omega) hn hI BC p' 3 q (pt + 1) (nI s).toInt64
    rw [r262_t n pt (nI 1) hp (by omega) (by omega), r397 n _ (by omega) (by omega), show stT (s + 9) = 0 by unfold stT; rw [if_neg (by omega), if_neg (by omega), if_neg (by omega)]]
    have tw := tr_s n Tp s l'.length cs' (tpe := tpe) hc hs2 hp (by omega) (by omega) a1
    obtain ⟨p3, κ3, q3, x3, e⟩ := nx_e hT pL cs' (l'.length + 1) os 3 q 0 (pt + 1) (nI s).toInt64 C' (upd S l'.length (nI s)) (upd SA l'.length (nI cs')) F T A'
    rw [lp_o n Tp (m + 1) k (by omega) (by omega) (by omega) (tw.trans (t148 n Tp 1 (by omega) e))]
    have f := ihA p' k (m + 1) m2 (pt + 1) os cs' (ts + 1) (σ' + s') (s + 9) q 3 q (s :: l') (nI s).toInt64 w C' (upd S l'.length (nI s)) (upd SA l'.length (nI cs')) F T (upd K ts (nI (s + 9))) (upd P ts (-nI 1)) OA A' (vp_updL N ts w) pos _ (by omega) (by omega) (by omega) (by omega) (by omega) (iB_s (p := p) a2 a3 hs1 hs2 hc a4 a5 a6 (by omega) hp a9 a10 a11 (by omega) (by omega) (by omega) pL) e
    rw [nOp_u (by omega), a7] at f
    exact f
  · have hp40 : pt = 40 := by omega
    subst hp40
    rw [r262_3 n (nI 1) (nI 0) (by omega) (by omega) (by omega)]
    obtain ⟨c, t, j, σ, s', d, h1, h2, h3, h4, h5, h6, h7, h8, h9, h10, h11⟩ := hI
    have k1 := h2.1.1
    obtain ⟨kk, A', ep⟩ := pop_f n (rkC s) (by omega) (B := BC) (cs := cs) (os := os) (ap := p') (kd := 3) (fr := q) (ft := 3 + 8 * q) (pt := 41) (nm := (nI s).toInt64) (by omega) (by omega) l n c t j σ A (by omega) h1 (by omega) (by omega)
    exact wB_f hT m k 1 (by omega) (by omega) (tr_f n Tp s kk hs1 hs2 (by omega) ep) (by omega) pL (by omega) (by omega) (by omega) rfl
theorem sB_g {n Tp L : Nat} {z : Nat → Nat} {tpe BC BR : St} {X : St × St} {g : Nat} (hT : txt n Tp L z tpe BC BR) (ihA : wA n Tp L tpe BC BR X g) {p q p' k m m2 pt os cs ts : Nat} {l : List Nat} {x w : Int64} {C : Nat → Int32} {A : Nat → Int64} {F T K P : Nat → Int32} {N : Nat → Int64} {pos : Nat → Nat} {S SA OA : Nat → Int32} (hI : iB l L p cs ts os pt C A F T K P N pos S SA OA) (hg : L - p < g + 1) (hk : L - p < k + 1) (hk2 : k + 1 ≤ 121) (hm : k + 1 < m + 2) (hm2 : L - p < m2 + 1) (pq : p ≤ q) (qp : q < p') (pL : p' ≤ L) {s tk st : Nat} {tv : Int64} (hs1 : 1 ≤ s) (hs2 : s ≤ 18) (hc : s ≤ 2) (hq : q = qS z L p) (hqL : q < L) (h32 : ¬ z q = 32) (hR : df_X15_scan n (mR BR q tk st ts (nOp l) 0 tv K P OA N, X) = some (mR BR p' (s + 9) q ts (nOp l) 0 w K P OA N, X)) : wEnd BC BR tpe X (df_X2_read_11 n Tp (m + 2) (nI 0) (nI 1) (nI (k + 1)) (tpe, mC BC cs l.length os p' 3 q 0 pt (nI s).toInt64 C S SA F T A)) (df_X15_read_24 n (m2 + 1) (nI pt) (nI 1) (mR BR p tk st ts (nOp l) 0 tv K P OA N, X)) := by
  have hn := hT.2.2.2.2.1
  have hL := hT.2.2.2.1
  have rb := rkC_b hs1 hs2
  have rl := rk_le s
  have i1 : pt ≤ 40 := by obtain ⟨c, t, j, σ, s, d, h1, h2, h3, h4, h5, h6, h7, h8, h9, h10, h11⟩ := hI; exact h6
  have i2 : nOp l ≤ 8 ∧ 2 * os ≤ pt ∧ ts ≤ p ∧ cs + l.length ≤ 2 * pt ∧ l.length ≤ pt := by obtain ⟨c, t, j, σ, s, d, h1, h2, h3, h4, h5, h6, h7, h8, h9, h10, h11⟩ := hI; exact ⟨h5, h9, h10, h7, h8⟩
  rw [goB_n (x := 0) hT hI hg hk hk2 hm hm2 pq qp pL hq hqL h32 hR (by omega) (fun _ => by split <;> omega), r126_b n (nI pt) (by omega) (by omega)]
  by_cases hp : pt < 40
  · obtain ⟨l', c', t', j', σ', s', oc', ro', cs', d', C', A', a1, a2, a3, a4, a5, a6, a7, a8, a9, a10, a11⟩ := pop_B n (rkC s) (by omega) hn hI BC p' 3 q (pt + 1) (nI s).toInt64
    rw [r262_t n pt (nI 1) hp (by omega) (by omega), r397 n _ (by omega) (by omega), show stT (s + 9) = 0 by unfold stT; rw [if_neg (by omega), if_neg (by omega), if_neg (by omega)]]
    have tw := tr_g n Tp s l'.length cs' (tpe := tpe) (by omega) hp (by omega) (by omega) a1
    obtain ⟨p3, κ3, q3, x3, e⟩ := nx_e hT pL (cs' + 1) (l'.length + 1) os 3 q 0 (pt + 1) (nI s).toInt64 (upd C' cs' (nI (36 - s))) (upd S l'.length (nI s)) (upd SA l'.length (nI cs')) F T (vp_updL A' cs' 0)
    rw [lp_o n Tp (m + 1) k (by omega) (by omega) (by omega) (tw.trans (t148 n Tp 1 (by omega) e))]
    have f := ihA p' k (m + 1) m2 (pt + 1) os (cs' + 1) (ts + 1) (σ' + s') (s + 9) q 3 q (s :: l') (nI s).toInt64 w (upd C' cs' (nI (36 - s))) (upd S l'.length (nI s)) (upd SA l'.length (nI cs')) F T (upd K ts (nI (s + 9))) (upd P ts (-nI 1)) OA (vp_updL A' cs' 0) (vp_updL N ts w) pos _ (by omega) (by omega) (by omega) (by omega) (by omega) (iB_g (p := p) a2 a3 hs1 hs2 hc a4 a5 a6 (by omega) hp a9 a10 a11 (by omega) (by omega) (by omega) pL) e
    rw [nOp_u (by omega), a7] at f
    exact f
  · have hp40 : pt = 40 := by omega
    subst hp40
    rw [r262_3 n (nI 1) (nI 0) (by omega) (by omega) (by omega)]
    obtain ⟨c, t, j, σ, s', d, h1, h2, h3, h4, h5, h6, h7, h8, h9, h10, h11⟩ := hI
    have k1 := h2.1.1
    obtain ⟨kk, A', ep⟩ := pop_f n (rkC s) (by omega) (B := BC) (cs := cs) (os := os) (ap := p') (kd := 3) (fr := q) (ft := 3 + 8 * q) (pt := 41) (nm := (nI s).toInt64) (by omega) (by omega) l n c t j σ A (by omega) h1 (by omega) (by omega)
    exact wB_f hT m k 1 (by omega) (by omega) (tr_f n Tp s kk hs1 hs2 (by omega) ep) (by omega) pL (by omega) (by omega) (by omega) rfl
theorem sB_c28 {n Tp L : Nat} {z : Nat → Nat} {tpe BC BR : St} {X : St × St} {g : Nat} (hT : txt n Tp L z tpe BC BR) (ihB : wB n Tp L tpe BC BR X g) {p q p' k m m2 pt os cs ts : Nat} {l : List Nat} {x w : Int64} {C : Nat → Int32} {A : Nat → Int64} {F T K P : Nat → Int32} {N : Nat → Int64} {pos : Nat → Nat} {S SA OA : Nat → Int32} (hI : iB l L p cs ts os pt C A F T K P N pos S SA OA) (hg : L - p < g + 1) (hk : L - p < k + 1) (hk2 : k + 1 ≤ 121) (hm : k + 1 < m + 2) (hm2 : L - p < m2 + 1) (pq : p ≤ q) (qp : q < p') (pL : p' ≤ L) {tk st : Nat} {tv : Int64} (hq : q = qS z L p) (hqL : q < L) (h32 : ¬ z q = 32) (hR : df_X15_scan n (mR BR q tk st ts (nOp l) 0 tv K P OA N, X) = some (mR BR p' 31 q ts (nOp l) 0 w K P OA N, X)) : wEnd BC BR tpe X (df_X2_read_11 n Tp (m + 2) (nI 0) (nI 1) (nI (k + 1)) (tpe, mC BC cs l.length os p' 3 q 0 pt (nI 28).toInt64 C S SA F T A)) (df_X15_read_24 n (m2 + 1) (nI pt) (nI 1) (mR BR p tk st ts (nOp l) 0 tv K P OA N, X)) := by
  have hn := hT.2.2.2.2.1
  have hL := hT.2.2.2.1
  have i1 : pt ≤ 40 ∧ nOp l ≤ 8 ∧ 2 * os ≤ pt ∧ ts ≤ p := by obtain ⟨c, t, j, σ, s, d, h1, h2, h3, h4, h5, h6, h7, h8, h9, h10, h11⟩ := hI; exact ⟨h6, h5, h9, h10⟩
  obtain ⟨l', c', t', j', σ', s', oc', ro', cs', d', C', A', a1, a2, a3, a4, a5, a6, a7, a8, a9, a10, a11⟩ := pop_B n 0 (by omega) hn hI BC p' 3 q pt (nI 28).toInt64
  match l', a1, a2, a5, a6, a7, a8, a9, a10 with
  | [], a1, a2, a5, a6, a7, a8, a9, a10 =>
    have a7 : nOp l = 0 := a7.symm
    exact sB_b hT hI hg hk hk2 hm hm2 pq qp pL hq hqL h32 hR (by omega) (by omega) (by omega) (fun y => by omega) (by omega) (tr_c28 n Tp (tc_0 n 0 cs' a1))
  | o :: r, a1, a2, a5, a6, a7, a8, a9, a10 =>
    have o22 : 22 ≤ o := by
      rcases a5 with e | ⟨e, e2⟩
      · exact e
      · omega
    obtain ⟨_, _, _, _, hS, _, o27, _⟩ := frs_le _ c' t' j' σ' a2 o r rfl
    have a8 : tpO l = o := by rw [← a8]; exact if_pos o22
    rw [nOp_o o22] at a7
    have hl1 : r.length + 1 ≤ pt := a10
    have hl2 : cs' + (r.length + 1) ≤ 2 * pt := a9
    by_cases hc : o ≤ 24
    · rw [goB_c (x := 0) hT hI hg hk hk2 hm hm2 pq qp pL hq hqL h32 hR (by omega) (by rw [a8, if_pos hc]), ← a7]
      rcases (show o = 22 ∨ o = 23 ∨ o = 24 by omega) with rfl | rfl | rfl
      · obtain ⟨y, c3, t3, j3, σ3, y1, y2, y3, y4, y5, y6⟩ := cl_22 w a2 a3 a6 (by omega)
        rw [r262_s n y (nI pt) (nI 1) (by omega) (by omega) (by omega) (by omega) y1 y2]
        have tw := tr_c28 n Tp (tpe := tpe) (tc_22 n cs' r.length (by omega) hS a1)
        obtain ⟨p3, κ3, q3, x3, e⟩ := nx_e hT pL cs' r.length os 3 q 0 pt (nI 28).toInt64 C' S SA F T A'
        rw [lp_o n Tp (m + 1) k (by omega) (by omega) (by omega) (tw.trans (t148 n Tp 0 (by omega) e))]
        exact ihB p' k (m + 1) m2 pt os cs' (ts + 1) 31 q 3 q r (nI 28).toInt64 w C' S SA F T (upd K ts (nI 31)) (upd (upd P y (nI ts)) ts (nI y)) OA A' (vp_updL N ts w) pos _ (by omega) (by omega) (by omega) (by omega) (by omega) ⟨c3, t3, j3, σ3, s', _, y3, y4, y6, by omega, by omega, by omega, by omega, by omega, by omega, by omega, pL⟩ e
      · obtain ⟨i0, i40, hSA, y, c3, t3, j3, σ3, y1, y2, y3, y4, y5, y6⟩ := cl_23 w (by omega) a2 a3 a6 (by omega)
        rw [r262_s n y (nI pt) (nI 1) (by omega) (by omega) (by omega) (by omega) y1 y2]
        have tw := tr_c28 n Tp (tpe := tpe) (tc_23 n cs' r.length i0 (by omega) hS hSA i40 a1)
        obtain ⟨p3, κ3, q3, x3, e⟩ := nx_e hT pL cs' r.length os 3 q 0 pt (nI 28).toInt64 C' S SA F (upd T i0 (nI cs')) A'
        rw [lp_o n Tp (m + 1) k (by omega) (by omega) (by omega) (tw.trans (t148 n Tp 0 (by omega) e))]
        exact ihB p' k (m + 1) m2 pt os cs' (ts + 1) 31 q 3 q r (nI 28).toInt64 w C' S SA F (upd T i0 (nI cs')) (upd K ts (nI 31)) (upd (upd P y (nI ts)) ts (nI y)) OA A' (vp_updL N ts w) pos _ (by omega) (by omega) (by omega) (by omega) (by omega) ⟨c3, t3, j3, σ3, s', _, y3, y4, y6, by omega, by omega, by omega, by omega, by omega, by omega, by omega, pL⟩ e
      · obtain ⟨i0, i40, hSA, y, c3, t3, j3, σ3, y1, y2, y3, y4, y5, y6⟩ := cl_24 w (by omega) a2 a3 a6 (by omega)
        rw [r262_s n y (nI pt) (nI 1) (by omega) (by omega) (by omega) (by omega) y1 y2]
        have tw := tr_c28 n Tp (tpe := tpe) (tc_24 n cs' r.length i0 (by omega) (by omega) hS hSA i40 a1)
        obtain ⟨p3, κ3, q3, x3, e⟩ := nx_e hT pL (cs' + 1) r.length os 3 q 0 pt (nI 28).toInt64 (upd C' cs' (nI 24)) S SA F (upd T i0 (nI cs')) (vp_updL A' cs' (nI i0).toInt64)
        rw [lp_o n Tp (m + 1) k (by omega) (by omega) (by omega) (tw.trans (t148 n Tp 0 (by omega) e))]
        exact ihB p' k (m + 1) m2 pt os (cs' + 1) (ts + 1) 31 q 3 q r (nI 28).toInt64 w (upd C' cs' (nI 24)) S SA F (upd T i0 (nI cs')) (upd K ts (nI 31)) (upd (upd P y (nI ts)) ts (nI y)) OA (vp_updL A' cs' (nI i0).toInt64) (vp_updL N ts w) pos _ (by omega) (by omega) (by omega) (by omega) (by omega) ⟨c3, t3, j3, σ3, s', _, y3, y4, y6, by omega, by omega, by omega, by omega, by omega, by omega, by omega, pL⟩ e
    · exact sB_b hT hI hg hk hk2 hm hm2 pq qp pL hq hqL h32 hR (by omega) (by omega) (by omega) (fun _ => by rw [a8, if_neg hc]; omega) (by omega) (tr_c28 n Tp (tc_b n 0 cs' r.length o (by omega) hS (by omega) (by omega) (by omega) a1))
theorem sB_c29 {n Tp L : Nat} {z : Nat → Nat} {tpe BC BR : St} {X : St × St} {g : Nat} (hT : txt n Tp L z tpe BC BR) (ihB : wB n Tp L tpe BC BR X g) {p q p' k m m2 pt os cs ts : Nat} {l : List Nat} {x w : Int64} {C : Nat → Int32} {A : Nat → Int64} {F T K P : Nat → Int32} {N : Nat → Int64} {pos : Nat → Nat} {S SA OA : Nat → Int32} (hI : iB l L p cs ts os pt C A F T K P N pos S SA OA) (hg : L - p < g + 1) (hk : L - p < k + 1) (hk2 : k + 1 ≤ 121) (hm : k + 1 < m + 2) (hm2 : L - p < m2 + 1) (pq : p ≤ q) (qp : q < p') (pL : p' ≤ L) {tk st : Nat} {tv : Int64} (hq : q = qS z L p) (hqL : q < L) (h32 : ¬ z q = 32) (hR : df_X15_scan n (mR BR q tk st ts (nOp l) 0 tv K P OA N, X) = some (mR BR p' 33 q ts (nOp l) 0 w K P OA N, X)) : wEnd BC BR tpe X (df_X2_read_11 n Tp (m + 2) (nI 0) (nI 1) (nI (k + 1)) (tpe, mC BC cs l.length os p' 3 q 0 pt (nI 29).toInt64 C S SA F T A)) (df_X15_read_24 n (m2 + 1) (nI pt) (nI 1) (mR BR p tk st ts (nOp l) 0 tv K P OA N, X)) := by
  have hn := hT.2.2.2.2.1
  have hL := hT.2.2.2.1
  have i1 : pt ≤ 40 ∧ nOp l ≤ 8 ∧ 2 * os ≤ pt ∧ ts ≤ p := by obtain ⟨c, t, j, σ, s, d, h1, h2, h3, h4, h5, h6, h7, h8, h9, h10, h11⟩ := hI; exact ⟨h6, h5, h9, h10⟩
  obtain ⟨l', c', t', j', σ', s', oc', ro', cs', d', C', A', a1, a2, a3, a4, a5, a6, a7, a8, a9, a10, a11⟩ := pop_B n 0 (by omega) hn hI BC p' 3 q pt (nI 29).toInt64
  match l', a1, a2, a5, a6, a7, a8, a9, a10 with
  | [], a1, a2, a5, a6, a7, a8, a9, a10 =>
    have a7 : nOp l = 0 := a7.symm
    exact sB_b hT hI hg hk hk2 hm hm2 pq qp pL hq hqL h32 hR (by omega) (by omega) (by omega) (fun y => by omega) (by omega) (tr_c29 n Tp (tc_0 n 1 cs' a1))
  | o :: r, a1, a2, a5, a6, a7, a8, a9, a10 =>
    have o22 : 22 ≤ o := by
      rcases a5 with e | ⟨e, e2⟩
      · exact e
      · omega
    obtain ⟨_, _, _, _, hS, _, o27, _⟩ := frs_le _ c' t' j' σ' a2 o r rfl
    have a8 : tpO l = o := by rw [← a8]; exact if_pos o22
    rw [nOp_o o22] at a7
    have hl1 : r.length + 1 ≤ pt := a10
    have hl2 : cs' + (r.length + 1) ≤ 2 * pt := a9
    by_cases hc : 25 ≤ o
    · rw [goB_c (x := 0) hT hI hg hk hk2 hm hm2 pq qp pL hq hqL h32 hR (by omega) (by rw [a8, if_neg (by omega)]), ← a7]
      rcases (show o = 25 ∨ o = 26 ∨ o = 27 by omega) with rfl | rfl | rfl
      · obtain ⟨y, c3, t3, j3, σ3, y1, y2, y3, y4, y5, y6⟩ := cl_25 w (SA r.length).toInt64 a2 a3 a6 (by omega)
        rw [r262_s n y (nI pt) (nI 1) (by omega) (by omega) (by omega) (by omega) y1 y2]
        have tw := tr_c29 n Tp (tpe := tpe) (tc_25 n cs' r.length (by omega) (by omega) hS a1)
        obtain ⟨p3, κ3, q3, x3, e⟩ := nx_e hT pL (cs' + 1) r.length os 3 q 0 pt (nI 29).toInt64 (upd C' cs' (nI 25)) S SA F T (vp_updL A' cs' (SA r.length).toInt64)
        rw [lp_o n Tp (m + 1) k (by omega) (by omega) (by omega) (tw.trans (t148 n Tp 0 (by omega) e))]
        exact ihB p' k (m + 1) m2 pt os (cs' + 1) (ts + 1) 33 q 3 q r (nI 29).toInt64 w (upd C' cs' (nI 25)) S SA F T (upd K ts (nI 33)) (upd (upd P y (nI ts)) ts (nI y)) OA (vp_updL A' cs' (SA r.length).toInt64) (vp_updL N ts w) pos _ (by omega) (by omega) (by omega) (by omega) (by omega) ⟨c3, t3, j3, σ3, s', _, y3, y4, y6, by omega, by omega, by omega, by omega, by omega, by omega, by omega, pL⟩ e
      · obtain ⟨y, c3, t3, j3, σ3, y1, y2, y3, y4, y5, y6⟩ := cl_26 w (SA r.length).toInt64 a2 a3 a6 (by omega)
        rw [r262_s n y (nI pt) (nI 1) (by omega) (by omega) (by omega) (by omega) y1 y2]
        have tw := tr_c29 n Tp (tpe := tpe) (tc_26 n cs' r.length (by omega) (by omega) hS a1)
        obtain ⟨p3, κ3, q3, x3, e⟩ := nx_e hT pL (cs' + 1) r.length os 3 q 0 pt (nI 29).toInt64 (upd C' cs' (nI 26)) S SA F T (vp_updL A' cs' (SA r.length).toInt64)
        rw [lp_o n Tp (m + 1) k (by omega) (by omega) (by omega) (tw.trans (t148 n Tp 0 (by omega) e))]
        exact ihB p' k (m + 1) m2 pt os (cs' + 1) (ts + 1) 33 q 3 q r (nI 29).toInt64 w (upd C' cs' (nI 26)) S SA F T (upd K ts (nI 33)) (upd (upd P y (nI ts)) ts (nI y)) OA (vp_updL A' cs' (SA r.length).toInt64) (vp_updL N ts w) pos _ (by omega) (by omega) (by omega) (by omega) (by omega) ⟨c3, t3, j3, σ3, s', _, y3, y4, y6, by omega, by omega, by omega, by omega, by omega, by omega, by omega, pL⟩ e
      · obtain ⟨y, c3, t3, j3, σ3, y1, y2, y3, y4, y5, y6⟩ := cl_27 w (SA r.length).toInt64 a2 a3 a6 (by omega)
        rw [r262_s n y (nI pt) (nI 1) (by omega) (by omega) (by omega) (by omega) y1 y2]
        have tw := tr_c29 n Tp (tpe := tpe) (tc_27 n cs' r.length (by omega) (by omega) hS a1)
        obtain ⟨p3, κ3, q3, x3, e⟩ := nx_e hT pL (cs' + 1) r.length os 3 q 0 pt (nI 29).toInt64 (upd C' cs' (nI 27)) S SA F T (vp_updL A' cs' (SA r.length).toInt64)
        rw [lp_o n Tp (m + 1) k (by omega) (by omega) (by omega) (tw.trans (t148 n Tp 0 (by omega) e))]
        exact ihB p' k (m + 1) m2 pt os (cs' + 1) (ts + 1) 33 q 3 q r (nI 29).toInt64 w (upd C' cs' (nI 27)) S SA F T (upd K ts (nI 33)) (upd (upd P y (nI ts)) ts (nI y)) OA (vp_updL A' cs' (SA r.length).toInt64) (vp_updL N ts w) pos _ (by omega) (by omega) (by omega) (by omega) (by omega) ⟨c3, t3, j3, σ3, s', _, y3, y4, y6, by omega, by omega, by omega, by omega, by omega, by omega, by omega, pL⟩ e
    · exact sB_b hT hI hg hk hk2 hm hm2 pq qp pL hq hqL h32 hR (by omega) (by omega) (by omega) (fun _ => by rw [a8, if_pos (by omega)]; omega) (by omega) (tr_c29 n Tp (tc_b n 1 cs' r.length o (by omega) hS (by omega) (by omega) (by omega) a1))
theorem sB_all {n Tp L : Nat} {z : Nat → Nat} {tpe BC BR : St} {X : St × St} {g : Nat} (hT : txt n Tp L z tpe BC BR) (ihA : wA n Tp L tpe BC BR X g) (ihB : wB n Tp L tpe BC BR X g) : wB n Tp L tpe BC BR X (g + 1) := by
  intro p k m m2 pt os cs ts tk st kd fr l nm tv C S SA F T K P OA A N pos u hg hk hk2 hm hm2 hI hu
  obtain ⟨T1, T2, T3, T4, T5, T6, T7, T8, T9⟩ := id hT
  have i9 : p ≤ L := by obtain ⟨c, t, j, σ, s, d, h1, h2, h3, h4, h5, h6, h7, h8, h9, h10, h11⟩ := hI; exact h11
  obtain ⟨k, rfl⟩ : ∃ j : Nat, k = j + 1 := ⟨k - 1, by omega⟩
  obtain ⟨m, rfl⟩ : ∃ j : Nat, m = j + 2 := ⟨m - 2, by omega⟩
  obtain ⟨m2, rfl⟩ : ∃ j : Nat, m2 = j + 1 := ⟨m2 - 1, by omega⟩
  obtain ⟨q, p', κ, s, τ, μ, gg, v, e1, e2, e3, e4, e5, e6⟩ := tk_all n Tp L p T1 T2 T3 T4 T5 T6 T7 T8 T9 i9
  obtain ⟨x, hN, hN1, hN3⟩ := e5 cs l.length os kd fr 0 pt nm C S SA F T A
  rw [hN] at hu
  obtain rfl := Option.some.inj hu
  rcases e6 with ⟨z1, z2, z3⟩ | ⟨hqL, hqp, h32, hR2, hd⟩
  · subst z1
    subst z3
    subst z2
    exact sB_E hT hI hk hk2 e1
  obtain ⟨d1, d2, d3, d4, d5, d6, d7, d8⟩ := tk_v hd
  obtain ⟨w, hR, hR1, hR22⟩ := hR2 tk st ts (nOp l) 0 tv K P OA N X
  rcases hd with ⟨rfl, rfl⟩ | ⟨rfl, ht, hM⟩ | ⟨rfl, h1, h2, h3⟩ | ⟨rfl, rfl⟩
  · exact sB_b hT hI hg hk hk2 hm hm2 e2 hqp e4 e1 hqL h32 hR (by omega) (by omega) (by omega) (fun _ => by split <;> omega) (by omega) (tr_b n Tp (by omega) (by omega))
  · unfold tkT at ht
    exact sB_b hT hI hg hk hk2 hm hm2 e2 hqp e4 e1 hqL h32 hR (by omega) (by omega) (by omega) (fun _ => by split <;> omega) (by omega) (tr_b n Tp (by omega) (by omega))
  · have hx : x = (nI s).toInt64 := hN3 rfl
    subst hx
    have e := tS_v h1 h2
    rw [← h3] at e
    rcases e with ⟨e, f⟩ | e | e | e | e | ⟨e, f⟩ | ⟨e, f⟩
    · subst f
      by_cases c : 3 ≤ s
      · exact sB_s (x := 0) hT ihA hI hg hk hk2 hm hm2 e2 hqp e4 h1 e c e1 hqL h32 hR
      · exact sB_g (x := 0) hT ihA hI hg hk hk2 hm hm2 e2 hqp e4 h1 e (by omega) e1 hqL h32 hR
    · exact sB_b hT hI hg hk hk2 hm hm2 e2 hqp e4 e1 hqL h32 hR (by omega) (by omega) (by omega) (fun _ => by split <;> omega) (by omega) (tr_bs n Tp s (by omega) (by omega) (by omega) (by omega))
    · exact sB_b hT hI hg hk hk2 hm hm2 e2 hqp e4 e1 hqL h32 hR (by omega) (by omega) (by omega) (fun _ => by split <;> omega) (by omega) (tr_bs n Tp s (by omega) (by omega) (by omega) (by omega))
    · exact sB_b hT hI hg hk hk2 hm hm2 e2 hqp e4 e1 hqL h32 hR (by omega) (by omega) (by omega) (fun _ => by split <;> omega) (by omega) (tr_bs n Tp s (by omega) (by omega) (by omega) (by omega))
    · exact sB_b hT hI hg hk hk2 hm hm2 e2 hqp e4 e1 hqL h32 hR (by omega) (by omega) (by omega) (fun _ => by split <;> omega) (by omega) (tr_bs n Tp s (by omega) (by omega) (by omega) (by omega))
    · subst e
      subst f
      exact sB_c28 (x := 0) hT ihB hI hg hk hk2 hm hm2 e2 hqp e4 e1 hqL h32 hR
    · subst e
      subst f
      exact sB_c29 (x := 0) hT ihB hI hg hk hk2 hm hm2 e2 hqp e4 e1 hqL h32 hR
  · exact sB_b hT hI hg hk hk2 hm hm2 e2 hqp e4 e1 hqL h32 hR (by omega) (by omega) (by omega) (fun _ => by split <;> omega) (by omega) (tr_b n Tp (by omega) (by omega))
theorem wAB {n Tp L : Nat} {z : Nat → Nat} {tpe BC BR : St} (X : St × St) (hT : txt n Tp L z tpe BC BR) : ∀ g : Nat, wA n Tp L tpe BC BR X g ∧ wB n Tp L tpe BC BR X g := fun g => by
  induction g with
  | zero =>
    refine ⟨?_, ?_⟩
    · intro p k m m2 pt os cs ts σ tk st kd fr l nm tv C S SA F T K P OA A N pos u hg
      omega
    · intro p k m m2 pt os cs ts tk st kd fr l nm tv C S SA F T K P OA A N pos u hg
      omega
  | succ g ih => exact ⟨sA_all hT ih.1 ih.2, sB_all hT ih.1 ih.2⟩

/-- a byte of the tape, in both -/
theorem tb_z {R : Nat → Int32} (h : tbW R) {j : Nat} (hj : j < 32768) : ∃ z : Nat, z < 256 ∧ R j = vp_nar .byte ((nI z).toInt8.toInt32) ∧ R j &&& 255 = nI z := by
  obtain ⟨x, hx⟩ := h j hj
  have hz : x.toInt8.toBitVec.toNat < 256 := x.toInt8.toBitVec.isLt
  have e : (nI x.toInt8.toBitVec.toNat).toInt8 = x.toInt8 := by
    rw [show nI x.toInt8.toBitVec.toNat = Int32.ofNat x.toInt8.toBitVec.toNat from rfl, Int32.toInt8_ofNat']
    apply Int8.toBitVec_inj.1
    simp
  refine ⟨_, hz, by rw [hx, e], ?_⟩
  have q : vp_nar .byte ((nI x.toInt8.toBitVec.toNat).toInt8.toInt32) &&& nI 255 = nI x.toInt8.toBitVec.toNat := nar_255 ⟨_, hz⟩
  rw [e] at q
  rw [hx]
  exact q
theorem bz_C : ∀ z : Fin 256, (vp_nar .byte ((nI z.1).toInt8.toInt32) < 32 ↔ (z.1 < 32 ∨ 128 ≤ z.1)) ∧ (vp_nar .byte ((nI z.1).toInt8.toInt32) ≤ 126 ↔ (z.1 ≤ 126 ∨ 128 ≤ z.1)) ∧ (z.1 < 128 → vp_nar .byte ((nI z.1).toInt8.toInt32) = nI z.1) := by decide +kernel
theorem nch : ∀ z : Fin 256, vp_nar .char ((nI z.1).toUInt32.toUInt16.toUInt32.toInt32) = nI z.1 := by decide +kernel
/-- the first loop over the letters -/
theorem cp_1 (n Tp m i L z : Nat) {tpe Cd : St} (hi : i < 120) (hL : i < L) (hL2 : L ≤ 32768) (h4 : sI Cd 4 = nI L) (hz : 32 ≤ z) (hz2 : z ≤ 126) (ht : sR tpe 0 i = vp_nar .byte ((nI z).toInt8.toInt32)) : df_X2_compile_17 n Tp (m + 1) (nI i) (tpe, Cd) = df_X2_compile_17 n Tp m (nI (i + 1)) (tpe, Cd) := by
  have b := bz_C ⟨z, by omega⟩
  have b3 := b.2.2 (show z < 128 by omega)
  have ht : sR tpe 0 i = nI z := ht.trans b3
  have w : nI i + Int32.ofInt 1 = nI (i + 1) := by rw [show Int32.ofInt 1 = nI 1 from rfl, nI_add]
  simp (disch := (first | assumption | decide | omega)) only [(show df_X2_compile_17 n Tp (m + 1) = dF_X2_compile_17 n Tp (df_X2_compile_17 n Tp m) from rfl), dF_X2_compile_17, df_X2_compile_47, df_X2_compile_0, df_X2_compile, h4, ht, w, eq_self, Nat.reduceEqDiff, Nat.reduceLeDiff, nl_0, nl_1, nl_2, nl_4, nl_5, nl_8, nl_9, nl_32, nl_120, nl_126, nl_32768, no_1, no_1024, pk_mul, nI_add, nm_ck, nI_clamp, nI_ltI, nI_leI, nI_eq, nb_b2, nb_b1, ↓nb_let, nm_z0, nm_z1, nb_II, nb_IR, nb_RI, nb_RR, nm_IL, nm_IQ, nm_RL, nm_RQ, nm_LI, nm_LR, nm_LL, nm_LQ, nm_QI, nm_QR, nm_QL, nm_QQ, nm_rr, nm_ii, nm_eqm, not_false_eq_true, pk_sub, nm_div, nm_shl, nm_shr, nm_ush, nm_or8, nm_or64, nm_or256, nm_m1, nm_m3, nm_m7, nm_m15, nm_m31, nm_m63, nm_m255, nm_m511, nm_m1023, nm_m2047, nm_m65535, Nat.reduceMod, Nat.reducePow, Nat.reduceAdd, Nat.reduceSub, Nat.reduceMul, nm_bo, nm_bi, nm_rc, nm_ic, nm_ri, nm_rl, nm_rq, nm_ql, nm_qi, nm_li, nm_us, nm_uu, nm_cp, nm_sa31, nm_sa7, nm_m127, nm_m2, nm_nz, nm_nzk, nm_eq32, nm_nzf, if_true, if_false, ↓reduceIte, if_pos, if_neg]
theorem cp_b (n Tp m i L z : Nat) {tpe Cd : St} (hi : i ≤ 120) (hL : i < L) (hL2 : L ≤ 32768) (h4 : sI Cd 4 = nI L) (hz : z < 256) (hb : i = 120 ∨ z < 32 ∨ 126 < z) (ht : sR tpe 0 i = vp_nar .byte ((nI z).toInt8.toInt32)) : df_X2_compile_17 n Tp (m + 1) (nI i) (tpe, Cd) = some (nI (1 + 8 * i), (tpe, Cd)) := by
  have b := bz_C ⟨z, hz⟩
  have b1 := b.1
  have b2 := b.2.1
  rw [← ht] at b1 b2
  have b1 : sR tpe 0 i < 32 ↔ (z < 32 ∨ 128 ≤ z) := b1
  have b2 : sR tpe 0 i ≤ 126 ↔ (z ≤ 126 ∨ 128 ≤ z) := b2
  have ef : df_X2_compile_47 n Tp (nI i) (tpe, Cd) = some (nI (1 + 8 * i), (tpe, Cd)) := by
    simp (disch := (first | assumption | decide | omega)) only [df_X2_compile_47, eq_self, Nat.reduceEqDiff, Nat.reduceLeDiff, nl_1, nl_8, no_1, no_1024, pk_mul, nI_add, nm_ck, nI_clamp, nI_ltI, nI_leI, nI_eq, nb_b2, nb_b1, ↓nb_let, nm_z0, nm_z1, nb_II, nb_IR, nb_RI, nb_RR, nm_IL, nm_IQ, nm_RL, nm_RQ, nm_LI, nm_LR, nm_LL, nm_LQ, nm_QI, nm_QR, nm_QL, nm_QQ, nm_rr, nm_ii, nm_eqm, not_false_eq_true, pk_sub, nm_div, nm_shl, nm_shr, nm_ush, nm_or8, nm_or64, nm_or256, nm_m1, nm_m3, nm_m7, nm_m15, nm_m31, nm_m63, nm_m255, nm_m511, nm_m1023, nm_m2047, nm_m65535, Nat.reduceMod, Nat.reducePow, Nat.reduceAdd, Nat.reduceSub, Nat.reduceMul, nm_bo, nm_bi, nm_rc, nm_ic, nm_ri, nm_rl, nm_rq, nm_ql, nm_qi, nm_li, nm_us, nm_uu, nm_cp, nm_sa31, nm_sa7, nm_m127, nm_m2, nm_nz, nm_nzk, nm_eq32, nm_nzf, if_true, if_false, ↓reduceIte, if_pos, if_neg]
  by_cases c : i = 120
  · subst c
    simp (disch := (first | assumption | decide | omega)) only [(show df_X2_compile_17 n Tp (m + 1) = dF_X2_compile_17 n Tp (df_X2_compile_17 n Tp m) from rfl), dF_X2_compile_17, df_X2_compile_0, df_X2_compile, h4, ef, eq_self, Nat.reduceEqDiff, Nat.reduceLeDiff, nl_0, nl_1, nl_2, nl_4, nl_5, nl_8, nl_9, nl_32, nl_120, nl_126, nl_32768, no_1, no_1024, pk_mul, nI_add, nm_ck, nI_clamp, nI_ltI, nI_leI, nI_eq, nb_b2, nb_b1, ↓nb_let, nm_z0, nm_z1, nb_II, nb_IR, nb_RI, nb_RR, nm_IL, nm_IQ, nm_RL, nm_RQ, nm_LI, nm_LR, nm_LL, nm_LQ, nm_QI, nm_QR, nm_QL, nm_QQ, nm_rr, nm_ii, nm_eqm, not_false_eq_true, pk_sub, nm_div, nm_shl, nm_shr, nm_ush, nm_or8, nm_or64, nm_or256, nm_m1, nm_m3, nm_m7, nm_m15, nm_m31, nm_m63, nm_m255, nm_m511, nm_m1023, nm_m2047, nm_m65535, Nat.reduceMod, Nat.reducePow, Nat.reduceAdd, Nat.reduceSub, Nat.reduceMul, nm_bo, nm_bi, nm_rc, nm_ic, nm_ri, nm_rl, nm_rq, nm_ql, nm_qi, nm_li, nm_us, nm_uu, nm_cp, nm_sa31, nm_sa7, nm_m127, nm_m2, nm_nz, nm_nzk, nm_eq32, nm_nzf, if_true, if_false, ↓reduceIte, if_pos, if_neg]
  · have c2 : ¬ 120 ≤ i := by omega
    by_cases d : z < 32 ∨ 128 ≤ z
    · have b1 : sR tpe 0 i < nI 32 := b1.mpr d
      simp (disch := (first | assumption | decide | omega)) only [(show df_X2_compile_17 n Tp (m + 1) = dF_X2_compile_17 n Tp (df_X2_compile_17 n Tp m) from rfl), dF_X2_compile_17, df_X2_compile_0, df_X2_compile, h4, ef, b1, eq_self, Nat.reduceEqDiff, Nat.reduceLeDiff, nl_0, nl_1, nl_2, nl_4, nl_5, nl_8, nl_9, nl_32, nl_120, nl_126, nl_32768, no_1, no_1024, pk_mul, nI_add, nm_ck, nI_clamp, nI_ltI, nI_leI, nI_eq, nb_b2, nb_b1, ↓nb_let, nm_z0, nm_z1, nb_II, nb_IR, nb_RI, nb_RR, nm_IL, nm_IQ, nm_RL, nm_RQ, nm_LI, nm_LR, nm_LL, nm_LQ, nm_QI, nm_QR, nm_QL, nm_QQ, nm_rr, nm_ii, nm_eqm, not_false_eq_true, pk_sub, nm_div, nm_shl, nm_shr, nm_ush, nm_or8, nm_or64, nm_or256, nm_m1, nm_m3, nm_m7, nm_m15, nm_m31, nm_m63, nm_m255, nm_m511, nm_m1023, nm_m2047, nm_m65535, Nat.reduceMod, Nat.reducePow, Nat.reduceAdd, Nat.reduceSub, Nat.reduceMul, nm_bo, nm_bi, nm_rc, nm_ic, nm_ri, nm_rl, nm_rq, nm_ql, nm_qi, nm_li, nm_us, nm_uu, nm_cp, nm_sa31, nm_sa7, nm_m127, nm_m2, nm_nz, nm_nzk, nm_eq32, nm_nzf, if_true, if_false, ↓reduceIte, if_pos, if_neg]
    · have b1 : ¬ sR tpe 0 i < nI 32 := fun y => d (b1.mp y)
      have b2 : ¬ sR tpe 0 i ≤ nI 126 := fun y => by have := b2.mp y; omega
      simp (disch := (first | assumption | decide | omega)) only [(show df_X2_compile_17 n Tp (m + 1) = dF_X2_compile_17 n Tp (df_X2_compile_17 n Tp m) from rfl), dF_X2_compile_17, df_X2_compile_0, df_X2_compile, h4, ef, b1, b2, eq_self, Nat.reduceEqDiff, Nat.reduceLeDiff, nl_0, nl_1, nl_2, nl_4, nl_5, nl_8, nl_9, nl_32, nl_120, nl_126, nl_32768, no_1, no_1024, pk_mul, nI_add, nm_ck, nI_clamp, nI_ltI, nI_leI, nI_eq, nb_b2, nb_b1, ↓nb_let, nm_z0, nm_z1, nb_II, nb_IR, nb_RI, nb_RR, nm_IL, nm_IQ, nm_RL, nm_RQ, nm_LI, nm_LR, nm_LL, nm_LQ, nm_QI, nm_QR, nm_QL, nm_QQ, nm_rr, nm_ii, nm_eqm, not_false_eq_true, pk_sub, nm_div, nm_shl, nm_shr, nm_ush, nm_or8, nm_or64, nm_or256, nm_m1, nm_m3, nm_m7, nm_m15, nm_m31, nm_m63, nm_m255, nm_m511, nm_m1023, nm_m2047, nm_m65535, Nat.reduceMod, Nat.reducePow, Nat.reduceAdd, Nat.reduceSub, Nat.reduceMul, nm_bo, nm_bi, nm_rc, nm_ic, nm_ri, nm_rl, nm_rq, nm_ql, nm_qi, nm_li, nm_us, nm_uu, nm_cp, nm_sa31, nm_sa7, nm_m127, nm_m2, nm_nz, nm_nzk, nm_eq32, nm_nzf, if_true, if_false, ↓reduceIte, if_pos, if_neg]
def zC (Cd : St) : St := pI (pI (pI (pI (pI (pI Cd 5 0) 0 0) 1 0) 2 0) 9 0) 8 0
theorem cp_e (n Tp m L : Nat) {tpe Cd : St} (hL2 : L ≤ 32768) (h4 : sI Cd 4 = nI L) : df_X2_compile_17 n Tp (m + 1) (nI L) (tpe, Cd) = nd_b1 (df_X2_read n Tp (tpe, zC Cd)) (fun s => some (sI s.2 8, s)) := by
  show dF_X2_compile_17 n Tp (df_X2_compile_17 n Tp m) (nI L) (tpe, Cd) = _
  unfold dF_X2_compile_17
  rw [if_pos (show sI Cd 4 ≤ nI L by rw [h4, nI_leI (by omega) (by omega)]; omega)]
  rfl
theorem cp_0 (n Tp L : Nat) {tpe Cd : St} (hL2 : L ≤ 32768) : df_X2_compile n Tp (nI L) (tpe, Cd) = df_X2_compile_17 n Tp n (nI 0) (tpe, pI (pO Cd 0 (some Tp)) 4 (nI L)) := by
  unfold df_X2_compile df_X2_compile_0
  rw [nb_let, nb_let]
  rw [if_neg (show ¬ (32768 : Int32) < nI L from fun y => by have y : nI 32768 < nI L := y; rw [nI_ltI (by omega) (by omega)] at y; omega)]
  rfl
/-- the reference's -/
theorem cq_1 (n m k i L z : Nat) {T1 Y : St} {R : Nat → Int32} {X : St × St} (hi : i < 120) (hL : i < L) (hL2 : L ≤ 32768) (hz : 32 ≤ z) (hz2 : z ≤ 126) (ht : sR T1 0 i = nI z) : df_X15_compile_3 n (m + 1) (nI k) (nI L) (nI i) (T1, (pR Y 0 R, X)) = df_X15_compile_3 n m (nI k) (nI L) (nI (i + 1)) (T1, (pR Y 0 (upd R i (nI z)), X)) := by
  have e := nch ⟨z, by omega⟩
  have e : vp_nar .char ((nI z).toUInt32.toUInt16.toUInt32.toInt32) = nI z := e
  have w : nI i + Int32.ofInt 1 = nI (i + 1) := by rw [show Int32.ofInt 1 = nI 1 from rfl, nI_add]
  have c : ¬ i = 120 := by omega
  simp (disch := (first | assumption | decide | omega)) only [(show df_X15_compile_3 n (m + 1) = dF_X15_compile_3 n (df_X15_compile_3 n m) from rfl), dF_X15_compile_3, df_X15_compile_34, df_X15_compile_0, df_X15_compile, ht, w, e, eq_self, Nat.reduceEqDiff, Nat.reduceLeDiff, nl_0, nl_1, nl_2, nl_4, nl_6, nl_8, nl_32, nl_120, nl_126, nl_32768, no_1, no_1024, pk_mul, nI_add, nm_ck, nI_clamp, nI_ltI, nI_leI, nI_eq, nb_b2, nb_b1, ↓nb_let, nm_z0, nm_z1, nb_II, nb_IR, nb_RI, nb_RR, nm_IL, nm_IQ, nm_RL, nm_RQ, nm_LI, nm_LR, nm_LL, nm_LQ, nm_QI, nm_QR, nm_QL, nm_QQ, nm_rr, nm_ii, nm_eqm, not_false_eq_true, pk_sub, nm_div, nm_shl, nm_shr, nm_ush, nm_or8, nm_or64, nm_or256, nm_m1, nm_m3, nm_m7, nm_m15, nm_m31, nm_m63, nm_m255, nm_m511, nm_m1023, nm_m2047, nm_m65535, Nat.reduceMod, Nat.reducePow, Nat.reduceAdd, Nat.reduceSub, Nat.reduceMul, nm_bo, nm_bi, nm_rc, nm_ic, nm_ri, nm_rl, nm_rq, nm_ql, nm_qi, nm_li, nm_us, nm_uu, nm_cp, nm_sa31, nm_sa7, nm_m127, nm_m2, nm_nz, nm_nzk, nm_eq32, nm_nzf, if_true, if_false, ↓reduceIte, if_pos, if_neg]
theorem cq_b (n m k i L z : Nat) {T1 Y : St} {X : St × St} (hi : i ≤ 120) (hL : i < L) (hL2 : L ≤ 32768) (hz : z < 256) (hb : i = 120 ∨ z < 32 ∨ 126 < z) (ht : sR T1 0 i = nI z) : df_X15_compile_3 n (m + 1) (nI k) (nI L) (nI i) (T1, (Y, X)) = some (nI (1 + 8 * i), (T1, (Y, X))) := by
  have ef : df_X15_compile_34 n (nI i) (T1, (Y, X)) = some (nI (1 + 8 * i), (T1, (Y, X))) := by
    simp (disch := (first | assumption | decide | omega)) only [df_X15_compile_34, eq_self, Nat.reduceEqDiff, Nat.reduceLeDiff, nl_1, nl_8, no_1, no_1024, pk_mul, nI_add, nm_ck, nI_clamp, nI_ltI, nI_leI, nI_eq, nb_b2, nb_b1, ↓nb_let, nm_z0, nm_z1, nb_II, nb_IR, nb_RI, nb_RR, nm_IL, nm_IQ, nm_RL, nm_RQ, nm_LI, nm_LR, nm_LL, nm_LQ, nm_QI, nm_QR, nm_QL, nm_QQ, nm_rr, nm_ii, nm_eqm, not_false_eq_true, pk_sub, nm_div, nm_shl, nm_shr, nm_ush, nm_or8, nm_or64, nm_or256, nm_m1, nm_m3, nm_m7, nm_m15, nm_m31, nm_m63, nm_m255, nm_m511, nm_m1023, nm_m2047, nm_m65535, Nat.reduceMod, Nat.reducePow, Nat.reduceAdd, Nat.reduceSub, Nat.reduceMul, nm_bo, nm_bi, nm_rc, nm_ic, nm_ri, nm_rl, nm_rq, nm_ql, nm_qi, nm_li, nm_us, nm_uu, nm_cp, nm_sa31, nm_sa7, nm_m127, nm_m2, nm_nz, nm_nzk, nm_eq32, nm_nzf, if_true, if_false, ↓reduceIte, if_pos, if_neg]
  by_cases c : i = 120
  · subst c
    simp (disch := (first | assumption | decide | omega)) only [(show df_X15_compile_3 n (m + 1) = dF_X15_compile_3 n (df_X15_compile_3 n m) from rfl), dF_X15_compile_3, df_X15_compile_0, df_X15_compile, ht, ef, eq_self, Nat.reduceEqDiff, Nat.reduceLeDiff, nl_0, nl_1, nl_2, nl_4, nl_6, nl_8, nl_32, nl_120, nl_126, nl_32768, no_1, no_1024, pk_mul, nI_add, nm_ck, nI_clamp, nI_ltI, nI_leI, nI_eq, nb_b2, nb_b1, ↓nb_let, nm_z0, nm_z1, nb_II, nb_IR, nb_RI, nb_RR, nm_IL, nm_IQ, nm_RL, nm_RQ, nm_LI, nm_LR, nm_LL, nm_LQ, nm_QI, nm_QR, nm_QL, nm_QQ, nm_rr, nm_ii, nm_eqm, not_false_eq_true, pk_sub, nm_div, nm_shl, nm_shr, nm_ush, nm_or8, nm_or64, nm_or256, nm_m1, nm_m3, nm_m7, nm_m15, nm_m31, nm_m63, nm_m255, nm_m511, nm_m1023, nm_m2047, nm_m65535, Nat.reduceMod, Nat.reducePow, Nat.reduceAdd, Nat.reduceSub, Nat.reduceMul, nm_bo, nm_bi, nm_rc, nm_ic, nm_ri, nm_rl, nm_rq, nm_ql, nm_qi, nm_li, nm_us, nm_uu, nm_cp, nm_sa31, nm_sa7, nm_m127, nm_m2, nm_nz, nm_nzk, nm_eq32, nm_nzf, if_true, if_false, ↓reduceIte, if_pos, if_neg]
  · by_cases d : z < 32
    · simp (disch := (first | assumption | decide | omega)) only [(show df_X15_compile_3 n (m + 1) = dF_X15_compile_3 n (df_X15_compile_3 n m) from rfl), dF_X15_compile_3, df_X15_compile_0, df_X15_compile, ht, ef, eq_self, Nat.reduceEqDiff, Nat.reduceLeDiff, nl_0, nl_1, nl_2, nl_4, nl_6, nl_8, nl_32, nl_120, nl_126, nl_32768, no_1, no_1024, pk_mul, nI_add, nm_ck, nI_clamp, nI_ltI, nI_leI, nI_eq, nb_b2, nb_b1, ↓nb_let, nm_z0, nm_z1, nb_II, nb_IR, nb_RI, nb_RR, nm_IL, nm_IQ, nm_RL, nm_RQ, nm_LI, nm_LR, nm_LL, nm_LQ, nm_QI, nm_QR, nm_QL, nm_QQ, nm_rr, nm_ii, nm_eqm, not_false_eq_true, pk_sub, nm_div, nm_shl, nm_shr, nm_ush, nm_or8, nm_or64, nm_or256, nm_m1, nm_m3, nm_m7, nm_m15, nm_m31, nm_m63, nm_m255, nm_m511, nm_m1023, nm_m2047, nm_m65535, Nat.reduceMod, Nat.reducePow, Nat.reduceAdd, Nat.reduceSub, Nat.reduceMul, nm_bo, nm_bi, nm_rc, nm_ic, nm_ri, nm_rl, nm_rq, nm_ql, nm_qi, nm_li, nm_us, nm_uu, nm_cp, nm_sa31, nm_sa7, nm_m127, nm_m2, nm_nz, nm_nzk, nm_eq32, nm_nzf, if_true, if_false, ↓reduceIte, if_pos, if_neg]
    · have d2 : ¬ z ≤ 126 := by omega
      simp (disch := (first | assumption | decide | omega)) only [(show df_X15_compile_3 n (m + 1) = dF_X15_compile_3 n (df_X15_compile_3 n m) from rfl), dF_X15_compile_3, df_X15_compile_0, df_X15_compile, ht, ef, eq_self, Nat.reduceEqDiff, Nat.reduceLeDiff, nl_0, nl_1, nl_2, nl_4, nl_6, nl_8, nl_32, nl_120, nl_126, nl_32768, no_1, no_1024, pk_mul, nI_add, nm_ck, nI_clamp, nI_ltI, nI_leI, nI_eq, nb_b2, nb_b1, ↓nb_let, nm_z0, nm_z1, nb_II, nb_IR, nb_RI, nb_RR, nm_IL, nm_IQ, nm_RL, nm_RQ, nm_LI, nm_LR, nm_LL, nm_LQ, nm_QI, nm_QR, nm_QL, nm_QQ, nm_rr, nm_ii, nm_eqm, not_false_eq_true, pk_sub, nm_div, nm_shl, nm_shr, nm_ush, nm_or8, nm_or64, nm_or256, nm_m1, nm_m3, nm_m7, nm_m15, nm_m31, nm_m63, nm_m255, nm_m511, nm_m1023, nm_m2047, nm_m65535, Nat.reduceMod, Nat.reducePow, Nat.reduceAdd, Nat.reduceSub, Nat.reduceMul, nm_bo, nm_bi, nm_rc, nm_ic, nm_ri, nm_rl, nm_rq, nm_ql, nm_qi, nm_li, nm_us, nm_uu, nm_cp, nm_sa31, nm_sa7, nm_m127, nm_m2, nm_nz, nm_nzk, nm_eq32, nm_nzf, if_true, if_false, ↓reduceIte, if_pos, if_neg]
def zRd (Y : St) (L : Nat) : St := pI (pI (pI (pI (pI Y 0 (nI L)) 6 0) 5 0) 4 0) 1 0
def yS (Y : St) (k : Nat) : St := pR (pR Y 1 (upd (sR Y 1) k (nI 1))) 2 (upd (sR Y 2) k (sI Y 4))
theorem cq_e (n m k L : Nat) {T1 Y : St} {X : St × St} (hk : k < 8) (hL2 : L ≤ 32768) : df_X15_compile_3 n (m + 1) (nI k) (nI L) (nI L) (T1, (Y, X)) = nd_b2 (df_X15_read_24 n n (nI 0) (nI 0) (zRd Y L, X)) (fun q s => if sI s.1 6 ≤ 0 then df_X15_compile_102 n n (nI k) (nI 0) (T1, (yS s.1 k, s.2)) else some (sI s.1 6, (T1, s))) := by
  show dF_X15_compile_3 n (df_X15_compile_3 n m) (nI k) (nI L) (nI L) (T1, (Y, X)) = _
  unfold dF_X15_compile_3
  rw [if_pos (show nI L ≤ nI L by rw [nI_leI (by omega) (by omega)]; omega), nb_let]
  unfold df_X15_read df_X15_read_0
  rw [nb_let, nb_let, nb_let, nb_let]
  show nd_b2 (df_X15_read_24 n n (nI 0) (nI 0) (zRd Y L, X)) _ = _
  congr 1
  funext q s
  rw [nb_let]
  by_cases c : sI s.1 6 ≤ 0
  · rw [if_pos c, if_pos c, nm_ck (by omega) (by omega), nb_let, nm_ck (by omega) (by omega), nb_let, nI_clamp (by omega)]
    rfl
  · rw [if_neg c, if_neg c]
/-- the reference keeps what it read -/
def cK (k N : Nat) (Y0 Y : St) : Prop := (∀ r : Nat, ¬ r = 3 → ¬ r = 4 → sR Y r = sR Y0 r) ∧ (∀ r : Nat, ¬ r = 0 → sQ Y r = sQ Y0 r) ∧ (∀ j : Nat, sI Y j = sI Y0 j) ∧ (∀ t : Nat, t < N → sR Y 3 (120 * k + t) = sR Y0 5 t ∧ sQ Y 0 (120 * k + t) = sQ Y0 2 t ∧ sR Y 4 (120 * k + t) = nI (120 * k) + sR Y0 6 t) ∧ ∀ i : Nat, i < 120 * k ∨ 120 * k + 120 ≤ i → sR Y 3 i = sR Y0 3 i ∧ sR Y 4 i = sR Y0 4 i ∧ sQ Y 0 i = sQ Y0 0 i
theorem ck_1 (n m k t N : Nat) {T1 Y0 Y : St} {X : St × St} (hk : k < 8) (ht : t < N) (hN : N ≤ 120) (h4 : sI Y0 4 = nI N) (h : cK k t Y0 Y) : ∃ Y' : St, cK k (t + 1) Y0 Y' ∧ df_X15_compile_102 n (m + 1) (nI k) (nI t) (T1, (Y, X)) = df_X15_compile_102 n m (nI k) (nI (t + 1)) (T1, (Y', X)) := by
  obtain ⟨h1, h2, h3, h5, h6⟩ := h
  refine ⟨pR (pQ (pR Y 3 (upd (sR Y 3) (120 * k + t) (sR Y 5 t))) 0 (vp_updL (sQ Y 0) (120 * k + t) (sQ Y 2 t))) 4 (upd (sR Y 4) (120 * k + t) (nI (120 * k) + sR Y 6 t)), ⟨fun r a b => ?_, fun r a => ?_, h3, fun i hi => ?_, fun i hi => ?_⟩, ?_⟩
  · show (if r = 4 then _ else if r = 3 then _ else sR Y r) = _
    rw [if_neg b, if_neg a]
    exact h1 r a b
  · show (if r = 0 then _ else sQ Y r) = _
    rw [if_neg a]
    exact h2 r a
  · show upd (sR Y 3) (120 * k + t) (sR Y 5 t) (120 * k + i) = _ ∧ vp_updL (sQ Y 0) (120 * k + t) (sQ Y 2 t) (120 * k + i) = _ ∧ upd (sR Y 4) (120 * k + t) (nI (120 * k) + sR Y 6 t) (120 * k + i) = _
    by_cases e : i = t
    · subst e
      rw [nm_us, updL_s, nm_us, h1 5 (by omega) (by omega), h1 6 (by omega) (by omega), h2 2 (by omega)]
      exact ⟨rfl, rfl, rfl⟩
    · rw [nm_un (by omega), updL_n (by omega), nm_un (by omega)]
      exact h5 i (by omega)
  · show upd (sR Y 3) (120 * k + t) (sR Y 5 t) i = _ ∧ upd (sR Y 4) (120 * k + t) (nI (120 * k) + sR Y 6 t) i = _ ∧ vp_updL (sQ Y 0) (120 * k + t) (sQ Y 2 t) i = _
    rw [nm_un (by omega), updL_n (by omega), nm_un (by omega)]
    exact h6 i hi
  · show dF_X15_compile_102 n (df_X15_compile_102 n m) (nI k) (nI t) (T1, (Y, X)) = _
    unfold dF_X15_compile_102
    have e1 : (120 : Int32) * nI k = nI (120 * k) := by rw [show (120 : Int32) = nI 120 from rfl, pk_mul]
    have e4 : sI Y 4 = nI N := (h3 4).trans h4
    rw [if_neg (show ¬ sI Y 4 ≤ nI t from fun y => by rw [e4, nI_leI (by omega) (by omega)] at y; omega), e1, nI_add]
    rw [nm_ck (by omega) (by omega), nm_ck (by omega) (by omega), nb_let, nm_ck (by omega) (by omega), nm_ck (by omega) (by omega), nb_let, nm_ck (by omega) (by omega), nm_ck (by omega) (by omega), nb_let, nb_let, nI_clamp (by omega), nI_clamp (by omega), show nI t + Int32.ofInt 1 = nI (t + 1) by rw [show Int32.ofInt 1 = nI 1 from rfl, nI_add]]
    rfl
theorem ck_all (n k N : Nat) {T1 Y0 : St} {X : St × St} (hn : 130 < n) (hk : k < 8) (hN : N ≤ 120) (h4 : sI Y0 4 = nI N) : ∃ Y' : St, cK k N Y0 Y' ∧ df_X15_compile_102 n n (nI k) (nI 0) (T1, (Y0, X)) = some (0, (T1, (Y', X))) := by
  obtain ⟨m, Y', i, e⟩ := nm_l1 (fun m t Y => df_X15_compile_102 n m (nI k) (nI t) (T1, (Y, X))) (fun t Y => cK k t Y0 Y) N n (by omega) (fun t m Y ht h => ck_1 n m k t N hk ht hN h4 h) Y0 ⟨fun _ _ _ => rfl, fun _ _ => rfl, fun _ => rfl, fun t ht => by omega, fun _ _ => ⟨rfl, rfl, rfl⟩⟩
  refine ⟨Y', i, e.trans ?_⟩
  show dF_X15_compile_102 n (df_X15_compile_102 n m) (nI k) (nI N) (T1, (Y', X)) = _
  unfold dF_X15_compile_102
  rw [if_pos (show sI Y' 4 ≤ nI N by rw [i.2.2.1 4, h4, nI_leI (by omega) (by omega)]; omega)]
/-- compile, in both -/
theorem cp_all (n Tp k L : Nat) (hn : 1000 < n) (hk : k < 8) (hL2 : L ≤ 32768) {tpe T1 Cd Y : St} {X : St × St} (z : Nat → Nat) (hz : ∀ i : Nat, i < L → z i < 256 ∧ sR tpe 0 i = vp_nar .byte ((nI (z i)).toInt8.toInt32) ∧ sR T1 0 i = nI (z i)) : ∃ (f : Nat) (Cd' Y' : St), df_X2_compile n Tp (nI L) (tpe, Cd) = some (nI f, (tpe, Cd')) ∧ df_X15_compile n (nI k) (nI L) (T1, (Y, X)) = some (nI f, (T1, (Y', X))) ∧ f < 2 ^ 31 ∧ (0 < f → yFr Y Y') ∧ (f = 0 → (∃ (N : Nat) (pos : Nat → Nat), bCd n k N pos Cd' Y') ∧ sR Y' 1 = upd (sR Y 1) k (nI 1) ∧ ∀ k' : Nat, ¬ k' = k → k' < 8 → ySt k' Y Y') := by
  rw [cp_0 n Tp L hL2, show df_X15_compile n (nI k) (nI L) (T1, (Y, X)) = df_X15_compile_3 n n (nI k) (nI L) (nI 0) (T1, (Y, X)) from rfl]
  obtain ⟨C1, hC1⟩ : ∃ C1 : St, C1 = pI (pO Cd 0 (some Tp)) 4 (nI L) := ⟨_, rfl⟩
  rw [← hC1]
  have h4 : sI C1 4 = nI L := by rw [hC1]; rfl
  have hO : sO C1 0 = some Tp := by rw [hC1]; rfl
  obtain ⟨M, hM⟩ : ∃ M : Nat, M = min L 120 := ⟨_, rfl⟩
  obtain ⟨E, hE⟩ : ∃ E : Nat, E = fN (fun i => decide (z i < 32 ∨ 126 < z i)) 0 M := ⟨_, rfl⟩
  obtain ⟨_, x2, x3, x4⟩ := fN_le (fun i => decide (z i < 32 ∨ 126 < z i)) M 0
  rw [← hE] at x2 x3 x4
  have gd : ∀ i : Nat, i < E → 32 ≤ z i ∧ z i ≤ 126 := fun i hi => by
    have := of_decide_eq_false (x4 i (by omega) hi)
    omega
  have eC : ∃ m : Nat, df_X2_compile_17 n Tp n (nI 0) (tpe, C1) = df_X2_compile_17 n Tp (m + 1) (nI E) (tpe, C1) := nm_lq (fun m i => df_X2_compile_17 n Tp m (nI i) (tpe, C1)) E n (by omega) (fun i m hi => cp_1 n Tp m i L (z i) (by omega) (by omega) hL2 h4 (gd i hi).1 (gd i hi).2 (hz i (by omega)).2.1)
  obtain ⟨m, eC⟩ := eC
  obtain ⟨m2, R, hR, eR⟩ := nm_l1 (fun m i R => df_X15_compile_3 n m (nI k) (nI L) (nI i) (T1, (pR Y 0 R, X))) (fun i R => ∀ j : Nat, j < i → R j = nI (z j)) E n (by omega) (fun i m R hi h => ⟨upd R i (nI (z i)), fun j hj => by
    by_cases e : j = i
    · rw [e]; exact nm_us
    · rw [nm_un e]; exact h j (by omega), cq_1 n m k i L (z i) (by omega) (by omega) hL2 (gd i hi).1 (gd i hi).2 (hz i (by omega)).2.2⟩) (sR Y 0) (fun j hj => by omega)
  rw [nm_r0] at eR
  rw [eC, eR]
  by_cases c : E = L
  · -- the text is read
    have hL : L ≤ 120 := by omega
    subst c
    rw [cp_e n Tp m E hL2 h4, cq_e n m2 k E hk hL2]
    obtain ⟨kd, fr, e1⟩ := mC_of (zC C1) (cs := 0) (tp := 0) (os := 0) (ap := 0) (ft := 0) (pt := 0) rfl rfl rfl rfl rfl rfl
    obtain ⟨tk, st, e2⟩ := mR_of (zRd (pR Y 0 R) E) (ap := 0) (ts := 0) (op := 0) (ft := 0) rfl rfl rfl rfl
    have hT : txt n Tp E (fun i => if i < E then z i else 0) tpe (zC C1) (zRd (pR Y 0 R) E) := ⟨hO, h4, rfl, hL, by omega, fun i hi => by
      show 32 ≤ (if i < E then z i else 0) ∧ (if i < E then z i else 0) ≤ 126
      rw [if_pos hi]
      exact gd i hi, fun i => by
      show (if i < E then z i else 0) < 127
      by_cases y : i < E
      · rw [if_pos y]; have := (gd i y).2; omega
      · rw [if_neg y]; omega, fun i hi => by
      show sR tpe 0 i = nI (if i < E then z i else 0)
      rw [if_pos hi, (hz i hi).2.1]
      exact (bz_C ⟨z i, (hz i hi).1⟩).2.2 (show z i < 128 by have := (gd i hi).2; omega), fun i hi => by
      show R i = nI (if i < E then z i else 0)
      rw [if_pos hi]
      exact hR i hi⟩
    obtain ⟨p', κ, q, x, en⟩ := nx_e hT (Nat.zero_le E) 0 0 0 kd fr 0 0 (sL (zC C1) 0) (sR (zC C1) 0) (sR (zC C1) 1) (sR (zC C1) 2) (sR (zC C1) 3) (sR (zC C1) 4) (sQ (zC C1) 0)
    have J := (wAB X hT (E + 1)).1 0 121 n n 0 0 0 0 0 tk st kd fr [] (sL (zC C1) 0) (sL (zRd (pR Y 0 R) E) 0) (sR (zC C1) 0) (sR (zC C1) 1) (sR (zC C1) 2) (sR (zC C1) 3) (sR (zC C1) 4) (sR (zRd (pR Y 0 R) E) 5) (sR (zRd (pR Y 0 R) E) 6) (sR (zRd (pR Y 0 R) E) 7) (sQ (zC C1) 0) (sQ (zRd (pR Y 0 R) E) 2) (fun _ => 0) _ (by omega) (by omega) (by omega) (by omega) (by omega) ⟨⟨rfl, rfl, rfl, rfl⟩, Nat.zero_le _, by omega, Nat.le_refl _, Nat.le_refl _, by omega, by omega, by omega, by omega⟩ en
    have J : wEnd (zC C1) (zRd (pR Y 0 R) E) tpe X (df_X2_read_11 n Tp n (nI 1) (nI 1) (nI 121) (tpe, mC (zC C1) 0 0 0 p' κ q 0 0 x (sR (zC C1) 0) (sR (zC C1) 1) (sR (zC C1) 2) (sR (zC C1) 3) (sR (zC C1) 4) (sQ (zC C1) 0))) (df_X15_read_24 n n (nI 0) (nI 0) (mR (zRd (pR Y 0 R) E) 0 tk st 0 0 0 (sL (zRd (pR Y 0 R) E) 0) (sR (zRd (pR Y 0 R) E) 5) (sR (zRd (pR Y 0 R) E) 6) (sR (zRd (pR Y 0 R) E) 7) (sQ (zRd (pR Y 0 R) E) 2), X)) := J
    rw [← e2] at J
    have er : df_X2_read n Tp (tpe, zC C1) = df_X2_read_11 n Tp n (nI 1) (nI 1) (nI 121) (tpe, mC (zC C1) 0 0 0 p' κ q 0 0 x (sR (zC C1) 0) (sR (zC C1) 1) (sR (zC C1) 2) (sR (zC C1) 3) (sR (zC C1) 4) (sQ (zC C1) 0)) := by
      show nd_b1 (df_X2_next n Tp (tpe, zC C1)) _ = _
      rw [← e1] at en
      rw [en, nb_b1]
      rfl
    rw [er]
    obtain ⟨cs, tp, os, ap, kd, fr, ft, pt, nm, C, S, SA, F, T, A, x1, bp, tk, st, ts, op, tv, K, P, OA, N, j1, j2, j3, j4⟩ := J
    rw [j1, j2, nb_b1, nb_b2]
    by_cases f0 : ft = 0
    · obtain ⟨d, s, oc, ro, pos, g1, g2, g3, g4⟩ := j4 f0
      have k2 := g1.2.1.2.1
      subst f0
      rw [if_pos (show sI (mR (zRd (pR Y 0 R) E) bp tk st ts op 0 tv K P OA N) 6 ≤ 0 by show nI 0 ≤ nI 0; decide)]
      obtain ⟨Y', y1, y2⟩ := ck_all n k ts (T1 := T1) (Y0 := yS (mR (zRd (pR Y 0 R) E) bp tk st ts op 0 tv K P OA N) k) (X := X) (by omega) hk k2 rfl
      rw [y2]
      refine ⟨0, mC (zC C1) cs tp os ap kd fr 0 pt nm C S SA F T A, Y', rfl, rfl, by decide, fun y => by omega, fun _ => ⟨⟨os, _, bCd_1 n hn (l := ts) (K := K) (P := P) (Nn := N) (pos := pos) hk g4 rfl rfl g2 g3 g1.1 g1.2.1 g1.2.2 ?_ (fun t _ ht => ⟨(y1.2.2.2.1 t ht).1, (y1.2.2.2.1 t ht).2.1, fun q hq e => ?_⟩)⟩, ?_, fun k' hk' hk8 => ⟨?_, fun i a b => ?_⟩⟩⟩
      · rw [y1.1 2 (by omega) (by omega)]
        exact nm_us
      · rw [(y1.2.2.2.1 t ht).2.2]
        show nI (120 * k) + P t = _
        rw [e, nI_add]
      · rw [y1.1 1 (by omega) (by omega)]
        rfl
      · rw [y1.1 2 (by omega) (by omega)]
        exact nm_un hk'
      · exact y1.2.2.2.2 i (by omega)
    · rw [if_neg (show ¬ sI (mR (zRd (pR Y 0 R) E) bp tk st ts op ft tv K P OA N) 6 ≤ 0 from fun y => by have y : nI ft ≤ nI 0 := y; rw [nI_leI j3 (by omega)] at y; omega)]
      refine ⟨ft, _, _, rfl, rfl, j3, fun _ => ?_, fun y => absurd y f0⟩
      exact ⟨fun r a b => by
        rcases (show r = 1 ∨ r = 2 ∨ r = 3 ∨ r = 4 by omega) with rfl | rfl | rfl | rfl <;> rfl, rfl⟩
  · -- a letter that can't be, or too many
    have hb : E = 120 ∨ z E < 32 ∨ 126 < z E := by
      by_cases y : E < M
      · exact Or.inr (of_decide_eq_true (x3 (by omega)))
      · omega
    have hEL : E < L := by omega
    rw [cp_b n Tp m E L (z E) (by omega) hEL hL2 h4 (hz E hEL).1 hb (hz E hEL).2.1, cq_b n m2 k E L (z E) (by omega) hEL hL2 (hz E hEL).1 hb (hz E hEL).2.2]
    refine ⟨1 + 8 * E, _, _, rfl, rfl, by omega, fun _ => ⟨fun r a b => ?_, rfl⟩, fun y => by omega⟩
    rcases (show r = 1 ∨ r = 2 ∨ r = 3 ∨ r = 4 by omega) with rfl | rfl | rfl | rfl <;> rfl
/-- of m + 1 numbers below m two are the same -/
theorem pgn : ∀ (m : Nat) (f : Nat → Nat), (∀ i : Nat, i < m + 1 → f i < m) → ∃ i j : Nat, i < j ∧ j < m + 1 ∧ f i = f j := fun m => by
  induction m with
  | zero =>
    intro f h
    have := h 0 (by omega)
    omega
  | succ m ih =>
    intro f h
    by_cases c : ∃ i : Nat, i < m + 1 ∧ f i = f (m + 1)
    · obtain ⟨i, c1, c2⟩ := c
      exact ⟨i, m + 1, c1, by omega, c2⟩
    · have c : ∀ i : Nat, i < m + 1 → ¬ f i = f (m + 1) := fun i hi e => c ⟨i, hi, e⟩
      have hv := h (m + 1) (by omega)
      obtain ⟨i, j, h1, h2, h3⟩ := ih (fun i => if f i = m then f (m + 1) else f i) (fun i hi => by
        show (if f i = m then f (m + 1) else f i) < m
        have a := h i (by omega)
        have b := c i hi
        by_cases e : f i = m
        · rw [if_pos e]; omega
        · rw [if_neg e]; omega)
      have h3 : (if f i = m then f (m + 1) else f i) = (if f j = m then f (m + 1) else f j) := h3
      have ci := c i (by omega)
      have cj := c j h2
      refine ⟨i, j, h1, by omega, ?_⟩
      by_cases e1 : f i = m
      · by_cases e2 : f j = m
        · omega
        · rw [if_pos e1, if_neg e2] at h3
          omega
      · by_cases e2 : f j = m
        · rw [if_neg e1, if_pos e2] at h3
          omega
        · rw [if_neg e1, if_neg e2] at h3
          exact h3
/-- the condition that no break has -/
theorem isB (n T L i : Nat) (hn : 20 < n) (hi : i < 9) {σ : S12} (hr : ∀ k : Nat, k < 8 → σ.2.1 2 k = none ∨ ∃ j : Nat, j < 9 ∧ σ.2.1 2 k = some j) : (df_X12_isBreak n T L i σ = some (1, σ) ∧ ∃ k : Nat, k < 8 ∧ σ.2.1 2 k = some i) ∨ (df_X12_isBreak n T L i σ = some (0, σ) ∧ ∀ k : Nat, k < 8 → ¬ σ.2.1 2 k = some i) := by
  have st : ∀ k m : Nat, k < 8 → (σ.2.1 2 k = some i → df_X12_isBreak_2 n T L (m + 1) i (nI k) σ = some (1, σ)) ∧ (¬ σ.2.1 2 k = some i → df_X12_isBreak_2 n T L (m + 1) i (nI k) σ = df_X12_isBreak_2 n T L m i (nI (k + 1)) σ) := fun k m hk => by
    have w : nI k + Int32.ofInt 1 = nI (k + 1) := by rw [show Int32.ofInt 1 = nI 1 from rfl, nI_add]
    have e0 : df_X12_isBreak_2 n T L (m + 1) i (nI k) σ = nd_m (σ.2.1 2 k) (df_X12_isBreak_2 n T L m i (nI (k + 1)) σ) (fun j3 => nd_lt j3 9 (nd_lt i 9 (if j3 = i then some (1, σ) else df_X12_isBreak_2 n T L m i (nI (k + 1)) σ))) := by
      show dF_X12_isBreak_2 n T L (df_X12_isBreak_2 n T L m) i (nI k) σ = _
      unfold dF_X12_isBreak_2
      rw [if_neg (show ¬ (8 : Int32) ≤ nI k from fun y => by have y : nI 8 ≤ nI k := y; rw [nI_leI (by omega) (by omega)] at y; omega), nm_ck (by omega) (by omega), nI_clamp (by omega), w]
      rfl
    refine ⟨fun e => ?_, fun e => ?_⟩
    · rw [e0, e, nb_mS, nb_lt hi, nb_lt hi, if_pos rfl]
    · rw [e0]
      rcases hr k hk with y | ⟨j, y1, y2⟩
      · rw [y, nb_mN]
      · rw [y2, nb_mS, nb_lt y1, nb_lt hi, if_neg (fun z => e (by rw [y2, z]))]
  obtain ⟨m, e⟩ := nm_ls (fun m k => df_X12_isBreak_2 n T L m i (nI k) σ) (fun k => decide (σ.2.1 2 k = some i)) 0 8 n (by omega) (fun k m _ hk hP => (st k m (by omega)).2 (of_decide_eq_false hP))
  have e : df_X12_isBreak n T L i σ = df_X12_isBreak_2 n T L (m + 1) i (nI (fN (fun k => decide (σ.2.1 2 k = some i)) 0 8)) σ := e
  obtain ⟨_, x2, x3, x4⟩ := fN_le (fun k => decide (σ.2.1 2 k = some i)) 8 0
  generalize fN (fun k => decide (σ.2.1 2 k = some i)) 0 8 = E at e x2 x3 x4
  by_cases c : E < 8
  · have x3 := of_decide_eq_true (x3 (by omega))
    exact Or.inl ⟨e.trans ((st E m c).1 x3), E, c, x3⟩
  · refine Or.inr ⟨e.trans ?_, fun k hk => of_decide_eq_false (x4 k (by omega) (by omega))⟩
    rw [show E = 8 by omega]
    show dF_X12_isBreak_2 n T L (df_X12_isBreak_2 n T L m) i (nI 8) σ = _
    unfold dF_X12_isBreak_2
    exact if_pos (show (8 : Int32) ≤ nI 8 by decide)
theorem unC (n T L : Nat) (hn : 20 < n) {σ : S12} (hr : ∀ k : Nat, k < 8 → σ.2.1 2 k = none ∨ ∃ j : Nat, j < 9 ∧ σ.2.1 2 k = some j) (hp : ∀ i : Nat, i < 9 → σ.2.1 5 i = some i) : ∃ j : Nat, j < 9 ∧ df_X12_unusedCondition n T L σ = some (some j, σ) ∧ ∀ k : Nat, k < 8 → ¬ σ.2.1 2 k = some j := by
  have e32 : ∀ i : Nat, i < 9 → df_X12_unusedCondition_32 n T L (nI i) σ = some (some i, σ) := fun i hi => by
    unfold df_X12_unusedCondition_32
    rw [nm_ck (by omega) (by omega), nI_clamp (by omega), hp i hi, nb_mS]
  have g : ∀ d i m : Nat, i + d = 8 → d < m → (∀ i' : Nat, i' < i → ∃ k : Nat, k < 8 ∧ σ.2.1 2 k = some i') → ∃ j : Nat, j < 9 ∧ df_X12_unusedCondition_2 n T L m (nI i) σ = some (some j, σ) ∧ ∀ k : Nat, k < 8 → ¬ σ.2.1 2 k = some j := fun d => by
    induction d with
    | zero =>
      intro i m hi hm hu
      obtain ⟨m, rfl⟩ : ∃ j : Nat, m = j + 1 := ⟨m - 1, by omega⟩
      rw [show i = 8 by omega] at hu ⊢
      refine ⟨8, by omega, ?_, fun k hk e => ?_⟩
      · show dF_X12_unusedCondition_2 n T L (df_X12_unusedCondition_2 n T L m) (nI 8) σ = _
        unfold dF_X12_unusedCondition_2
        rw [if_pos (show (8 : Int32) ≤ nI 8 by decide)]
        exact e32 8 (by omega)
      · have hq : ∀ i' : Nat, ∃ k : Nat, i' < 9 → k < 8 ∧ σ.2.1 2 k = some i' := fun i' => by
          by_cases c : i' < 8
          · obtain ⟨k, a, b⟩ := hu i' c
            exact ⟨k, fun _ => ⟨a, b⟩⟩
          · exact ⟨k, fun y => ⟨hk, by rw [e, show i' = 8 by omega]⟩⟩
        obtain ⟨a, b, h1, h2, h3⟩ := pgn 8 (fun i' => Classical.choose (hq i')) (fun i' hi' => (Classical.choose_spec (hq i') hi').1)
        have s1 := (Classical.choose_spec (hq a) (by omega)).2
        have s2 := (Classical.choose_spec (hq b) h2).2
        have h3 : Classical.choose (hq a) = Classical.choose (hq b) := h3
        rw [h3, s2] at s1
        have := Option.some.inj s1
        omega
    | succ d ih =>
      intro i m hi hm hu
      obtain ⟨m, rfl⟩ : ∃ j : Nat, m = j + 1 := ⟨m - 1, by omega⟩
      have w : nI i + Int32.ofInt 1 = nI (i + 1) := by rw [show Int32.ofInt 1 = nI 1 from rfl, nI_add]
      have e0 : df_X12_unusedCondition_2 n T L (m + 1) (nI i) σ = nd_b2 (df_X12_isBreak n T L i σ) (fun q7 s8 => if q7 = 0 then df_X12_unusedCondition_32 n T L (nI i) s8 else df_X12_unusedCondition_2 n T L m (nI (i + 1)) s8) := by
        show dF_X12_unusedCondition_2 n T L (df_X12_unusedCondition_2 n T L m) (nI i) σ = _
        unfold dF_X12_unusedCondition_2
        rw [if_neg (show ¬ (8 : Int32) ≤ nI i from fun y => by have y : nI 8 ≤ nI i := y; rw [nI_leI (by omega) (by omega)] at y; omega), nm_ck (by omega) (by omega), nI_clamp (by omega), hp i (by omega), nb_mS, w]
        rfl
      rw [e0]
      rcases isB n T L i hn (by omega) hr with ⟨a, b⟩ | ⟨a, b⟩
      · rw [a, nb_b2, if_neg (by decide)]
        exact ih (i + 1) m (by omega) (by omega) (fun i' hi' => by
          by_cases c : i' = i
          · rw [c]; exact b
          · exact hu i' (by omega))
      · rw [a, nb_b2, if_pos rfl]
        exact ⟨i, by omega, e32 i (by omega), b⟩
  exact g 8 0 n (by omega) (by omega) (fun i' hi' => by omega)
/-- watch -/
theorem jj_watch (n T L : Nat) (hn : 70000 < n) (v : Int32) {σ : S12} {τ : S19} {x : Lb} (h : JJ n σ (τ, x)) : anT n x (df_X12_watch n T L v σ) (df_X19_watch n v τ) := by
  have inE : df_X19_in n v.toInt64 0 7 () = some (if (0 : Int) ≤ v.toInt ∧ v.toInt ≤ 7 then 1 else 0, ()) := nb_in32 n v 0 7
  by_cases c : 0 ≤ v.toInt ∧ v.toInt ≤ 7
  · obtain ⟨A, hA, rfl, _⟩ := ix_nI (k := 7) c.1 c.2
    rw [if_pos c] at inE
    obtain ⟨e1, e2, e3, e4, e5, ⟨Nb, pos, e6⟩, e7, e8⟩ := id h
    have e6 : bRk n (σ.2.1 2) (tl σ).2.2.2.2.2.2.1 τ.2.2.1.1 Nb pos := e6
    obtain ⟨j, hj, eu, hu⟩ := unC n T L (by omega) (σ := σ) (fun k hk => by
      rcases e6.1 k hk with ⟨a, _⟩ | ⟨j, a, b, _⟩
      · exact Or.inl a
      · exact Or.inr ⟨j, a, b⟩) e8.1.2.1
    obtain ⟨len, l1, l2, l3⟩ := ix_nI (k := 32768) e1.2.2.1 e1.2.2.2.1
    have l3 : (sI σ.1 0).toInt = (len : Int) := l3
    have ut : df_X12_useTape n T L σ = some (nI len, (pI (pI σ.1 0 0) 1 0, σ.2)) := by rw [← l2]; rfl
    have hz : ∀ i : Nat, ∃ z : Nat, i < len → z < 256 ∧ sR (pR nd_st0 0 (sR σ.2.2.2.1.2 7)) 0 i = vp_nar .byte ((nI z).toInt8.toInt32) ∧ sR (pR nd_st0 0 (sR τ.2.2.2.1 3)) 0 i = nI z := fun i => by
      by_cases ci : i < len
      · obtain ⟨z, z1, z2, z3⟩ := tb_z e8.1.2.2.1 (j := i) (by omega)
        exact ⟨z, fun _ => ⟨z1, z2, (e1.2.2.2.2.2 i (by omega)).trans z3⟩⟩
      · exact ⟨0, fun y => absurd y ci⟩
    obtain ⟨f, Cd', Y', c1, c2, c3, c4, c5⟩ := cp_all n T A len (by omega) (by omega) l1 (tpe := pR nd_st0 0 (sR σ.2.2.2.1.2 7)) (T1 := pR nd_st0 0 (sR τ.2.2.2.1 3)) (Cd := σ.2.2.2.2.2.2.2.2.2.1 j) (Y := τ.2.2.1.1) (X := τ.2.2.1.2) (fun i => Classical.choose (hz i)) (fun i hi => Classical.choose_spec (hz i) hi)
    obtain ⟨σ1, hσ1⟩ : ∃ σ1 : S12, σ1 = (pI (pI σ.1 0 0) 1 0, (σ.2.1, (σ.2.2.1, ((σ.2.2.2.1.1, pR σ.2.2.2.1.2 7 (sR σ.2.2.2.1.2 7)), (σ.2.2.2.2.1, (σ.2.2.2.2.2.1, (σ.2.2.2.2.2.2.1, (σ.2.2.2.2.2.2.2.1, (σ.2.2.2.2.2.2.2.2.1, ((fun i => if i = j then Cd' else σ.2.2.2.2.2.2.2.2.2.1 i), σ.2.2.2.2.2.2.2.2.2.2)))))))))) := ⟨_, rfl⟩
    have eC : df_X12_watch n T L (nI A) σ = if nI f = 0 then some (Sum.inl (nI f, (σ1.1, (pW σ1.2.1 2 (va_up (σ1.2.1 2) A (some j)), σ1.2.2)))) else some (Sum.inl (nI f, σ1)) := by
      unfold df_X12_watch df_X12_watch_0
      rw [if_neg (show ¬ nI A < (0 : Int32) from fun y => by have y : nI A < nI 0 := y; rw [nI_ltI (by omega) (by omega)] at y; omega), if_pos (show nI A < (8 : Int32) by show nI A < nI 8; rw [nI_ltI (by omega) (by omega)]; omega), eu, nb_b2, nb_mS, ut, nb_b2, nb_lt hj]
      dsimp only
      rw [c1, nb_b2, nb_let, nm_ck (by omega) (by omega), nb_let, nI_clamp (by omega)]
      rw [hσ1]
      rfl
    obtain ⟨τ1, hτ1⟩ : ∃ τ1 : S19, τ1 = (pI (pI (pI τ.1 0 0) 1 0) 2 0, (τ.2.1, ((Y', τ.2.2.1.2), (pR τ.2.2.2.1 3 (sR τ.2.2.2.1 3), τ.2.2.2.2)))) := ⟨_, rfl⟩
    have eR : df_X19_watch n (nI A) τ = some (nI f, τ1) := by
      unfold df_X19_watch df_X19_watch_0 df_X19_watch_18
      rw [inE, nb_b2, if_neg (by decide), nb_fails, nb_b2, if_pos (show (0 : Int32) = 0 ∧ (0 : Int32) = 0 from ⟨rfl, rfl⟩), if_pos rfl, if_pos rfl, if_pos rfl]
      dsimp only
      rw [show sI (pI τ.1 0 0) 1 = nI len by show sI τ.1 1 = _; rw [← e1.1]; exact l2, c2, nb_b2, nb_let, hτ1]
      rfl
    have rs : pR σ.2.2.2.1.2 7 (sR σ.2.2.2.1.2 7) = σ.2.2.2.1.2 := nm_r0 _ _
    have rs2 : pR τ.2.2.2.1 3 (sR τ.2.2.2.1 3) = τ.2.2.2.1 := nm_r0 _ _
    rw [rs] at hσ1
    rw [rs2] at hτ1
    have sj : ∀ k : Nat, ¬ k = 0 → ¬ k = 1 → ¬ k = 2 → sI τ1.1 k = sI τ.1 k := fun k k0 k1 k2 => by
      rw [hτ1]
      show sI (pI (pI (pI τ.1 0 0) 1 0) 2 0) k = _
      rw [nb_II, if_neg k2, nb_II, if_neg k1, nb_II, if_neg k0]
    have rtE : ∀ W : Rw, rt (σ1.1, (W, σ1.2.2)) τ1 := fun W => by
      rw [hσ1, hτ1]
      refine ⟨rfl, rfl, by show (0 : Int) ≤ (0 : Int32).toInt; decide, by show (0 : Int32).toInt ≤ 32768; decide, fun y => absurd rfl y, fun j hj => ?_⟩
      have hj : (j : Int) < (0 : Int32).toInt := hj
      have hj : (j : Int) < 0 := hj
      omega
    rw [eC, eR]
    by_cases cf : f = 0
    · subst cf
      obtain ⟨⟨N, ps, d1⟩, d2, d3⟩ := c5 rfl
      rw [if_pos (show nI 0 = (0 : Int32) from rfl)]
      refine Or.inr (Or.inr ⟨nI 0, _, τ1, rfl, rfl, by rw [hτ1]; rfl, rtE _, ?_⟩)
      refine ⟨rl_k e2 (by rw [hσ1]; show sI (pI (pI σ.1 0 0) 1 0) 2 = _; rw [nb_II, if_neg (by omega), nb_II, if_neg (by omega)]) (by rw [hσ1]) (sj 12 (by omega) (by omega) (by omega)) (by rw [hτ1]; rfl), ?_, ?_, ?_, ⟨fun k => if k = A then N else Nb k, fun k => if k = A then ps else pos k, fun k hk => ?_, fun k k' i hk hk' a b => ?_⟩, ?_, ?_⟩
      · rw [hσ1, hτ1]
        exact e3
      · rw [hσ1, hτ1]
        exact e4
      · rw [hσ1, hτ1]
        refine jA_u (τ := τ) e5 ⟨fun j j1 j2 => ?_, fun _ _ _ => rfl, fun _ => rfl, rfl⟩
        show sI (pI (pI (pI τ.1 0 0) 1 0) 2 0) j = _
        rw [nb_II, if_neg (by omega), nb_II, if_neg (by omega), nb_II, if_neg (by omega)]
      · rw [hσ1, hτ1]
        show ((if k = A then some j else σ.2.1 2 k) = none ∧ sR Y' 1 k = nI 0) ∨ ∃ i : Nat, i < 9 ∧ (if k = A then some j else σ.2.1 2 k) = some i ∧ sR Y' 1 k = nI 1 ∧ bCd n k (if k = A then N else Nb k) (if k = A then ps else pos k) (if i = j then Cd' else σ.2.2.2.2.2.2.2.2.2.1 i) Y'
        rw [d2]
        by_cases ck : k = A
        · subst ck
          rw [if_pos rfl, if_pos rfl, if_pos rfl, nm_us]
          exact Or.inr ⟨j, hj, rfl, rfl, by rw [if_pos rfl]; exact d1⟩
        · rw [if_neg ck, if_neg ck, if_neg ck, nm_un ck]
          rcases e6.1 k hk with y | ⟨i, y1, y2, y3, y4⟩
          · exact Or.inl y
          · refine Or.inr ⟨i, y1, y2, y3, ?_⟩
            rw [if_neg (fun z => hu k hk (by rw [y2, z]))]
            exact bCd_t y4 (cSt_r _) (d3 k ck hk)
      · rw [hσ1] at a b
        have a : (if k = A then some j else σ.2.1 2 k) = some i := a
        have b : (if k' = A then some j else σ.2.1 2 k') = some i := b
        by_cases ck : k = A
        · by_cases ck' : k' = A
          · omega
          · rw [if_pos ck] at a
            rw [if_neg ck', ← a] at b
            exact absurd b (hu k' hk')
        · by_cases ck' : k' = A
          · rw [if_pos ck'] at b
            rw [if_neg ck, ← b] at a
            exact absurd a (hu k hk)
          · rw [if_neg ck] at a
            rw [if_neg ck'] at b
            exact e6.2 k k' i hk hk' a b
      · rw [hσ1]
        exact e7.trans (sj 7 (by omega) (by omega) (by omega)).symm
      · rw [hσ1, hτ1]
        exact e8
    · rw [if_neg (show ¬ nI f = (0 : Int32) from fun y => cf (by have y : nI f = nI 0 := y; rw [nI_eq c3 (by omega)] at y; exact y))]
      have yf := c4 (by omega)
      refine Or.inr (Or.inr ⟨nI f, σ1, τ1, rfl, rfl, by rw [hτ1]; rfl, rtE σ1.2.1, ?_⟩)
      refine ⟨rl_k e2 (by rw [hσ1]; show sI (pI (pI σ.1 0 0) 1 0) 2 = _; rw [nb_II, if_neg (by omega), nb_II, if_neg (by omega)]) (by rw [hσ1]) (sj 12 (by omega) (by omega) (by omega)) (by rw [hτ1]; rfl), ?_, ?_, ?_, ⟨Nb, pos, fun k hk => ?_, fun k k' i hk hk' a b => ?_⟩, ?_, ?_⟩
      · rw [hσ1, hτ1]
        exact e3
      · rw [hσ1, hτ1]
        exact e4
      · rw [hσ1, hτ1]
        refine jA_u (τ := τ) e5 ⟨fun j j1 j2 => ?_, fun _ _ _ => rfl, fun _ => rfl, rfl⟩
        show sI (pI (pI (pI τ.1 0 0) 1 0) 2 0) j = _
        rw [nb_II, if_neg (by omega), nb_II, if_neg (by omega), nb_II, if_neg (by omega)]
      · rw [hσ1, hτ1]
        show (σ.2.1 2 k = none ∧ sR Y' 1 k = nI 0) ∨ ∃ i : Nat, i < 9 ∧ σ.2.1 2 k = some i ∧ sR Y' 1 k = nI 1 ∧ bCd n k (Nb k) (pos k) (if i = j then Cd' else σ.2.2.2.2.2.2.2.2.2.1 i) Y'
        rw [yf.1 1 (by omega) (by omega)]
        rcases e6.1 k hk with y | ⟨i, y1, y2, y3, y4⟩
        · exact Or.inl y
        · refine Or.inr ⟨i, y1, y2, y3, ?_⟩
          rw [if_neg (fun z => hu k hk (by rw [y2, z]))]
          exact bCd_t y4 (cSt_r _) (yFr_s yf k)
      · rw [hσ1] at a b
        exact e6.2 k k' i hk hk' a b
      · rw [hσ1]
        exact e7.trans (sj 7 (by omega) (by omega) (by omega)).symm
      · rw [hσ1, hτ1]
        exact e8
  · rw [if_neg c] at inE
    have eR : df_X19_watch n v τ = some (0, (pI τ.1 0 1, τ.2)) := by
      unfold df_X19_watch df_X19_watch_0 df_X19_watch_18
      rw [inE, nb_b2, if_pos rfl, nb_fails, nb_b2, if_neg (show ¬ ((1 : Int32) = 0 ∧ (0 : Int32) = 0) by decide), if_neg (show ¬ (1 : Int32) = 0 by decide), if_neg (show ¬ (1 : Int32) = 0 by decide)]
    have eC : df_X12_watch n T L v σ = some (Sum.inr ("java/lang/IllegalArgumentException", σ)) := by
      unfold df_X12_watch df_X12_watch_0 df_X12_watch_10
      by_cases y : v < 0
      · rw [if_pos y]
      · rw [if_neg y, if_neg (fun q => c ⟨by rw [nb_lt0] at y; omega, by rw [Int32.lt_iff_toInt_lt] at q; have q : v.toInt < 8 := q; omega⟩)]
    rw [eC, eR]
    exact Or.inl ⟨0, σ, _, rfl, rfl, rfl, JJ_0 h 1⟩

