/-- what two pieces remember together -/
theorem gO_w {b b' f l j0 j1 b0 b1 f0 l1 : Nat} {C : Nat → Int32} {A : Nat → Int64} {F T K P : Nat → Int32} {N : Nat → Int64} {pos : Nat → Nat} (h : gO b b' f l j0 j1 C A F T K P N pos) (h1 : b0 ≤ b) (h2 : b' ≤ b1) (h3 : f0 ≤ f) (h4 : l ≤ l1) (hk : ∀ t : Nat, f0 ≤ t → t < l1 → (t < f ∨ l ≤ t) → ¬ (K t = nI 8 ∨ K t = nI 9)) : gO b0 b1 f0 l1 j0 j1 C A F T K P N pos := by
  refine ⟨fun j a b => ?_, fun t a b q => ?_⟩
  · obtain ⟨d', s', os', ro', q, b1, b2, a1, a2, a3, a4, a5, a6, a7, a8, a9⟩ := h.1 j a b
    exact ⟨d', s', os', ro', q, b1, b2, by omega, by omega, a3, a4, a5, a6, by omega, by omega, a9⟩
  · by_cases y : f ≤ t ∧ t < l
    · exact h.2 t y.1 y.2 q
    · exact absurd q (hk t a b (by omega))
theorem gO_u {b m m' b' f u u' l j0 j j1 : Nat} {C : Nat → Int32} {A : Nat → Int64} {F T K P : Nat → Int32} {N : Nat → Int64} {pos : Nat → Nat} (h : gO b m f u j0 j C A F T K P N pos) (g : gO m' b' u' l j j1 C A F T K P N pos) (h1 : b ≤ m') (h2 : m ≤ b') (h3 : f ≤ u') (h4 : u ≤ l) (h5 : j0 ≤ j) (h6 : j ≤ j1) (hk : ∀ t : Nat, u ≤ t → t < u' → ¬ (K t = nI 8 ∨ K t = nI 9)) : gO b b' f l j0 j1 C A F T K P N pos := by
  refine ⟨fun i a c => ?_, fun t a c q => ?_⟩
  · by_cases y : i < j
    · obtain ⟨d', s', os', ro', q, b1, b2, a1, a2, a3, a4, a5, a6, a7, a8, a9⟩ := h.1 i a y
      exact ⟨d', s', os', ro', q, b1, b2, by omega, by omega, a3, a4, a5, a6, by omega, by omega, a9⟩
    · obtain ⟨d', s', os', ro', q, b1, b2, a1, a2, a3, a4, a5, a6, a7, a8, a9⟩ := g.1 i (by omega) c
      exact ⟨d', s', os', ro', q, b1, b2, by omega, by omega, a3, a4, a5, a6, by omega, by omega, a9⟩
  · by_cases y : t < u
    · obtain ⟨i, x1, x2, x3⟩ := h.2 t a y q
      exact ⟨i, x1, by omega, x3⟩
    · by_cases y2 : u' ≤ t
      · obtain ⟨i, x1, x2, x3⟩ := g.2 t y2 c q
        exact ⟨i, by omega, x2, x3⟩
      · exact absurd q (hk t (by omega) (by omega))
theorem nk89 {v : Int32} {k : Nat} (h : v = nI k) (h1 : k < 100) (h8 : ¬ k = 8) (h9 : ¬ k = 9) : ¬ (v = nI 8 ∨ v = nI 9) := fun z => by
  rw [h] at z
  rcases z with z | z
  · rw [nI_eq (by omega) (by omega)] at z; exact h8 z
  · rw [nI_eq (by omega) (by omega)] at z; exact h9 z
theorem updL_s {f : Nat → Int64} {i : Nat} {v : Int64} : vp_updL f i v i = v := if_pos rfl
theorem updL_n {f : Nat → Int64} {i j : Nat} {v : Int64} (h : j ≠ i) : vp_updL f i v j = f j := if_neg h
def rkC (o : Nat) : Nat := if o = 0 then 0 else if o ≤ 18 then rk o + 1 else 10
theorem tb1_0 : ∀ o : Fin 22, tb_1 o.1 = nI (rkC o.1) := by decide +kernel
theorem tb1 {o : Nat} (h : o < 22) : tb_1 o = nI (rkC o) := tb1_0 ⟨o, h⟩
theorem rkC_b {o : Nat} (h1 : 1 ≤ o) (h : o ≤ 18) : rkC o = rk o + 1 := by
  unfold rkC
  rw [if_neg (by omega), if_pos h]
theorem rkC_u {o : Nat} (h1 : 19 ≤ o) : rkC o = 10 := by
  unfold rkC
  rw [if_neg (by omega), if_neg (by omega)]
theorem rkC_le (o : Nat) : rkC o ≤ 10 := by
  have := rk_le o
  unfold rkC
  repeat (first | omega | split)
theorem po_u (n m k o ρ : Nat) {B : St} {cs os ap kd fr pt : Nat} {nm : Int64} {C S SA F T : Nat → Int32} {A : Nat → Int64} (hk : k < 41) (hc : cs < 160) (hS : S k = nI o) (h3 : 3 ≤ o) (ho : o < 22) (hρ : ρ ≤ rkC o) : df_X2_popTo_0 n (m + 1) (nI ρ) (mC B cs (k + 1) os ap kd fr 0 pt nm C S SA F T A) = df_X2_popTo_0 n m (nI ρ) (mC B (cs + 1) k os ap kd fr 0 pt nm (upd C cs (nI o)) S SA F T (vp_updL A cs 0)) := by
  have w : nI (k + 1) - nI 1 = nI k := by rw [pk_sub (by omega)]; rfl
  have rl := rkC_le o
  have tb := tb1 ho
  have e := em_1 n o 0 (B := B) (cs := cs) (tp := k) (os := os) (ap := ap) (kd := kd) (fr := fr) (pt := pt) (nm := nm) (C := C) (S := S) (SA := SA) (F := F) (T := T) (A := A) hc
  simp (disch := (first | assumption | decide | omega)) only [(show df_X2_popTo_0 n (m + 1) = dF_X2_popTo_0 n (df_X2_popTo_0 n m) from rfl), dF_X2_popTo_0, df_X2_popTo_110, df_X2_popTo_107, df_X2_popTo_72, df_X2_popTo, mC_i0, mC_i1, mC_i2, mC_i5, mC_i6, mC_i7, mC_i8, mC_i9, mC_l, mC_r0, mC_r1, mC_r2, mC_r3, mC_r4, mC_q, mC_o, mC_i4, mC_wi0, mC_wi1, mC_wi2, mC_wi5, mC_wi6, mC_wi7, mC_wi8, mC_wi9, mC_wl, mC_wr0, mC_wr1, mC_wr2, mC_wr3, mC_wr4, mC_wq, w, hS, tb, e, eq_self, Nat.reduceEqDiff, Nat.reduceLeDiff, nl_0, nl_1, nl_2, nl_22, nl_36, nl_41, nl_160, no_1, no_1024, pk_mul, nI_add, nm_ck, nI_clamp, nI_ltI, nI_leI, nI_eq, nb_b2, nb_b1, ↓nb_let, nm_z0, nm_z1, nb_II, nb_IR, nb_RI, nb_RR, nm_IL, nm_IQ, nm_RL, nm_RQ, nm_LI, nm_LR, nm_LL, nm_LQ, nm_QI, nm_QR, nm_QL, nm_QQ, nm_rr, nm_ii, nm_eqm, not_false_eq_true, pk_sub, nm_div, nm_shl, nm_shr, nm_ush, nm_or8, nm_or64, nm_or256, nm_m1, nm_m3, nm_m7, nm_m15, nm_m31, nm_m63, nm_m255, nm_m511, nm_m1023, nm_m2047, nm_m65535, Nat.reduceMod, Nat.reducePow, Nat.reduceAdd, Nat.reduceSub, Nat.reduceMul, nm_bo, nm_bi, nm_rc, nm_ic, nm_ri, nm_rl, nm_rq, nm_ql, nm_qi, nm_li, nm_us, nm_uu, nm_cp, nm_sa31, nm_sa7, nm_m127, nm_m2, nm_nz, nm_nzk, nm_eq32, nm_nzf, if_true, if_false, ↓reduceIte, if_pos, if_neg]
theorem po_g (n m k o ρ y : Nat) {B : St} {cs os ap kd fr pt : Nat} {nm : Int64} {C S SA F T : Nat → Int32} {A : Nat → Int64} (hk : k < 41) (hc : cs < 160) (hS : S k = nI o) (h2 : o = 1 ∨ o = 2) (hρ : ρ ≤ rkC o) (hy : SA k = nI y) (hy2 : y < 160) : df_X2_popTo_0 n (m + 1) (nI ρ) (mC B cs (k + 1) os ap kd fr 0 pt nm C S SA F T A) = df_X2_popTo_0 n m (nI ρ) (mC B (cs + 1) k os ap kd fr 0 pt nm (upd C cs (nI 36)) S SA F T (vp_updL (vp_updL A cs 0) y (nI (cs + 1)).toInt64)) := by
  have ho : o < 22 := by omega
  have w : nI (k + 1) - nI 1 = nI k := by rw [pk_sub (by omega)]; rfl
  have rl := rkC_le o
  have tb := tb1 ho
  have e := em_1 n 36 0 (B := B) (cs := cs) (tp := k) (os := os) (ap := ap) (kd := kd) (fr := fr) (pt := pt) (nm := nm) (C := C) (S := S) (SA := SA) (F := F) (T := T) (A := A) hc
  rcases h2 with rfl | rfl
  · simp (disch := (first | assumption | decide | omega)) only [(show df_X2_popTo_0 n (m + 1) = dF_X2_popTo_0 n (df_X2_popTo_0 n m) from rfl), dF_X2_popTo_0, df_X2_popTo_110, df_X2_popTo_107, df_X2_popTo_72, df_X2_popTo, mC_i0, mC_i1, mC_i2, mC_i5, mC_i6, mC_i7, mC_i8, mC_i9, mC_l, mC_r0, mC_r1, mC_r2, mC_r3, mC_r4, mC_q, mC_o, mC_i4, mC_wi0, mC_wi1, mC_wi2, mC_wi5, mC_wi6, mC_wi7, mC_wi8, mC_wi9, mC_wl, mC_wr0, mC_wr1, mC_wr2, mC_wr3, mC_wr4, mC_wq, w, hS, tb, e, hy, eq_self, Nat.reduceEqDiff, Nat.reduceLeDiff, nl_0, nl_1, nl_2, nl_22, nl_36, nl_41, nl_160, no_1, no_1024, pk_mul, nI_add, nm_ck, nI_clamp, nI_ltI, nI_leI, nI_eq, nb_b2, nb_b1, ↓nb_let, nm_z0, nm_z1, nb_II, nb_IR, nb_RI, nb_RR, nm_IL, nm_IQ, nm_RL, nm_RQ, nm_LI, nm_LR, nm_LL, nm_LQ, nm_QI, nm_QR, nm_QL, nm_QQ, nm_rr, nm_ii, nm_eqm, not_false_eq_true, pk_sub, nm_div, nm_shl, nm_shr, nm_ush, nm_or8, nm_or64, nm_or256, nm_m1, nm_m3, nm_m7, nm_m15, nm_m31, nm_m63, nm_m255, nm_m511, nm_m1023, nm_m2047, nm_m65535, Nat.reduceMod, Nat.reducePow, Nat.reduceAdd, Nat.reduceSub, Nat.reduceMul, nm_bo, nm_bi, nm_rc, nm_ic, nm_ri, nm_rl, nm_rq, nm_ql, nm_qi, nm_li, nm_us, nm_uu, nm_cp, nm_sa31, nm_sa7, nm_m127, nm_m2, nm_nz, nm_nzk, nm_eq32, nm_nzf, if_true, if_false, ↓reduceIte, if_pos, if_neg]
  · simp (disch := (first | assumption | decide | omega)) only [(show df_X2_popTo_0 n (m + 1) = dF_X2_popTo_0 n (df_X2_popTo_0 n m) from rfl), dF_X2_popTo_0, df_X2_popTo_110, df_X2_popTo_107, df_X2_popTo_72, df_X2_popTo, mC_i0, mC_i1, mC_i2, mC_i5, mC_i6, mC_i7, mC_i8, mC_i9, mC_l, mC_r0, mC_r1, mC_r2, mC_r3, mC_r4, mC_q, mC_o, mC_i4, mC_wi0, mC_wi1, mC_wi2, mC_wi5, mC_wi6, mC_wi7, mC_wi8, mC_wi9, mC_wl, mC_wr0, mC_wr1, mC_wr2, mC_wr3, mC_wr4, mC_wq, w, hS, tb, e, hy, eq_self, Nat.reduceEqDiff, Nat.reduceLeDiff, nl_0, nl_1, nl_2, nl_22, nl_36, nl_41, nl_160, no_1, no_1024, pk_mul, nI_add, nm_ck, nI_clamp, nI_ltI, nI_leI, nI_eq, nb_b2, nb_b1, ↓nb_let, nm_z0, nm_z1, nb_II, nb_IR, nb_RI, nb_RR, nm_IL, nm_IQ, nm_RL, nm_RQ, nm_LI, nm_LR, nm_LL, nm_LQ, nm_QI, nm_QR, nm_QL, nm_QQ, nm_rr, nm_ii, nm_eqm, not_false_eq_true, pk_sub, nm_div, nm_shl, nm_shr, nm_ush, nm_or8, nm_or64, nm_or256, nm_m1, nm_m3, nm_m7, nm_m15, nm_m31, nm_m63, nm_m255, nm_m511, nm_m1023, nm_m2047, nm_m65535, Nat.reduceMod, Nat.reducePow, Nat.reduceAdd, Nat.reduceSub, Nat.reduceMul, nm_bo, nm_bi, nm_rc, nm_ic, nm_ri, nm_rl, nm_rq, nm_ql, nm_qi, nm_li, nm_us, nm_uu, nm_cp, nm_sa31, nm_sa7, nm_m127, nm_m2, nm_nz, nm_nzk, nm_eq32, nm_nzf, if_true, if_false, ↓reduceIte, if_pos, if_neg]
theorem po_uf (n m k o ρ : Nat) {B : St} {cs os ap kd fr ft pt : Nat} {nm : Int64} {C S SA F T : Nat → Int32} {A : Nat → Int64} (hf : 0 < ft) (hf2 : ft < 2 ^ 31) (hk : k < 41) (hS : S k = nI o) (h3 : 3 ≤ o) (ho : o < 22) (hρ : ρ ≤ rkC o) : df_X2_popTo_0 n (m + 1) (nI ρ) (mC B cs (k + 1) os ap kd fr ft pt nm C S SA F T A) = df_X2_popTo_0 n m (nI ρ) (mC B cs k os ap kd fr ft pt nm C S SA F T A) := by
  have w : nI (k + 1) - nI 1 = nI k := by rw [pk_sub (by omega)]; rfl
  have rl := rkC_le o
  have tb := tb1 ho
  have e := em_0 n o 0 (B := B) (cs := cs) (tp := k) (os := os) (ap := ap) (kd := kd) (fr := fr) (pt := pt) (nm := nm) (C := C) (S := S) (SA := SA) (F := F) (T := T) (A := A) hf hf2
  simp (disch := (first | assumption | decide | omega)) only [(show df_X2_popTo_0 n (m + 1) = dF_X2_popTo_0 n (df_X2_popTo_0 n m) from rfl), dF_X2_popTo_0, df_X2_popTo_110, df_X2_popTo_107, df_X2_popTo_72, df_X2_popTo, mC_i0, mC_i1, mC_i2, mC_i5, mC_i6, mC_i7, mC_i8, mC_i9, mC_l, mC_r0, mC_r1, mC_r2, mC_r3, mC_r4, mC_q, mC_o, mC_i4, mC_wi0, mC_wi1, mC_wi2, mC_wi5, mC_wi6, mC_wi7, mC_wi8, mC_wi9, mC_wl, mC_wr0, mC_wr1, mC_wr2, mC_wr3, mC_wr4, mC_wq, w, hS, tb, e, eq_self, Nat.reduceEqDiff, Nat.reduceLeDiff, nl_0, nl_1, nl_2, nl_22, nl_36, nl_41, nl_160, no_1, no_1024, pk_mul, nI_add, nm_ck, nI_clamp, nI_ltI, nI_leI, nI_eq, nb_b2, nb_b1, ↓nb_let, nm_z0, nm_z1, nb_II, nb_IR, nb_RI, nb_RR, nm_IL, nm_IQ, nm_RL, nm_RQ, nm_LI, nm_LR, nm_LL, nm_LQ, nm_QI, nm_QR, nm_QL, nm_QQ, nm_rr, nm_ii, nm_eqm, not_false_eq_true, pk_sub, nm_div, nm_shl, nm_shr, nm_ush, nm_or8, nm_or64, nm_or256, nm_m1, nm_m3, nm_m7, nm_m15, nm_m31, nm_m63, nm_m255, nm_m511, nm_m1023, nm_m2047, nm_m65535, Nat.reduceMod, Nat.reducePow, Nat.reduceAdd, Nat.reduceSub, Nat.reduceMul, nm_bo, nm_bi, nm_rc, nm_ic, nm_ri, nm_rl, nm_rq, nm_ql, nm_qi, nm_li, nm_us, nm_uu, nm_cp, nm_sa31, nm_sa7, nm_m127, nm_m2, nm_nz, nm_nzk, nm_eq32, nm_nzf, if_true, if_false, ↓reduceIte, if_pos, if_neg]
theorem po_gf (n m k o ρ y : Nat) {B : St} {cs os ap kd fr ft pt : Nat} {nm : Int64} {C S SA F T : Nat → Int32} {A : Nat → Int64} (hf : 0 < ft) (hf2 : ft < 2 ^ 31) (hk : k < 41) (hS : S k = nI o) (h2 : o = 1 ∨ o = 2) (hρ : ρ ≤ rkC o) (hy : SA k = nI y) (hy2 : y < 160) : df_X2_popTo_0 n (m + 1) (nI ρ) (mC B cs (k + 1) os ap kd fr ft pt nm C S SA F T A) = df_X2_popTo_0 n m (nI ρ) (mC B cs k os ap kd fr ft pt nm C S SA F T (vp_updL A y (nI cs).toInt64)) := by
  have ho : o < 22 := by omega
  have w : nI (k + 1) - nI 1 = nI k := by rw [pk_sub (by omega)]; rfl
  have rl := rkC_le o
  have tb := tb1 ho
  have e := em_0 n 36 0 (B := B) (cs := cs) (tp := k) (os := os) (ap := ap) (kd := kd) (fr := fr) (pt := pt) (nm := nm) (C := C) (S := S) (SA := SA) (F := F) (T := T) (A := A) hf hf2
  rcases h2 with rfl | rfl
  · simp (disch := (first | assumption | decide | omega)) only [(show df_X2_popTo_0 n (m + 1) = dF_X2_popTo_0 n (df_X2_popTo_0 n m) from rfl), dF_X2_popTo_0, df_X2_popTo_110, df_X2_popTo_107, df_X2_popTo_72, df_X2_popTo, mC_i0, mC_i1, mC_i2, mC_i5, mC_i6, mC_i7, mC_i8, mC_i9, mC_l, mC_r0, mC_r1, mC_r2, mC_r3, mC_r4, mC_q, mC_o, mC_i4, mC_wi0, mC_wi1, mC_wi2, mC_wi5, mC_wi6, mC_wi7, mC_wi8, mC_wi9, mC_wl, mC_wr0, mC_wr1, mC_wr2, mC_wr3, mC_wr4, mC_wq, w, hS, tb, e, hy, eq_self, Nat.reduceEqDiff, Nat.reduceLeDiff, nl_0, nl_1, nl_2, nl_22, nl_36, nl_41, nl_160, no_1, no_1024, pk_mul, nI_add, nm_ck, nI_clamp, nI_ltI, nI_leI, nI_eq, nb_b2, nb_b1, ↓nb_let, nm_z0, nm_z1, nb_II, nb_IR, nb_RI, nb_RR, nm_IL, nm_IQ, nm_RL, nm_RQ, nm_LI, nm_LR, nm_LL, nm_LQ, nm_QI, nm_QR, nm_QL, nm_QQ, nm_rr, nm_ii, nm_eqm, not_false_eq_true, pk_sub, nm_div, nm_shl, nm_shr, nm_ush, nm_or8, nm_or64, nm_or256, nm_m1, nm_m3, nm_m7, nm_m15, nm_m31, nm_m63, nm_m255, nm_m511, nm_m1023, nm_m2047, nm_m65535, Nat.reduceMod, Nat.reducePow, Nat.reduceAdd, Nat.reduceSub, Nat.reduceMul, nm_bo, nm_bi, nm_rc, nm_ic, nm_ri, nm_rl, nm_rq, nm_ql, nm_qi, nm_li, nm_us, nm_uu, nm_cp, nm_sa31, nm_sa7, nm_m127, nm_m2, nm_nz, nm_nzk, nm_eq32, nm_nzf, if_true, if_false, ↓reduceIte, if_pos, if_neg]
  · simp (disch := (first | assumption | decide | omega)) only [(show df_X2_popTo_0 n (m + 1) = dF_X2_popTo_0 n (df_X2_popTo_0 n m) from rfl), dF_X2_popTo_0, df_X2_popTo_110, df_X2_popTo_107, df_X2_popTo_72, df_X2_popTo, mC_i0, mC_i1, mC_i2, mC_i5, mC_i6, mC_i7, mC_i8, mC_i9, mC_l, mC_r0, mC_r1, mC_r2, mC_r3, mC_r4, mC_q, mC_o, mC_i4, mC_wi0, mC_wi1, mC_wi2, mC_wi5, mC_wi6, mC_wi7, mC_wi8, mC_wi9, mC_wl, mC_wr0, mC_wr1, mC_wr2, mC_wr3, mC_wr4, mC_wq, w, hS, tb, e, hy, eq_self, Nat.reduceEqDiff, Nat.reduceLeDiff, nl_0, nl_1, nl_2, nl_22, nl_36, nl_41, nl_160, no_1, no_1024, pk_mul, nI_add, nm_ck, nI_clamp, nI_ltI, nI_leI, nI_eq, nb_b2, nb_b1, ↓nb_let, nm_z0, nm_z1, nb_II, nb_IR, nb_RI, nb_RR, nm_IL, nm_IQ, nm_RL, nm_RQ, nm_LI, nm_LR, nm_LL, nm_LQ, nm_QI, nm_QR, nm_QL, nm_QQ, nm_rr, nm_ii, nm_eqm, not_false_eq_true, pk_sub, nm_div, nm_shl, nm_shr, nm_ush, nm_or8, nm_or64, nm_or256, nm_m1, nm_m3, nm_m7, nm_m15, nm_m31, nm_m63, nm_m255, nm_m511, nm_m1023, nm_m2047, nm_m65535, Nat.reduceMod, Nat.reducePow, Nat.reduceAdd, Nat.reduceSub, Nat.reduceMul, nm_bo, nm_bi, nm_rc, nm_ic, nm_ri, nm_rl, nm_rq, nm_ql, nm_qi, nm_li, nm_us, nm_uu, nm_cp, nm_sa31, nm_sa7, nm_m127, nm_m2, nm_nz, nm_nzk, nm_eq32, nm_nzf, if_true, if_false, ↓reduceIte, if_pos, if_neg]
theorem po_0 (n m ρ : Nat) {B : St} {cs os ap kd fr ft pt : Nat} {nm : Int64} {C S SA F T : Nat → Int32} {A : Nat → Int64} : df_X2_popTo_0 n (m + 1) (nI ρ) (mC B cs 0 os ap kd fr ft pt nm C S SA F T A) = some (mC B cs 0 os ap kd fr ft pt nm C S SA F T A) := by
  simp (disch := (first | assumption | decide | omega)) only [(show df_X2_popTo_0 n (m + 1) = dF_X2_popTo_0 n (df_X2_popTo_0 n m) from rfl), dF_X2_popTo_0, df_X2_popTo_110, df_X2_popTo_107, df_X2_popTo_72, df_X2_popTo, mC_i0, mC_i1, mC_i2, mC_i5, mC_i6, mC_i7, mC_i8, mC_i9, mC_l, mC_r0, mC_r1, mC_r2, mC_r3, mC_r4, mC_q, mC_o, mC_i4, mC_wi0, mC_wi1, mC_wi2, mC_wi5, mC_wi6, mC_wi7, mC_wi8, mC_wi9, mC_wl, mC_wr0, mC_wr1, mC_wr2, mC_wr3, mC_wr4, mC_wq, eq_self, Nat.reduceEqDiff, Nat.reduceLeDiff, nl_0, nl_1, nl_2, nl_22, nl_36, nl_41, nl_160, no_1, no_1024, pk_mul, nI_add, nm_ck, nI_clamp, nI_ltI, nI_leI, nI_eq, nb_b2, nb_b1, ↓nb_let, nm_z0, nm_z1, nb_II, nb_IR, nb_RI, nb_RR, nm_IL, nm_IQ, nm_RL, nm_RQ, nm_LI, nm_LR, nm_LL, nm_LQ, nm_QI, nm_QR, nm_QL, nm_QQ, nm_rr, nm_ii, nm_eqm, not_false_eq_true, pk_sub, nm_div, nm_shl, nm_shr, nm_ush, nm_or8, nm_or64, nm_or256, nm_m1, nm_m3, nm_m7, nm_m15, nm_m31, nm_m63, nm_m255, nm_m511, nm_m1023, nm_m2047, nm_m65535, Nat.reduceMod, Nat.reducePow, Nat.reduceAdd, Nat.reduceSub, Nat.reduceMul, nm_bo, nm_bi, nm_rc, nm_ic, nm_ri, nm_rl, nm_rq, nm_ql, nm_qi, nm_li, nm_us, nm_uu, nm_cp, nm_sa31, nm_sa7, nm_m127, nm_m2, nm_nz, nm_nzk, nm_eq32, nm_nzf, if_true, if_false, ↓reduceIte, if_pos, if_neg]
theorem po_e (n m k o ρ : Nat) {B : St} {cs os ap kd fr ft pt : Nat} {nm : Int64} {C S SA F T : Nat → Int32} {A : Nat → Int64} (hk : k < 41) (hS : S k = nI o) (ho : o < 100) (hρ : ρ < 100) (h : 22 ≤ o ∨ rkC o < ρ) : df_X2_popTo_0 n (m + 1) (nI ρ) (mC B cs (k + 1) os ap kd fr ft pt nm C S SA F T A) = some (mC B cs (k + 1) os ap kd fr ft pt nm C S SA F T A) := by
  have w : nI (k + 1) - nI 1 = nI k := by rw [pk_sub (by omega)]; rfl
  by_cases y : 22 ≤ o
  · simp (disch := (first | assumption | decide | omega)) only [(show df_X2_popTo_0 n (m + 1) = dF_X2_popTo_0 n (df_X2_popTo_0 n m) from rfl), dF_X2_popTo_0, df_X2_popTo_110, df_X2_popTo_107, df_X2_popTo_72, df_X2_popTo, mC_i0, mC_i1, mC_i2, mC_i5, mC_i6, mC_i7, mC_i8, mC_i9, mC_l, mC_r0, mC_r1, mC_r2, mC_r3, mC_r4, mC_q, mC_o, mC_i4, mC_wi0, mC_wi1, mC_wi2, mC_wi5, mC_wi6, mC_wi7, mC_wi8, mC_wi9, mC_wl, mC_wr0, mC_wr1, mC_wr2, mC_wr3, mC_wr4, mC_wq, w, hS, eq_self, Nat.reduceEqDiff, Nat.reduceLeDiff, nl_0, nl_1, nl_2, nl_22, nl_36, nl_41, nl_160, no_1, no_1024, pk_mul, nI_add, nm_ck, nI_clamp, nI_ltI, nI_leI, nI_eq, nb_b2, nb_b1, ↓nb_let, nm_z0, nm_z1, nb_II, nb_IR, nb_RI, nb_RR, nm_IL, nm_IQ, nm_RL, nm_RQ, nm_LI, nm_LR, nm_LL, nm_LQ, nm_QI, nm_QR, nm_QL, nm_QQ, nm_rr, nm_ii, nm_eqm, not_false_eq_true, pk_sub, nm_div, nm_shl, nm_shr, nm_ush, nm_or8, nm_or64, nm_or256, nm_m1, nm_m3, nm_m7, nm_m15, nm_m31, nm_m63, nm_m255, nm_m511, nm_m1023, nm_m2047, nm_m65535, Nat.reduceMod, Nat.reducePow, Nat.reduceAdd, Nat.reduceSub, Nat.reduceMul, nm_bo, nm_bi, nm_rc, nm_ic, nm_ri, nm_rl, nm_rq, nm_ql, nm_qi, nm_li, nm_us, nm_uu, nm_cp, nm_sa31, nm_sa7, nm_m127, nm_m2, nm_nz, nm_nzk, nm_eq32, nm_nzf, if_true, if_false, ↓reduceIte, if_pos, if_neg]
  · have rl := rkC_le o
    have tb := tb1 (show o < 22 by omega)
    have y2 : rkC o < ρ := by omega
    simp (disch := (first | assumption | decide | omega)) only [(show df_X2_popTo_0 n (m + 1) = dF_X2_popTo_0 n (df_X2_popTo_0 n m) from rfl), dF_X2_popTo_0, df_X2_popTo_110, df_X2_popTo_107, df_X2_popTo_72, df_X2_popTo, mC_i0, mC_i1, mC_i2, mC_i5, mC_i6, mC_i7, mC_i8, mC_i9, mC_l, mC_r0, mC_r1, mC_r2, mC_r3, mC_r4, mC_q, mC_o, mC_i4, mC_wi0, mC_wi1, mC_wi2, mC_wi5, mC_wi6, mC_wi7, mC_wi8, mC_wi9, mC_wl, mC_wr0, mC_wr1, mC_wr2, mC_wr3, mC_wr4, mC_wq, w, hS, tb, eq_self, Nat.reduceEqDiff, Nat.reduceLeDiff, nl_0, nl_1, nl_2, nl_22, nl_36, nl_41, nl_160, no_1, no_1024, pk_mul, nI_add, nm_ck, nI_clamp, nI_ltI, nI_leI, nI_eq, nb_b2, nb_b1, ↓nb_let, nm_z0, nm_z1, nb_II, nb_IR, nb_RI, nb_RR, nm_IL, nm_IQ, nm_RL, nm_RQ, nm_LI, nm_LR, nm_LL, nm_LQ, nm_QI, nm_QR, nm_QL, nm_QQ, nm_rr, nm_ii, nm_eqm, not_false_eq_true, pk_sub, nm_div, nm_shl, nm_shr, nm_ush, nm_or8, nm_or64, nm_or256, nm_m1, nm_m3, nm_m7, nm_m15, nm_m31, nm_m63, nm_m255, nm_m511, nm_m1023, nm_m2047, nm_m65535, Nat.reduceMod, Nat.reducePow, Nat.reduceAdd, Nat.reduceSub, Nat.reduceMul, nm_bo, nm_bi, nm_rc, nm_ic, nm_ri, nm_rl, nm_rq, nm_ql, nm_qi, nm_li, nm_us, nm_uu, nm_cp, nm_sa31, nm_sa7, nm_m127, nm_m2, nm_nz, nm_nzk, nm_eq32, nm_nzf, if_true, if_false, ↓reduceIte, if_pos, if_neg]
def endT (ρ : Nat) : List Nat → Prop
  | [] => True
  | o :: _ => 22 ≤ o ∨ (o ≤ 18 ∧ rk o + 1 < ρ)
theorem pop_all (n ρ : Nat) (hρ : ρ ≤ 9) {B : St} {os ap kd fr pt : Nat} {nm : Int64} {S SA F T : Nat → Int32} {K P OA : Nat → Int32} {N : Nat → Int64} {pos : Nat → Nat} {ts jl : Nat} : ∀ (l : List Nat) (g cs cc t j σ s oc ro : Nat) (d : Dn) (C : Nat → Int32) (A : Nat → Int64), l.length < g → frs C A F T K P N pos S SA OA l cc t j σ → gJ d s oc ro cc cs t ts j jl C A F T K P N pos → ordT oc l → (hOb l = true → jl = j) → (19 ≤ oc ∨ ρ ≤ rk oc + 1) → cs + l.length ≤ 160 → l.length ≤ 40 → ∃ (l' : List Nat) (c' t' j' σ' s' oc' ro' cs' : Nat) (d' : Dn) (C' : Nat → Int32) (A' : Nat → Int64), df_X2_popTo_0 n g (nI ρ) (mC B cs l.length os ap kd fr 0 pt nm C S SA F T A) = some (mC B cs' l'.length os ap kd fr 0 pt nm C' S SA F T A') ∧ frs C' A' F T K P N pos S SA OA l' c' t' j' σ' ∧ gJ d' s' oc' ro' c' cs' t' ts j' jl C' A' F T K P N pos ∧ (19 ≤ oc' ∨ ρ ≤ rk oc' + 1) ∧ endT ρ l' ∧ (hOb l' = true → jl = j') ∧ nOp l' = nOp l ∧ tpO l' = tpO l ∧ hOb l' = hOb l ∧ cs' + l'.length = cs + l.length ∧ s' + σ' = s + σ ∧ l'.length ≤ l.length := fun l => by
  induction l with
  | nil =>
    intro g cs cc t j σ s oc ro d C A hg hf hJ ho hj hr hc hl
    obtain ⟨m, rfl⟩ : ∃ m : Nat, g = m + 1 := ⟨g - 1, by omega⟩
    exact ⟨[], cc, t, j, σ, s, oc, ro, cs, d, C, A, po_0 n m ρ, hf, hJ, hr, trivial, hj, rfl, rfl, rfl, rfl, rfl, Nat.le_refl _⟩
  | cons o r ih =>
    intro g cs cc t j σ s oc ro d C A hg hf hJ hoT hj hr hc hl
    have hlen : (o :: r).length = r.length + 1 := rfl
    obtain ⟨m, rfl⟩ : ∃ m : Nat, g = m + 1 := ⟨g - 1, by omega⟩
    obtain ⟨c', t', j', σ', h1, o1, o27, l1, l2, l3, l4, h2, h3⟩ := frs_le _ cc t j σ hf o r rfl
    have k1 := hJ.1.1
    have k2 := hJ.2.1.1
    by_cases stop : 22 ≤ o ∨ rkC o < ρ
    · refine ⟨o :: r, cc, t, j, σ, s, oc, ro, cs, d, C, A, po_e n m r.length o ρ (by omega) h1 (by omega) (by omega) stop, hf, hJ, hr, ?_, hj, rfl, rfl, rfl, rfl, rfl, Nat.le_refl _⟩
      rcases stop with y | y
      · exact Or.inl y
      · by_cases y2 : o ≤ 18
        · rw [rkC_b o1 y2] at y
          exact Or.inr ⟨y2, y⟩
        · by_cases y3 : 22 ≤ o
          · exact Or.inl y3
          · rw [rkC_u (by omega)] at y
            omega
    · have st1 : ¬ 22 ≤ o := fun z => stop (Or.inl z)
      have st2 : ρ ≤ rkC o := Nat.le_of_not_lt fun z => stop (Or.inr z)
      have hn : nOp (o :: r) = nOp r := by show (if 22 ≤ o then 1 else 0) + nOp r = _; rw [if_neg st1, Nat.zero_add]
      have ht : tpO (o :: r) = tpO r := if_neg st1
      have hO : hOb (o :: r) = hOb r := by show (decide (o = 23 ∨ o = 24) || hOb r) = _; rw [decide_eq_false (by omega), Bool.false_or]
      rw [hn, ht, hO]
      rw [hO] at hj
      rcases h3 with ⟨a1, a2, a3, a4, d1, s1, os1, ro1, mm, u, a5, a6, a7, a8, a9, a10⟩ | ⟨a1, a2, a3, a4, a5, a6, a7⟩ | ⟨a1, _⟩
      · have b1 := a5.1.1
        have b2 := a5.2.1.1
        have b3 := a5.1.2.2.1
        have b4 := hJ.1.2.2.1
        have lo : 19 ≤ oc ∨ rk o < rk oc := by
          rcases hoT with z | z | z
          · omega
          · omega
          · exact z.2
        have ord : ordT o r := by
          cases r with
          | nil => trivial
          | cons o' r' =>
            rcases a3 with z | z
            · exact Or.inl z
            · exact Or.inr (Or.inr ⟨z.1, Or.inr z.2⟩)
        have rho : 19 ≤ o ∨ ρ ≤ rk o + 1 := Or.inr (by rw [rkC_b o1 a2] at st2; exact st2)
        have hjl : hOb r = true → jl = j' := fun z => (hj z).trans (a4 z)
        rcases a10 with ⟨e1, e2, e3, e4⟩ | ⟨e1, e2⟩
        · have C1 : ∀ i : Nat, i < cs → i ≠ mm → upd C cs (nI 36) i = C i ∧ vp_updL (vp_updL A cs 0) mm (nI (cs + 1)).toInt64 i = A i := fun i hi hm => ⟨nm_un (by omega), (updL_n hm).trans (updL_n (by omega))⟩
          have J1 := gJ_st (C' := upd C cs (nI 36)) (A' := vp_updL (vp_updL A cs 0) mm (nI (cs + 1)).toInt64) (F' := F) (T' := T) (K' := K) (P' := P) (N' := N) (pos' := pos) a5 (fun i x y => C1 i (by omega) (by omega)) (fun i x y => ⟨rfl, rfl, rfl⟩) (fun i x y => ⟨rfl, rfl, rfl⟩)
          have J2 := gJ_st (C' := upd C cs (nI 36)) (A' := vp_updL (vp_updL A cs 0) mm (nI (cs + 1)).toInt64) (F' := F) (T' := T) (K' := K) (P' := P) (N' := N) (pos' := pos) hJ (fun i x y => C1 i y (by omega)) (fun i x y => ⟨rfl, rfl, rfl⟩) (fun i x y => ⟨rfl, rfl, rfl⟩)
          have hf2 := frs_st (C' := upd C cs (nI 36)) (A' := vp_updL (vp_updL A cs 0) mm (nI (cs + 1)).toInt64) (F' := F) (T' := T) (K' := K) (P' := P) (N' := N) (pos' := pos) (S' := S) (SA' := SA) (OA' := OA) r c' t' j' σ' h2 (fun i x => C1 i (by omega) (by omega)) (fun i x => ⟨rfl, rfl, rfl⟩) (fun i x => ⟨rfl, rfl, rfl⟩) (fun i x => ⟨rfl, rfl⟩) (fun i x => rfl)
          subst e3
          subst a8
          have J3 : gJ (dnO o d1 d) (s1 + s) o u c' (cs + 1) t' ts j' jl (upd C cs (nI 36)) (vp_updL (vp_updL A cs 0) mm (nI (cs + 1)).toInt64) F T K P N pos := by
            refine ⟨?_, gR_bin o1 a2 J1.2.1 J2.2.1 a7 a6 lo, gO_w (gO_u J1.2.2 J2.2.2 (by omega) (by omega) (by omega) (by omega) b3 b4 (fun i x y => by rw [show i = u by omega]; exact nk89 a7 (by omega) (by omega) (by omega))) (Nat.le_refl _) (by omega) (Nat.le_refl _) (Nat.le_refl _) (fun i x y z => by omega)⟩
            have q := gC_log (o := o) (by omega) J1.1 J2.1 nm_us ((nm_un (by omega)).trans e2) updL_s
            rw [show dnO o d1 d = dnG o d1 d from if_pos e1]
            exact q
          obtain ⟨l', c2, t2, j2, σ2, s2, oc2, ro2, cs2, d2, C2, A2, r1, r2, r3, r4, r5, r6, r7, r8, r9, r10, r11, r12⟩ := ih m (cs + 1) c' t' j' σ' (s1 + s) o u (dnO o d1 d) (upd C cs (nI 36)) (vp_updL (vp_updL A cs 0) mm (nI (cs + 1)).toInt64) (by omega) hf2 J3 ord hjl rho (by omega) (by omega)
          exact ⟨l', c2, t2, j2, σ2, s2, oc2, ro2, cs2, d2, C2, A2, (po_g n m r.length o ρ mm (by omega) (by omega) h1 (by omega) st2 e4 (by omega)).trans r1, r2, r3, r4, r5, r6, r7, r8, r9, by omega, by omega, by omega⟩
        · have C1 : ∀ i : Nat, i < cs → upd C cs (nI o) i = C i ∧ vp_updL A cs 0 i = A i := fun i hi => ⟨nm_un (by omega), updL_n (by omega)⟩
          have J1 := gJ_st (C' := upd C cs (nI o)) (A' := vp_updL A cs 0) (F' := F) (T' := T) (K' := K) (P' := P) (N' := N) (pos' := pos) a5 (fun i x y => C1 i (by omega)) (fun i x y => ⟨rfl, rfl, rfl⟩) (fun i x y => ⟨rfl, rfl, rfl⟩)
          have J2 := gJ_st (C' := upd C cs (nI o)) (A' := vp_updL A cs 0) (F' := F) (T' := T) (K' := K) (P' := P) (N' := N) (pos' := pos) hJ (fun i x y => C1 i y) (fun i x y => ⟨rfl, rfl, rfl⟩) (fun i x y => ⟨rfl, rfl, rfl⟩)
          have hf2 := frs_st (C' := upd C cs (nI o)) (A' := vp_updL A cs 0) (F' := F) (T' := T) (K' := K) (P' := P) (N' := N) (pos' := pos) (S' := S) (SA' := SA) (OA' := OA) r c' t' j' σ' h2 (fun i x => C1 i (by omega)) (fun i x => ⟨rfl, rfl, rfl⟩) (fun i x => ⟨rfl, rfl, rfl⟩) (fun i x => ⟨rfl, rfl⟩) (fun i x => rfl)
          subst e2
          subst a8
          have J3 : gJ (dnO o d1 d) (s1 + s) o u c' (cs + 1) t' ts j' jl (upd C cs (nI o)) (vp_updL A cs 0) F T K P N pos := by
            refine ⟨?_, gR_bin o1 a2 J1.2.1 J2.2.1 a7 a6 lo, gO_w (gO_u J1.2.2 J2.2.2 (by omega) (by omega) (by omega) (by omega) b3 b4 (fun i x y => by rw [show i = u by omega]; exact nk89 a7 (by omega) (by omega) (by omega))) (Nat.le_refl _) (by omega) (Nat.le_refl _) (Nat.le_refl _) (fun i x y z => by omega)⟩
            have q := gC_bin (o := o) e1 a2 J1.1 J2.1 nm_us
            rw [show dnO o d1 d = dnB o d1 d from if_neg (by omega)]
            exact q
          obtain ⟨l', c2, t2, j2, σ2, s2, oc2, ro2, cs2, d2, C2, A2, r1, r2, r3, r4, r5, r6, r7, r8, r9, r10, r11, r12⟩ := ih m (cs + 1) c' t' j' σ' (s1 + s) o u (dnO o d1 d) (upd C cs (nI o)) (vp_updL A cs 0) (by omega) hf2 J3 ord hjl rho (by omega) (by omega)
          exact ⟨l', c2, t2, j2, σ2, s2, oc2, ro2, cs2, d2, C2, A2, (po_u n m r.length o ρ (by omega) (by omega) h1 e1 (by omega) st2).trans r1, r2, r3, r4, r5, r6, r7, r8, r9, by omega, by omega, by omega⟩
      · have lo : 19 ≤ oc := by
          rcases hoT with z | z | z
          · omega
          · exact z.2
          · omega
        have ord : ordT 19 r := by
          cases r with
          | nil => trivial
          | cons o' r' =>
            by_cases y : 22 ≤ o'
            · exact Or.inl y
            · by_cases y2 : 19 ≤ o'
              · exact Or.inr (Or.inl ⟨y2, Nat.le_refl _⟩)
              · exact Or.inr (Or.inr ⟨by omega, Or.inl (Nat.le_refl _)⟩)
        have C1 : ∀ i : Nat, i < cs → upd C cs (nI o) i = C i ∧ vp_updL A cs 0 i = A i := fun i hi => ⟨nm_un (by omega), updL_n (by omega)⟩
        have J2 := gJ_st (C' := upd C cs (nI o)) (A' := vp_updL A cs 0) (F' := F) (T' := T) (K' := K) (P' := P) (N' := N) (pos' := pos) hJ (fun i x y => C1 i y) (fun i x y => ⟨rfl, rfl, rfl⟩) (fun i x y => ⟨rfl, rfl, rfl⟩)
        have hf2 := frs_st (C' := upd C cs (nI o)) (A' := vp_updL A cs 0) (F' := F) (T' := T) (K' := K) (P' := P) (N' := N) (pos' := pos) (S' := S) (SA' := SA) (OA' := OA) r c' t' j' σ' h2 (fun i x => C1 i (by omega)) (fun i x => ⟨rfl, rfl, rfl⟩) (fun i x => ⟨rfl, rfl, rfl⟩) (fun i x => ⟨rfl, rfl⟩) (fun i x => rfl)
        subst a3
        subst a4
        subst a6
        have tk : tU o < 100 ∧ ¬ tU o = 8 ∧ ¬ tU o = 9 := by
          unfold tU
          repeat (first | omega | split)
        have J3 : gJ (dnU o d) s 19 0 cc (cs + 1) t' ts j jl (upd C cs (nI o)) (vp_updL A cs 0) F T K P N pos := by
          refine ⟨gC_un (by omega) J2.1 nm_us, gR_un (k := tU o) ?_ J2.2.1 lo a7, gO_w J2.2.2 (Nat.le_refl _) (by omega) (by omega) (Nat.le_refl _) (fun i x y z => by rw [show i = t' by omega]; exact nk89 a7 tk.1 tk.2.1 tk.2.2)⟩
          have q : o = 19 ∨ o = 20 ∨ o = 21 := by omega
          rcases q with rfl | rfl | rfl
          · exact Or.inl ⟨rfl, rfl⟩
          · exact Or.inr (Or.inl ⟨rfl, rfl⟩)
          · exact Or.inr (Or.inr ⟨rfl, rfl⟩)
        obtain ⟨l', c2, t2, j2, σ2, s2, oc2, ro2, cs2, d2, C2, A2, r1, r2, r3, r4, r5, r6, r7, r8, r9, r10, r11, r12⟩ := ih m (cs + 1) cc t' j σ' s 19 0 (dnU o d) (upd C cs (nI o)) (vp_updL A cs 0) (by omega) hf2 J3 ord hj (Or.inl (Nat.le_refl _)) (by omega) (by omega)
        exact ⟨l', c2, t2, j2, σ2, s2, oc2, ro2, cs2, d2, C2, A2, (po_u n m r.length o ρ (by omega) (by omega) h1 (by omega) (by omega) st2).trans r1, r2, r3, r4, r5, r6, r7, r8, r9, by omega, by omega, by omega⟩
      · omega
/-- the same where a fault has been met: it only comes to its end -/
theorem pop_f (n ρ : Nat) (hρ : ρ ≤ 9) {B : St} {cs os ap kd fr ft pt : Nat} {nm : Int64} {C S SA F T : Nat → Int32} {K P OA : Nat → Int32} {N : Nat → Int64} {pos : Nat → Nat} (hf : 0 < ft) (hf2 : ft < 2 ^ 31) : ∀ (l : List Nat) (g cc t j σ : Nat) (A : Nat → Int64), l.length < g → frs C A F T K P N pos S SA OA l cc t j σ → cc ≤ 160 → l.length ≤ 40 → ∃ (k : Nat) (A' : Nat → Int64), df_X2_popTo_0 n g (nI ρ) (mC B cs l.length os ap kd fr ft pt nm C S SA F T A) = some (mC B cs k os ap kd fr ft pt nm C S SA F T A') := fun l => by
  induction l with
  | nil =>
    intro g cc t j σ A hg hfr hc hl
    obtain ⟨m, rfl⟩ : ∃ m : Nat, g = m + 1 := ⟨g - 1, by omega⟩
    exact ⟨0, A, po_0 n m ρ⟩
  | cons o r ih =>
    intro g cc t j σ A hg hfr hc hl
    have hlen : (o :: r).length = r.length + 1 := rfl
    obtain ⟨m, rfl⟩ : ∃ m : Nat, g = m + 1 := ⟨g - 1, by omega⟩
    obtain ⟨c', t', j', σ', h1, o1, o27, l1, l2, l3, l4, h2, h3⟩ := frs_le _ cc t j σ hfr o r rfl
    by_cases stop : 22 ≤ o ∨ rkC o < ρ
    · exact ⟨r.length + 1, A, po_e n m r.length o ρ (by omega) h1 (by omega) (by omega) stop⟩
    · have st1 : ¬ 22 ≤ o := fun z => stop (Or.inl z)
      have st2 : ρ ≤ rkC o := Nat.le_of_not_lt fun z => stop (Or.inr z)
      rcases h3 with ⟨a1, a2, a3, a4, d1, s1, os1, ro1, mm, u, a5, a6, a7, a8, a9, a10⟩ | ⟨a1, a2, a3, a4, a5, a6, a7⟩ | ⟨a1, _⟩
      · have b1 := a5.1.1
        rcases a10 with ⟨e1, e2, e3, e4⟩ | ⟨e1, e2⟩
        · have hf3 := frs_st (C' := C) (A' := vp_updL A mm (nI cs).toInt64) (F' := F) (T' := T) (K' := K) (P' := P) (N' := N) (pos' := pos) (S' := S) (SA' := SA) (OA' := OA) r c' t' j' σ' h2 (fun i x => ⟨rfl, updL_n (by omega)⟩) (fun i x => ⟨rfl, rfl, rfl⟩) (fun i x => ⟨rfl, rfl, rfl⟩) (fun i x => ⟨rfl, rfl⟩) (fun i x => rfl)
          obtain ⟨k, A', e⟩ := ih m c' t' j' σ' (vp_updL A mm (nI cs).toInt64) (by omega) hf3 (by omega) (by omega)
          exact ⟨k, A', (po_gf n m r.length o ρ mm hf hf2 (by omega) h1 (by omega) st2 e4 (by omega)).trans e⟩
        · obtain ⟨k, A', e⟩ := ih m c' t' j' σ' A (by omega) h2 (by omega) (by omega)
          exact ⟨k, A', (po_uf n m r.length o ρ hf hf2 (by omega) h1 e1 (by omega) st2).trans e⟩
      · obtain ⟨k, A', e⟩ := ih m c' t' j' σ' A (by omega) h2 (by omega) (by omega)
        exact ⟨k, A', (po_uf n m r.length o ρ hf hf2 (by omega) h1 (by omega) (by omega) st2).trans e⟩
      · omega
