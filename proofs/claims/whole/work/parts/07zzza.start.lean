/-- so many processes are absent, in the class -/
def abk (f : Nat → Int32) (k : Nat) : Nat → Int32 := fun j => if j < k * 7 then (if j % 7 = 1 then -nI 1 else nI 0) else f j
theorem abk_0 (f : Nat → Int32) : abk f 0 = f := by
  funext j
  exact if_neg (by omega)
theorem abk_s (f : Nat → Int32) (k : Nat) : ab (abk f k) k 7 = abk f (k + 1) := by
  funext j
  unfold ab abk
  by_cases c : k * 7 ≤ j ∧ j < k * 7 + 7
  · rw [if_pos c, if_pos (show j < (k + 1) * 7 by omega)]
    by_cases d : j = k * 7 + 1
    · rw [if_pos d, if_pos (show j % 7 = 1 by omega)]
    · rw [if_neg d, if_neg (show ¬ j % 7 = 1 by omega)]
  · rw [if_neg c]
    by_cases d : j < k * 7
    · rw [if_pos d, if_pos (show j < (k + 1) * 7 by omega)]
    · rw [if_neg d, if_neg (show ¬ j < (k + 1) * 7 by omega)]
theorem abk_i (f : Nat → Int32) {q i : Nat} (hq : q < 16) (hi : i < 7) : abk f 16 (q * 7 + i) = if i = 1 then -nI 1 else nI 0 := by
  unfold abk
  rw [if_pos (by omega)]
  by_cases c : i = 1
  · rw [if_pos c, if_pos (by omega)]
  · rw [if_neg c, if_neg (by omega)]
theorem nf_i {n : Nat} {v : Int32} {f : Nat → Int32} {j : Nat} (h : j < n) : nd_fl n v f j = v := if_pos h
theorem cs_o (n : Nat) (hn : 0 < n) {T : St} (e : sR T 1 0 = nI 0) : df_X10_open n (nI 4) (nI 0) (nI 3) T = some (nI 0, pR T 1 (orw (sR T 1) 0 (nI 4) (nI 0) (nI 3))) := by
  obtain ⟨m, rfl⟩ : ∃ m : Nat, n = m + 1 := ⟨n - 1, by omega⟩
  refine Eq.trans (b := df_X10_open_3 (m + 1) (m + 1) (nI 4) (nI 0) (nI 3) (nI 0) T) rfl ?_
  rw [show df_X10_open_3 (m + 1) (m + 1) = dF_X10_open_3 (m + 1) (df_X10_open_3 (m + 1) m) from rfl]
  generalize df_X10_open_3 (m + 1) m = G
  unfold orw
  simp (disch := (first | assumption | decide | omega)) only [dF_X10_open_3, df_X10_hold_41, df_X10_hold_0, df_X10_hold, e, Nat.add_zero, Nat.zero_mul, Nat.zero_add, eq_self, Nat.reduceEqDiff, Nat.reduceLeDiff, nl_0, nl_1, nl_2, nl_3, nl_4, nl_5, nl_32, nl_48, nl_240, no_1, no_1024, pk_mul, nI_add, nm_ck, nI_clamp, nI_ltI, nI_leI, nI_eq, nb_b2, nb_b1, ↓nb_let, nm_z0, nm_z1, nb_II, nb_IR, nb_RI, nb_RR, nm_IL, nm_IQ, nm_RL, nm_RQ, nm_LI, nm_LR, nm_LL, nm_LQ, nm_QI, nm_QR, nm_QL, nm_QQ, nm_rr, nm_ii, nm_eqm, not_false_eq_true, pk_sub, nm_div, nm_shl, nm_shr, nm_ush, nm_or8, nm_or64, nm_or256, nm_m1, nm_m3, nm_m7, nm_m15, nm_m31, nm_m63, nm_m255, nm_m511, nm_m1023, nm_m2047, nm_m65535, Nat.reduceMod, Nat.reducePow, Nat.reduceAdd, Nat.reduceSub, Nat.reduceMul, nm_bo, nm_bi, nm_rc, nm_ic, nm_ri, nm_rl, nm_rq, nm_ql, nm_qi, nm_li, nm_us, nm_uu, nm_cp, nm_sa31, nm_sa7, nm_m127, nm_m2, nm_nz, nm_nzk, nm_eq32, nm_nzf, if_true, if_false, ↓reduceIte, if_pos, if_neg]
/-- the class's things begin: once the rows are empty -/
theorem cs_T (n : Nat) (hn : 0 < n) {T : St} (t0 : ∀ i : Nat, i < 256 → sR T 0 i = nI 0) (t1 : ∀ i : Nat, i < 240 → sR T 1 i = nI 0) (t2 : ∀ i : Nat, i < 32 → sR T 2 i = nI 0) (t4 : ∀ i : Nat, i < 48 → sR T 4 i = nI 0) (ti : sI T 0 = nI 0) (tl : sL T 0 = 0) : ∃ D' : St, nd_b2 (df_X10_open n (nI 4) (nI 0) (nI 3) T) (fun q s => nd_b1 (df_X10_linkTo n (nI 0) (nI 0) q s) (fun s' => nd_b1 (df_X10_linkTo n (nI 0) (nI 1) q s') (fun s'' => some s''))) = some D' ∧ (∀ i : Nat, i < 256 → sR D' 0 i = if i < 2 then nI 1 else nI 0) ∧ (∀ o : Nat, o < 48 → sR D' 1 (o * 5) = if o = 0 then nI 4 else nI 0) ∧ sR D' 1 1 = nI 2 ∧ sR D' 1 2 = nI 0 ∧ sR D' 1 3 = nI 0 ∧ sR D' 1 4 = nI 3 ∧ (∀ k : Nat, k < 32 → sR D' 2 k = nI 0) ∧ (∀ k : Nat, k < 48 → sR D' 4 k = nI 0) ∧ sI D' 0 = nI 0 ∧ sL D' 0 = 0 ∧ (okY T → okY D') := by
  have op := cs_o n hn (t1 0 (by omega))
  have o0 : ∀ o : Nat, o < 48 → orw (sR T 1) 0 (nI 4) (nI 0) (nI 3) (o * 5) = if o = 0 then nI 4 else nI 0 := fun o ho => by
    unfold orw
    by_cases c : o = 0
    · rw [c, if_pos rfl, nm_un (by omega), nm_un (by omega), nm_un (by omega), nm_un (by omega)]; exact nm_us
    · rw [if_neg c, nm_un (by omega), nm_un (by omega), nm_un (by omega), nm_un (by omega), nm_un (by omega)]
      exact t1 _ (by omega)
  have o1 : orw (sR T 1) 0 (nI 4) (nI 0) (nI 3) (0 * 5 + 1) = nI 0 := by
    unfold orw
    rw [nm_un (by omega), nm_un (by omega), nm_un (by omega)]; exact nm_us
  have o2 : orw (sR T 1) 0 (nI 4) (nI 0) (nI 3) 2 = nI 0 := by
    unfold orw
    rw [nm_un (by omega), nm_un (by omega)]; exact nm_us
  have o3 : orw (sR T 1) 0 (nI 4) (nI 0) (nI 3) 3 = nI 0 := by
    unfold orw
    rw [nm_un (by omega)]; exact nm_us
  have o4 : orw (sR T 1) 0 (nI 4) (nI 0) (nI 3) 4 = nI 3 := by
    unfold orw
    exact nm_us
  generalize orw (sR T 1) 0 (nI 4) (nI 0) (nI 3) = O at op o0 o1 o2 o3 o4
  have h1 := nk_linkTo n (D := pR T 1 O) (p := 0) (e := 0) (o := 0) (c := 0) (by omega) (by omega) (by omega) (by omega) o1
  have h1 : df_X10_linkTo n (nI 0) (nI 0) (nI 0) (pR T 1 O) = some (dU (pR T 1 O) (upd (sR T 0) (0 * 16 + 0) (nI (0 + 1))) (upd O (0 * 5 + 1) (nI (0 + 1))) (sR T 2) (sR T 4)) := h1
  have h2 := nk_linkTo n (D := dU (pR T 1 O) (upd (sR T 0) (0 * 16 + 0) (nI (0 + 1))) (upd O (0 * 5 + 1) (nI (0 + 1))) (sR T 2) (sR T 4)) (p := 0) (e := 1) (o := 0) (c := 1) (by omega) (by omega) (by omega) (by omega) (show upd O (0 * 5 + 1) (nI (0 + 1)) (0 * 5 + 1) = nI 1 from nm_us)
  have h2 : df_X10_linkTo n (nI 0) (nI 1) (nI 0) (dU (pR T 1 O) (upd (sR T 0) (0 * 16 + 0) (nI (0 + 1))) (upd O (0 * 5 + 1) (nI (0 + 1))) (sR T 2) (sR T 4)) = some (dU (dU (pR T 1 O) (upd (sR T 0) (0 * 16 + 0) (nI (0 + 1))) (upd O (0 * 5 + 1) (nI (0 + 1))) (sR T 2) (sR T 4)) (upd (upd (sR T 0) (0 * 16 + 0) (nI (0 + 1))) (0 * 16 + 1) (nI (0 + 1))) (upd (upd O (0 * 5 + 1) (nI (0 + 1))) (0 * 5 + 1) (nI (1 + 1))) (sR T 2) (sR T 4)) := h2
  refine ⟨(dU (dU (pR T 1 O) (upd (sR T 0) (0 * 16 + 0) (nI (0 + 1))) (upd O (0 * 5 + 1) (nI (0 + 1))) (sR T 2) (sR T 4)) (upd (upd (sR T 0) (0 * 16 + 0) (nI (0 + 1))) (0 * 16 + 1) (nI (0 + 1))) (upd (upd O (0 * 5 + 1) (nI (0 + 1))) (0 * 5 + 1) (nI (1 + 1))) (sR T 2) (sR T 4)), by rw [op, nb_b2, h1, nb_b1, h2, nb_b1], fun i hi => ?_, fun o ho => ?_, ?_, ?_, ?_, ?_, t2, t4, ti, tl, fun h => h⟩
  · show upd (upd (sR T 0) (0 * 16 + 0) (nI (0 + 1))) (0 * 16 + 1) (nI (0 + 1)) i = _
    by_cases c : i = 1
    · rw [c, if_pos (by omega)]; exact nm_us
    · rw [nm_un (by omega)]
      by_cases d : i = 0
      · rw [d, if_pos (by omega)]; exact nm_us
      · rw [nm_un (by omega), if_neg (by omega)]
        exact t0 i hi
  · show upd (upd O (0 * 5 + 1) (nI (0 + 1))) (0 * 5 + 1) (nI (1 + 1)) (o * 5) = _
    rw [nm_un (by omega), nm_un (by omega)]
    exact o0 o ho
  · show upd (upd O (0 * 5 + 1) (nI (0 + 1))) (0 * 5 + 1) (nI (1 + 1)) 1 = _
    exact nm_us
  · show upd (upd O (0 * 5 + 1) (nI (0 + 1))) (0 * 5 + 1) (nI (1 + 1)) 2 = _
    rw [nm_un (by omega), nm_un (by omega)]
    exact o2
  · show upd (upd O (0 * 5 + 1) (nI (0 + 1))) (0 * 5 + 1) (nI (1 + 1)) 3 = _
    rw [nm_un (by omega), nm_un (by omega)]
    exact o3
  · show upd (upd O (0 * 5 + 1) (nI (0 + 1))) (0 * 5 + 1) (nI (1 + 1)) 4 = _
    rw [nm_un (by omega), nm_un (by omega)]
    exact o4
theorem cs_D (n : Nat) (hn : 1024 < n) (D : St) : ∃ D' : St, df_X10_start n D = some D' ∧ (∀ i : Nat, i < 256 → sR D' 0 i = if i < 2 then nI 1 else nI 0) ∧ (∀ o : Nat, o < 48 → sR D' 1 (o * 5) = if o = 0 then nI 4 else nI 0) ∧ sR D' 1 1 = nI 2 ∧ sR D' 1 2 = nI 0 ∧ sR D' 1 3 = nI 0 ∧ sR D' 1 4 = nI 3 ∧ (∀ k : Nat, k < 32 → sR D' 2 k = nI 0) ∧ (∀ k : Nat, k < 48 → sR D' 4 k = nI 0) ∧ sI D' 0 = nI 0 ∧ sL D' 0 = 0 ∧ (okY D → okY D') := cs_T n (by omega) (T := pL (pI (pR (pR (pR (pR D 0 (nd_fl 256 0 (sR D 0))) 1 (nd_fl 240 0 (sR D 1))) 2 (nd_fl 32 0 (sR D 2))) 4 (nd_fl 48 0 (sR D 4))) 0 (nI 0)) 0 0) (fun i hi => nf_i hi) (fun i hi => nf_i hi) (fun i hi => nf_i hi) (fun i hi => nf_i hi) rfl rfl
/-- the class's machine, before the program is loaded -/
def cM (M : St × St) (D : St) : St × St := (pI (pL (pL (pI (pI (pI (pI (pI (pR (pI (pR (pR M.1 1 (nd_fl 256 0 (sR M.1 1))) 2 (nd_fl 1024 0 (sR M.1 2))) 0 (nI 0)) 6 (abk (sR M.1 6) 16)) 1 (nI 0)) 2 (nI 0)) 3 (-nI 1)) 4 (nI 15)) 5 (-nI 1)) 0 0) 1 0) 7 (nI 0), D)
theorem cs_M (n : Nat) (hn : 1024 < n) {M : St × St} {P s0 D' : St} (hD : df_X10_start n M.2 = some D') : df_X6_start n (s0, (M, P)) = nd_b1 (df_X6_load n (nI 0) (s0, (cM M D', P))) (fun s18 => nd_b1 (df_X6_chooseCurrent n (pR s18.2.1.1 6 (upd (sR s18.2.1.1 6) 0 (nI 1)), s18.2.1.2)) (fun s22 => some (s18.1, (s22, s18.2.2)))) := by
  obtain ⟨m, hm⟩ := nm_lq (fun m k => df_X6_start_23 n m (nI k) (s0, ((pR (pI (pR (pR M.1 1 (nd_fl 256 0 (sR M.1 1))) 2 (nd_fl 1024 0 (sR M.1 2))) 0 (nI 0)) 6 (abk (sR M.1 6) k), M.2), P))) 16 n (by omega) (fun k m hk => by
    have k1 : ¬ 16 ≤ k := by omega
    have u1 : k < 2 ^ 31 := by omega
    have ma := nk_makeAbsent n hn (pR (pI (pR (pR M.1 1 (nd_fl 256 0 (sR M.1 1))) 2 (nd_fl 1024 0 (sR M.1 2))) 0 (nI 0)) 6 (abk (sR M.1 6) k), M.2) hk
    have ma : df_X6_makeAbsent n (nI k) (pR (pI (pR (pR M.1 1 (nd_fl 256 0 (sR M.1 1))) 2 (nd_fl 1024 0 (sR M.1 2))) 0 (nI 0)) 6 (abk (sR M.1 6) k), M.2) = some (pR (pR (pI (pR (pR M.1 1 (nd_fl 256 0 (sR M.1 1))) 2 (nd_fl 1024 0 (sR M.1 2))) 0 (nI 0)) 6 (abk (sR M.1 6) k)) 6 (ab (abk (sR M.1 6) k) k 7), M.2) := ma
    rw [abk_s, nm_rr] at ma
    rw [show df_X6_start_23 n (m + 1) = dF_X6_start_23 n (df_X6_start_23 n m) from rfl]
    generalize df_X6_start_23 n m = G
    generalize pR (pI (pR (pR M.1 1 (nd_fl 256 0 (sR M.1 1))) 2 (nd_fl 1024 0 (sR M.1 2))) 0 (nI 0)) 6 (abk (sR M.1 6) k) = T1 at ma
    generalize pR (pI (pR (pR M.1 1 (nd_fl 256 0 (sR M.1 1))) 2 (nd_fl 1024 0 (sR M.1 2))) 0 (nI 0)) 6 (abk (sR M.1 6) (k + 1)) = T2 at ma
    simp (disch := (first | assumption | decide | omega)) only [dF_X6_start_23, k1, ma, eq_self, Nat.reduceEqDiff, Nat.reduceLeDiff, nl_0, nl_1, nl_2, nl_3, nl_4, nl_5, nl_6, nl_7, nl_15, nl_16, no_1, no_1024, pk_mul, nI_add, nm_ck, nI_clamp, nI_ltI, nI_leI, nI_eq, nb_b2, nb_b1, ↓nb_let, nm_z0, nm_z1, nb_II, nb_IR, nb_RI, nb_RR, nm_IL, nm_IQ, nm_RL, nm_RQ, nm_LI, nm_LR, nm_LL, nm_LQ, nm_QI, nm_QR, nm_QL, nm_QQ, nm_rr, nm_ii, nm_eqm, not_false_eq_true, pk_sub, nm_div, nm_shl, nm_shr, nm_ush, nm_or8, nm_or64, nm_or256, nm_m1, nm_m3, nm_m7, nm_m15, nm_m31, nm_m63, nm_m255, nm_m511, nm_m1023, nm_m2047, nm_m65535, Nat.reduceMod, Nat.reducePow, Nat.reduceAdd, Nat.reduceSub, Nat.reduceMul, nm_bo, nm_bi, nm_rc, nm_ic, nm_ri, nm_rl, nm_rq, nm_ql, nm_qi, nm_li, nm_us, nm_uu, nm_cp, nm_sa31, nm_sa7, nm_m127, nm_m2, nm_nz, nm_nzk, nm_eq32, nm_nzf, if_true, if_false, ↓reduceIte, if_pos, if_neg])
  have e0 : df_X6_start n (s0, (M, P)) = df_X6_start_23 n n (nI 0) (s0, ((pI (pR (pR M.1 1 (nd_fl 256 0 (sR M.1 1))) 2 (nd_fl 1024 0 (sR M.1 2))) 0 (nI 0), M.2), P)) := rfl
  have e1 : pR (pI (pR (pR M.1 1 (nd_fl 256 0 (sR M.1 1))) 2 (nd_fl 1024 0 (sR M.1 2))) 0 (nI 0)) 6 (abk (sR M.1 6) 0) = pI (pR (pR M.1 1 (nd_fl 256 0 (sR M.1 1))) 2 (nd_fl 1024 0 (sR M.1 2))) 0 (nI 0) := by
    rw [abk_0, show sR M.1 6 = sR (pI (pR (pR M.1 1 (nd_fl 256 0 (sR M.1 1))) 2 (nd_fl 1024 0 (sR M.1 2))) 0 (nI 0)) 6 from rfl, nm_r0]
  rw [e1] at hm
  rw [e0]
  refine Eq.trans hm ?_
  show df_X6_start_23 n (m + 1) (nI 16) _ = _
  rw [show df_X6_start_23 n (m + 1) = dF_X6_start_23 n (df_X6_start_23 n m) from rfl]
  generalize df_X6_start_23 n m = G
  unfold cM
  generalize pR (pI (pR (pR M.1 1 (nd_fl 256 0 (sR M.1 1))) 2 (nd_fl 1024 0 (sR M.1 2))) 0 (nI 0)) 6 (abk (sR M.1 6) 16) = T
  unfold dF_X6_start_23
  rw [if_pos (show (16 : Int32) ≤ nI 16 by decide)]
  rw [nb_let, nb_let, nb_let, nb_let, nb_let, nb_let, nb_let, nb_let, hD, nb_b1, nb_let]
  have b1c : ∀ {α β : Type} (x : Option α) (f g : α → Option β), (∀ a : α, f a = g a) → nd_b1 x f = nd_b1 x g := fun x f g h => by
    cases x with
    | none => rfl
    | some a => exact h a
  refine b1c _ _ _ (fun s18 => ?_)
  rw [nb_let]
  refine b1c _ _ _ (fun s22 => ?_)
  rw [nb_let]
