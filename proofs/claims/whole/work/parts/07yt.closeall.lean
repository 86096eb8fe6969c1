theorem cN_mono {P Q : Nat → Bool} : ∀ {N : Nat}, (∀ i : Nat, i < N → P i = true → Q i = true) → cN P N ≤ cN Q N
  | 0, _ => Nat.le_refl 0
  | k + 1, h => by
    have := cN_mono (N := k) (fun i hi => h i (by omega))
    rw [cN_s, cN_s]
    cases c : P k with
    | false => show _ + 0 ≤ _; omega
    | true =>
      rw [h k (by omega) c]
      omega
theorem rD_k {l op pi fi de kd th po rt ip isf nam : Nat → Int32} (h : rD l op pi fi de kd th po rt ip isf nam) {o : Nat} (ho : o < 48) : ∃ k : Nat, k ≤ 4 ∧ kd o = nI k := by
  rcases h.2.1 o ho with ⟨z, _⟩ | ⟨k, t, y1, y2, y3, y4, _⟩
  · exact ⟨0, by omega, z⟩
  · exact ⟨k, y2, y4⟩
theorem cE_sw {de kd th : Nat → Int32} (h : ∀ o : Nat, o < 48 → ∃ k : Nat, k ≤ 4 ∧ kd o = nI k) {s u : Nat} (hs : 1 ≤ s) (hs4 : s ≤ 4) : cE (pcw (gk de kd) kd 48) th s u ≤ cE kd th s u := cN_mono (fun i hi z => by
  have z := of_decide_eq_true z
  obtain ⟨k, hk, e⟩ := h i hi
  rw [pcw_y _ _ hi, gk_is hk e] at z
  refine decide_eq_true ⟨?_, z.2⟩
  by_cases c : cD de i = 0
  · rw [if_pos c] at z
    have := nm_inI (by omega) (by omega) z.1
    omega
  · rw [if_neg c] at z
    rw [e]; exact z.1)
/-- swept once or more often: the same -/
theorem sw_eq {l0 op0 pi0 fi0 de0 po0 l op pi fi de kd kdA th po rt ip ipA isf isfA nam : Nat → Int32} (h0 : rD l0 op0 pi0 fi0 de0 kd th po0 rt ip isf nam) (h : rD l op pi fi de kdA th po rt ipA isfA nam) (hk : ∀ o : Nat, o < 48 → kdA o = pcw (gk de kd) kd 48 o) : rD l op pi fi de (pcw (gk de kd) kd 48) th po rt (pcw (gp (pcw (gk de kd) kd 48) th ip) ip 8) (pcw (gf (pcw (gk de kd) kd 48) th isf nam) isf 16) nam := by
  have S : ∀ s u : Nat, 1 ≤ s → s ≤ 4 → cE (pcw (gk de kd) kd 48) th s u ≤ cE kd th s u := fun s u h1 h2 => cE_sw (fun o ho => rD_k h0 ho) h1 h2
  have E : ∀ s u : Nat, cE kdA th s u = cE (pcw (gk de kd) kd 48) th s u := fun s u => cN_c (fun j hj => by rw [hk j hj])
  refine rD_congr (fun o ho => (hk o ho).symm) (fun k hk8 => ?_) (fun k hk16 => ?_) h
  · obtain ⟨_, _, z3⟩ := h0.2.2.1 k hk8
    obtain ⟨_, _, y3⟩ := h.2.2.1 k hk8
    have s1 := S 1 k (by omega) (by omega)
    have s2 := S 2 k (by omega) (by omega)
    rw [pcw_y _ _ hk8, gp_is z3 (by omega), y3, E, E]
  · obtain ⟨_, z2, _, z4⟩ := h0.2.2.2 k hk16
    obtain ⟨_, y2, _, y4⟩ := h.2.2.2 k hk16
    rw [pcw_y _ _ hk16, gf_is z2 z4 (S 3 k (by omega) (by omega)), y4, E]
theorem cD_fl {de : Nat → Int32} {a k m o : Nat} (h : k ≤ m) (ho : o < 48) : cD (fl de a m (-nI 1)) o ≤ cD (fl de a k (-nI 1)) o := cN_mono (fun i hi z => by
  have z := of_decide_eq_true z
  refine decide_eq_true ?_
  have z : (if a ≤ i ∧ i < a + m then -nI 1 else de i) = nI o := z
  show (if a ≤ i ∧ i < a + k then -nI 1 else de i) = nI o
  by_cases c : a ≤ i ∧ i < a + m
  · rw [if_pos c] at z
    exact absurd z.symm (nk_ne (by omega))
  · rw [if_neg c] at z
    rw [if_neg (by omega)]
    exact z)
theorem gk_gk {de kd : Nat → Int32} {a k m o : Nat} (h : k ≤ m) (ho : o < 48) {kk : Nat} (hk : kk ≤ 4) (e : kd o = nI kk) : gk (fl de a m (-nI 1)) (pcw (gk (fl de a k (-nI 1)) kd) kd 48) o = gk (fl de a m (-nI 1)) kd o := by
  have e1 : pcw (gk (fl de a k (-nI 1)) kd) kd 48 o = if cD (fl de a k (-nI 1)) o = 0 then nI 0 else nI kk := by rw [pcw_y _ _ ho, gk_is hk e]
  have le := cD_fl (de := de) (a := a) h ho
  rw [gk_is hk e]
  by_cases c : cD (fl de a k (-nI 1)) o = 0
  · rw [if_pos c] at e1
    rw [gk_n e1, if_pos (by omega)]
  · rw [if_neg c] at e1
    rw [gk_is hk e1]
theorem dU_dU (D : St) (l op pi fi l' op' pi' fi' : Nat → Int32) : dU (dU D l op pi fi) l' op' pi' fi' = dU D l' op' pi' fi' := by
  unfold dU
  simp (disch := omega) only [df_X10_close_74, nm_rc (a := 1) (b := 0) (by decide), nm_rc (a := 2) (b := 0) (by decide), nm_rc (a := 2) (b := 1) (by decide), nm_rc (a := 4) (b := 0) (by decide), nm_rc (a := 4) (b := 1) (by decide), nm_rc (a := 4) (b := 2) (by decide), no_1, no_1024, pk_mul, nI_add, nm_ck, nI_clamp, nI_ltI, nI_leI, nI_eq, nb_b2, nb_b1, nb_let, nm_z0, nm_z1, nb_II, nb_IR, nb_RI, nb_RR, nm_IL, nm_IQ, nm_RL, nm_RQ, nm_LI, nm_LR, nm_LL, nm_LQ, nm_QI, nm_QR, nm_QL, nm_QQ, nm_rr, nm_ii, nm_eqm, not_false_eq_true, pk_sub, nm_div, nm_shl, nm_shr, nm_ush, nm_or8, nm_or64, nm_or256, nm_m1, nm_m3, nm_m7, nm_m15, nm_m31, nm_m63, nm_m255, nm_m511, nm_m1023, nm_m2047, nm_m65535, Nat.reduceMod, Nat.reducePow, Nat.reduceAdd, Nat.reduceSub, Nat.reduceMul, nm_bo, nm_bi, nm_rc, nm_ic, nm_ri, nm_rl, nm_rq, nm_ql, nm_qi, nm_li, nm_us, nm_uu, nm_cp, nm_sa31, nm_sa7, nm_m127, nm_m2, nm_nz, nm_nzk, nm_eq32, nm_nzf, if_true, if_false, ↓reduceIte, if_pos, if_neg]
theorem dU_id (D : St) : dU D (sR D 0) (sR D 1) (sR D 2) (sR D 4) = D := by
  unfold dU
  rw [nm_r0, nm_r0, nm_r0, nm_r0]
/-- all descriptors of a process are closed, one after the other -/
theorem nk_closes (n : Nat) {D : St} {de kd th po rt ip isf nam : Nat → Int32} (h : rD (sR D 0) (sR D 1) (sR D 2) (sR D 4) de kd th po rt ip isf nam) {p : Nat} (hp : p < 16) : ∀ k : Nat, k ≤ 16 → ∃ l op pi fi : Nat → Int32, rD l op pi fi (fl de (p * 16) k (-nI 1)) (pcw (gk (fl de (p * 16) k (-nI 1)) kd) kd 48) th po rt (pcw (gp (pcw (gk (fl de (p * 16) k (-nI 1)) kd) kd 48) th ip) ip 8) (pcw (gf (pcw (gk (fl de (p * 16) k (-nI 1)) kd) kd 48) th isf nam) isf 16) nam ∧ (k < 16 → ∃ l' op' pi' fi' : Nat → Int32, df_X10_close n (nI p) (nI k) (dU D l op pi fi) = some (dU D l' op' pi' fi') ∧ rD l' op' pi' fi' (fl de (p * 16) (k + 1) (-nI 1)) (pcw (gk (fl de (p * 16) (k + 1) (-nI 1)) kd) kd 48) th po rt (pcw (gp (pcw (gk (fl de (p * 16) (k + 1) (-nI 1)) kd) kd 48) th ip) ip 8) (pcw (gf (pcw (gk (fl de (p * 16) (k + 1) (-nI 1)) kd) kd 48) th isf nam) isf 16) nam) := by
  have step : ∀ (k : Nat) (l op pi fi : Nat → Int32), k < 16 → rD l op pi fi (fl de (p * 16) k (-nI 1)) (pcw (gk (fl de (p * 16) k (-nI 1)) kd) kd 48) th po rt (pcw (gp (pcw (gk (fl de (p * 16) k (-nI 1)) kd) kd 48) th ip) ip 8) (pcw (gf (pcw (gk (fl de (p * 16) k (-nI 1)) kd) kd 48) th isf nam) isf 16) nam → ∃ l' op' pi' fi' : Nat → Int32, df_X10_close n (nI p) (nI k) (dU D l op pi fi) = some (dU D l' op' pi' fi') ∧ rD l' op' pi' fi' (fl de (p * 16) (k + 1) (-nI 1)) (pcw (gk (fl de (p * 16) (k + 1) (-nI 1)) kd) kd 48) th po rt (pcw (gp (pcw (gk (fl de (p * 16) (k + 1) (-nI 1)) kd) kd 48) th ip) ip 8) (pcw (gf (pcw (gk (fl de (p * 16) (k + 1) (-nI 1)) kd) kd 48) th isf nam) isf 16) nam := fun k l op pi fi hk hr => by
    obtain ⟨l', op', pi', fi', e1, _, e2⟩ := nk_close n (D := dU D l op pi fi) hr hp hk
    rw [dU_dU] at e1
    rw [fl_s] at e2
    exact ⟨l', op', pi', fi', e1, sw_eq h e2 (fun o ho => by
      obtain ⟨kk, hkk, e⟩ := rD_k h ho
      rw [pcw_y _ _ ho, pcw_y _ _ ho]
      exact gk_gk (by omega) ho hkk e)⟩
  intro k
  induction k with
  | zero =>
    intro _
    have r0 := rD_sweep h
    have e : fl de (p * 16) 0 (-nI 1) = de := fl_0 de (p * 16) (-nI 1)
    rw [← e] at r0
    rw [e] at r0
    refine ⟨sR D 0, sR D 1, sR D 2, sR D 4, by rw [e]; exact r0, fun hk => step 0 _ _ _ _ hk (by rw [e]; exact r0)⟩
  | succ k ih =>
    intro hk
    obtain ⟨l, op, pi, fi, _, s1⟩ := ih (by omega)
    obtain ⟨l', op', pi', fi', _, s2⟩ := s1 (by omega)
    exact ⟨l', op', pi', fi', s2, fun h16 => step (k + 1) _ _ _ _ h16 s2⟩
