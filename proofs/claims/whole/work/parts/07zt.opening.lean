theorem cE_new {kd th : Nat → Int32} {o k t : Nat} (ho : o < 48) (hk : 1 ≤ k) (hk4 : k ≤ 4) (ht : t < 16) (e : kd o = nI 0) {s u : Nat} (hs : 1 ≤ s) (hs4 : s ≤ 4) (hu : u < 16) : cE (upd kd o (nI k)) (upd th o (nI t)) s u = cE kd th s u + (if s = k ∧ u = t then 1 else 0) := by
  have h := cN_u (P := fun i => decide (kd i = nI s ∧ th i = nI u)) (Q := fun i => decide (upd kd o (nI k) i = nI s ∧ upd th o (nI t) i = nI u)) (j := o) (fun i hi => by rw [nm_un hi, nm_un hi]) (N := 48) ho
  rw [nm_us, nm_us, nm_df (show ¬ (kd o = nI s ∧ th o = nI u) from fun z => by rw [e] at z; have := nm_inI (by omega) (by omega) z.1; omega)] at h
  have h : cE (upd kd o (nI k)) (upd th o (nI t)) s u + 0 = cE kd th s u + (decide (nI k = nI s ∧ nI t = nI u)).toNat := h
  by_cases c : s = k ∧ u = t
  · rw [if_pos c]
    rw [nm_dt (show nI k = nI s ∧ nI t = nI u by rw [c.1, c.2]; exact ⟨rfl, rfl⟩)] at h
    omega
  · rw [if_neg c]
    rw [nm_df (show ¬ (nI k = nI s ∧ nI t = nI u) from fun z => c ⟨(nm_inI (by omega) (by omega) z.1).symm, (nm_inI (by omega) (by omega) z.2).symm⟩)] at h
    omega
/-- a new opening and a descriptor to it -/
theorem rD_open {l op pi fi de kd th po rt ip isf nam : Nat → Int32} (h : rD l op pi fi de kd th po rt ip isf nam) {i o k t r : Nat} (hi : i < 256) (ho : o < 48) (hk : 1 ≤ k) (hk4 : k ≤ 3) (ht : t < 16) (ht8 : k ≤ 2 → t < 8) (hr : r < 8) (hr1 : k = 1 → r = 1) (hr2 : k = 2 → r = 2) (e : de i = -nI 1) (ek : kd o = nI 0) {op' pi' fi' ip' isf' nam' : Nat → Int32} (ho' : ∀ j : Nat, j < 48 → j ≠ o → ∀ x : Nat, x < 5 → op' (j * 5 + x) = op (j * 5 + x)) (hoo : op' (o * 5) = nI k ∧ op' (o * 5 + 1) = nI 1 ∧ op' (o * 5 + 2) = nI t ∧ op' (o * 5 + 3) = nI 0 ∧ op' (o * 5 + 4) = nI r) (hpi : ∀ u s : Nat, u < 8 → 1 ≤ s → s ≤ 2 → pi' (u * 4 + s) = if s = k ∧ u = t then nI (cE kd th s u + 1) else pi (u * 4 + s)) (hfi : ∀ u : Nat, u < 16 → fi' (u * 3 + 1) = (if k = 3 ∧ u = t then nI (cE kd th 3 u + 1) else fi (u * 3 + 1)) ∧ fi' (u * 3 + 2) = nam' u ∧ okB (nam' u)) (hip : ∀ u : Nat, u < 8 → ip' u = if k ≤ 2 ∧ u = t then nI 1 else ip u) (hisf : ∀ u : Nat, u < 16 → (k = 3 ∧ u = t → isf' u = nI 1) ∧ (¬ (k = 3 ∧ u = t) → isf' u = isf u ∧ nam' u = nam u)) : rD (upd l i (nI (o + 1))) op' pi' fi' (upd de i (nI o)) (upd kd o (nI k)) (upd th o (nI t)) (upd po o (nI 0)) (upd rt o (nI r)) ip' isf' nam' := by
  obtain ⟨h1, h2, h3, h4⟩ := h
  have c0 : cD de o = 0 := by
    rcases h2 o ho with ⟨_, _, z⟩ | ⟨k', _, y1, y2, _, y4, _⟩
    · exact z
    · have := nm_inI (by omega) (by omega) (y4.symm.trans ek)
      omega
  obtain ⟨c1, c2⟩ := cD_stand hi ho e
  have E : ∀ s u : Nat, 1 ≤ s → s ≤ 4 → u < 16 → cE (upd kd o (nI k)) (upd th o (nI t)) s u = cE kd th s u + (if s = k ∧ u = t then 1 else 0) := fun s u x1 x2 x3 => cE_new ho hk (by omega) ht ek x1 x2 x3
  refine ⟨fun j hj => ?_, fun j hj => ?_, fun u hu => ?_, fun u hu => ?_⟩
  · by_cases c : j = i
    · right
      rw [c, nm_us, nm_us]
      exact ⟨o, ho, rfl, rfl⟩
    · rw [nm_un c, nm_un c]; exact h1 j hj
  · by_cases c : j = o
    · subst c
      right
      rw [c2, c0, nm_us, nm_us, nm_us, nm_us]
      exact ⟨k, t, hk, by omega, by omega, rfl, hoo.1, hoo.2.1, rfl, hoo.2.2.1, ht8, ht, hoo.2.2.2.2, fun _ => hoo.2.2.2.1, fun _ => hoo.2.2.2.1, ⟨r, hr, rfl, hr1, hr2⟩, fun _ => ⟨0, by omega, rfl⟩⟩
    · have oj := ho' j hj c
      have oj0 := oj 0 (by omega)
      rw [Nat.add_zero] at oj0
      rw [nm_un c, nm_un c, nm_un c, nm_un c, c1 j hj c, oj0, oj 1 (by omega), oj 2 (by omega), oj 3 (by omega), oj 4 (by omega)]
      exact h2 j hj
  · obtain ⟨z1, z2, z3⟩ := h3 u hu
    have e1 := E 1 u (by omega) (by omega) (by omega)
    have e2 := E 2 u (by omega) (by omega) (by omega)
    have p1 := hpi u 1 hu (by omega) (by omega)
    have p2 := hpi u 2 hu (by omega) (by omega)
    have i1 := hip u hu
    rw [e1, e2]
    refine ⟨?_, ?_, ?_⟩
    · by_cases c : 1 = k ∧ u = t
      · rw [p1, if_pos c, if_pos c]
      · rw [p1, if_neg c, if_neg c, z1]; rfl
    · by_cases c : 2 = k ∧ u = t
      · rw [p2, if_pos c, if_pos c]
      · rw [p2, if_neg c, if_neg c, z2]; rfl
    · rw [i1]
      by_cases c : k ≤ 2 ∧ u = t
      · rw [if_pos c]
        have c' : k = 1 ∨ k = 2 := by omega
        rcases c' with c' | c'
        · rw [if_pos (show 1 = k ∧ u = t from ⟨c'.symm, c.2⟩), decide_eq_true (show 0 < cE kd th 1 u + 1 + (cE kd th 2 u + if 2 = k ∧ u = t then 1 else 0) by omega)]; rfl
        · rw [if_pos (show 2 = k ∧ u = t from ⟨c'.symm, c.2⟩), decide_eq_true (show 0 < cE kd th 1 u + (if 1 = k ∧ u = t then 1 else 0) + (cE kd th 2 u + 1) by omega)]; rfl
      · rw [if_neg c, if_neg (show ¬ (1 = k ∧ u = t) from fun y => c ⟨by omega, y.2⟩), if_neg (show ¬ (2 = k ∧ u = t) from fun y => c ⟨by omega, y.2⟩)]
        exact z3
  · obtain ⟨z1, z2, z3, z4⟩ := h4 u hu
    have e3 := E 3 u (by omega) (by omega) hu
    obtain ⟨f1, f2, f3⟩ := hfi u hu
    obtain ⟨g1, g2⟩ := hisf u hu
    rw [e3]
    by_cases c : k = 3 ∧ u = t
    · have c' : 3 = k ∧ u = t := ⟨c.1.symm, c.2⟩
      rw [f1, if_pos c, if_pos c']
      exact ⟨rfl, f3, f2, by rw [g1 c, decide_eq_true (Or.inr (by omega))]; rfl⟩
    · have c' : ¬ (3 = k ∧ u = t) := fun y => c ⟨y.1.symm, y.2⟩
      obtain ⟨g3, g4⟩ := g2 c
      rw [f1, if_neg c, if_neg c']
      exact ⟨z1, f3, f2, by rw [g3, g4]; exact z4⟩
/-- the first free opening -/
def fo (X : St × St) : Nat := fN (fun o => decide (sR X.1 19 o ≤ nI 0)) 0 48
theorem fo_le {l op pi fi de kd th po rt ip isf nam : Nat → Int32} (h : rD l op pi fi de kd th po rt ip isf nam) {o : Nat} (ho : o < 48) : (kd o ≤ nI 0 ↔ kd o = nI 0) ∧ (op (o * 5) = nI 0 ↔ kd o = nI 0) := by
  rcases h.2.1 o ho with ⟨z1, z2, _⟩ | ⟨k, t, y1, y2, _, y4, y5, _⟩
  · rw [z1, z2]
    exact ⟨⟨fun _ => rfl, fun _ => by decide⟩, Iff.rfl⟩
  · rw [y4, y5]
    refine ⟨⟨fun z => ?_, fun z => ?_⟩, Iff.rfl⟩
    · have := (nm_nle0 (by omega)).mp z
      rw [this]
    · have := nm_inI (by omega) (by omega) z
      omega
theorem nk_hold3 (n : Nat) {D : St} {t x : Nat} (ht : t < 16) (hx : x ≤ 48) (e : sR D 4 (t * 3 + 1) = nI x) : df_X10_hold n (nI 3) (nI t) (nI 1) D = some (pR D 4 (upd (sR D 4) (t * 3 + 1) (nI (x + 1)))) := by
  have u1 : t * 3 + 1 < 48 := by omega
  have u2 : t * 3 + 1 < 2 ^ 31 := by omega
  simp (disch := (first | assumption | decide | omega)) only [df_X10_hold_41, df_X10_hold_0, df_X10_hold, e, eq_self, Nat.reduceEqDiff, Nat.reduceLeDiff, nl_1, nl_2, nl_3, nl_4, nl_32, nl_48, no_1, no_1024, pk_mul, nI_add, nm_ck, nI_clamp, nI_ltI, nI_leI, nI_eq, nb_b2, nb_b1, ↓nb_let, nm_z0, nm_z1, nb_II, nb_IR, nb_RI, nb_RR, nm_IL, nm_IQ, nm_RL, nm_RQ, nm_LI, nm_LR, nm_LL, nm_LQ, nm_QI, nm_QR, nm_QL, nm_QQ, nm_rr, nm_ii, nm_eqm, not_false_eq_true, pk_sub, nm_div, nm_shl, nm_shr, nm_ush, nm_or8, nm_or64, nm_or256, nm_m1, nm_m3, nm_m7, nm_m15, nm_m31, nm_m63, nm_m255, nm_m511, nm_m1023, nm_m2047, nm_m65535, Nat.reduceMod, Nat.reducePow, Nat.reduceAdd, Nat.reduceSub, Nat.reduceMul, nm_bo, nm_bi, nm_rc, nm_ic, nm_ri, nm_rl, nm_rq, nm_ql, nm_qi, nm_li, nm_us, nm_uu, nm_cp, nm_sa31, nm_sa7, nm_m127, nm_m2, nm_nz, nm_nzk, nm_eq32, nm_nzf, if_true, if_false, ↓reduceIte, if_pos, if_neg]
theorem nk_hold2 (n : Nat) {D : St} {k t x : Nat} (hk : k = 1 ∨ k = 2) (ht : t < 8) (hx : x ≤ 48) (e : sR D 2 (t * 4 + k) = nI x) : df_X10_hold n (nI k) (nI t) (nI 1) D = some (pR D 2 (upd (sR D 2) (t * 4 + k) (nI (x + 1)))) := by
  have u1 : t * 4 + k < 32 := by omega
  have u2 : t * 4 + k < 2 ^ 31 := by omega
  have u3 : k < 2 ^ 31 := by omega
  have u4 : ¬ k = 3 := by omega
  have u5 : ¬ k = 4 := by omega
  simp (disch := (first | assumption | decide | omega)) only [df_X10_hold_41, df_X10_hold_0, df_X10_hold, u4, u5, e, eq_self, Nat.reduceEqDiff, Nat.reduceLeDiff, nl_1, nl_2, nl_3, nl_4, nl_32, nl_48, no_1, no_1024, pk_mul, nI_add, nm_ck, nI_clamp, nI_ltI, nI_leI, nI_eq, nb_b2, nb_b1, ↓nb_let, nm_z0, nm_z1, nb_II, nb_IR, nb_RI, nb_RR, nm_IL, nm_IQ, nm_RL, nm_RQ, nm_LI, nm_LR, nm_LL, nm_LQ, nm_QI, nm_QR, nm_QL, nm_QQ, nm_rr, nm_ii, nm_eqm, not_false_eq_true, pk_sub, nm_div, nm_shl, nm_shr, nm_ush, nm_or8, nm_or64, nm_or256, nm_m1, nm_m3, nm_m7, nm_m15, nm_m31, nm_m63, nm_m255, nm_m511, nm_m1023, nm_m2047, nm_m65535, Nat.reduceMod, Nat.reducePow, Nat.reduceAdd, Nat.reduceSub, Nat.reduceMul, nm_bo, nm_bi, nm_rc, nm_ic, nm_ri, nm_rl, nm_rq, nm_ql, nm_qi, nm_li, nm_us, nm_uu, nm_cp, nm_sa31, nm_sa7, nm_m127, nm_m2, nm_nz, nm_nzk, nm_eq32, nm_nzf, if_true, if_false, ↓reduceIte, if_pos, if_neg]
/-- an opening's row -/
def orw (op : Nat → Int32) (o : Nat) (k t r : Int32) : Nat → Int32 := upd (upd (upd (upd (upd op (o * 5) k) (o * 5 + 1) (nI 0)) (o * 5 + 2) t) (o * 5 + 3) (nI 0)) (o * 5 + 4) r
theorem nk_open10 (n : Nat) (hn : 1024 < n) {D : St} {X : St × St} (h : rD (sR D 0) (sR D 1) (sR D 2) (sR D 4) (sR X.1 14) (sR X.1 19) (sR X.1 20) (sR X.1 21) (sR X.1 22) (sR X.1 23) (sR X.1 24) (sR X.1 25)) (hf : fo X < 48) (k t r : Int32) : df_X10_open n k t r D = nd_b1 (df_X10_hold n k t (nI 1) (pR D 1 (orw (sR D 1) (fo X) k t r))) (fun s => some (nI (fo X), s)) := by
  obtain ⟨x1, x2, x3, x4⟩ := fN_le (fun o => decide (sR X.1 19 o ≤ nI 0)) 48 0
  obtain ⟨m, hm⟩ := nm_ls (fun m o => df_X10_open_3 n m k t r (nI o) D) (fun o => decide (sR X.1 19 o ≤ nI 0)) 0 48 n (by omega) (fun o m h0 ho c => by
    have c := of_decide_eq_false c
    obtain ⟨y1, y2⟩ := fo_le h (show o < 48 by omega)
    have y3 : ¬ sR D 1 (o * 5) = nI 0 := fun z => c (y1.mpr (y2.mp z))
    have u1 : o * 5 < 240 := by omega
    have u2 : o * 5 < 2 ^ 31 := by omega
    have u3 : o < 2 ^ 31 := by omega
    have o48 : ¬ 48 ≤ o := by omega
    rw [show df_X10_open_3 n (m + 1) = dF_X10_open_3 n (df_X10_open_3 n m) from rfl]
    generalize df_X10_open_3 n m = G
    simp (disch := (first | assumption | decide | omega)) only [dF_X10_open_3, o48, Nat.add_zero, y3, eq_self, Nat.reduceEqDiff, Nat.reduceLeDiff, nl_0, nl_1, nl_2, nl_3, nl_4, nl_5, nl_48, nl_240, no_1, no_1024, pk_mul, nI_add, nm_ck, nI_clamp, nI_ltI, nI_leI, nI_eq, nb_b2, nb_b1, ↓nb_let, nm_z0, nm_z1, nb_II, nb_IR, nb_RI, nb_RR, nm_IL, nm_IQ, nm_RL, nm_RQ, nm_LI, nm_LR, nm_LL, nm_LQ, nm_QI, nm_QR, nm_QL, nm_QQ, nm_rr, nm_ii, nm_eqm, not_false_eq_true, pk_sub, nm_div, nm_shl, nm_shr, nm_ush, nm_or8, nm_or64, nm_or256, nm_m1, nm_m3, nm_m7, nm_m15, nm_m31, nm_m63, nm_m255, nm_m511, nm_m1023, nm_m2047, nm_m65535, Nat.reduceMod, Nat.reducePow, Nat.reduceAdd, Nat.reduceSub, Nat.reduceMul, nm_bo, nm_bi, nm_rc, nm_ic, nm_ri, nm_rl, nm_rq, nm_ql, nm_qi, nm_li, nm_us, nm_uu, nm_cp, nm_sa31, nm_sa7, nm_m127, nm_m2, nm_nz, nm_nzk, nm_eq32, nm_nzf, if_true, if_false, ↓reduceIte, if_pos, if_neg])
  refine Eq.trans (b := df_X10_open_3 n n k t r (nI 0) D) rfl (Eq.trans hm ?_)
  show df_X10_open_3 n (m + 1) k t r (nI (fo X)) D = _
  have x3' := of_decide_eq_true (x3 (show fo X < 48 from hf))
  have x3' : sR X.1 19 (fo X) ≤ nI 0 := x3'
  generalize fo X = o at hf x3'
  rw [show df_X10_open_3 n (m + 1) = dF_X10_open_3 n (df_X10_open_3 n m) from rfl]
  generalize df_X10_open_3 n m = G
  obtain ⟨y1, y2⟩ := fo_le h hf
  have y3 : sR D 1 (o * 5) = nI 0 := y2.mpr (y1.mp x3')
  have u1 : o * 5 < 240 := by omega
  have u2 : o * 5 < 2 ^ 31 := by omega
  have u3 : o < 2 ^ 31 := by omega
  have u4 : o * 5 + 1 < 240 := by omega
  have u5 : o * 5 + 2 < 240 := by omega
  have u6 : o * 5 + 3 < 240 := by omega
  have u7 : o * 5 + 4 < 240 := by omega
  have o48 : ¬ 48 ≤ o := by omega
  unfold orw
  simp (disch := (first | assumption | decide | omega)) only [dF_X10_open_3, o48, Nat.add_zero, y3, eq_self, Nat.reduceEqDiff, Nat.reduceLeDiff, nl_0, nl_1, nl_2, nl_3, nl_4, nl_5, nl_48, nl_240, no_1, no_1024, pk_mul, nI_add, nm_ck, nI_clamp, nI_ltI, nI_leI, nI_eq, nb_b2, nb_b1, ↓nb_let, nm_z0, nm_z1, nb_II, nb_IR, nb_RI, nb_RR, nm_IL, nm_IQ, nm_RL, nm_RQ, nm_LI, nm_LR, nm_LL, nm_LQ, nm_QI, nm_QR, nm_QL, nm_QQ, nm_rr, nm_ii, nm_eqm, not_false_eq_true, pk_sub, nm_div, nm_shl, nm_shr, nm_ush, nm_or8, nm_or64, nm_or256, nm_m1, nm_m3, nm_m7, nm_m15, nm_m31, nm_m63, nm_m255, nm_m511, nm_m1023, nm_m2047, nm_m65535, Nat.reduceMod, Nat.reducePow, Nat.reduceAdd, Nat.reduceSub, Nat.reduceMul, nm_bo, nm_bi, nm_rc, nm_ic, nm_ri, nm_rl, nm_rq, nm_ql, nm_qi, nm_li, nm_us, nm_uu, nm_cp, nm_sa31, nm_sa7, nm_m127, nm_m2, nm_nz, nm_nzk, nm_eq32, nm_nzf, if_true, if_false, ↓reduceIte, if_pos, if_neg]
theorem nk_free48 (n : Nat) (hn : 1024 < n) {X : St × St} : df_X16_freeOpening n X = some (if fo X < 48 then nI (fo X) else -nI 1, X) := nb_freeOpening n (by omega) X
theorem nk_opening16 (n : Nat) (hn : 1024 < n) {X : St × St} (hf : fo X < 48) (k t r : Int32) : df_X16_opening n k t r X = some (nI (fo X), (pR (pR (pR (pR X.1 19 (upd (sR X.1 19) (fo X) k)) 20 (upd (sR X.1 20) (fo X) t)) 21 (upd (sR X.1 21) (fo X) (nI 0))) 22 (upd (sR X.1 22) (fo X) r), X.2)) := by
  have fr := nk_free48 n hn (X := X)
  rw [if_pos hf] at fr
  generalize fo X = o at hf fr
  have u3 : o < 2 ^ 31 := by omega
  simp (disch := (first | assumption | decide | omega)) only [df_X16_opening_0, df_X16_opening, fr, eq_self, Nat.reduceEqDiff, Nat.reduceLeDiff, nl_0, nl_19, nl_20, nl_21, nl_22, nl_48, no_1, no_1024, pk_mul, nI_add, nm_ck, nI_clamp, nI_ltI, nI_leI, nI_eq, nb_b2, nb_b1, ↓nb_let, nm_z0, nm_z1, nb_II, nb_IR, nb_RI, nb_RR, nm_IL, nm_IQ, nm_RL, nm_RQ, nm_LI, nm_LR, nm_LL, nm_LQ, nm_QI, nm_QR, nm_QL, nm_QQ, nm_rr, nm_ii, nm_eqm, not_false_eq_true, pk_sub, nm_div, nm_shl, nm_shr, nm_ush, nm_or8, nm_or64, nm_or256, nm_m1, nm_m3, nm_m7, nm_m15, nm_m31, nm_m63, nm_m255, nm_m511, nm_m1023, nm_m2047, nm_m65535, Nat.reduceMod, Nat.reducePow, Nat.reduceAdd, Nat.reduceSub, Nat.reduceMul, nm_bo, nm_bi, nm_rc, nm_ic, nm_ri, nm_rl, nm_rq, nm_ql, nm_qi, nm_li, nm_us, nm_uu, nm_cp, nm_sa31, nm_sa7, nm_m127, nm_m2, nm_nz, nm_nzk, nm_eq32, nm_nzf, if_true, if_false, ↓reduceIte, if_pos, if_neg]
