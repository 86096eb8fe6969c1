theorem eA_u {t : S11} {V W : St} (h : eA t V) (g : eA t W) : V = W := by
  rcases h with ⟨a, b⟩ | ⟨a, b⟩
  · rcases g with ⟨c, d⟩ | ⟨c, d⟩
    · rw [← b, d]
    · rw [a] at c; exact absurd c (by decide)
  · rcases g with ⟨c, d⟩ | ⟨c, d⟩
    · rw [a] at c; exact absurd c (by decide)
    · rw [← b, d]
/-- what is the same of two recordings -/
def sV (V V' : St) : Prop := sI V' 0 = sI V 0 ∧ sI V' 1 = sI V 1 ∧ (∀ k : Nat, sR V' k = sR V k) ∧ ∀ k : Nat, sQ V' k = sQ V k
/-- what is the same of the class's line of time, of the reference -/
def sT (t t' : S11) : Prop := t'.1 = t.1 ∧ t'.2.1 = t.2.1 ∧ t'.2.2.1 = t.2.2.1 ∧ t'.2.2.2.2.2 = t.2.2.2.2.2
def sU (τ τ' : S19) : Prop := (∀ j : Nat, 3 ≤ j → j ≤ 11 → sI τ'.1 j = sI τ.1 j) ∧ (∀ j : Nat, 5 ≤ j → j ≤ 9 → sR τ'.1 j = sR τ.1 j) ∧ (∀ j : Nat, sQ τ'.1 j = sQ τ.1 j) ∧ τ'.2.2.1.2 = τ.2.2.1.2
theorem jM_V {n vn : Nat} {Q V V' : St} {N T e c k : Nat} {lo : Nat → Nat} {t t' : S11} {τ τ' : S19} (h : jM n vn Q V N T e c k lo t τ) (hV : sV V V') (hT : sT t t') (hU : sU τ τ') (hA : eA t' V') : jM n vn Q V' N T e c k lo t' τ' := by
  obtain ⟨v0, v1, vR, vQ⟩ := hV
  obtain ⟨t1, t2, t3, t4⟩ := hT
  obtain ⟨u1, u2, u3, u4⟩ := hU
  have ev : evK V' = evK V := by
    funext i
    unfold evK
    rw [vR 0, vR 1, vQ 1]
  have evt : evT τ'.1 = evT τ.1 := by
    funext i
    unfold evT
    rw [u2 5 (by omega) (by omega), u2 6 (by omega) (by omega), u3 0]
  have p1 : t'.2.2.2.2.2.1 = t.2.2.2.2.2.1 := congrArg Prod.fst t4
  have p3 : t'.2.2.2.2.2.2.2 = t.2.2.2.2.2.2.2 := congrArg (fun p => p.2.2) t4
  obtain ⟨⟨a1, ⟨b1, b2, b3, b4, b5, b6, b7, b8⟩, a3, a4, a5, a6, a7, a8, a9, ⟨cp, sp, at_, ix, hC⟩, a11⟩, ⟨l1, l2, l3, l4, l5, l6⟩, hev, hv, ⟨h4, h5, h6⟩, hk, hX, h10, h14, hS, h11⟩ := h
  refine ⟨⟨hA, ⟨v0.trans b1, v1.trans b2, b3, b4, b5, fun i c hc q1 q2 => by rw [vQ 0]; exact b6 i c hc q1 q2, fun i hi => by rw [vR 0, vR 1, vQ 1]; exact b7 i hi, b8⟩, by rw [ev]; exact a3, ?_, a5, by rw [t1]; exact a6, by rw [t1]; exact a7, by rw [t1]; exact a8, by rw [ev, t3]; exact a9, ⟨cp, sp, at_, ix, ?_⟩, fun j hj => by rw [ev, t1]; exact a11 j hj⟩, ⟨(u1 8 (by omega) (by omega)).trans l1, l2, l3, fun i c hc q1 q2 => by rw [u2 7 (by omega) (by omega)]; exact l4 i c hc q1 q2, fun i hi => by rw [u2 5 (by omega) (by omega), u2 6 (by omega) (by omega), u3 0]; exact l5 i hi, l6⟩, fun i hi => by rw [ev, evt]; exact hev i hi, hv, ⟨(u1 4 (by omega) (by omega)).trans h4, (u1 5 (by omega) (by omega)).trans h5, (u1 6 (by omega) (by omega)).trans h6⟩, hk, by rw [ev, u4]; exact hX, (u1 10 (by omega) (by omega)).trans h10, by rw [u4]; exact h14, ⟨(u1 9 (by omega) (by omega)).trans hS.1, fun i hi => by rw [u2 8 (by omega) (by omega), u2 9 (by omega) (by omega), u3 1, u3 2, vR 0, vR 1, vQ 0, vQ 1]; exact hS.2 i hi⟩, by rw [t1, u1 11 (by omega) (by omega)]; exact h11⟩
  · refine ⟨by rw [t3]; exact a4.1, fun v hv => ?_⟩
    rw [t2, p1]
    exact a4.2 v hv
  · obtain ⟨⟨d1, d2, d3, d4, d5, d6⟩, e1, e2, e3, e4, e5⟩ := hC
    refine ⟨⟨d1, d2, by rw [t1]; exact d3, by rw [t1]; exact d4, d5, d6⟩, by rw [t2]; exact e1, e2, e3, e4, fun i hi => ?_⟩
    rw [t1, p3, ev]
    exact e5 i hi
theorem jA_V {n : Nat} {V V' : St} {t t' : S11} {τ τ' : S19} (h : jA n t τ) (hE : eA t V) (hV : sV V V') (hT : sT t t') (hU : sU τ τ') (hA : eA t' V') : jA n t' τ' := by
  obtain ⟨h0, ⟨h1, h2, ⟨W, w1, w2, w3⟩, h4, h5, h6, h7⟩ | ⟨h1, h2, vn, Q, W, N, T, e, c, k, lo, h3⟩⟩ := h
  · have := eA_u hE w1
    subst this
    refine ⟨by unfold sp2; rw [hT.1]; exact h0, Or.inl ⟨by rw [hT.1]; exact h1, (hU.1 3 (by omega) (by omega)).trans h2, ⟨V', hA, hV.1.trans w2, hV.2.1.trans w3⟩, by rw [hT.2.2.1]; exact h4, by rw [hT.2.2.1]; exact h5, by rw [hT.2.1]; exact h6, (hU.1 8 (by omega) (by omega)).trans h7.1, by rw [hT.2.1]; exact h7.2⟩⟩
  · have := eA_u hE h3.1.1
    subst this
    exact ⟨by unfold sp2; rw [hT.1]; exact h0, Or.inr ⟨by rw [hT.1]; exact h1, (hU.1 3 (by omega) (by omega)).trans h2, vn, Q, V', N, T, e, c, k, lo, jM_V h3 hV hT hU hA⟩⟩
/-- the events of both, as they are packed -/
theorem jA_pk {n : Nat} {t : S11} {τ : S19} (h : jA n t τ) : ∃ (V : St) (N : Nat) (K tt : Nat → Nat), eA t V ∧ N ≤ 2048 ∧ sI V 0 = nI N ∧ sI τ.1 8 = nI N ∧ (∀ i : Nat, i + 1 < N → tt i ≤ tt (i + 1)) ∧ ∀ i : Nat, i < N → K i < 5 ∧ tt i ≤ 60000 ∧ evV (K i) (sQ V 1 i) (sR V 1 i) ∧ sR V 0 i = nI (K i) ∧ sQ V 0 i = Int64.ofNat (tt i) ∧ sR τ.1 5 i = nI (K i) ∧ sR τ.1 7 i = nI (tt i) ∧ sQ τ.1 0 i = sQ V 1 i ∧ sR τ.1 6 i = sR V 1 i := by
  obtain ⟨h0, ⟨h1, h2, ⟨V, v1, v2, v3⟩, h4, h5, h6, h7⟩ | ⟨h1, h2, vn, Q, V, N, T', e, c, k', lo, h3⟩⟩ := h
  · exact ⟨V, 0, fun _ => 0, fun _ => 0, v1, by omega, v2, h7.1, fun i hi => by omega, fun i hi => by omega⟩
  · obtain ⟨hI, hL, hev, hv, ⟨g4, g5, g6⟩, hk, hX, h10, h14, hS, h11⟩ := id h3
    obtain ⟨hV, hC, _⟩ := id hI
    obtain ⟨l1, l2, l3, l4, l5, l6, l7, l8⟩ := id hC
    obtain ⟨r1, r2, r3, r4, r5, r6⟩ := id hL
    have at_ : ∀ i : Nat, i < N → ∃ c' : Nat, c' ≤ e ∧ lo c' ≤ i ∧ i < lo (c' + 1) := fun i hi => by
      obtain ⟨c', c1, c2, c3, c4⟩ := okL_at l5 hi (e + 1) 0 (by omega) (by rw [l5.1]; omega)
      exact ⟨c', c2, c3, c4⟩
    have tv : ∀ i c' : Nat, c' ≤ e → lo c' ≤ i → i < lo (c' + 1) → (sQ V 0 i).toInt.toNat = c' := fun i c' a b d => by
      rw [l6 i c' a b d, nI_64 (by omega), lT (by omega)]
      omega
    refine ⟨V, N, fun i => Int32.toNatClampNeg (sR V 0 i), fun i => (sQ V 0 i).toInt.toNat, hV, r2, l1, r1, fun i hi => ?_, fun i hi => ?_⟩
    · obtain ⟨a, a1, a2, a3⟩ := at_ i (by omega)
      obtain ⟨b, b1, b2, b3⟩ := at_ (i + 1) hi
      show (sQ V 0 i).toInt.toNat ≤ (sQ V 0 (i + 1)).toInt.toNat
      rw [tv i a a1 a2 a3, tv (i + 1) b b1 b2 b3]
      by_cases y : a ≤ b
      · exact y
      · have := okL_le l5 (b + 1) a (by omega)
        omega
    · obtain ⟨a, a1, a2, a3⟩ := at_ i hi
      obtain ⟨ka, k1, k2, k3⟩ := l7 i (by omega)
      obtain ⟨kb, b1, b2, _⟩ := r5 i hi
      have ee := hev i hi
      unfold evT evK at ee
      injection ee with e1 e2
      injection e2 with e2 e3
      have kc : Int32.toNatClampNeg (sR V 0 i) = ka := by rw [k2, nI_clamp (by omega)]
      dsimp only
      rw [tv i a a1 a2 a3, kc]
      refine ⟨k1, by omega, k3, k2, by rw [l6 i a a1 a2 a3, nI_64 (by omega)], ?_, r4 i a a1 a2 a3, e2, e3⟩
      rw [kc, b2, nI_clamp (by omega)] at e1
      rw [b2, e1]
/-- the reference gives its events to the codec -/
theorem pk_fill (n : Nat) (hn : 70000 < n) {N : Nat} {K tt : Nat → Nat} {V : St} {τ : S19} (hN : N ≤ 2048) (h8 : sI τ.1 8 = nI N) (mo : ∀ i : Nat, i + 1 < N → tt i ≤ tt (i + 1)) (hi : ∀ i : Nat, i < N → K i < 5 ∧ tt i ≤ 60000 ∧ evV (K i) (sQ V 1 i) (sR V 1 i) ∧ sR V 0 i = nI (K i) ∧ sQ V 0 i = Int64.ofNat (tt i) ∧ sR τ.1 5 i = nI (K i) ∧ sR τ.1 7 i = nI (tt i) ∧ sQ τ.1 0 i = sQ V 1 i ∧ sR τ.1 6 i = sR V 1 i) : ∃ C : St, df_X19_pack n τ = nd_b2 (df_X14_pack n C) (fun q7 s8 => df_X19_pack_90 n n 0 (pI (pI τ.1 0 0) 12 q7, (τ.2.1, (τ.2.2.1, (s8, τ.2.2.2.2))))) ∧ sI C 0 = nI N ∧ (∀ k : Nat, ¬ k = 0 → ¬ k = 1 → sR C k = sR τ.2.2.2.1 k) ∧ (∀ k : Nat, sO C k = sO τ.2.2.2.1 k) ∧ ∀ i : Nat, i < N → sR C 0 i = nI (K i) ∧ sR C 1 i = sR V 1 i ∧ sQ C 0 i = Int64.ofNat (dT tt i) ∧ sQ C 1 i = sQ V 1 i := by
  obtain ⟨m, C, ⟨c1, c2, c3, c4⟩, e⟩ := nm_l1 (S := St) (fun g k C => df_X19_pack_14 n g (nI k) (pI τ.1 0 0, (τ.2.1, (τ.2.2.1, (C, τ.2.2.2.2))))) (fun k C => sI C 0 = nI k ∧ (∀ j : Nat, ¬ j = 0 → ¬ j = 1 → sR C j = sR τ.2.2.2.1 j) ∧ (∀ j : Nat, sO C j = sO τ.2.2.2.1 j) ∧ ∀ i : Nat, i < k → sR C 0 i = nI (K i) ∧ sR C 1 i = sR V 1 i ∧ sQ C 0 i = Int64.ofNat (dT tt i) ∧ sQ C 1 i = sQ V 1 i) N n (by omega) (fun k m C hk ⟨c1, c2, c3, c4⟩ => by
    obtain ⟨a1, a2, a3, a4, a5, a6, a7, a8, a9⟩ := hi k hk
    have u1 : k < 2 ^ 31 := by omega
    have v1 : k < 2048 := by omega
    have tk : ∀ (a : Int32) (d x : Int64) (b : Int32), df_X14_take n a d x b C = some (pI (pR (pQ (pQ (pR C 0 (upd (sR C 0) k a)) 0 (vp_updL (sQ C 0) k d)) 1 (vp_updL (sQ C 1) k x)) 1 (upd (sR C 1) k b)) 0 (nI (k + 1))) := fun a d x b => by
      simp (disch := (first | assumption | decide | omega)) only [df_X14_take_0, df_X14_take, c1, eq_self, Nat.reduceEqDiff, Nat.reduceLeDiff, nl_0, nl_1, nl_2048, no_1, no_1024, pk_mul, nI_add, nm_ck, nI_clamp, nI_ltI, nI_leI, nI_eq, nb_b2, nb_b1, ↓nb_let, nm_z0, nm_z1, nb_II, nb_IR, nb_RI, nb_RR, nm_IL, nm_IQ, nm_RL, nm_RQ, nm_LI, nm_LR, nm_LL, nm_LQ, nm_QI, nm_QR, nm_QL, nm_QQ, nm_rr, nm_ii, nm_eqm, not_false_eq_true, pk_sub, nm_div, nm_shl, nm_shr, nm_ush, nm_or8, nm_or64, nm_or256, nm_m1, nm_m3, nm_m7, nm_m15, nm_m31, nm_m63, nm_m255, nm_m511, nm_m1023, nm_m2047, nm_m65535, Nat.reduceMod, Nat.reducePow, Nat.reduceAdd, Nat.reduceSub, Nat.reduceMul, nm_bo, nm_bi, nm_rc, nm_ic, nm_ri, nm_rl, nm_rq, nm_ql, nm_qi, nm_li, nm_us, nm_uu, nm_cp, nm_sa31, nm_sa7, nm_m127, nm_m2, nm_nz, nm_nzk, nm_eq32, nm_nzf, if_true, if_false, ↓reduceIte, if_pos, if_neg]
    refine ⟨pI (pR (pQ (pQ (pR C 0 (upd (sR C 0) k (nI (K k)))) 0 (vp_updL (sQ C 0) k (Int64.ofNat (dT tt k)))) 1 (vp_updL (sQ C 1) k (sQ V 1 k))) 1 (upd (sR C 1) k (sR V 1 k))) 0 (nI (k + 1)), ⟨rfl, fun j j0 j1 => ?_, fun j => c3 j, fun i hi' => ?_⟩, ?_⟩
    · show sR (pR (pQ (pQ (pR C 0 _) 0 _) 1 _) 1 _) j = _
      rw [nb_RR, if_neg j1, nm_RQ, nm_RQ, nb_RR, if_neg j0]
      exact c2 j j0 j1
    · show upd (sR C 0) k (nI (K k)) i = _ ∧ upd (sR C 1) k (sR V 1 k) i = _ ∧ vp_updL (sQ C 0) k (Int64.ofNat (dT tt k)) i = _ ∧ vp_updL (sQ C 1) k (sQ V 1 k) i = _
      by_cases y : i = k
      · subst y
        exact ⟨nm_us, nm_us, ul_s, ul_s⟩
      · obtain ⟨d1, d2, d3, d4⟩ := c4 i (by omega)
        exact ⟨(nm_un y).trans d1, (nm_un y).trans d2, (up_o y).trans d3, (up_o y).trans d4⟩
    · show dF_X19_pack_14 n (df_X19_pack_14 n m) (nI k) _ = df_X19_pack_14 n m (nI (k + 1)) _
      generalize df_X19_pack_14 n m = G
      unfold dF_X19_pack_14 df_X19_pack_54
      have h8' : sI (pI τ.1 0 0) 8 = nI N := h8
      have r5 : sR (pI τ.1 0 0) 5 k = nI (K k) := a6
      have r6 : sR (pI τ.1 0 0) 6 k = sR V 1 k := a9
      have r7 : sR (pI τ.1 0 0) 7 k = nI (tt k) := a7
      have q0 : sQ (pI τ.1 0 0) 0 k = sQ V 1 k := a8
      have s3 : nI k + Int32.ofInt 1 = nI (k + 1) := nI_add ..
      dsimp only
      rw [h8', if_neg (show ¬ nI N ≤ nI k from fun z => by rw [nI_leI (by omega) (by omega)] at z; omega), nm_ck v1 u1, nm_ck v1 u1, nm_ck v1 u1, nm_ck v1 u1, nm_ck v1 u1, nm_ck v1 u1, nI_clamp u1, r5, r6, r7, q0]
      by_cases y : k = 0
      · subst y
        rw [if_pos (show nI 0 = (0 : Int32) from rfl), show (nI (tt 0) - 0).toInt64 = Int64.ofNat (dT tt 0) from (by rw [show nI (tt 0) - 0 = nI (tt 0) from pk_sub (b := 0) (by omega), nI_64 (by omega)]; rfl), tk, nb_b1, nb_let, nb_let, s3]
      · have mk := mo (k - 1) (by omega)
        rw [show k - 1 + 1 = k by omega] at mk
        have r7' : sR (pI τ.1 0 0) 7 (k - 1) = nI (tt (k - 1)) := (hi (k - 1) (by omega)).2.2.2.2.2.2.1
        rw [if_neg (show ¬ nI k = (0 : Int32) from fun z => by have z : nI k = nI 0 := z; rw [nI_eq u1 (by omega)] at z; exact y z), show nI k - 1 = nI (k - 1) from pk_sub (show 1 ≤ k by omega), nm_ck (by omega) (by omega), nI_clamp (by omega), r7', show (nI (tt k) - nI (tt (k - 1))).toInt64 = Int64.ofNat (dT tt k) from (by rw [pk_sub mk, nI_64 (by omega)]; unfold dT; rw [if_neg y]), tk, nb_b1, nb_let, nb_let, s3]) (pI τ.2.2.2.1 0 (nI 0)) ⟨rfl, fun _ _ _ => rfl, fun _ => rfl, fun i hi => by omega⟩
  refine ⟨C, ?_, c1, c2, c3, c4⟩
  have e : df_X19_pack_14 n n (nI 0) (pI τ.1 0 0, (τ.2.1, (τ.2.2.1, (pI τ.2.2.2.1 0 (nI 0), τ.2.2.2.2)))) = df_X19_pack_14 n (m + 1) (nI N) (pI τ.1 0 0, (τ.2.1, (τ.2.2.1, (C, τ.2.2.2.2)))) := e
  unfold df_X19_pack df_X19_pack_0 df_X14_clear df_X14_clear_0
  rw [nb_let, nb_let, nb_b1, nb_let]
  refine Eq.trans e ?_
  show dF_X19_pack_14 n (df_X19_pack_14 n m) (nI N) _ = _
  unfold dF_X19_pack_14
  dsimp only
  rw [show sI (pI τ.1 0 0) 8 = nI N from h8, if_pos (show nI N ≤ nI N by rw [nI_leI (by omega) (by omega)]; exact Nat.le_refl N)]
  rfl
theorem pk_cpy (n : Nat) (hn : 70000 < n) {p : Nat} {τ : S19} (hp : p ≤ 32768) (h12 : sI τ.1 12 = nI p) : ∃ f : Nat → Int32, df_X19_pack_90 n n 0 τ = some (nI p, (pR τ.1 10 f, τ.2)) ∧ ∀ j : Nat, j < p → f j = sR τ.2.2.2.1 2 j := by
  obtain ⟨m, e⟩ := nm_lq (fun g k => df_X19_pack_90 n g (nI k) (pR τ.1 10 (fun j => if j < k then sR τ.2.2.2.1 2 j else sR τ.1 10 j), τ.2)) p n (by omega) (fun k m hk => by
    have st : pR (pR τ.1 10 (fun j => if j < k then sR τ.2.2.2.1 2 j else sR τ.1 10 j)) 10 (upd (fun j => if j < k then sR τ.2.2.2.1 2 j else sR τ.1 10 j) k (sR τ.2.2.2.1 2 k)) = pR τ.1 10 (fun j => if j < k + 1 then sR τ.2.2.2.1 2 j else sR τ.1 10 j) := by
      rw [nm_rr]
      congr 1
      funext j
      by_cases y : j = k
      · rw [y, nm_us, if_pos (by omega)]
      · rw [nm_un y]
        by_cases z : j < k
        · rw [if_pos z, if_pos (by omega)]
        · rw [if_neg z, if_neg (by omega)]
    show dF_X19_pack_90 n (df_X19_pack_90 n m) (nI k) _ = df_X19_pack_90 n m (nI (k + 1)) _
    rw [← st]
    generalize df_X19_pack_90 n m = G
    unfold dF_X19_pack_90
    dsimp only
    rw [show sI (pR τ.1 10 (fun j => if j < k then sR τ.2.2.2.1 2 j else sR τ.1 10 j)) 12 = nI p from h12, if_neg (show ¬ nI p ≤ nI k from fun z => by rw [nI_leI (by omega) (by omega)] at z; omega), nm_ck (by omega) (by omega), nm_ck (by omega) (by omega), nI_clamp (by omega), nb_let, nb_let, show nI k + Int32.ofInt 1 = nI (k + 1) from nI_add ..]
    rfl)
  have e : df_X19_pack_90 n n (nI 0) (pR τ.1 10 (fun j => if j < 0 then sR τ.2.2.2.1 2 j else sR τ.1 10 j), τ.2) = df_X19_pack_90 n (m + 1) (nI p) (pR τ.1 10 (fun j => if j < p then sR τ.2.2.2.1 2 j else sR τ.1 10 j), τ.2) := e
  have e0 : (pR τ.1 10 (fun j => if j < 0 then sR τ.2.2.2.1 2 j else sR τ.1 10 j), τ.2) = τ := by
    have : (fun j => if j < 0 then sR τ.2.2.2.1 2 j else sR τ.1 10 j) = sR τ.1 10 := by
      funext j
      rw [if_neg (by omega)]
    rw [this, nm_r0]
  rw [e0] at e
  refine ⟨fun j => if j < p then sR τ.2.2.2.1 2 j else sR τ.1 10 j, ?_, fun j hj => if_pos hj⟩
  refine Eq.trans e ?_
  show dF_X19_pack_90 n (df_X19_pack_90 n m) (nI p) _ = _
  unfold dF_X19_pack_90
  dsimp only
  rw [show sI (pR τ.1 10 (fun j => if j < p then sR τ.2.2.2.1 2 j else sR τ.1 10 j)) 12 = nI p from h12, if_pos (show nI p ≤ nI p by rw [nI_leI (by omega) (by omega)]; exact Nat.le_refl p)]
/-- the recording is packed, in both -/
theorem pk_all (n L : Nat) (hn : 70000 < n) {N : Nat} {K tt : Nat → Nat} {V C R : St} (hR : pkR N K tt (sQ V 1) (sR V 1) V C) : ∃ (p : Nat) (s' : St × St) (C' : St), p ≤ 32768 ∧ df_X3_writeLog n L (R, V) = some (nI p, s') ∧ df_X14_pack n C = some (nI p, C') ∧ pkJ L p V C s' C' := by
  have N8 := hR.1
  have j0 : pkJ L 0 V C (R, pI (pO V 0 (some L)) 2 0) (pI C 1 0) := ⟨by omega, rfl, rfl, rfl, fun j hj => by omega, fun k hk => by
    show sI (pI (pO V 0 (some L)) 2 0) k = _
    rw [nb_II, if_neg hk]
    rfl, fun _ => rfl, fun _ => rfl, fun k hk => by
    show sI (pI C 1 0) k = _
    rw [nb_II, if_neg hk], fun _ _ => rfl, fun _ => rfl, fun _ => rfl⟩
  obtain ⟨p1, s1, C1, q0, q1, q2, q3⟩ := pk_varN n L (by omega) (m := 2) (x := N) (by omega) (by omega) (by omega) (by omega) j0
  obtain ⟨p', s', C', f1, f2, f3, f4⟩ := pk_loopA n L (by omega) hR N 0 0 n n p1 s1 C1 (by omega) (by omega) (by omega) (by omega) (fun _ _ => rfl) (by omega) (by omega) q3
  refine ⟨p', s', C', by omega, ?_, ?_, f4⟩
  · unfold df_X3_writeLog df_X3_writeLog_0
    rw [nb_let, nb_let]
    dsimp only
    rw [show sI (pI (pO V 0 (some L)) 2 0) 0 = nI N from hR.2.1, nI_64 (by omega), q1, nb_b1]
    exact f2
  · unfold df_X14_pack df_X14_pack_0
    rw [nb_let, show sI (pI C 1 0) 0 = nI N from hR.2.2.1, nI_64 (by omega), q2, nb_b1]
    exact f3
/-- pack -/
theorem jc_pack (n T L : Nat) (hn : 70000 < n) (σ : S12) (τ : S19) (h : jA n (tl σ) τ) : ∃ (r : Int32) (σ' : S12) (τ' : S19), df_X12_pack n T L σ = some (r, σ') ∧ df_X19_pack n τ = some (r, τ') ∧ jA n (tl σ') τ' ∧ rl σ' τ' ∧ ((∀ k : Nat, ¬ k = 2 → sI σ'.1 k = sI σ.1 k) ∧ (∀ k : Nat, sO σ'.1 k = sO σ.1 k) ∧ σ'.2.2.2.1 = σ.2.2.2.1 ∧ sT (tl σ) (tl σ')) ∧ ((∀ j : Nat, ¬ j = 0 → ¬ j = 12 → sI τ'.1 j = sI τ.1 j) ∧ (∀ j : Nat, ¬ j = 10 → sR τ'.1 j = sR τ.1 j) ∧ (∀ j : Nat, sQ τ'.1 j = sQ τ.1 j) ∧ (∀ j : Nat, sO τ'.1 j = sO τ.1 j) ∧ τ'.2.1 = τ.2.1 ∧ τ'.2.2.1 = τ.2.2.1 ∧ sR τ'.2.2.2.1 3 = sR τ.2.2.2.1 3 ∧ sO τ'.2.2.2.1 0 = sO τ.2.2.2.1 0 ∧ τ'.2.2.2.2 = τ.2.2.2.2) := by
  obtain ⟨V, N, K, tt, hE, hN, v0, t8, mo, hi⟩ := jA_pk h
  obtain ⟨C, r1, r2, r3, r4, r5⟩ := pk_fill n hn hN t8 mo hi
  have hR : pkR N K tt (sQ V 1) (sR V 1) V C := ⟨hN, v0, r2, mo, fun i hi' => by
    obtain ⟨a1, a2, a3, a4, a5, a6, a7, a8, a9⟩ := hi i hi'
    obtain ⟨b1, b2, b3, b4⟩ := r5 i hi'
    exact ⟨a1, a2, a3, ⟨a4, a5, rfl, rfl⟩, b1, b2, b3, b4⟩⟩
  obtain ⟨p, s', C', hp, w1, w2, w3⟩ := pk_all n L hn (R := σ.2.2.1) hR
  obtain ⟨f, g1, g2⟩ := pk_cpy n hn (τ := (pI (pI τ.1 0 0) 12 (nI p), (τ.2.1, (τ.2.2.1, (C', τ.2.2.2.2))))) hp rfl
  obtain ⟨a1, a2, a3, a4, a5, a6, a7, a8, a9, b1, b2, b3⟩ := w3
  have hV : sV V s'.2 := ⟨a6 0 (by omega), a6 1 (by omega), a7, a8⟩
  have eR : df_X19_pack n τ = some (nI p, (pR (pI (pI τ.1 0 0) 12 (nI p)) 10 f, (τ.2.1, (τ.2.2.1, (C', τ.2.2.2.2))))) := by
    rw [r1, w2, nb_b2]
    exact g1
  have hU : sU τ (pR (pI (pI τ.1 0 0) 12 (nI p)) 10 f, (τ.2.1, (τ.2.2.1, (C', τ.2.2.2.2)))) := ⟨fun j j1 j2 => by
    show sI (pI (pI τ.1 0 0) 12 (nI p)) j = _
    rw [nb_II, if_neg (by omega), nb_II, if_neg (by omega)], fun j j1 j2 => by
    show sR (pR (pI (pI τ.1 0 0) 12 (nI p)) 10 f) j = _
    rw [nb_RR, if_neg (by omega)]
    rfl, fun _ => rfl, rfl⟩
  have frR : ((∀ j : Nat, ¬ j = 0 → ¬ j = 12 → sI (pR (pI (pI τ.1 0 0) 12 (nI p)) 10 f) j = sI τ.1 j) ∧ (∀ j : Nat, ¬ j = 10 → sR (pR (pI (pI τ.1 0 0) 12 (nI p)) 10 f) j = sR τ.1 j)) := ⟨fun j j1 j2 => by
    show sI (pI (pI τ.1 0 0) 12 (nI p)) j = _
    rw [nb_II, if_neg j2, nb_II, if_neg j1], fun j j1 => by
    rw [nb_RR, if_neg j1]
    rfl⟩
  have row3 : sR C' 3 = sR τ.2.2.2.1 3 := (b1 3 (by omega)).trans (r3 3 (by omega) (by omega))
  have o0 : sO C' 0 = sO τ.2.2.2.1 0 := (b3 0).trans (r4 0)
  have lg : ∀ j : Nat, (j : Int) < (nI p).toInt → f j = sR s'.1 0 j &&& 255 := fun j hj => by
    rw [nI_toInt (by omega)] at hj
    rw [g2 j (by omega)]
    exact a5 j (by omega)
  have p31 : (nI p).toInt ≤ 32768 := by rw [nI_toInt (by omega)]; omega
  rcases hE with ⟨o1, o2⟩ | ⟨o1, o2⟩
  · have o2 : σ.2.2.2.2.2.2.1 = V := o2
    refine ⟨nI p, (pI σ.1 2 (nI p), (σ.2.1, (s'.1, (σ.2.2.2.1, (σ.2.2.2.2.1, (σ.2.2.2.2.2.1, (s'.2, σ.2.2.2.2.2.2.2))))))), _, ?_, eR, ?_, ⟨rfl, p31, lg⟩, ⟨fun k hk => ?_, fun _ => rfl, rfl, rfl, rfl, rfl, rfl⟩, frR.1, frR.2, fun _ => rfl, fun _ => rfl, rfl, rfl, row3, o0, rfl⟩
    · unfold df_X12_pack df_X12_pack_0
      rw [if_pos (show sO σ.2.2.2.2.1 0 = some 27 from o1), o2, w1, nb_b2, nb_let, nb_let]
      rfl
    · exact jA_V h (Or.inl ⟨o1, o2⟩) hV ⟨rfl, rfl, rfl, rfl⟩ hU (Or.inl ⟨o1, rfl⟩)
    · show sI (pI σ.1 2 _) k = _
      rw [nb_II, if_neg hk]
  · have o2 : σ.2.2.2.2.2.2.2.1 = V := o2
    refine ⟨nI p, (pI σ.1 2 (nI p), (σ.2.1, (s'.1, (σ.2.2.2.1, (σ.2.2.2.2.1, (σ.2.2.2.2.2.1, (σ.2.2.2.2.2.2.1, (s'.2, σ.2.2.2.2.2.2.2.2)))))))), _, ?_, eR, ?_, ⟨rfl, p31, lg⟩, ⟨fun k hk => ?_, fun _ => rfl, rfl, rfl, rfl, rfl, rfl⟩, frR.1, frR.2, fun _ => rfl, fun _ => rfl, rfl, rfl, row3, o0, rfl⟩
    · unfold df_X12_pack df_X12_pack_0
      rw [if_neg (show ¬ sO σ.2.2.2.2.1 0 = some 27 by rw [show sO σ.2.2.2.2.1 0 = some 32 from o1]; decide), if_pos (show sO σ.2.2.2.2.1 0 = some 32 from o1), o2, w1, nb_b2, nb_let, nb_let]
      rfl
    · exact jA_V h (Or.inr ⟨o1, o2⟩) hV ⟨rfl, rfl, rfl, rfl⟩ hU (Or.inr ⟨o1, rfl⟩)
    · show sI (pI σ.1 2 _) k = _
      rw [nb_II, if_neg hk]
