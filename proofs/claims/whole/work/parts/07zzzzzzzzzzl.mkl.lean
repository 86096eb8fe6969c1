/-- the reference, once the text is read -/
def asR (n : Nat) (T S : St) : Option (Int32 × (St × St)) := nd_b1 (df_X13_stretch n S) (fun (s11 : St) => nd_b2 (df_X13_all n (pI s11 1 1)) (fun (q15 : Int32) (s16 : St) => if q15 ≤ 32768 then (df_X13_assemble_82 n (T, s16)) else (df_X13_assemble_82 n (T, pI s16 12 7))))
/-- the same fault, as both answer it -/
theorem fl_ps {f l : Nat} (h1 : 1 ≤ f) (h2 : f ≤ 15) (h3 : l ≤ 40000) : 0 < (nI f + 16 * nI l).toInt := by
  rw [show (16 : Int32) = nI 16 from rfl, pk_mul, nI_add, nI_toInt (by omega)]
  omega
def SFM (M T : St) (rc : Option (Int32 × (St × (St × St) × St))) (rr : Option (Int32 × (St × St))) : Prop := ∃ (r : Int32) (Q' U' P' S' : St), 0 < r.toInt ∧ rc = some (r, (M, ((Q', U'), P'))) ∧ rr = some (r, (T, S')) ∧ sI S' 1 = 0
/-- both have assembled -/
def ASUC (n L : Nat) (c : Nat → Nat) (M U P T : St) (rc : Option (Int32 × (St × (St × St) × St))) (rr : Option (Int32 × (St × St))) : Prop := ∃ (p : Nat) (Bz B0 : St) (sn lu ln se co : Nat) (SW0 LW : Nat → Int32) (cs ns : Nat) (C A NM BK : Nat → Int32) (bs ws : Nat → Nat) (nl : Nat) (NR LB0 : Nat → Int32) (sc X : Nat → Nat) (nL nS : Nat) (PAz BY : Nat → Int32) (Ds : Nat → Dt) (Qs Es Zs Ls Fs N0 : Nat → Nat) (NP : Nat → Nat → Int32) (lv sg : Nat → Nat) (Q1 U1 S1 : St) (rcx : Option (St × (St × St) × St)), READ n L c p Bz sn lu ln se co SW0 LW cs ns C A NM BK bs ws nl NR LB0 sc X nL nS PAz BY Ds Qs Es Zs Ls Fs N0 NP ∧ L ≤ p ∧ p ≤ L + 1 ∧ TXT n L c B0 ∧ lvK Ds Fs lv nS ∧ ((∀ i : Nat, i < mu Ds nS → sg i < nS ∧ mu Ds (sg i) = i ∧ ¬ (Ds (sg i)).1 = 9) ∧ sg (mu Ds nS) = nS) ∧ LD n L c Bz sn SW0 cs ns C A NM nl NR LB0 X nL nS BY Ds Qs Zs Fs N0 sg lv Q1 U1 S1 ∧ sR Q1 1 = LW ∧ sI Q1 2 = 0 ∧ sI Q1 6 = nI co ∧ sO U1 = sO U ∧ sR U1 7 = sR U 7 ∧ szA (lay Ds Zs BY lv nS) ≤ 32768 ∧ rc = nd_b1 rcx (fun s18 => df_X1_make_118 n s18) ∧ OKD n L c Bz cs ns C A NM nl NR X nL nS BY Ds Qs Es Zs Fs N0 lv M Q1 U1 P T (nd_fl 32768 (vp_nar .byte 0) (sR P 0)) rcx rr
theorem szA_n {t d : Nat} (h : t + d ≤ 2 ^ 30) : (if nI d ≤ 0 then nI t else nI (bsN t) + nI d) = nI (szA (t, d)) := by
  unfold szA
  by_cases y : d = 0
  · rw [if_pos (show nI d ≤ 0 from by rw [y]; decide), if_pos (show (t, d).2 = 0 from y)]
  · rw [if_neg (show ¬ nI d ≤ 0 from znle (b := 0) (by omega) (by omega)), if_neg (show ¬ (t, d).2 = 0 from y), nI_add]
theorem MK_1 {n L : Nat} {c : Nat → Nat} {p : Nat} {Q U S : St} (hn : 70000 < n) (hL : L ≤ 32768) (h127 : ∀ i : Nat, c i < 127) (hend : ∀ i : Nat, L ≤ i → c i = 10) (hch : ∀ i : Nat, c i = 9 ∨ c i = 10 ∨ 32 ≤ c i) (h : RDfin n L c p Q U S) (hp0 : L ≤ p) (hp1 : p ≤ L + 1) (M P T : St) : SFM M T (df_X1_make_90 n (M, ((Q, U), P))) (asR n T S) ∨ ASUC n L c M U P T (df_X1_make_90 n (M, ((Q, U), P))) (asR n T S) := by
  obtain ⟨B, Bq, B0, sn, lu, ln, lx, se, co, od, SW, LW, cs, ns, C, A, NM, BK, bs, ws, nl, NR, LB, sc, X, nL, nS, PA, BY, OU, Ds, Qs, Es, Zs, Ls, Fs, N0, NP, e0, tp, st, fx, Sx, ap, kd, fr, nm, ct, gr, hR, hQ, hU, hS, o8, r7, b0, b2⟩ := h
  have hX : TXT n L c B0 := ⟨hn, hL, h127, hend, hch, o8, r7⟩
  obtain ⟨sg, hsg⟩ := sg_ex Ds nS
  have hR' : READ n L c p (pI B 6 0) sn lu ln se co SW LW cs ns C A NM BK bs ws nl NR LB sc X nL nS PA BY Ds Qs Es Zs Ls Fs N0 NP := hR
  obtain ⟨a1, a2, a3, a4, a5, a6, a7, a8, a9, a10, a11, a12, a13, a14, a15, a16, a17, a18, a19⟩ := id hR'
  obtain ⟨t1, t2, t3, t4, t5, t6, t7, t8, t9, t10⟩ := a1
  have hU0 : URD U cs nl ns C A NM NR LB := by
    rw [hU]
    exact ⟨rfl, rfl, rfl, rfl, rfl, rfl, rfl, by omega, by omega⟩
  have i0 : sI Q 0 = nI sn := by rw [hQ]; rfl
  have i2 : sI Q 2 = 0 := by rw [hQ]; rfl
  have i6 : sI Q 6 = nI co := by rw [hQ]; rfl
  have j0 : sR Q 0 = SW := by rw [hQ]; rfl
  have j1 : sR Q 1 = LW := by rw [hQ]; rfl
  obtain ⟨hlv0, hJ⟩ := RJ_0 hR' (by omega) hsg (SR_p6 hS 0) b0 b2 i0 j0 hU0
  have hmu := mu_l Ds nS
  have hms := msr_m (Ds := Ds) (lv := fun s => Fs s % 4) nS
  obtain ⟨lv, Q1, U1, S1, f1, f2, f3, f4, f5, f6, f7, f8⟩ := ly_all hR' (by omega) hX hsg (by omega) (2 * sn + 1) (fun s => Fs s % 4) (2 * sn) n n Q U (pI S 6 0) (by omega) (by omega) (by omega) (by omega) (by omega) hlv0 hJ
  obtain ⟨hZ, hl2⟩ := RD_Z hR' (by omega) f3
  have layb := lay_l (Ds := Ds) (Zs := Zs) (BY := BY) (lv := lv) (Fs := Fs) nS hZ
  have g2 : sI Q1 2 = 0 := (f5 2 (by decide) (by decide) (by decide)).trans i2
  have g6 : sI Q1 6 = nI co := (f5 6 (by decide) (by decide) (by decide)).trans i6
  have g1 : sR Q1 1 = LW := f6.trans j1
  obtain ⟨⟨B', ct', gr', PA', OU', ap', OF, W, hS', hPA, hB, h5, hOF, hWc, hWl, hpl⟩, q0, q1, q3, hU', u6, q7, q8, q9⟩ := id f4
  have eSz : sI Q1 9 = nI (szA (lay Ds Zs BY lv nS)) := by
    rw [q9]
    exact szA_n (by omega)
  have eL : df_X1_layOut n (Q, U) = some (Q1, U1) := by
    unfold df_X1_layOut df_X1_layOut_0
    rw [nb_let, show sI ((Q, U) : St × St).1 0 = nI sn from i0, show (2 : Int32) = nI 2 from rfl, pk_mul]
    exact f1
  have eA : df_X13_all n (pI S1 1 1) = some (nI (szA (lay Ds Zs BY lv nS)), pI S1 1 1) := by
    have k4 : sI S1 4 = nI (lay Ds Zs BY lv nS).1 := (SR_4 hS').trans hB.2.2.2.2.2.1
    have k5 : sI S1 5 = nI (lay Ds Zs BY lv nS).2 := (SR_5 hS').trans h5
    unfold df_X13_all df_X13_all_0 df_X13_all_34 df_X13_base df_X13_base_0
    rw [if_neg (show ¬ sI (pI S1 1 1) 1 = 0 from (by decide : ¬ (1 : Int32) = 0)), show sI (pI S1 1 1) 5 = nI (lay Ds Zs BY lv nS).2 from k5, show sI (pI S1 1 1) 4 = nI (lay Ds Zs BY lv nS).1 from k4, nb_b2, show sI (pI S1 1 1) 5 = nI (lay Ds Zs BY lv nS).2 from k5]
    have e1 : ((((nI (lay Ds Zs BY lv nS).1 + 1023) / 1024) * 1024 : Int32)) = nI (bsN (lay Ds Zs BY lv nS).1) := bs_R (by omega)
    rw [e1, ← szA_n (t := (lay Ds Zs BY lv nS).1) (d := (lay Ds Zs BY lv nS).2) (by omega)]
    split <;> rfl
  have eR : asR n T S = if nI (szA (lay Ds Zs BY lv nS)) ≤ 32768 then df_X13_assemble_82 n (T, pI S1 1 1) else df_X13_assemble_82 n (T, pI (pI S1 1 1) 12 7) := by
    unfold asR df_X13_stretch df_X13_stretch_0
    rw [nb_let, f2, nb_b1, eA, nb_b2]
  have szb : szA (lay Ds Zs BY lv nS) < 2 ^ 31 := by
    unfold szA bsN
    split <;> omega
  by_cases big : szA (lay Ds Zs BY lv nS) ≤ 32768
  · have eC : df_X1_make_90 n (M, ((Q, U), P)) = nd_b1 (df_X1_putAll_10 n n 0 (M, ((Q1, U1), pR P 0 (nd_fl 32768 (vp_nar .byte 0) (sR P 0))))) (fun s18 => df_X1_make_118 n s18) := by
      unfold df_X1_make_90
      rw [if_pos (show sI ((M, ((Q, U), P)) : St × (St × St) × St).2.1.1 2 = 0 from i2)]
      rw [show df_X1_layOut n ((M, ((Q, U), P)) : St × (St × St) × St).2.1 = _ from eL, nb_b1, nb_let, if_pos (show sI ((M, ((Q1, U1), P)) : St × (St × St) × St).2.1.1 9 ≤ 32768 by rw [show sI ((M, ((Q1, U1), P)) : St × (St × St) × St).2.1.1 9 = _ from eSz]; exact zle (b := 32768) big (by omega))]
      rfl
    rw [if_pos (show nI (szA (lay Ds Zs BY lv nS)) ≤ 32768 from zle (b := 32768) big (by omega))] at eR
    have key := CK_J hR' (by omega) hX f3 hsg f4 g1 g2 big M P T (nd_fl 32768 (vp_nar .byte 0) (sR P 0))
    have eR : asR n T S = df_X13_assemble_84 n n 0 (T, pI S1 1 1) := eR
    rw [← eR] at key
    rcases key with ⟨f, l, Q', U', P', S', k1, k2, k3, k4, k5, k6, k7, k8, k9⟩ | key
    · left
      have nz : 0 < (nI f + 16 * nI l).toInt := fl_ps k1 k2 k3
      refine ⟨nI f + 16 * nI l, Q', U', P', S', nz, ?_, k7, k8⟩
      rw [eC, k4, nb_b1]
      have nf : ¬ sI ((M, ((Q', U'), P')) : St × (St × St) × St).2.1.1 2 = 0 := by
        rw [show sI ((M, ((Q', U'), P')) : St × (St × St) × St).2.1.1 2 = _ from k5]
        exact zne (b := 0) (by omega) (by omega) (by omega)
      unfold df_X1_make_118 df_X1_make_130 df_X1_make_153
      rw [if_neg nf, if_neg nf]
      rw [show sI ((M, ((Q', U'), P')) : St × (St × St) × St).2.1.1 2 = _ from k5, show sI ((M, ((Q', U'), P')) : St × (St × St) × St).2.1.1 3 = _ from k6]
    · right
      exact ⟨p, pI B 6 0, B0, sn, lu, ln, se, co, SW, LW, cs, ns, C, A, NM, BK, bs, ws, nl, NR, LB, sc, X, nL, nS, PA, BY, Ds, Qs, Es, Zs, Ls, Fs, N0, NP, lv, sg, Q1, U1, S1, _, hR', hp0, hp1, hX, f3, hsg, f4, g1, g2, g6, f7, f8, big, eC, key⟩
  · left
    refine ⟨7, Q1, U1, P, pI (pI (pI S1 1 1) 12 7) 1 0, by decide, ?_, ?_, rfl⟩
    · unfold df_X1_make_90
      rw [if_pos (show sI ((M, ((Q, U), P)) : St × (St × St) × St).2.1.1 2 = 0 from i2)]
      rw [show df_X1_layOut n ((M, ((Q, U), P)) : St × (St × St) × St).2.1 = _ from eL, nb_b1, nb_let, if_neg (show ¬ sI ((M, ((Q1, U1), P)) : St × (St × St) × St).2.1.1 9 ≤ 32768 by rw [show sI ((M, ((Q1, U1), P)) : St × (St × St) × St).2.1.1 9 = _ from eSz]; exact znle (b := 32768) (by omega) szb)]
    · rw [eR, if_neg (show ¬ nI (szA (lay Ds Zs BY lv nS)) ≤ 32768 from znle (b := 32768) (by omega) szb)]
      obtain ⟨g, hg⟩ : ∃ g : Nat, n = g + 1 := ⟨n - 1, by omega⟩
      have e84 : df_X13_assemble_82 n (T, pI (pI S1 1 1) 12 7) = dF_X13_assemble_84 n (df_X13_assemble_84 n g) 0 (T, pI (pI S1 1 1) 12 7) := by
        show df_X13_assemble_84 n n 0 (T, pI (pI S1 1 1) 12 7) = _
        have : ∀ m : Nat, m = g + 1 → df_X13_assemble_84 n m 0 (T, pI (pI S1 1 1) 12 7) = dF_X13_assemble_84 n (df_X13_assemble_84 n g) 0 (T, pI (pI S1 1 1) 12 7) := fun m hm => by subst hm; rfl
        exact this n hg
      rw [e84]
      have n12 : ¬ sI ((T, pI (pI S1 1 1) 12 7) : St × St).2 12 = 0 := (by decide : ¬ (7 : Int32) = 0)
      have z0 : nd_f .boolean 0 (nd_z .boolean 0 (nd_let ((T, pI (pI (pI S1 1 1) 12 7) 1 0) : St × St) (fun (s24 : St × (St)) => some (((sI s24.2 12) : Int32), s24)))) = some (7, (T, pI (pI (pI S1 1 1) 12 7) 1 0)) := by
        refine (bzz false).trans ?_
        rw [nb_let]
        rfl
      unfold dF_X13_assemble_84 df_X13_assemble_129 df_X13_assemble_142
      split
      · exact z0
      · exact z0
