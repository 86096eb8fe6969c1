theorem lam_g {X : Nat → Nat} {nL : Nat} {W : Nat → Int32} {ns : Nat} {bs ws sc : Nat → Nat} {p sn : Nat} {X' : Nat → Nat} {nL' : Nat} {W' : Nat → Int32} {ns' : Nat} {bs' ws' sc' : Nat → Nat} (g : GRW X nL W ns bs ws sc p sn X' nL' W' ns' bs' ws' sc') : ∀ j : Nat, nL + j ≤ nL' → lam X' (nL + j) = lam X nL + j := fun j => by
  induction j with
  | zero => intro _; exact lam_c nL (fun i hi => (g.2.1 i hi).1)
  | succ j ih =>
    intro hj
    show lam X' (nL + j) + (if X' (nL + j) / 131072 = 2 then 0 else 1) = lam X nL + (j + 1)
    rw [if_neg (g.2.2.1 (nL + j) (by omega) (by omega)).2.2, ih (by omega)]
    omega
theorem lam_h {X : Nat → Nat} {nL : Nat} {W : Nat → Int32} {ns : Nat} {bs ws sc : Nat → Nat} {p sn co : Nat} {X' : Nat → Nat} {nL' : Nat} {W' : Nat → Int32} {ns' : Nat} {bs' ws' sc' : Nat → Nat} (g : GRW X nL W ns bs ws sc p sn X' nL' W' ns' bs' ws' sc') (h : co + lam X nL = nL) : co + lam X' nL' = nL' := by
  have g1 := g.1
  have := lam_g g (nL' - nL) (by omega)
  rw [show nL + (nL' - nL) = nL' by omega] at this
  omega
theorem pI_b {B0 : St} {e nl : Nat} {NR LB : Nat → Int32} {tr : Int32} : pI (bC B0 e nl NR LB) 11 tr = bC (pI B0 11 tr) e nl NR LB := Prod.ext (funext fun j => by
  show (if j = 11 then tr else _) = _
  by_cases h : j = 11
  · subst h; rfl
  · unfold bC pI
    simp only [if_neg h]) rfl
theorem RFB_b {n L e : Nat} {c : Nat → Nat} {BC BR0 : St} (hT0 : atx n L e c BC BR0) {q se lw lv sz : Nat} {ba : Option Int32} {X0 : Nat → Nat} {W0 : Nat → Int32} {n0 : Nat} {D : Dt} (h : RFB n L e c BC q se lw lv sz ba X0 W0 n0 D) (BC' : St) : RFB n L e c BC' q se lw lv sz ba X0 W0 n0 D := by
  intro B X nL cu A ct ap μ gr PA BY OU S hV
  obtain ⟨⟨hn, hL, heL, h127, hend, hce, hO, hst, htC, h0, htR, hch⟩, hV2⟩ := hV
  obtain ⟨_, _, _, _, _, _, hO', hst', htC', _, _, _⟩ := hT0
  exact h B X nL cu A ct ap μ gr PA BY OU S ⟨⟨hn, hL, heL, h127, hend, hce, hO', hst', htC', h0, htR, hch⟩, hV2⟩
theorem DRW_f {NR : Nat → Int32} {c : Nat → Nat} {e ns : Nat} {bs ws : Nat → Nat} {C A LW : Nat → Int32} {s0 s1 u0 u1 : Nat} {le b cd lt : Int32} {fl : Nat} {bb : Int32} {D : Dt} (h : DRW NR c e ns bs ws C A LW s0 s1 u0 u1 le b cd lt fl bb D) : fl = 0 ∨ fl = 8 ∨ fl = 16 ∨ fl = 25 := by
  rcases h with h | h | h | h | h | h | h | h | h
  · exact Or.inl h.2.1
  · exact Or.inr (Or.inl h.2.1)
  · rcases h.2.1 with z | z
    · exact Or.inr (Or.inr (Or.inl z.1))
    · exact Or.inr (Or.inr (Or.inr z.1))
  · exact Or.inl h.2.1
  · exact Or.inl h.2.1
  · exact Or.inl h.2.1
  · exact Or.inl h.2.1
  · exact Or.inl h.2.1
  · exact Or.inl h.2.1
theorem READ_p {n L : Nat} {c : Nat → Nat} {p : Nat} {B : St} {sn lu ln se co : Nat} {SW LW : Nat → Int32} {cs ns : Nat} {C A NM BK : Nat → Int32} {bs ws : Nat → Nat} {nl : Nat} {NR LB : Nat → Int32} {sc X : Nat → Nat} {nL nS : Nat} {PA BY PA' BY' : Nat → Int32} {Ds : Nat → Dt} {Qs Es Zs Ls Fs N0 : Nat → Nat} {NP : Nat → Nat → Int32} (h : READ n L c p B sn lu ln se co SW LW cs ns C A NM BK bs ws nl NR LB sc X nL nS PA BY Ds Qs Es Zs Ls Fs N0 NP) (hp : ∀ s : Nat, s < nS → PA' s = PA s ∧ BY' s = BY s) : READ n L c p B sn lu ln se co SW LW cs ns C A NM BK bs ws nl NR LB sc X nL nS PA' BY' Ds Qs Es Zs Ls Fs N0 NP := by
  obtain ⟨a1, a2, a3, a4, a5, a6, a7, a8, a9, a10, a11, a12, a13, a14, a15, a16, a17, a18, a19⟩ := h
  refine ⟨a1, a2, a3, a4, a5, a6, a7, a8, a9, a10, a11, a12, a13, a14, fun s hs => ?_, a16, a17, a18, a19⟩
  rw [(hp s hs).1, (hp s hs).2]
  exact a15 s hs
theorem BG_c {B B' : St} (h : BG B B') (hc : cstS B) : cstS B' := fun k hk => by
  rw [h.2.2.1 0, h.2.1 0 (by decide) (by decide), h.2.1 1 (by decide) (by decide)]
  exact hc k hk
theorem or19 {p se : Nat} (hp : p < 131072) (hk : se < 2) : nI p ||| nI se <<< ((19 : Int32) &&& 31) = nI ((4 * se) * 2 ^ 17 + p) := by
  rw [show ((19 : Int32) &&& 31) = nI 19 from by decide, nm_shl (by omega) (by omega), Int32.or_comm, show se * 2 ^ 19 = (4 * se) * 2 ^ 17 by omega]
  exact nm_orG 17 (show p < 2 ^ 17 from hp) (by omega)
/-- one line in both -/
theorem rd_S {n L p : Nat} {c : Nat → Nat} {Q U S s1 s3 : St} (hn : 70000 < n) (hL : L ≤ 32768) (h127 : ∀ i : Nat, c i < 127) (hend : ∀ i : Nat, L ≤ i → c i = 10) (hch : ∀ i : Nat, c i = 9 ∨ c i = 10 ∨ 32 ≤ c i) (hp : p < L) (h : RDst n L c p Q U S) (G : Int32 → Int32 → Int32 → (St × (St × St) × St) → Option (Int32 × (St × (St × St) × St))) (G' : St → Option St) : ∃ Q' U' S' : St, df_X1_make_40 n G (nI L) (nI p) (nI (lnE c L p)) (s1, ((Q, U), s3)) = G (nI L) (nI (lnE c L p + 1)) (nI (lnE c L p + 1)) (s1, ((Q', U'), s3)) ∧ dF_X13_readAll_25 n G' S = G' S' ∧ ((∃ f l : Nat, 1 ≤ f ∧ f ≤ 15 ∧ l ≤ 40000 ∧ sI Q' 2 = nI f ∧ sI Q' 3 = nI l ∧ sI S' 12 = nI f + 16 * nI l) ∨ RDst n L c (lnE c L p + 1) Q' U' S') := by
  obtain ⟨B, Bq, B0, sn, lu, ln, se, co, od, SW, LW, cs, ns, C, A, NM, BK, bs, ws, nl, NR, LB, sc, X, nL, nS, PA, BY, OU, Ds, Qs, Es, Zs, Ls, Fs, N0, NP, e0, tp, st, fx, Sx, ap, kd, fr, nm, ct, gr, hR, rfl, rfl, hS, hO, htC, h0, htR⟩ := h
  obtain ⟨a1, a2, a3, a4, a5, a6, a7, a8, a9, a10, a11, a12, a13, a14, a15, a16, a17, a18, a19⟩ := id hR
  obtain ⟨l1, l2, l3, l4⟩ := lnE_1 (c := c) (L := L) (p := p) (by omega) hend
  obtain ⟨e, he⟩ : ∃ e : Nat, e = lnE c L p := ⟨_, rfl⟩
  rw [← he] at l1 l2 l3 l4 ⊢
  have hlnl := nlC_l c p
  have hmul := mu_l Ds nS
  have hnLb := a1.2.2.2.2.2.2.2.2.1
  have hT : atx n L e c (bC B0 e nl NR LB) B := ⟨hn, hL, l2, h127, hend, l3, hO, rfl, htC, h0, htR, hch⟩
  have hR0 : RT0 n L e c (bC B0 e nl NR LB) B X nL := ⟨hT, by omega, a3, fun k hk => ⟨a4 k hk, by have := (a1.2.2.2.2.2.2.1 k hk).2.1; omega⟩⟩
  obtain ⟨q, p', κ, τ, v, x, T, hrl⟩ := stl_L (e0 := e0) (cs := cs) (tp := tp) (st := st) (ns := ns) (fx := fx) (C := C) (A := A) (S := Sx) (NM := NM) (BK := BK) (ap := ap) (kd := kd) (fr := fr) (nm := nm) hT l1 l4 (qC Bq sn lu 0 (ln + 1) se od co SW LW)
  have hC := mk_40 (n := n) (L := L) (e := e) (p := p) (Bq := Bq) (sn := sn) (lu := lu) (ln := ln) (se := se) (co := co) (od := od) (SW := SW) (LW := LW) (U := uC (xC (bC B0 e0 nl NR LB) cs tp st ns fx C A Sx NM BK) ap kd fr nm) (s1 := s1) (s3 := s3) G
  rw [hrl] at hC
  have hRf := rd_25 (n := n) G' (SR_12 hS) ((SR_0 hS).trans h0) (SR_7 hS) hp hL
  have hline : ln + 1 = nlC c (e + 1) := by
    have e1 := nlC_a (c := c) (e - p) p (fun i i1 i2 => l4 i i1 (by omega))
    rw [show p + (e - p) = e by omega] at e1
    show ln + 1 = nlC c e + (if c e = 10 then 1 else 0)
    rw [if_pos l3, e1, a9]
  rcases lin_J (n := n) (L := L) (c := c) (B0 := B0) (Bq := Bq) (lu := lu) (ln := ln + 1) (co := co) (od := od) (SW := SW) (LW := LW) (cs := cs) (C := C) (A := A) (ct := ct) (gr := gr) (PA := PA) (BY := BY) (OU := OU) a7 (show sn < 2 ^ 20 by omega) (e - p + 1) p q p' κ τ v x (e - p) n n X nL ns NM BK bs ws nl NR LB sc tp st fx Sx B S (by omega) (by omega) (by omega) (Nat.le_refl _) (by omega) a1 T hR0 a6 ⟨ln + 1, a5, by omega⟩ hS with hF | hG
  · obtain ⟨f, Q', U', S', f1, f2, f3, f4, f5, f6, B9, f7, i1, i2, i3, i4⟩ := hF
    rw [f3, nb_b2, nb_mN] at hC
    rw [show df_X13_labelled n S = some (0, S') from f6, nb_b2, if_pos rfl] at hRf
    obtain ⟨S'', r1, r2⟩ := rd_F (B := B9) G' hn hL l2 hend h127 (i1.trans h0) (fun i hi => by rw [i4]; exact htR i hi) f7
    exact ⟨Q', U', S'', hC, hRf.trans r1, Or.inl ⟨f, ln + 1, f1, f2, by omega, f4, f5, by rw [r2, a5]⟩⟩
  · obtain ⟨X', nL', B', ns', NM', BK', bs', ws', nl', NR', LB', sc', p2, tp', st', fx', Sx', g1, g2, g3, g4, g5, g6, g7⟩ := hG
    have b0 : sI B' 0 = nI L := (g3.1 0 (by decide)).trans h0
    have bt : ∀ i : Nat, i < L → sR B' 2 i = nI (c i) := fun i hi => by rw [g3.2.1 2 (by decide) (by decide)]; exact htR i hi
    have b13 : sI B' 13 = nI (ln + 1) := (g3.1 13 (by decide)).trans a5
    have b14 : sI B' 14 = nI se := (g3.1 14 (by decide)).trans a6
    have b2 : sI B' 2 = nI nS := (g3.1 2 (by decide)).trans a2
    have bc : cstS B' := BG_c g3 a8
    rcases g7 with ⟨p3, q3, x3, S', k1, k2, k3, k4, k5⟩ | ⟨p1, v0, x0, q1, p1', κ1, τ1, v1, x1, S', T0, T1, k3, k4, k5⟩
    · -- no statement
      rw [k3, nb_b2, nb_mN] at hC
      rw [show df_X13_labelled n S = some (0, S') from k4, nb_b2, if_pos rfl] at hRf
      obtain ⟨S'', r1, r2⟩ := rd_G (B := B') (l := ln + 1) G' hn hL l2 hend h127 l3 b0 bt b13 k5 k2 (fun i i1 i2 => l4 i (by omega) i2)
      refine ⟨_, _, S'', hC, hRf.trans r1, Or.inr ⟨pI B' 13 (nI (ln + 1 + 1)), Bq, B0, sn, lu, ln + 1, se, co, od, SW, LW, cs, ns', C, A, NM', BK', bs', ws', nl', NR', LB', sc', X', nL', nS, PA, BY, OU, Ds, Qs, Es, Zs, Ls, Fs, N0, NP, e, tp', st', fx', Sx', p3, 0, q3, x3, ct, gr, READ_n hR (B' := pI B' 13 (nI (ln + 1 + 1))) g1 (TBJ_m g2 (by omega)) (by omega) b2 g4.2.2.1 (fun k hk => (g4.2.2.2 k hk).1) rfl b14 a7 bc hline, rfl, rfl, r2, hO, htC, b0, bt⟩⟩
    · -- a statement's name
      obtain ⟨w1, w2, _, w4, w5, w31⟩ := ts_w T0 rfl
      have ee := eT_1 c (show p2 ≤ e by omega)
      have hqp : p2 < p1 := (T0.2.2.2.2.2.1 (by decide)).2
      have hle1 := ts_le T1
      have hp1e := (ts_le T0).2.2
      have hA : ∀ t : Nat, t < p1 - p2 → aP (c (p2 + t)) = true := fun t ht => ee.2.2.2 (p2 + t) (by omega) (by omega)
      have SRa := SR_p16 k5 (nI nS)
      have SRb := SR_w3 SRa (upd PA nS (nI ((4 * se) * 2 ^ 17 + p2)))
      have SRc := SR_w5 SRb (upd BY nS (nI 0))
      have nS8 : nS < 11000 := by omega
      have hRf2 : dF_X13_readAll_25 n G' S = nd_b1 (df_X13_statement n (nI p2) 0 (pR (pR (pI S' 16 (nI nS)) 3 (upd PA nS (nI ((4 * se) * 2 ^ 17 + p2)))) 5 (upd BY nS (nI 0)))) (fun (s27 : St) => if nI se = (sI s27 14) then (df_X13_readAll_118 n G' ((sI s27 16)) s27) else (df_X13_readAll_118 n G' ((-1)) s27)) := by
        rw [hRf, show df_X13_labelled n S = some (1, S') from k4, nb_b2, if_neg (show ¬ (1 : Int32) = 0 by decide), SR_2 k5, b2, nb_let, SR_7 SRa, nb_let]
        rw [show sI (pI S' 16 (nI nS)) 16 = nI nS from rfl, nm_ck nS8 (by omega), nI_clamp (by omega), SR_14 SRa, show sI (pI B' 16 (nI nS)) 14 = nI se from b14, or19 (by omega) a7, SR_r3 SRa, nb_let]
        rw [show sI (pR (pI S' 16 (nI nS)) 3 (upd PA nS (nI ((4 * se) * 2 ^ 17 + p2)))) 16 = nI nS from rfl, nm_ck nS8 (by omega), nI_clamp (by omega), SR_r5 SRb, nb_let]
        rw [show sI (pR (pR (pI S' 16 (nI nS)) 3 (upd PA nS (nI ((4 * se) * 2 ^ 17 + p2)))) 5 (upd BY nS 0)) 14 = nI se from (SR_14 SRc).trans b14, nb_let]
        rfl
      have hTb : atx n L e c (bC B0 e nl' NR' LB') B' := BG_a g3 (at_b hT)
      have hV : RV n L e c (bC B0 e nl' NR' LB') (pI B' 16 (nI nS)) X' nL' nS := ⟨hTb, g4.2.1, g4.2.2.1, g4.2.2.2, fun k hk hk3 => (g2.2.2.2.2.2.2.1 k hk).2.2 hk3, rfl, nS8, ln + 1, b13, by omega⟩
      have hT2 := hV.1
      have c0 : sI (pI B' 16 (nI nS)) 0 = nI L := b0
      have ct2 : ∀ i : Nat, i < L → sR (pI B' 16 (nI nS)) 2 i = nI (c i) := bt
      have hplen : nlC c p2 = ln := by
        have e1 := nlC_a (c := c) (p2 - p) p (fun i i1 i2 => l4 i i1 (by omega))
        rw [show p + (p2 - p) = p2 by omega] at e1
        rw [e1, a9]
      rcases nme_1 (n := n) (L := L) (c := c) hn hL h127 p2 (p1 - p2) (by omega) (by omega) hA (s2 := uC (xC (bC B0 e nl' NR' LB') cs tp' st' ns' fx' C A Sx' NM' BK') p1' κ1 q1 x1) hO htC with ⟨y, od', hy, ho, hod, hcl, ⟨l2', hl2, hkl⟩, hNA⟩ | ⟨hcl, hNA⟩
      · -- the class knows it
        have hcl := hcl (qC Bq sn lu 0 (ln + 1) se od co SW LW)
        rw [qC_w5] at hcl
        rw [k3, hcl, nb_b2, nb_mS, nb_b2, nb_mS, if_pos (show sI (qC Bq sn lu 0 (ln + 1) se od' co SW LW, uC (xC (bC B0 e nl' NR' LB') cs tp' st' ns' fx' C A Sx' NM' BK') p1' κ1 q1 x1).1 2 = 0 from rfl)] at hC
        have J : JH n L e c (bC B0 e nl' NR' LB') (pI B' 16 (nI nS)) sn lu (ln + 1) se cs ns' NM' BK' bs' ws' X' nL' nS (upd PA nS (nI ((4 * se) * 2 ^ 17 + p2))) (upd BY nS (nI 0)) p2 p1 y od' := ⟨hV, bc, g2.1, g2.2.1, g2.2.2.1, b13, b14, a7, by omega, by omega, by have := g2.2.2.2.2.2.2.2.2.2; omega, by omega, up_e, up_e, hy, ho, hod, hNA, ⟨1, v0, x0, T0⟩, by omega⟩
        have hnl' := g2.2.2.2.2.2.2.2.2.1
        rcases stj J tp' st' fx' C A Sx' T1 SRc (by omega) (Bq := Bq) (co := co) (SW := SW) (LW := LW) (OU := OU) with jf | jg | jt | je
        · -- a fault
          obtain ⟨f, Q', U', S9, f1, f2, f3, f4, f5, f6, f7⟩ := jf
          rw [f3, nb_b1] at hC
          rw [f6, nb_b1] at hRf2
          obtain ⟨S'', r1, r2⟩ := rd_118F (B := pI B' 16 (nI nS)) G' hn hL l2 hend h127 c0 ct2 rfl nS8 f7 (nI se)
          exact ⟨Q', U', S'', hC, hRf2.trans r1, Or.inl ⟨f, ln + 1, f1, f2, by omega, f4, f5, by rw [r2]; show nI f + 16 * sI B' 13 = _; rw [b13]⟩⟩
        · -- a row more
          obtain ⟨D, fl, lw, lv, sz, ba, le, b, cd, lt, lu', LW', cs', ns2, C', A', NM2, BK2, bs2, ws2, p3, ct', gr', BY', U', S2, r1, ⟨BC', tp2, st2, fx2, S2x, κ2, q2, x2, hBC, rfl⟩, r3, r4, r5, r6, r7, r8, r9, r10, r11, r12, r13, r14, r15, r16, r17, r18, r19, r20, r21, r22, r22a, r22b, r23⟩ := jg
          rw [r1, nb_b1] at hC
          rw [r3, nb_b1] at hRf2
          obtain ⟨S'', z1, z2⟩ := rd_118 (B := pI (pI B' 16 (nI nS)) 15 0) (l := ln + 1) G' hn hL l2 hend h127 l3 c0 ct2 b13 rfl b2 nS8 r4 r6 (fun i i1 i2 => l4 i (by omega) i2) (nI se) b14.symm
          have hBC2 : ∃ B0' : St, BC' = bC B0' e nl' NR' LB' ∧ sO B0' 0 = some 8 ∧ ∀ i : Nat, i < L → sR B0' 7 i = nI (c i) := by
            rcases hBC with w | ⟨tr, w⟩
            · exact ⟨B0, w, hO, htC⟩
            · exact ⟨pI B0 11 tr, w.trans pI_b, hO, htC⟩
          obtain ⟨B0', hB0', hO', htC'⟩ := hBC2
          have nJ : TBJ L c X' nL' (sR B' 7) ns2 NM2 BK2 bs2 ws2 nl' NR' LB' sc' (e + 1) := by
            obtain ⟨q1', q2', q3', q4', q5', q6', q7', q8', q9', q10'⟩ := TBJ_m g2 (show p2 ≤ e + 1 by omega)
            exact ⟨r9, NTB_n q2' q3' r8 r9, IDX_n q3' r8, q4', q5', q6', q7', q8', q9', ⟨by omega, q10'.2⟩⟩
          have ri := rowU_i (R := SW) (j := sn) (ln := ln + 1) (se := se) (le := le) (kd := nI D.1) (b := b) (cd := cd) (lt := lt)
          have d9 : (if D.1 = 9 then 0 else 1) = 1 := if_neg (by omega)
          have hgn := g1.2.2.1
          have hst : STr n L c X' nL' (sR B' 7) (rowU SW sn (ln + 1) se le (nI D.1) b cd lt) LW' C' A' ns2 bs2 ws2 cs' lu' sn (upd (upd PA nS (nI ((4 * se) * 2 ^ 17 + p2))) nS (nI ((4 * se + fl) * 2 ^ 17 + p2)) nS) (upd BY' nS (if BY' nS = 0 then nI ct' else BY' nS) nS) D p2 e se (ln + 1) fl nL' NR' := by
            refine ⟨up_e, a7, DRW_f r23, r7, l2, l3, fun i i1 i2 => l4 i (by omega) i2, by rw [hplen], Nat.le_refl _, fun k hk => (g2.2.2.2.2.2.2.1 k hk).1, fun k k1 k2 => by omega, fun d hd => (g2.2.2.2.2.1 d hd).1, ⟨lw, lv, sz, ba, X', sR B' 7, fun BC9 => RFB_b hT2 r18 BC9, fun k _ => ⟨rfl, fun _ => rfl⟩, fun w hw => ?_, r20, r21, r22a, r22b⟩, Or.inr ⟨r22, le, b, cd, lt, cs, cs', lu, lu', ri.1, ri.2.1, ri.2.2.2.1, ri.2.2.2.2.1, ri.2.2.2.2.2.1, ri.2.2.2.2.2.2.1, ri.2.2.2.2.2.2.2, by rw [up_e]; exact r23, Nat.le_refl _, Nat.le_refl _⟩⟩
            obtain ⟨y1, y2⟩ := r19 w hw
            rw [up_e, y1, if_neg y2]
          refine ⟨_, _, S'', hC, hRf2.trans z1, Or.inr ⟨pI (pI (pI (pI B' 16 (nI nS)) 15 0) 2 (nI (nS + 1))) 13 (nI (ln + 1 + 1)), Bq, B0', sn + 1, lu', ln + 1, se, co, od', rowU SW sn (ln + 1) se le (nI D.1) b cd lt, LW', cs', ns2, C', A', NM2, BK2, bs2, ws2, nl', NR', LB', sc', X', nL', nS + 1, upd (upd PA nS (nI ((4 * se) * 2 ^ 17 + p2))) nS (nI ((4 * se + fl) * 2 ^ 17 + p2)), upd BY' nS (if BY' nS = 0 then nI ct' else BY' nS), OU, nwA Ds nS D, nwA Qs nS p2, nwA Es nS e, nwA Zs nS se, nwA Ls nS (ln + 1), nwA Fs nS fl, nwA N0 nS nL', nwA NP nS NR', e, tp2, st2, fx2, S2x, p3, κ2, q2, x2, ct', gr', ?_, rfl, by rw [hB0'], z2, hO', htC', c0, ct2⟩⟩
          have rd := READ_a hR (B' := pI (pI (pI (pI B' 16 (nI nS)) 15 0) 2 (nI (nS + 1))) 13 (nI (ln + 1 + 1))) (p' := e + 1) (co' := co) (q := p2) (e := e) (fl := fl) (n0 := nL') (NP0 := NR') (D := D) nJ g1.2.1 g1.1 (fun k k1 k2 => ⟨(hgn k k1 k2).1, (hgn k k1 k2).2.1⟩) (by have := g1.2.2.2.1; have := r8.1; omega) (fun i hi => by
              obtain ⟨y1, y2⟩ := g1.2.2.2.2 i hi
              obtain ⟨y3, y4, _, _⟩ := r8.2.1 i (by have := g1.2.2.2.1; omega)
              exact ⟨y3.trans y1, y4.trans y2⟩) (fun j hj => rowU_o (Or.inl hj)) r15 r16 r10 r13 (by omega) (by omega) g5 (by omega) (PA' := upd (upd PA nS (nI ((4 * se) * 2 ^ 17 + p2))) nS (nI ((4 * se + fl) * 2 ^ 17 + p2))) (BY' := upd BY' nS (if BY' nS = 0 then nI ct' else BY' nS)) (fun s hs => ⟨by rw [up_n (by omega), up_n (by omega)], by rw [up_n (by omega), r17 s (by omega), up_n (by omega)]⟩) (lam_h g1 a14) rfl g4.2.2.1 (fun k hk => (g4.2.2.2 k hk).1) rfl b14 bc hline g1.1 (Nat.le_refl _) (fun k k1 k2 => by omega) (fun k hk => (g2.2.2.2.2.2.2.1 k hk).1) hst
          rw [d9] at rd
          exact rd
        · -- .text, .data
          obtain ⟨se', p3, gr', U', S2, r0, r1, ⟨BC', tp2, st2, fx2, S2x, κ2, q2, x2, hBC, rfl⟩, r3, r4, r5, r6, r7, r8⟩ := jt
          rw [r1, nb_b1] at hC
          rw [r3, nb_b1] at hRf2
          have hBC2 : ∃ B0' : St, BC' = bC B0' e nl' NR' LB' ∧ sO B0' 0 = some 8 ∧ ∀ i : Nat, i < L → sR B0' 7 i = nI (c i) := by
            rcases hBC with w | ⟨tr, w⟩
            · exact ⟨B0, w, hO, htC⟩
            · exact ⟨pI B0 11 tr, w.trans pI_b, hO, htC⟩
          obtain ⟨B0', hB0', hO', htC'⟩ := hBC2
          have nJ := TBJ_m g2 (show p2 ≤ e + 1 by omega)
          by_cases zs : se' = se
          · subst zs
            obtain ⟨S'', z1, z2⟩ := rd_118 (B := pI (pI (pI B' 16 (nI nS)) 15 0) 14 (nI se')) (l := ln + 1) G' hn hL l2 hend h127 l3 c0 ct2 b13 rfl b2 nS8 r4 r6 (fun i i1 i2 => l4 i (by omega) i2) (nI se') rfl
            have hgn := g1.2.2.1
            have hst : STr n L c X' nL' (sR B' 7) SW LW C A ns' bs' ws' cs lu sn (upd PA nS (nI ((4 * se') * 2 ^ 17 + p2)) nS) (upd (upd BY nS (nI 0)) nS (if upd BY nS (nI 0) nS = 0 then nI 0 else upd BY nS (nI 0) nS) nS) (9, 0, 0, [], []) p2 e se' (ln + 1) 0 nL' NR' := by
              refine ⟨up_e, a7, Or.inl rfl, r7, l2, l3, fun i i1 i2 => l4 i (by omega) i2, by rw [hplen], Nat.le_refl _, fun k hk => (g2.2.2.2.2.2.2.1 k hk).1, fun k k1 k2 => by omega, fun d hd => (g2.2.2.2.2.1 d hd).1, ⟨0, 3, 0, none, X', sR B' 7, fun BC9 => RFB_b hT2 r8 BC9, fun k _ => ⟨rfl, fun _ => rfl⟩, (fun _ z => nomatch z), Nat.le_refl _, Nat.le_of_ble_eq_true rfl, (fun z => by have z : (9 : Nat) = 1 := z; omega), (fun z => by have z : (9 : Nat) = 2 := z; omega)⟩, Or.inl ⟨rfl, rfl, ?_, rfl⟩⟩
              rw [up_e, up_e]; exact if_pos (show nI 0 = (0 : Int32) from rfl)
            refine ⟨_, _, S'', hC, hRf2.trans z1, Or.inr ⟨pI (pI (pI (pI (pI B' 16 (nI nS)) 15 0) 14 (nI se')) 2 (nI (nS + 1))) 13 (nI (ln + 1 + 1)), Bq, B0', sn, lu, ln + 1, se', co, od', SW, LW, cs, ns', C, A, NM', BK', bs', ws', nl', NR', LB', sc', X', nL', nS + 1, upd PA nS (nI ((4 * se') * 2 ^ 17 + p2)), upd (upd BY nS (nI 0)) nS (if upd BY nS (nI 0) nS = 0 then nI 0 else upd BY nS (nI 0) nS), OU, nwA Ds nS (9, 0, 0, [], []), nwA Qs nS p2, nwA Es nS e, nwA Zs nS se', nwA Ls nS (ln + 1), nwA Fs nS 0, nwA N0 nS nL', nwA NP nS NR', e, tp2, st2, fx2, S2x, p3, κ2, q2, x2, 0, gr', ?_, rfl, by rw [hB0'], z2, hO', htC', c0, ct2⟩⟩
            exact READ_a hR (B' := pI (pI (pI (pI (pI B' 16 (nI nS)) 15 0) 14 (nI se')) 2 (nI (nS + 1))) 13 (nI (ln + 1 + 1))) (p' := e + 1) (co' := co) (q := p2) (e := e) (fl := 0) (n0 := nL') (NP0 := NR') (D := (9, 0, 0, [], [])) nJ g1.2.1 g1.1 (fun k k1 k2 => ⟨(hgn k k1 k2).1, (hgn k k1 k2).2.1⟩) g1.2.2.2.1 g1.2.2.2.2 (fun _ _ => rfl) (fun _ _ => ⟨rfl, rfl⟩) (fun _ _ => rfl) (Nat.le_refl _) (Nat.le_refl _) (by omega) (by omega) g5 (by omega) (PA' := upd PA nS (nI ((4 * se') * 2 ^ 17 + p2))) (BY' := upd (upd BY nS (nI 0)) nS (if upd BY nS (nI 0) nS = 0 then nI 0 else upd BY nS (nI 0) nS)) (fun s hs => ⟨by rw [up_n (by omega)], by rw [up_n (by omega), up_n (by omega)]⟩) (lam_h g1 a14) rfl g4.2.2.1 (fun k hk => (g4.2.2.2 k hk).1) rfl rfl bc hline g1.1 (Nat.le_refl _) (fun k k1 k2 => by omega) (fun k hk => (g2.2.2.2.2.2.2.1 k hk).1) hst
          · -- another section
            rw [if_neg (show ¬ nI se = sI S2 14 from fun w => zs (((nI_eq (a := se) (b := se') (by omega) (by omega)).mp (w.trans (SR_14 r4))).symm))] at hRf2
            unfold df_X13_readAll_118 at hRf2
            rw [if_pos (show (-1 : Int32) < 0 by decide)] at hRf2
            obtain ⟨S'', z1, z2⟩ := rd_G (B := pI (pI (pI B' 16 (nI nS)) 15 0) 14 (nI se')) (l := ln + 1) G' hn hL l2 hend h127 l3 c0 ct2 b13 r4 r6 (fun i i1 i2 => l4 i (by omega) i2)
            refine ⟨_, _, S'', hC, hRf2.trans z1, Or.inr ⟨pI (pI (pI (pI B' 16 (nI nS)) 15 0) 14 (nI se')) 13 (nI (ln + 1 + 1)), Bq, B0', sn, lu, ln + 1, se', co, od', SW, LW, cs, ns', C, A, NM', BK', bs', ws', nl', NR', LB', sc', X', nL', nS, upd PA nS (nI ((4 * se) * 2 ^ 17 + p2)), upd BY nS (nI 0), OU, Ds, Qs, Es, Zs, Ls, Fs, N0, NP, e, tp2, st2, fx2, S2x, p3, κ2, q2, x2, 0, gr', ?_, rfl, by rw [hB0'], z2, hO', htC', c0, ct2⟩⟩
            exact READ_p (READ_n hR (B' := pI (pI (pI (pI B' 16 (nI nS)) 15 0) 14 (nI se')) 13 (nI (ln + 1 + 1))) g1 nJ (by omega) b2 g4.2.2.1 (fun k hk => (g4.2.2.2 k hk).1) rfl rfl r0 bc hline) (fun s hs => ⟨up_n (by omega), up_n (by omega)⟩)
        · -- .equ
          obtain ⟨qn, z, cs', ns2, C', A', NM2, BK2, bs2, ws2, p3, gr', U', S2, r1, ⟨BC', tp2, st2, fx2, S2x, κ2, q2, x2, hBC, rfl⟩, r3, r4, r5, r5a, r6, r7, r8, r9, r10, r11, r12, r13, r14, r15, r16⟩ := je
          rw [r1, nb_b1] at hC
          rw [r3, nb_b1] at hRf2
          have hBC2 : ∃ B0' : St, BC' = bC B0' e nl' NR' LB' ∧ sO B0' 0 = some 8 ∧ ∀ i : Nat, i < L → sR B0' 7 i = nI (c i) := by
            rcases hBC with w | ⟨tr, w⟩
            · exact ⟨B0, w, hO, htC⟩
            · exact ⟨pI B0 11 tr, w.trans pI_b, hO, htC⟩
          obtain ⟨B0', hB0', hO', htC'⟩ := hBC2
          obtain ⟨q1', q2', q3', q4', q5', q6', q7', q8', q9', q10'⟩ := id g2
          have ew : (2 * 131072 + qn) / 131072 = 2 := by omega
          have eq : (2 * 131072 + qn) % 131072 = qn := by omega
          obtain ⟨pl1, pl2⟩ := plc_n (w := 2 * 131072 + qn) (p2 := e + 1) q7' q8' (by omega) (by omega) (by omega) (fun w => by omega) (by omega)
          have lamn : nl' = lam (nwF X' nL' (2 * 131072 + qn)) (nL' + 1) := by
            rw [lam_n1, if_pos ew, q4']
            rfl
          have nJ : TBJ L c (nwF X' nL' (2 * 131072 + qn)) (nL' + 1) (upd (sR B' 7) nL' z) ns2 NM2 BK2 bs2 ws2 nl' NR' LB' (nwF sc' nL' sn) (e + 1) := ⟨r8, r9, r10, lamn, NRI_o q5' (by omega) (fun _ _ => rfl), LBI_c q6' ew, pl1, pl2, by omega, ⟨by omega, NLB_o q10'.2 (by omega) (by omega)⟩⟩
          obtain ⟨S'', z1, z2⟩ := rd_118 (B := dfB (pI (pI B' 16 (nI nS)) 15 0) nL' (nI (2 * 131072 + qn)) z) (l := ln + 1) G' hn hL l2 hend h127 l3 c0 ct2 b13 rfl b2 nS8 r4 r6 (fun i i1 i2 => l4 i (by omega) i2) (nI se) b14.symm
          have hgn := g1.2.2.1
          have hgo := g1.2.1
          have hg1 := g1.1
          have hst : STr n L c (nwF X' nL' (2 * 131072 + qn)) (nL' + 1) (upd (sR B' 7) nL' z) SW LW C' A' ns2 bs2 ws2 cs' lu sn (upd PA nS (nI ((4 * se) * 2 ^ 17 + p2)) nS) (upd (upd BY nS (nI 0)) nS (if upd BY nS (nI 0) nS = 0 then nI 0 else upd BY nS (nI 0) nS) nS) (9, 0, 0, [], []) p2 e se (ln + 1) 0 nL' NR' := by
            refine ⟨up_e, a7, Or.inl rfl, r7, l2, l3, fun i i1 i2 => l4 i (by omega) i2, by rw [hplen], by omega, fun k hk => by rw [nw_2 hk]; exact (q7' k hk).1, fun k k1 k2 => ?_, fun d hd => ?_, ⟨0, 3, 0, none, X', sR B' 7, fun BC9 => RFB_b hT2 r16 BC9, fun k hk => ⟨(nw_2 hk).symm, fun _ => (up_n (by omega)).symm⟩, (fun _ z => nomatch z), Nat.le_refl _, Nat.le_of_ble_eq_true rfl, (fun z => by have z : (9 : Nat) = 1 := z; omega), (fun z => by have z : (9 : Nat) = 2 := z; omega)⟩, Or.inl ⟨rfl, rfl, ?_, rfl⟩⟩
            · have : k = nL' := by omega
              subst this
              rw [nw_1, eq]; omega
            · rw [fr_nw, lmF_nw (fr_l _ _ _)]; exact (q5' d hd).1
            · rw [up_e, up_e]; exact if_pos (show nI 0 = (0 : Int32) from rfl)
          refine ⟨_, _, S'', hC, hRf2.trans z1, Or.inr ⟨pI (pI (dfB (pI (pI B' 16 (nI nS)) 15 0) nL' (nI (2 * 131072 + qn)) z) 2 (nI (nS + 1))) 13 (nI (ln + 1 + 1)), Bq, B0', sn, lu, ln + 1, se, co + 1, od', SW, LW, cs', ns2, C', A', NM2, BK2, bs2, ws2, nl', NR', LB', nwF sc' nL' sn, nwF X' nL' (2 * 131072 + qn), nL' + 1, nS + 1, upd PA nS (nI ((4 * se) * 2 ^ 17 + p2)), upd (upd BY nS (nI 0)) nS (if upd BY nS (nI 0) nS = 0 then nI 0 else upd BY nS (nI 0) nS), OU, nwA Ds nS (9, 0, 0, [], []), nwA Qs nS p2, nwA Es nS e, nwA Zs nS se, nwA Ls nS (ln + 1), nwA Fs nS 0, nwA N0 nS nL', nwA NP nS NR', e, tp2, st2, fx2, S2x, p3, κ2, q2, x2, 0, gr', ?_, rfl, by rw [hB0'], z2, hO', htC', c0, ct2⟩⟩
          have lamo := lam_h g1 a14
          refine READ_a hR (B' := pI (pI (dfB (pI (pI B' 16 (nI nS)) 15 0) nL' (nI (2 * 131072 + qn)) z) 2 (nI (nS + 1))) 13 (nI (ln + 1 + 1))) (p' := e + 1) (co' := co + 1) (q := p2) (e := e) (fl := 0) (n0 := nL') (NP0 := NR') (D := (9, 0, 0, [], [])) nJ (fun k hk => ⟨(nw_2 (by omega)).trans (hgo k hk).1, (up_n (by omega) : upd (sR B' 7) nL' z k = sR B' 7 k).trans (hgo k hk).2.1, (nw_2 (by omega)).trans (hgo k hk).2.2⟩) (by omega) (fun k k1 k2 => by
              by_cases w : k = nL'
              · subst w
                rw [nw_1, nw_1, eq]
                exact ⟨rfl, by omega⟩
              · rw [nw_2 (by omega), nw_2 (by omega)]
                exact ⟨(hgn k k1 (by omega)).1, (hgn k k1 (by omega)).2.1⟩) (by have := g1.2.2.2.1; have := r11.1; omega) (fun i hi => by
              obtain ⟨y1, y2⟩ := g1.2.2.2.2 i hi
              obtain ⟨y3, y4⟩ := r11.2 i (by have := g1.2.2.2.1; omega)
              exact ⟨y3.trans y1, y4.trans y2⟩) (fun _ _ => rfl) r15 (fun _ _ => rfl) r12 (Nat.le_refl _) (by omega) (by omega) g5 (by omega) (PA' := upd PA nS (nI ((4 * se) * 2 ^ 17 + p2))) (BY' := upd (upd BY nS (nI 0)) nS (if upd BY nS (nI 0) nS = 0 then nI 0 else upd BY nS (nI 0) nS)) (fun s hs => ⟨by rw [up_n (by omega)], by rw [up_n (by omega), up_n (by omega)]⟩) (by rw [← lamn, q4']; omega) rfl rfl (fun k hk => ?_) rfl b14 bc hline g1.1 (by omega) (fun k k1 k2 => rfl) (fun k hk => by rw [nw_2 hk]; exact (q7' k hk).1) hst
          show upd (sR B' 6) nL' (nI (2 * 131072 + qn)) k = nI (nwF X' nL' (2 * 131072 + qn) k)
          by_cases w : k = nL'
          · subst w; rw [up_e, nw_1]
          · rw [up_n w, nw_2 (by omega)]; exact (g4.2.2.2 k (by omega)).1
      · -- nobody knows it
        obtain ⟨od', hcl⟩ := hcl (qC Bq sn lu 0 (ln + 1) se od co SW LW) rfl
        rw [qC_w5, qC_w2] at hcl
        rw [k3, hcl, nb_b2, nb_mN, nb_b2, nb_mN] at hC
        obtain ⟨S9, y1, y2, y3, y4, y5, y6⟩ := stm_1 (B := pI B' 16 (nI nS)) hT2 bc SRc 0 T0
        obtain ⟨od9, y7⟩ := hNA S9 y5 y6 y3 (by rw [y4, show p2 + (p1 - p2) = p1 by omega])
        obtain ⟨S10, b1, b2'⟩ := blm_S (n := n) y2 2
        have hst9 : df_X13_statement n (nI p2) 0 (pR (pR (pI S' 16 (nI nS)) 3 (upd PA nS (nI ((4 * se) * 2 ^ 17 + p2)))) 5 (upd BY nS (nI 0))) = some S10 := by
          rw [y1, y7]
          unfold df_X13_statement_136
          rw [if_neg (show ¬ (0 : Int32) ≤ -1 by decide), b1, nb_b1]
        rw [hst9, nb_b1] at hRf2
        have fg : FG e (pI B' 16 (nI nS)) (nI 2 + 16 * sI B' 13) S10 := ⟨pI (pI B' 16 (nI nS)) 15 0, SR_FL b2' hp1e, rfl, rfl, rfl, rfl⟩
        obtain ⟨S'', r1, r2⟩ := rd_118F (B := pI B' 16 (nI nS)) G' hn hL l2 hend h127 c0 ct2 rfl nS8 fg (nI se)
        exact ⟨_, _, S'', hC, hRf2.trans r1, Or.inl ⟨2, ln + 1, by decide, by decide, by omega, rfl, rfl, by rw [r2, b13]⟩⟩
