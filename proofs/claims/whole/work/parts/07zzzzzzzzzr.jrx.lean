/-- at the end of the text -/
def RDfin (n L : Nat) (c : Nat → Nat) (p : Nat) (Q U S : St) : Prop := ∃ (B Bq B0 : St) (sn lu ln lx se co : Nat) (od : Int32) (SW LW : Nat → Int32) (cs ns : Nat) (C A NM BK : Nat → Int32) (bs ws : Nat → Nat) (nl : Nat) (NR LB : Nat → Int32) (sc X : Nat → Nat) (nL nS : Nat) (PA BY OU : Nat → Int32) (Ds : Nat → Dt) (Qs Es Zs Ls Fs N0 : Nat → Nat) (NP : Nat → Nat → Int32) (e0 tp st : Nat) (fx : Bool) (Sx : Nat → Int32) (ap kd fr : Nat) (nm : Int32) (ct : Nat) (gr : Bool), READ n L c p B sn lu ln se co SW LW cs ns C A NM BK bs ws nl NR LB sc X nL nS PA BY Ds Qs Es Zs Ls Fs N0 NP ∧ Q = qC Bq sn lu 0 lx se od co SW LW ∧ U = uC (xC (bC B0 e0 nl NR LB) cs tp st ns fx C A Sx NM BK) ap kd fr nm ∧ SR B ct gr PA BY OU 0 p S ∧ sO B0 0 = some 8 ∧ (∀ i : Nat, i < L → sR B0 7 i = nI (c i)) ∧ sI B 0 = nI L ∧ (∀ i : Nat, i < L → sR B 2 i = nI (c i))
theorem RD_f {n L : Nat} {c : Nat → Nat} {p : Nat} {Q U S : St} (h : RDst n L c p Q U S) : RDfin n L c p Q U S := by
  obtain ⟨B, Bq, B0, sn, lu, ln, se, co, od, SW, LW, cs, ns, C, A, NM, BK, bs, ws, nl, NR, LB, sc, X, nL, nS, PA, BY, OU, Ds, Qs, Es, Zs, Ls, Fs, N0, NP, e0, tp, st, fx, Sx, ap, kd, fr, nm, ct, gr, h⟩ := h
  exact ⟨B, Bq, B0, sn, lu, ln, ln, se, co, od, SW, LW, cs, ns, C, A, NM, BK, bs, ws, nl, NR, LB, sc, X, nL, nS, PA, BY, OU, Ds, Qs, Es, Zs, Ls, Fs, N0, NP, e0, tp, st, fx, Sx, ap, kd, fr, nm, ct, gr, h⟩
/-- the class's last line, which is empty -/
theorem rd_Z {n L : Nat} {c : Nat → Nat} {Q U S s1 s3 : St} (hn : 70000 < n) (hL : L ≤ 32768) (h127 : ∀ i : Nat, c i < 127) (hend : ∀ i : Nat, L ≤ i → c i = 10) (hch : ∀ i : Nat, c i = 9 ∨ c i = 10 ∨ 32 ≤ c i) (h : RDst n L c L Q U S) (G : Int32 → Int32 → Int32 → (St × (St × St) × St) → Option (Int32 × (St × (St × St) × St))) : ∃ Q' U' : St, df_X1_make_40 n G (nI L) (nI L) (nI L) (s1, ((Q, U), s3)) = G (nI L) (nI (L + 1)) (nI (L + 1)) (s1, ((Q', U'), s3)) ∧ sI Q' 2 = 0 ∧ RDfin n L c L Q' U' S := by
  obtain ⟨B, Bq, B0, sn, lu, ln, se, co, od, SW, LW, cs, ns, C, A, NM, BK, bs, ws, nl, NR, LB, sc, X, nL, nS, PA, BY, OU, Ds, Qs, Es, Zs, Ls, Fs, N0, NP, e0, tp, st, fx, Sx, ap, kd, fr, nm, ct, gr, hR, rfl, rfl, hS, hO, htC, h0, htR⟩ := h
  have hT : atx n L L c (bC B0 L nl NR LB) B := ⟨hn, hL, Nat.le_refl _, h127, hend, hend L (Nat.le_refl _), hO, rfl, htC, h0, htR, hch⟩
  obtain ⟨q, p', κ, τ, v, x, T, hrl⟩ := stl_L (e0 := e0) (cs := cs) (tp := tp) (st := st) (ns := ns) (fx := fx) (C := C) (A := A) (S := Sx) (NM := NM) (BK := BK) (ap := ap) (kd := kd) (fr := fr) (nm := nm) hT (Nat.le_refl _) (fun i i1 i2 => by omega) (qC Bq sn lu 0 (ln + 1) se od co SW LW)
  have zk : κ = 0 := Classical.byContradiction fun w => by
    have := T.2.2.2.2.2.1 w
    have := T.2.2.1
    omega
  subst zk
  have hC := mk_40 (n := n) (L := L) (e := L) (p := L) (Bq := Bq) (sn := sn) (lu := lu) (ln := ln) (se := se) (co := co) (od := od) (SW := SW) (LW := LW) (U := uC (xC (bC B0 e0 nl NR LB) cs tp st ns fx C A Sx NM BK) ap kd fr nm) (s1 := s1) (s3 := s3) G
  rw [hrl] at hC
  obtain ⟨g, hg⟩ : ∃ g : Nat, n = g + 1 := ⟨n - 1, by omega⟩
  have hle := ts_le T
  have e1 : df_X1_readLine_13 n n (nI (L - L)) (qC Bq sn lu 0 (ln + 1) se od co SW LW, uC (xC (bC B0 L nl NR LB) cs tp st ns fx C A Sx NM BK) p' 0 q x) = some (none, (qC Bq sn lu 0 (ln + 1) se od co SW LW, uC (xC (bC B0 L nl NR LB) cs tp st ns fx C A Sx NM BK) p' 0 q x)) := by
    have e2 : df_X1_readLine_13 n n (nI (L - L)) (qC Bq sn lu 0 (ln + 1) se od co SW LW, uC (xC (bC B0 L nl NR LB) cs tp st ns fx C A Sx NM BK) p' 0 q x) = df_X1_readLine_13 n (g + 1) (nI (L - L)) (qC Bq sn lu 0 (ln + 1) se od co SW LW, uC (xC (bC B0 L nl NR LB) cs tp st ns fx C A Sx NM BK) p' 0 q x) := congrArg (fun z => df_X1_readLine_13 n z (nI (L - L)) (qC Bq sn lu 0 (ln + 1) se od co SW LW, uC (xC (bC B0 L nl NR LB) cs tp st ns fx C A Sx NM BK) p' 0 q x)) hg
    rw [e2]
    have e3 := rl_13 (n := n) (qC Bq sn lu 0 (ln + 1) se od co SW LW) (uC (xC (bC B0 L nl NR LB) cs tp st ns fx C A Sx NM BK) p' 0 q x) rfl (df_X1_readLine_13 n g) (L - L) (by omega) (κ := 0) (q := q) (p' := p') rfl rfl rfl hle.2.1 (by omega) (by decide)
    rw [if_pos rfl] at e3
    exact e3
  rw [e1, nb_b2, nb_mN] at hC
  exact ⟨_, _, hC, rfl, B, Bq, B0, sn, lu, ln, ln + 1, se, co, od, SW, LW, cs, ns, C, A, NM, BK, bs, ws, nl, NR, LB, sc, X, nL, nS, PA, BY, OU, Ds, Qs, Es, Zs, Ls, Fs, N0, NP, L, tp, st, fx, Sx, p', 0, q, x, ct, gr, hR, rfl, rfl, hS, hO, htC, h0, htR⟩
/-- all lines -/
theorem rdl_all {n L : Nat} {c : Nat → Nat} {s1 s3 : St} (hn : 70000 < n) (hL : L ≤ 32768) (h127 : ∀ i : Nat, c i < 127) (hend : ∀ i : Nat, L ≤ i → c i = 10) (hch : ∀ i : Nat, c i = 9 ∨ c i = 10 ∨ 32 ≤ c i) : ∀ (N p g g' : Nat) (Q U S : St), L + 1 - p < N → p ≤ L + 1 → L + 1 - p < g → L + 1 - p < g' → RDst n L c p Q U S → ∃ Q' U' S' : St, df_X1_make_12 n g (nI L) (nI p) (nI p) (s1, ((Q, U), s3)) = df_X1_make_90 n (s1, ((Q', U'), s3)) ∧ df_X13_readAll_25 n g' S = some S' ∧ ((∃ f l : Nat, 1 ≤ f ∧ f ≤ 15 ∧ l ≤ 40000 ∧ sI Q' 2 = nI f ∧ sI Q' 3 = nI l ∧ sI S' 12 = nI f + 16 * nI l) ∨ (sI Q' 2 = 0 ∧ ∃ p' : Nat, L ≤ p' ∧ p' ≤ L + 1 ∧ RDfin n L c p' Q' U' S')) := fun N => by
  induction N with
  | zero => intro p g g' Q U S h; exact absurd h (Nat.not_lt_zero _)
  | succ N ih =>
    intro p g g' Q U S hN hp hg hg' h
    obtain ⟨g', rfl⟩ : ∃ m : Nat, g' = m + 1 := ⟨g' - 1, by omega⟩
    have hrs : ∃ (B Bq B0 : St) (sn lu ln se co : Nat) (od : Int32) (SW LW : Nat → Int32) (ct : Nat) (gr : Bool) (PA BY OU : Nat → Int32), Q = qC Bq sn lu 0 ln se od co SW LW ∧ SR B ct gr PA BY OU 0 p S ∧ sI B 0 = nI L ∧ ∀ i : Nat, i < L → sR U 7 i = nI (c i) := by
      obtain ⟨B, Bq, B0, sn, lu, ln, se, co, od, SW, LW, cs, ns, C, A, NM, BK, bs, ws, nl, NR, LB, sc, X, nL, nS, PA, BY, OU, Ds, Qs, Es, Zs, Ls, Fs, N0, NP, e0, tp, st, fx, Sx, ap, kd, fr, nm, ct, gr, hR, rfl, rfl, hS, hO, htC, h0, htR⟩ := h
      exact ⟨B, Bq, B0, sn, lu, ln, se, co, od, SW, LW, ct, gr, PA, BY, OU, rfl, hS, h0, htC⟩
    obtain ⟨B, Bq, B0, sn, lu, ln, se, co, od, SW, LW, ct, gr, PA, BY, OU, hQ, hS, h0, htU⟩ := hrs
    have hQ2 : sI Q 2 = 0 := by rw [hQ]; rfl
    have stop : L ≤ p → df_X13_readAll_25 n (g' + 1) S = some S := fun hp => by
      show dF_X13_readAll_25 n (df_X13_readAll_25 n g') S = some S
      unfold dF_X13_readAll_25 df_X13_readAll_201
      rw [if_pos (SR_12 hS), SR_0 hS, h0, SR_7 hS, if_pos (zle hp (by omega))]
    by_cases z : p = L + 1
    · subst z
      obtain ⟨g, rfl⟩ : ∃ m : Nat, g = m + 1 := ⟨g - 1, by omega⟩
      refine ⟨Q, U, S, ?_, stop (by omega), Or.inr ⟨hQ2, L + 1, by omega, Nat.le_refl _, RD_f h⟩⟩
      show dF_X1_make_12 n (df_X1_make_12 n g) (nI L) (nI (L + 1)) (nI (L + 1)) (s1, ((Q, U), s3)) = _
      unfold dF_X1_make_12
      rw [if_pos (zlt (by omega) (by omega))]
    · obtain ⟨l1, l2, l3, l4⟩ := lnE_1 (c := c) (L := L) (p := p) (by omega) hend
      have hw := mk_w (n := n) (L := L) (e := lnE c L p) (p := p) (c := c) (s1 := s1) (s3 := s3) (Q := Q) (U := U) hL l2 hQ2 htU l3 h127 (lnE c L p - p) p g (by omega) (by omega) l4
      by_cases y : p = L
      · subst y
        have e : lnE c p p = p := by omega
        rw [e] at hw
        obtain ⟨Q', U', r1, r2, r3⟩ := rd_Z (s1 := s1) (s3 := s3) hn hL h127 hend hch h (df_X1_make_12 n (g - (p - p) - 1))
        refine ⟨Q', U', S, ?_, stop (Nat.le_refl _), Or.inr ⟨r2, p, Nat.le_refl _, by omega, r3⟩⟩
        rw [hw, r1]
        obtain ⟨g2, hg2⟩ : ∃ m : Nat, g - (p - p) - 1 = m + 1 := ⟨g - 2, by omega⟩
        rw [hg2]
        show dF_X1_make_12 n (df_X1_make_12 n g2) (nI p) (nI (p + 1)) (nI (p + 1)) (s1, ((Q', U'), s3)) = _
        unfold dF_X1_make_12
        rw [if_pos (zlt (by omega) (by omega))]
      · obtain ⟨Q', U', S', r1, r2, r3⟩ := rd_S (s1 := s1) (s3 := s3) hn hL h127 hend hch (show p < L by omega) h (df_X1_make_12 n (g - (lnE c L p - p) - 1)) (df_X13_readAll_25 n g')
        have r2 : df_X13_readAll_25 n (g' + 1) S = df_X13_readAll_25 n g' S' := r2
        rw [hw, r1, r2]
        rcases r3 with ⟨f, l, f1, f2, f3, f4, f5, f6⟩ | r3
        · refine ⟨Q', U', S', ?_, ?_, Or.inl ⟨f, l, f1, f2, f3, f4, f5, f6⟩⟩
          · obtain ⟨g2, hg2⟩ : ∃ m : Nat, g - (lnE c L p - p) - 1 = m + 1 := ⟨g - (lnE c L p - p) - 2, by omega⟩
            rw [hg2]
            show dF_X1_make_12 n (df_X1_make_12 n g2) (nI L) (nI (lnE c L p + 1)) (nI (lnE c L p + 1)) (s1, ((Q', U'), s3)) = _
            unfold dF_X1_make_12
            rw [if_neg (show ¬ sI (s1, ((Q', U'), s3)).2.1.1 2 = 0 from by rw [show sI (s1, ((Q', U'), s3)).2.1.1 2 = nI f from f4]; exact zne (b := 0) (by omega) (by omega) (by omega))]
            split <;> rfl
          · obtain ⟨g2, rfl⟩ : ∃ m : Nat, g' = m + 1 := ⟨g' - 1, by omega⟩
            show dF_X13_readAll_25 n (df_X13_readAll_25 n g2) S' = some S'
            unfold dF_X13_readAll_25 df_X13_readAll_201
            have hz : ¬ sI S' 12 = 0 := by
              rw [f6, show (16 : Int32) = nI 16 from rfl, pk_mul, nI_add]
              exact zne (b := 0) (by omega) (by omega) (by omega)
            rw [if_neg hz]
        · obtain ⟨Q2, U2, S2, t1, t2, t3⟩ := ih (lnE c L p + 1) (g - (lnE c L p - p) - 1) g' Q' U' S' (by omega) (by omega) (by omega) (by omega) r3
          exact ⟨Q2, U2, S2, t1, t2, t3⟩
