theorem adr_R {n L : Nat} {c X : Nat → Nat} {nL nS T : Nat} {OF W : Nat → Int32} {B : St} (hB : RBd L c X nL nS T OF W B) {ct : Nat} {gr : Bool} {PA BY OU : Nat → Int32} {ap : Nat} {S : St} (h : SR B ct gr PA BY OU 0 ap S) {s q se A of : Nat} (hs : s < 11000) (hPA : PA s = nI (A * 2 ^ 17 + q)) (hA : A < 64) (hZ : A / 4 % 2 = se) (qb : q < 131072) (hof : OF s = nI of) (hT : T ≤ 2 ^ 30) : df_X13_addressOf n (nI s) S = some (nI (of + (if se = 1 then bsN T else 0)), S) := by
  obtain ⟨b0, b2, bn, b3, b6, b4, bo, bw, bc, bl⟩ := hB
  obtain ⟨p1, p2, p3, p4⟩ := pla_1 hA qb
  have sec : df_X13_sectionOf n (nI s) S = some (nI se, S) := by
    unfold df_X13_sectionOf df_X13_sectionOf_0
    rw [nm_ck hs (by omega), nI_clamp (by omega), SR_r3 h, hPA, p2, hZ]
  unfold df_X13_addressOf df_X13_addressOf_0 df_X13_addressOf_23
  have r4 : sR S 4 = OF := (SR_r4 h).trans bo
  rw [nm_ck hs (by omega), sec, nb_b2, nI_clamp (by omega), r4, hof]
  by_cases y : se = 1
  · rw [if_pos (show nI se = 1 from congrArg nI y)]
    unfold df_X13_base df_X13_base_0
    rw [nb_b2, show sI S 4 = nI T from (SR_4 h).trans b4]
    have e1 : ((((nI T + 1023) / 1024) * 1024 : Int32)) = nI (bsN T) := bs_R hT
    rw [e1, nI_add, if_pos y]
  · rw [if_neg (show ¬ nI se = 1 from zne (b := 1) y (by omega) (by omega)), if_neg y]
    rw [show nI of + 0 = nI (of + 0) from Int32.add_zero _]
/-- the reference: one statement is written, with its line -/
theorem wr_44 {n L : Nat} {c : Nat → Nat} {B0 : St} (hX : TXT n L c B0) {X : Nat → Nat} {nL nS Tz : Nat} {OF W : Nat → Int32} (hK : XOK L c X nL) {BY PA : Nat → Int32} {D : Dt} {s q e se fl n0 A of l fm ad : Nat} (hs : s < 11000) (hT : Tz ≤ 2 ^ 30) (hD : SRD n L c X nL W BY s D q e se fl n0 A) (hP : PA s = nI (A * 2 ^ 17 + q)) (hO : OF s = nI of) (hl : A % 4 = l) (hZ : ZK D (BY s) fl l) (had : ad = of + (if se = 1 then bsN Tz else 0)) (hzz : sZ D l ≤ szN D (BY s) l of) (hf9 : fm ≤ 98304) (hfm : ad + szN D (BY s) l of ≤ 32768) (G : Int32 → Int32 → Int32 → Int32 → St → Option St) {B : St} (hB : RBd L c X nL nS Tz OF W B) (o11' : sO B 0 = some 11) {ct : Nat} {gr : Bool} {OU : Nat → Int32} {ap : Nat} {S : St} (h : SR B ct gr PA BY OU 0 ap S) : ∀ (m x g : Nat), x + m = q → m < g → ∃ (B' S' : St) (ct' ap' : Nat) (gr' : Bool), df_X13_put__44 n G g (nI fm) (nI (nlC c x + 1)) (nI x) (nI s) S = G (nI fm) (nI (nlC c q + 1)) (nI q) (nI (s + 1)) S' ∧ RBd L c X nL nS Tz OF W B' ∧ sO B' 0 = some 11 ∧ SR B' ct' gr' PA BY (orL (wrL OU (fm + ad) (sB D (VV c X e nL q (nI Tz) (nI ad) W) (nI ad) l)) (fm + ad) (szN D (BY s) l of) (nlC c q + 1)) 0 ap' S' ∧ sI B' 1 = sI B 1 ∧ sI B' 5 = sI B 5 := fun m => by
  obtain ⟨c1, c2, c3, c4, c5, c6, c7, c8, c9, lw, lv, sz, ba, X0, W0, d1, d2, d3, d4, d5⟩ := hD
  have hL := hX.2.1
  have hn := hX.1
  have qb : q < 131072 := by omega
  obtain ⟨p1, p2, p3, p4⟩ := pla_1 c1 qb
  have zb := (sz_1 hZ of).1
  induction m with
  | zero =>
    intro x g h1 h2
    obtain ⟨g, rfl⟩ : ∃ k : Nat, g = k + 1 := ⟨g - 1, by omega⟩
    have : x = q := by omega
    subst this
    have hB1 : RBd L c X nL nS Tz OF W (pI B 19 (nI (fm + ad))) := hB
    have h19 := SR_p19 h (nI (fm + ad))
    obtain ⟨S1, r1, r2, r3⟩ := again_R hX hB1 hK h19 (s := s) (q := x) (e := e) (se := se) (A := A) (of := of) (n0 := n0) (D := D) hs hP c1 c2 c6 c7 c8 hO hT d1 c9 d2 d3 d4 d5 (μ := 3) (Or.inr (Or.inr rfl)) (fun _ => ⟨o11', fm + ad, rfl, by rw [hl]; omega⟩)
    obtain ⟨ct1, ap1, gr1, x1, x2, x3⟩ := r3 (fun w => absurd w (by decide))
    rw [if_pos rfl, ← had, hl, show (sI (pI B 19 (nI (fm + ad))) 19).toNatClampNeg = fm + ad from nI_clamp (by omega)] at x3
    obtain ⟨S2, t1, t2⟩ := wr_112 (n := n) (B := BX (pI B 19 (nI (fm + ad))) s (nI ad) se (nI 3)) (PA := PA) (BY := BY) (A := A) (q := x) (D := D) (fl := fl) (l := l) (off := of) (bg := fm + ad) hs hP c1 qb hZ c3 hl (show sR B 4 s = nI of by rw [hB.2.2.2.2.2.2.1]; exact hO) rfl (by omega) G (nI fm) (nI x) (nlC c x + 1) (szN D (BY s) l of) 0 n _ S1 (by omega) (by omega) x3
    refine ⟨BX (pI B 19 (nI (fm + ad))) s (nI ad) se (nI 3), S2, ct1, ap1, gr1, ?_, hB1, o11', t2, rfl, rfl⟩
    show dF_X13_put__44 n G (df_X13_put__44 n G g) (nI fm) (nI (nlC c x + 1)) (nI x) (nI s) S = _
    unfold dF_X13_put__44
    rw [nm_ck hs (by omega), nI_clamp (by omega), SR_r3 h, hP, p1, if_pos (zle (Nat.le_refl x) (by omega)), adr_R hB h hs hP c1 c2 qb hO hT, nb_b2, nb_let, ← had, nI_add]
    rw [show df_X13_again n (nI s) 3 (pI S 19 (nI (fm + ad))) = some S1 from r1, nb_b1]
    exact t1
  | succ m ih =>
    intro x g h1 h2
    obtain ⟨g, rfl⟩ : ∃ k : Nat, g = k + 1 := ⟨g - 1, by omega⟩
    have hx := hX.2.2.1 x
    obtain ⟨B', S', ct', ap', gr', y1, y2⟩ := ih (x + 1) g (by omega) (by omega)
    refine ⟨B', S', ct', ap', gr', ?_, y2⟩
    show dF_X13_put__44 n G (df_X13_put__44 n G g) (nI fm) (nI (nlC c x + 1)) (nI x) (nI s) S = _
    unfold dF_X13_put__44 df_X13_put__79
    rw [nm_ck hs (by omega), nI_clamp (by omega), SR_r3 h, hP, p1, if_neg (znle (show x < q by omega) (by omega)), nm_ck (by omega) (by omega), nI_clamp (by omega), show sR S 2 x = nI (c x) by rw [SR_r2 h]; exact hB.2.1 x (by omega)]
    by_cases y : c x = 10
    · have e : nlC c (x + 1) = nlC c x + 1 := by
        show nlC c x + (if c x = 10 then 1 else 0) = _
        rw [if_pos y]
      rw [e] at y1
      rw [if_pos (show nI (c x) = 10 from congrArg nI y), nb_let, show nI x + Int32.ofInt 1 = nI (x + 1) from nI_add x 1, show nI (nlC c x + 1) + 1 = nI (nlC c x + 1 + 1) from nI_add (nlC c x + 1) 1]
      exact y1
    · have e : nlC c (x + 1) = nlC c x := by
        show nlC c x + (if c x = 10 then 1 else 0) = _
        rw [if_neg y, Nat.add_zero]
      rw [e] at y1
      rw [if_neg (show ¬ nI (c x) = 10 from zne (b := 10) y (by omega) (by omega)), nb_let, show nI x + Int32.ofInt 1 = nI (x + 1) from nI_add x 1]
      exact y1
/-- the reference's row, statement by statement -/
def rmR (OU0 : Nat → Int32) (fm : Nat) (ad : Nat → Nat) (BB : Nat → List Int32) (sz Ls : Nat → Nat) : Nat → (Nat → Int32)
  | 0 => OU0
  | s + 1 => orL (wrL (rmR OU0 fm ad BB sz Ls s) (fm + ad s) (BB s)) (fm + ad s) (sz s) (Ls s)
theorem wr_35 {n L : Nat} {c : Nat → Nat} {B0 : St} (hX : TXT n L c B0) {X : Nat → Nat} {nL nS Tz : Nat} {OF W : Nat → Int32} (hK : XOK L c X nL) {BY PA : Nat → Int32} {Ds : Nat → Dt} {Qs Es Zs Fs N0 AA of lv Ls ad sz : Nat → Nat} {BB : Nat → List Int32} {fm : Nat} (hf9 : fm ≤ 98304) (hnS : nS ≤ 8200) (hT : Tz ≤ 2 ^ 30) (hst : ∀ s : Nat, s < nS → SRD n L c X nL W BY s (Ds s) (Qs s) (Es s) (Zs s) (Fs s) (N0 s) (AA s) ∧ PA s = nI (AA s * 2 ^ 17 + Qs s) ∧ OF s = nI (of s) ∧ Ls s = nlC c (Qs s) + 1 ∧ AA s % 4 = lv s ∧ ZK (Ds s) (BY s) (Fs s) (lv s) ∧ ad s = of s + (if Zs s = 1 then bsN Tz else 0) ∧ sz s = szN (Ds s) (BY s) (lv s) (of s) ∧ sZ (Ds s) (lv s) ≤ sz s ∧ ad s + sz s ≤ 32768 ∧ BB s = sB (Ds s) (VV c X (Es s) nL (Qs s) (nI Tz) (nI (ad s)) W) (nI (ad s)) (lv s) ∧ ∀ t : Nat, t < s → Qs t < Qs s) (OU0 : Nat → Int32) : ∀ (m s x g : Nat) (B S : St) (ct ap : Nat) (gr : Bool), s + m = nS → m < g → (s < nS → x ≤ Qs s) → RBd L c X nL nS Tz OF W B → sO B 0 = some 11 → SR B ct gr PA BY (rmR OU0 fm ad BB sz Ls s) 0 ap S → ∃ (B' S' : St) (ct' ap' : Nat) (gr' : Bool), df_X13_put__35 n g (nI fm) (nI (nlC c x + 1)) (nI x) (nI s) S = some S' ∧ RBd L c X nL nS Tz OF W B' ∧ sO B' 0 = some 11 ∧ SR B' ct' gr' PA BY (rmR OU0 fm ad BB sz Ls nS) 0 ap' S' ∧ sI B' 1 = sI B 1 ∧ sI B' 5 = sI B 5 := fun m => by
  induction m with
  | zero =>
    intro s x g B S ct ap gr h1 h2 h3 hB ho h
    have : s = nS := by omega
    subst this
    obtain ⟨g, rfl⟩ : ∃ k : Nat, g = k + 1 := ⟨g - 1, by omega⟩
    refine ⟨B, S, ct, ap, gr, ?_, hB, ho, h, rfl, rfl⟩
    show dF_X13_put__35 n (df_X13_put__35 n g) (nI fm) (nI (nlC c x + 1)) (nI x) (nI s) S = _
    unfold dF_X13_put__35
    rw [SR_2 h, hB.2.2.1, if_pos (zle (Nat.le_refl s) (by omega))]
  | succ m ih =>
    intro s x g B S ct ap gr h1 h2 h3 hB ho h
    obtain ⟨g, rfl⟩ : ∃ k : Nat, g = k + 1 := ⟨g - 1, by omega⟩
    obtain ⟨a1, a2, a3, a4, a5, a6, a7, a8, a9, a10, a11, a12⟩ := hst s (by omega)
    have hL := hX.2.1
    have hn := hX.1
    have q3 : Qs s + 3 ≤ Es s ∧ Es s ≤ L := ⟨a1.2.2.2.2.2.1, a1.2.2.2.2.2.2.1⟩
    have hxq := h3 (by omega)
    obtain ⟨B1, S1, ct1, ap1, gr1, y1, y2, y3, y4, y5, y6⟩ := wr_44 hX hK (l := lv s) (fm := fm) (ad := ad s) (by omega) hT a1 a2 a3 a5 a6 a7 (by rw [← a8]; exact a9) hf9 (by rw [← a8]; exact a10) (df_X13_put__35 n g) hB ho h (Qs s - x) x n (by omega) (by omega)
    rw [← a8, ← a4, ← a11] at y4
    have nx : s + 1 < nS → Qs s ≤ Qs (s + 1) := fun w => by
      have := (hst (s + 1) w).2.2.2.2.2.2.2.2.2.2.2 s (by omega)
      omega
    obtain ⟨B', S', ct', ap', gr', z1, z2, z3, z4, z5, z6⟩ := ih (s + 1) (Qs s) g B1 S1 ct1 ap1 gr1 (by omega) (by omega) nx y2 y3 y4
    refine ⟨B', S', ct', ap', gr', ?_, z2, z3, z4, z5.trans y5, z6.trans y6⟩
    show dF_X13_put__35 n (df_X13_put__35 n g) (nI fm) (nI (nlC c x + 1)) (nI x) (nI s) S = _
    unfold dF_X13_put__35
    rw [SR_2 h, hB.2.2.1, if_neg (znle (show s < nS by omega) (by omega)), y1]
    exact z1
