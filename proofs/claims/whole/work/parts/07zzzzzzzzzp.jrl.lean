theorem SR_p2 {B : St} {ct : Nat} {gr : Bool} {PA BY OU : Nat → Int32} {ft : Int32} {ap : Nat} {S : St} (h : SR B ct gr PA BY OU ft ap S) (v : Int32) : SR (pI B 2 v) ct gr PA BY OU ft ap (pI S 2 v) := by
  obtain ⟨ms, dv, ls, sg, vl, PL, tk, fr, to, nm, rfl⟩ := h
  refine ⟨ms, dv, ls, sg, vl, PL, tk, fr, to, nm, Prod.ext (funext fun j => ?_) rfl⟩
  show (if j = 2 then v else _) = _
  by_cases h : j = 2
  · subst h; rfl
  · unfold uR xR yR pI
    simp only [if_neg h]
theorem SR_p13 {B : St} {ct : Nat} {gr : Bool} {PA BY OU : Nat → Int32} {ft : Int32} {ap : Nat} {S : St} (h : SR B ct gr PA BY OU ft ap S) (v : Int32) : SR (pI B 13 v) ct gr PA BY OU ft ap (pI S 13 v) := by
  obtain ⟨ms, dv, ls, sg, vl, PL, tk, fr, to, nm, rfl⟩ := h
  refine ⟨ms, dv, ls, sg, vl, PL, tk, fr, to, nm, Prod.ext (funext fun j => ?_) rfl⟩
  show (if j = 13 then v else _) = _
  by_cases h : j = 13
  · subst h; rfl
  · unfold uR xR yR pI
    simp only [if_neg h]
theorem SR_p16 {B : St} {ct : Nat} {gr : Bool} {PA BY OU : Nat → Int32} {ft : Int32} {ap : Nat} {S : St} (h : SR B ct gr PA BY OU ft ap S) (v : Int32) : SR (pI B 16 v) ct gr PA BY OU ft ap (pI S 16 v) := by
  obtain ⟨ms, dv, ls, sg, vl, PL, tk, fr, to, nm, rfl⟩ := h
  refine ⟨ms, dv, ls, sg, vl, PL, tk, fr, to, nm, Prod.ext (funext fun j => ?_) rfl⟩
  show (if j = 16 then v else _) = _
  by_cases h : j = 16
  · subst h; rfl
  · unfold uR xR yR pI
    simp only [if_neg h]
/-- the class: one line -/
theorem mk_40 {n L e p : Nat} {Bq : St} {sn lu ln se co : Nat} {od : Int32} {SW LW : Nat → Int32} {U s1 s3 : St} (G : Int32 → Int32 → Int32 → (St × (St × St) × St) → Option (Int32 × (St × (St × St) × St))) : df_X1_make_40 n G (nI L) (nI p) (nI e) (s1, ((qC Bq sn lu 0 ln se od co SW LW, U), s3)) = nd_b2 (df_X1_readLine n (nI p) (nI e) (qC Bq sn lu 0 (ln + 1) se od co SW LW, U)) (fun (q23 : Option Nat) (s24 : St × St) => nd_m q23 (G (nI L) (nI (e + 1)) (nI (e + 1)) (s1, (s24, s3))) (fun (j27 : Nat) => if (sI s24.1 2 : Int32) = 0 then nd_b1 (df_X1_readStatement n j27 s24) (fun (s33 : St × St) => G (nI L) (nI (e + 1)) (nI (e + 1)) (s1, (s33, s3))) else G (nI L) (nI (e + 1)) (nI (e + 1)) (s1, (s24, s3)))) := by
  unfold df_X1_make_40 df_X1_make_78 df_X1_make_84
  rw [nb_let]
  show nd_b2 (df_X1_readLine n (nI p) (nI e) (pI (qC Bq sn lu 0 ln se od co SW LW) 3 (nI ln + 1), U)) _ = _
  rw [show nI ln + 1 = nI (ln + 1) from nI_add ln 1, qC_w3]
  apply congrArg (nd_b2 (df_X1_readLine n (nI p) (nI e) (qC Bq sn lu 0 (ln + 1) se od co SW LW, U)))
  funext q23 s24
  rw [nb_let]
  rw [show nI e + 1 = nI (e + 1) from nI_add e 1, show nI e + Int32.ofInt 1 = nI (e + 1) from nI_add e 1]
  cases q23 with
  | none =>
    rw [nb_mN, nb_mN]
    split <;> (rw [nb_let, nb_let])
  | some j =>
    rw [nb_mS, nb_mS]
    split
    · apply congrArg (nd_b1 (df_X1_readStatement n j s24))
      funext s33
      rw [nb_let, nb_let, nb_let]
    · rw [nb_let, nb_let]
/-- the reference: one line -/
theorem rd_25 {n L p : Nat} {S : St} (G : St → Option St) (h12 : sI S 12 = 0) (h0 : sI S 0 = nI L) (h7 : sI S 7 = nI p) (hp : p < L) (hL : L ≤ 32768) : dF_X13_readAll_25 n G S = nd_b2 (df_X13_labelled n S) (fun (q8 : Int32) (s9 : St) => if q8 = 0 then (df_X13_readAll_152 n G n s9) else (nd_let ((pI s9 16 (sI s9 2))) (fun (s19 : St) => nd_let ((sI s19 7)) (fun (z20 : Int32) => nd_ck ((sI s19 16)) 11000 (nd_let ((pR s19 3 (upd (sR s19 3) (Int32.toNatClampNeg (sI s19 16)) ((z20 ||| (((sI s19 14) : Int32) <<< ((19 : Int32) &&& 31))))))) (fun (s22 : St) => nd_ck ((sI s22 16)) 11000 (nd_let ((pR s22 5 (upd (sR s22 5) (Int32.toNatClampNeg (sI s22 16)) (0)))) (fun (s24 : St) => nd_let ((sI s24 14)) (fun (z25 : Int32) => nd_b1 (df_X13_statement n (z20) (0) s24) (fun (s27 : St) => if z25 = (sI s27 14) then (df_X13_readAll_118 n G ((sI s27 16)) s27) else (df_X13_readAll_118 n G ((-1)) s27))))))))))) := by
  unfold dF_X13_readAll_25
  rw [if_pos h12, h0, h7, if_neg (znle hp (by omega))]
/-- with a fault: on to the next line, whatever it is -/
theorem rd_F {n L e : Nat} {c : Nat → Nat} {B S : St} {ft : Int32} (G : St → Option St) (hn : 70000 < n) (hL : L ≤ 32768) (heL : e ≤ L) (hend : ∀ i : Nat, L ≤ i → c i = 10) (h127 : ∀ i : Nat, c i < 127) (h0 : sI B 0 = nI L) (ht : ∀ i : Nat, i < L → sR B 2 i = nI (c i)) (h : FL e B ft S) : ∃ S' : St, df_X13_readAll_152 n G n S = G S' ∧ sI S' 12 = ft := by
  obtain ⟨ct, gr, PA, BY, OU, ap, hap, h⟩ := h
  obtain ⟨l1, l2, l3, l4⟩ := lnE_1 (c := c) (L := L) (p := ap) (by omega) hend
  have h7 := SR_7 h
  have e7 : pI S 7 (nI ap) = S := by
    have := pI_s S 7
    rw [h7] at this
    exact this
  refine ⟨_, (show df_X13_readAll_152 n G n S = df_X13_readAll_152 n G n (pI S 7 (nI ap)) by rw [e7]).trans (rd_152 G hL l2 ((SR_0 h).trans h0) (fun i hi => by rw [SR_r2 h]; exact ht i hi) hend l3 h127 (lnE c L ap - ap) ap n (by omega) (by omega) l4), ?_⟩
  show sI S 12 = ft
  exact SR_12 h
theorem rd_118F {n L e nS : Nat} {c : Nat → Nat} {B S : St} {ft : Int32} (G : St → Option St) (hn : 70000 < n) (hL : L ≤ 32768) (heL : e ≤ L) (hend : ∀ i : Nat, L ≤ i → c i = 10) (h127 : ∀ i : Nat, c i < 127) (h0 : sI B 0 = nI L) (ht : ∀ i : Nat, i < L → sR B 2 i = nI (c i)) (h16 : sI B 16 = nI nS) (hnS : nS < 11000) (h : FG e B ft S) (z : Int32) : ∃ S' : St, (if z = sI S 14 then df_X13_readAll_118 n G (sI S 16) S else df_X13_readAll_118 n G (-1) S) = G S' ∧ sI S' 12 = ft := by
  obtain ⟨B9, hF, i1, i2, i3, i4⟩ := h
  have h0' : sI B9 0 = nI L := i1.trans h0
  have ht' : ∀ i : Nat, i < L → sR B9 2 i = nI (c i) := fun i hi => by rw [i4]; exact ht i hi
  by_cases y : z = sI S 14
  · rw [if_pos y]
    obtain ⟨ct, gr, PA, BY, OU, ap, hap, hS⟩ := id hF
    have s16 : sI S 16 = nI nS := (SR_16 hS).trans (i3.trans h16)
    unfold df_X13_readAll_118
    rw [s16, if_neg (show ¬ nI nS < (0 : Int32) from znl (b := 0) (Nat.zero_le _) (by omega)), nb_let, nm_ck hnS (by omega)]
    have hF2 : FL e (pI B9 2 (sI S 2 + 1)) ft (pI S 2 (sI S 2 + 1)) := ⟨ct, gr, PA, BY, OU, ap, hap, SR_p2 hS _⟩
    by_cases u : sR (pI S 2 (sI S 2 + 1)) 5 (nI nS).toNatClampNeg = 0
    · rw [if_pos u, nm_ck hnS (by omega), nb_let]
      exact rd_F (B := pI B9 2 (sI S 2 + 1)) G hn hL heL hend h127 h0' ht' ⟨ct, gr, PA, _, OU, ap, hap, SR_w5 (SR_p2 hS (sI S 2 + 1)) _⟩
    · rw [if_neg u]
      exact rd_F (B := pI B9 2 (sI S 2 + 1)) G hn hL heL hend h127 h0' ht' hF2
  · rw [if_neg y]
    unfold df_X13_readAll_118
    rw [if_pos (show (-1 : Int32) < 0 by decide)]
    exact rd_F G hn hL heL hend h127 h0' ht' hF
/-- without a fault: to the next line -/
theorem rd_G {n L e : Nat} {c : Nat → Nat} {B S : St} {ct : Nat} {gr : Bool} {PA BY OU : Nat → Int32} {ap l : Nat} (G : St → Option St) (hn : 70000 < n) (hL : L ≤ 32768) (heL : e ≤ L) (hend : ∀ i : Nat, L ≤ i → c i = 10) (h127 : ∀ i : Nat, c i < 127) (hce : c e = 10) (h0 : sI B 0 = nI L) (ht : ∀ i : Nat, i < L → sR B 2 i = nI (c i)) (h13 : sI B 13 = nI l) (h : SR B ct gr PA BY OU 0 ap S) (hap : ap ≤ e) (hl : ∀ i : Nat, ap ≤ i → i < e → ¬ c i = 10) : ∃ S' : St, df_X13_readAll_152 n G n S = G S' ∧ SR (pI B 13 (nI (l + 1))) ct gr PA BY OU 0 (e + 1) S' := by
  have h7 := SR_7 h
  have e7 : pI S 7 (nI ap) = S := by
    have := pI_s S 7
    rw [h7] at this
    exact this
  refine ⟨_, (show df_X13_readAll_152 n G n S = df_X13_readAll_152 n G n (pI S 7 (nI ap)) by rw [e7]).trans (rd_152 G hL heL ((SR_0 h).trans h0) (fun i hi => by rw [SR_r2 h]; exact ht i hi) hend hce h127 (e - ap) ap n (by omega) (by omega) hl), ?_⟩
  rw [SR_13 h, h13, show nI l + 1 = nI (l + 1) from nI_add l 1]
  exact SR_p13 (SR_w7 h (e + 1)) (nI (l + 1))
/-- a statement is counted -/
theorem rd_118 {n L e nS : Nat} {c : Nat → Nat} {B S : St} {ct : Nat} {gr : Bool} {PA BY OU : Nat → Int32} {ap l : Nat} (G : St → Option St) (hn : 70000 < n) (hL : L ≤ 32768) (heL : e ≤ L) (hend : ∀ i : Nat, L ≤ i → c i = 10) (h127 : ∀ i : Nat, c i < 127) (hce : c e = 10) (h0 : sI B 0 = nI L) (ht : ∀ i : Nat, i < L → sR B 2 i = nI (c i)) (h13 : sI B 13 = nI l) (h16 : sI B 16 = nI nS) (h2 : sI B 2 = nI nS) (hnS : nS < 11000) (h : SR B ct gr PA BY OU 0 ap S) (hap : ap ≤ e) (hl : ∀ i : Nat, ap ≤ i → i < e → ¬ c i = 10) (z : Int32) (hz : z = sI B 14) : ∃ S' : St, (if z = sI S 14 then df_X13_readAll_118 n G (sI S 16) S else df_X13_readAll_118 n G (-1) S) = G S' ∧ SR (pI (pI B 2 (nI (nS + 1))) 13 (nI (l + 1))) ct gr PA (upd BY nS (if BY nS = 0 then nI ct else BY nS)) OU 0 (e + 1) S' := by
  rw [if_pos (hz.trans (SR_14 h).symm)]
  unfold df_X13_readAll_118
  rw [SR_16 h, h16, if_neg (show ¬ nI nS < (0 : Int32) from znl (b := 0) (Nat.zero_le _) (by omega)), SR_2 h, h2, show nI nS + 1 = nI (nS + 1) from nI_add nS 1, nb_let, nm_ck hnS (by omega), nI_clamp (by omega)]
  have h' := SR_p2 h (nI (nS + 1))
  rw [SR_r5 h', SR_18 h']
  by_cases u : BY nS = 0
  · rw [if_pos u, if_pos u, nm_ck hnS (by omega), nb_let]
    exact rd_G (B := pI B 2 (nI (nS + 1))) G hn hL heL hend h127 hce h0 ht h13 (SR_w5 h' _) hap hl
  · rw [if_neg u, if_neg u, upd_s rfl]
    exact rd_G (B := pI B 2 (nI (nS + 1))) G hn hL heL hend h127 hce h0 ht h13 h' hap hl
