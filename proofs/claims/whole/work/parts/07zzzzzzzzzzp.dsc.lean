/-- the class's description of a program: statements, labels -/
def dsS (SW R2 R3 : Nat → Int32) : Nat → Nat × (Nat → Int32) × (Nat → Int32)
  | 0 => (0, R2, R3)
  | i + 1 => if SW (8 * i + 3) ≤ 0 then dsS SW R2 R3 i else ((dsS SW R2 R3 i).1 + 1, upd (dsS SW R2 R3 i).2.1 (dsS SW R2 R3 i).1 (SW (8 * i + 2)), upd (dsS SW R2 R3 i).2.2 (dsS SW R2 R3 i).1 (SW (8 * i)))
def lcS (LB R1 : Nat → Int32) : Nat → Nat × (Nat → Int32)
  | 0 => (0, R1)
  | j + 1 => if LB (5 * j + 4) = 1 ∧ (lcS LB R1 j).1 < 10986 then ((lcS LB R1 j).1 + 1, upd (lcS LB R1 j).2 (lcS LB R1 j).1 (LB (5 * j + 2))) else lcS LB R1 j
theorem dsS_l {SW R2 R3 : Nat → Int32} : ∀ i : Nat, (dsS SW R2 R3 i).1 ≤ i := fun i => by
  induction i with
  | zero => exact Nat.le_refl _
  | succ i ih =>
    unfold dsS
    split
    · omega
    · show (dsS SW R2 R3 i).1 + 1 ≤ i + 1
      omega
theorem lcS_l {LB R1 : Nat → Int32} : ∀ j : Nat, (lcS LB R1 j).1 ≤ 10986 := fun j => by
  induction j with
  | zero => exact Nat.zero_le _
  | succ j ih =>
    unfold lcS
    split
    · rename_i h
      show (lcS LB R1 j).1 + 1 ≤ 10986
      omega
    · exact ih
/-- what a description is, field by field -/
def DSC (Pd P' : St) (k : Nat) (R2 R3 : Nat → Int32) (m : Nat) (R1 : Nat → Int32) : Prop := sI P' 5 = nI k ∧ sR P' 2 = R2 ∧ sR P' 3 = R3 ∧ sI P' 4 = nI m ∧ sR P' 1 = R1 ∧ (∀ j : Nat, ¬ j = 5 → ¬ j = 4 → sI P' j = sI Pd j) ∧ (∀ j : Nat, ¬ j = 1 → ¬ j = 2 → ¬ j = 3 → sR P' j = sR Pd j) ∧ P'.2.1 = Pd.2.1 ∧ P'.2.2.2 = Pd.2.2.2
theorem sR_pI {S : St} {k : Nat} {v : Int32} (j : Nat) : sR (pI S k v) j = sR S j := rfl
theorem sI_pR {S : St} {k : Nat} {f : Nat → Int32} (j : Nat) : sI (pR S k f) j = sI S j := rfl
theorem sI_ne {S : St} {k j : Nat} {v : Int32} (h : ¬ j = k) : sI (pI S k v) j = sI S j := if_neg h
theorem sR_ne {S : St} {k j : Nat} {f : Nat → Int32} (h : ¬ j = k) : sR (pR S k f) j = sR S j := if_neg h
theorem adS_1 {n : Nat} {Pd P' : St} {k : Nat} {R2 R3 : Nat → Int32} {m : Nat} {R1 : Nat → Int32} (h : DSC Pd P' k R2 R3 m R1) (hk : k < 8194) (a l : Int32) : ∃ P2 : St, df_X8_addStatement n a l P' = some P2 ∧ DSC Pd P2 (k + 1) (upd R2 k a) (upd R3 k l) m R1 := by
  obtain ⟨h5, h2, h3, h4, h1, hI, hR, e1, e2⟩ := h
  refine ⟨pI (pR (pR P' 2 (upd R2 k a)) 3 (upd R3 k l)) 5 (nI (k + 1)), ?_, rfl, ?_, ?_, ?_, ?_, fun j j5 j4 => ?_, fun j j1 j2 j3 => ?_, e1, e2⟩
  · unfold df_X8_addStatement df_X8_addStatement_0 df_X8_addStatement_42
    rw [h5, if_neg (show ¬ (8194 : Int32) ≤ nI k from znle (a := 8194) hk (by omega)), nm_ck hk (by omega), nI_clamp (by omega), h2, nb_let, sI_pR, h5, nm_ck hk (by omega), nI_clamp (by omega), sR_ne (show ¬ (3 : Nat) = 2 by decide), h3, nb_let, sI_pR, sI_pR, h5, show nI k + 1 = nI (k + 1) from nI_add k 1, nb_let]
  · rw [sR_pI, sR_ne (show ¬ (2 : Nat) = 3 by decide)]; exact pR_e
  · rw [sR_pI]; exact pR_e
  · rw [sI_ne (show ¬ (4 : Nat) = 5 by decide)]; exact h4
  · rw [sR_pI, sR_ne (show ¬ (1 : Nat) = 3 by decide), sR_ne (show ¬ (1 : Nat) = 2 by decide)]; exact h1
  · rw [sI_ne j5]; exact hI j j5 j4
  · rw [sR_pI, sR_ne j3, sR_ne j2]; exact hR j j1 j2 j3
theorem adL_1 {n : Nat} {Pd P' : St} {k : Nat} {R2 R3 : Nat → Int32} {m : Nat} {R1 : Nat → Int32} (h : DSC Pd P' k R2 R3 m R1) (hm : m ≤ 10986) (a : Int32) : ∃ P2 : St, df_X8_addLabel n a P' = some P2 ∧ DSC Pd P2 k R2 R3 (if m < 10986 then m + 1 else m) (if m < 10986 then upd R1 m a else R1) := by
  obtain ⟨h5, h2, h3, h4, h1, hI, hR, e1, e2⟩ := id h
  by_cases y : m < 10986
  · rw [if_pos y, if_pos y]
    refine ⟨pI (pR P' 1 (upd R1 m a)) 4 (nI (m + 1)), ?_, ?_, ?_, ?_, rfl, ?_, fun j j5 j4 => ?_, fun j j1 j2 j3 => ?_, e1, e2⟩
    · unfold df_X8_addLabel df_X8_addLabel_0 df_X8_addLabel_32
      rw [h4, if_neg (show ¬ (10986 : Int32) ≤ nI m from znle (a := 10986) y (by omega)), nm_ck y (by omega), nI_clamp (by omega), h1, nb_let, sI_pR, h4, show nI m + 1 = nI (m + 1) from nI_add m 1, nb_let]
    · rw [sI_ne (show ¬ (5 : Nat) = 4 by decide)]; exact h5
    · rw [sR_pI, sR_ne (show ¬ (2 : Nat) = 1 by decide)]; exact h2
    · rw [sR_pI, sR_ne (show ¬ (3 : Nat) = 1 by decide)]; exact h3
    · rw [sR_pI]; exact pR_e
    · rw [sI_ne j4]; exact hI j j5 j4
    · rw [sR_pI, sR_ne j1]; exact hR j j1 j2 j3
  · rw [if_neg y, if_neg y]
    refine ⟨P', ?_, h⟩
    unfold df_X8_addLabel df_X8_addLabel_0 df_X8_addLabel_32
    rw [h4, if_pos (show (10986 : Int32) ≤ nI m from zle (a := 10986) (by omega) (by omega))]
theorem ds_76 {n nl : Nat} {M Q U Pd : St} (h9 : sI U 9 = nI nl) (hnl : nl ≤ 16384) {k : Nat} {R2 R3 R1 : Nat → Int32} : ∀ (m j g : Nat) (P' : St), j + m = nl → m < g → DSC Pd P' k R2 R3 (lcS (sR U 6) R1 j).1 (lcS (sR U 6) R1 j).2 → ∃ P2 : St, df_X1_describe_76 n g (nI (5 * j)) (M, ((Q, U), P')) = some (M, ((Q, U), P2)) ∧ DSC Pd P2 k R2 R3 (lcS (sR U 6) R1 nl).1 (lcS (sR U 6) R1 nl).2 := fun m => by
  induction m with
  | zero =>
    intro j g P' h1 h2 h
    have : j = nl := by omega
    subst this
    obtain ⟨g, rfl⟩ : ∃ k : Nat, g = k + 1 := ⟨g - 1, by omega⟩
    refine ⟨P', ?_, h⟩
    show dF_X1_describe_76 n (df_X1_describe_76 n g) (nI (5 * j)) (M, ((Q, U), P')) = _
    unfold dF_X1_describe_76
    rw [show sI ((M, ((Q, U), P')) : St × (St × St) × St).2.1.2 9 = nI j from h9, show nI j * 5 = nI (5 * j) from by rw [show (5 : Int32) = nI 5 from rfl, pk_mul, Nat.mul_comm], if_pos (zle (Nat.le_refl _) (by omega))]
  | succ m ih =>
    intro j g P' h1 h2 h
    obtain ⟨g, rfl⟩ : ∃ k : Nat, g = k + 1 := ⟨g - 1, by omega⟩
    have go : ∀ P3 : St, DSC Pd P3 k R2 R3 (lcS (sR U 6) R1 (j + 1)).1 (lcS (sR U 6) R1 (j + 1)).2 → ∃ P2 : St, df_X1_describe_119 n (df_X1_describe_76 n g) (nI (5 * j)) (M, ((Q, U), P3)) = some (M, ((Q, U), P2)) ∧ DSC Pd P2 k R2 R3 (lcS (sR U 6) R1 nl).1 (lcS (sR U 6) R1 nl).2 := fun P3 h3 => by
      obtain ⟨P2, r1, r2⟩ := ih (j + 1) g P3 (by omega) (by omega) h3
      refine ⟨P2, ?_, r2⟩
      unfold df_X1_describe_119
      rw [nb_let, show nI (5 * j) + Int32.ofInt 5 = nI (5 * j + 5) from nI_add (5 * j) 5]
      exact r1
    have hl := lcS_l (LB := sR U 6) (R1 := R1) j
    show ∃ P2 : St, dF_X1_describe_76 n (df_X1_describe_76 n g) (nI (5 * j)) (M, ((Q, U), P')) = _ ∧ _
    unfold dF_X1_describe_76
    rw [show sI ((M, ((Q, U), P')) : St × (St × St) × St).2.1.2 9 = nI nl from h9, show nI nl * 5 = nI (5 * nl) from by rw [show (5 : Int32) = nI 5 from rfl, pk_mul, Nat.mul_comm], if_neg (znle (show 5 * j < 5 * nl by omega) (by omega)), show nI (5 * j) + 4 = nI (5 * j + 4) from nI_add (5 * j) 4, show nI (5 * j) + 2 = nI (5 * j + 2) from nI_add (5 * j) 2, nm_ck (by omega) (by omega), nI_clamp (by omega)]
    by_cases y : sR U 6 (5 * j + 4) = 1
    · rw [if_pos (show sR ((M, ((Q, U), P')) : St × (St × St) × St).2.1.2 6 (5 * j + 4) = 1 from y), nm_ck (by omega) (by omega), nI_clamp (by omega)]
      obtain ⟨P3, r1, r2⟩ := adL_1 (n := n) h hl (sR U 6 (5 * j + 2))
      rw [show df_X8_addLabel n (sR ((M, ((Q, U), P')) : St × (St × St) × St).2.1.2 6 (5 * j + 2)) ((M, ((Q, U), P')) : St × (St × St) × St).2.2 = some P3 from r1, nb_b1, nb_let]
      refine go P3 ?_
      by_cases w : (lcS (sR U 6) R1 j).1 < 10986
      · have e : lcS (sR U 6) R1 (j + 1) = ((lcS (sR U 6) R1 j).1 + 1, upd (lcS (sR U 6) R1 j).2 (lcS (sR U 6) R1 j).1 (sR U 6 (5 * j + 2))) := if_pos ⟨y, w⟩
        rw [if_pos w, if_pos w] at r2
        rw [e]
        exact r2
      · have e : lcS (sR U 6) R1 (j + 1) = lcS (sR U 6) R1 j := if_neg (fun z => w z.2)
        rw [if_neg w, if_neg w] at r2
        rw [e]
        exact r2
    · rw [if_neg (show ¬ sR ((M, ((Q, U), P')) : St × (St × St) × St).2.1.2 6 (5 * j + 4) = 1 from y)]
      have e : lcS (sR U 6) R1 (j + 1) = lcS (sR U 6) R1 j := if_neg (fun z => y z.1)
      refine go P' ?_
      rw [e]
      exact h
theorem ds_26 {n nl sn : Nat} {M Q U Pd : St} (hn : 70000 < n) (h0 : sI Q 0 = nI sn) (hsn : sn ≤ 8194) (h9 : sI U 9 = nI nl) (hnl : nl ≤ 16384) {R2 R3 R1 : Nat → Int32} : ∀ (m i g : Nat) (P' : St), i + m = sn → m < g → DSC Pd P' (dsS (sR Q 0) R2 R3 i).1 (dsS (sR Q 0) R2 R3 i).2.1 (dsS (sR Q 0) R2 R3 i).2.2 0 R1 → ∃ P2 : St, df_X1_describe_26 n g (nI (8 * i)) (M, ((Q, U), P')) = some (M, ((Q, U), P2)) ∧ DSC Pd P2 (dsS (sR Q 0) R2 R3 sn).1 (dsS (sR Q 0) R2 R3 sn).2.1 (dsS (sR Q 0) R2 R3 sn).2.2 (lcS (sR U 6) R1 nl).1 (lcS (sR U 6) R1 nl).2 := fun m => by
  induction m with
  | zero =>
    intro i g P' h1 h2 h
    have : i = sn := by omega
    subst this
    obtain ⟨g, rfl⟩ : ∃ k : Nat, g = k + 1 := ⟨g - 1, by omega⟩
    obtain ⟨P2, r1, r2⟩ := ds_76 (n := n) (M := M) (Q := Q) (U := U) (R1 := R1) h9 hnl nl 0 n P' (by omega) (by omega) h
    refine ⟨P2, ?_, r2⟩
    show dF_X1_describe_26 n (df_X1_describe_26 n g) (nI (8 * i)) (M, ((Q, U), P')) = _
    unfold dF_X1_describe_26
    rw [show sI ((M, ((Q, U), P')) : St × (St × St) × St).2.1.1 0 = nI i from h0, ix8z i, if_pos (zle (Nat.le_refl _) (by omega))]
    exact r1
  | succ m ih =>
    intro i g P' h1 h2 h
    obtain ⟨g, rfl⟩ : ∃ k : Nat, g = k + 1 := ⟨g - 1, by omega⟩
    have hl := dsS_l (SW := sR Q 0) (R2 := R2) (R3 := R3) i
    have go : ∀ P3 : St, DSC Pd P3 (dsS (sR Q 0) R2 R3 (i + 1)).1 (dsS (sR Q 0) R2 R3 (i + 1)).2.1 (dsS (sR Q 0) R2 R3 (i + 1)).2.2 0 R1 → ∃ P2 : St, df_X1_describe_68 n (df_X1_describe_26 n g) (nI (8 * i)) (M, ((Q, U), P3)) = some (M, ((Q, U), P2)) ∧ DSC Pd P2 (dsS (sR Q 0) R2 R3 sn).1 (dsS (sR Q 0) R2 R3 sn).2.1 (dsS (sR Q 0) R2 R3 sn).2.2 (lcS (sR U 6) R1 nl).1 (lcS (sR U 6) R1 nl).2 := fun P3 h3 => by
      obtain ⟨P2, r1, r2⟩ := ih (i + 1) g P3 (by omega) (by omega) h3
      refine ⟨P2, ?_, r2⟩
      unfold df_X1_describe_68
      rw [nb_let, show nI (8 * i) + Int32.ofInt 8 = nI (8 * i + 8) from nI_add (8 * i) 8]
      exact r1
    show ∃ P2 : St, dF_X1_describe_26 n (df_X1_describe_26 n g) (nI (8 * i)) (M, ((Q, U), P')) = _ ∧ _
    unfold dF_X1_describe_26
    rw [show sI ((M, ((Q, U), P')) : St × (St × St) × St).2.1.1 0 = nI sn from h0, ix8z sn, if_neg (znle (show 8 * i < 8 * sn by omega) (by omega)), show nI (8 * i) + 3 = nI (8 * i + 3) from nI_add (8 * i) 3, show nI (8 * i) + 2 = nI (8 * i + 2) from nI_add (8 * i) 2, show nI (8 * i) + 0 = nI (8 * i + 0) from nI_add (8 * i) 0, nm_ck (by omega) (by omega), nI_clamp (by omega)]
    by_cases y : sR Q 0 (8 * i + 3) ≤ 0
    · rw [if_pos (show sR ((M, ((Q, U), P')) : St × (St × St) × St).2.1.1 0 (8 * i + 3) ≤ 0 from y)]
      have e : dsS (sR Q 0) R2 R3 (i + 1) = dsS (sR Q 0) R2 R3 i := if_pos y
      refine go P' ?_
      rw [e]
      exact h
    · rw [if_neg (show ¬ sR ((M, ((Q, U), P')) : St × (St × St) × St).2.1.1 0 (8 * i + 3) ≤ 0 from y), nm_ck (by omega) (by omega), nm_ck (by omega) (by omega), nI_clamp (by omega), nI_clamp (by omega)]
      obtain ⟨P3, r1, r2⟩ := adS_1 (n := n) h (by omega) (sR Q 0 (8 * i + 2)) (sR Q 0 (8 * i))
      rw [show df_X8_addStatement n (sR ((M, ((Q, U), P')) : St × (St × St) × St).2.1.1 0 (8 * i + 2)) (sR ((M, ((Q, U), P')) : St × (St × St) × St).2.1.1 0 (8 * i + 0)) ((M, ((Q, U), P')) : St × (St × St) × St).2.2 = some P3 from r1, nb_b1, nb_let]
      have e : dsS (sR Q 0) R2 R3 (i + 1) = ((dsS (sR Q 0) R2 R3 i).1 + 1, upd (dsS (sR Q 0) R2 R3 i).2.1 (dsS (sR Q 0) R2 R3 i).1 (sR Q 0 (8 * i + 2)), upd (dsS (sR Q 0) R2 R3 i).2.2 (dsS (sR Q 0) R2 R3 i).1 (sR Q 0 (8 * i))) := if_neg y
      refine go P3 ?_
      rw [e]
      exact r2
/-- describe(), all of it -/
theorem dsC {n nl sn : Nat} {M Q U P : St} (hn : 70000 < n) (h0 : sI Q 0 = nI sn) (hsn : sn ≤ 8194) (h9 : sI U 9 = nI nl) (hnl : nl ≤ 16384) : ∃ P2 : St, df_X1_describe n (M, ((Q, U), P)) = some (M, ((Q, U), P2)) ∧ DSC (pI (pI (pI (pI P 0 (sI Q 7)) 1 (sI Q 8)) 2 (sI Q 9)) 3 (sI Q 6)) P2 (dsS (sR Q 0) (sR P 2) (sR P 3) sn).1 (dsS (sR Q 0) (sR P 2) (sR P 3) sn).2.1 (dsS (sR Q 0) (sR P 2) (sR P 3) sn).2.2 (lcS (sR U 6) (sR P 1) nl).1 (lcS (sR U 6) (sR P 1) nl).2 := by
  have hD : DSC (pI (pI (pI (pI P 0 (sI Q 7)) 1 (sI Q 8)) 2 (sI Q 9)) 3 (sI Q 6)) (pI (pI (pI (pI (pI (pI P 0 (sI Q 7)) 1 (sI Q 8)) 2 (sI Q 9)) 4 0) 5 0) 3 (sI Q 6)) 0 (sR P 2) (sR P 3) 0 (sR P 1) := by
    refine ⟨rfl, rfl, rfl, rfl, rfl, fun j j5 j4 => ?_, fun _ _ _ _ => rfl, rfl, rfl⟩
    by_cases y : j = 3
    · subst y; rfl
    · rw [sI_ne y, sI_ne y, sI_ne j5, sI_ne j4]
  obtain ⟨P2, r1, r2⟩ := ds_26 (n := n) (M := M) (Q := Q) (U := U) (R2 := sR P 2) (R3 := sR P 3) (R1 := sR P 1) hn h0 hsn h9 hnl sn 0 n _ (by omega) (by omega) hD
  exact ⟨P2, r1, r2⟩
