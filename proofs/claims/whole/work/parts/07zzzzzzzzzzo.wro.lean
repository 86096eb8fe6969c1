/-- the reference: the row is emptied, then written -/
def zrL (OU : Nat → Int32) (a k : Nat) : Nat → Int32 := fun i => if a ≤ i ∧ i < a + k then 0 else OU i
theorem zrL_0 {OU : Nat → Int32} {a : Nat} : zrL OU a 0 = OU := funext fun i => if_neg (by omega)
theorem zrL_s {OU : Nat → Int32} {a k : Nat} : upd (zrL OU a k) (a + k) 0 = zrL OU a (k + 1) := funext fun i => by
  unfold zrL
  by_cases y : i = a + k
  · subst y
    rw [up_e, if_pos (show a ≤ a + k ∧ a + k < a + (k + 1) by omega)]
  · rw [up_n y]
    by_cases z : a ≤ i ∧ i < a + k
    · rw [if_pos z, if_pos (show a ≤ i ∧ i < a + (k + 1) by omega)]
    · rw [if_neg z, if_neg (show ¬ (a ≤ i ∧ i < a + (k + 1)) by omega)]
theorem all_R {n : Nat} {B : St} {ct : Nat} {gr : Bool} {PA BY OU : Nat → Int32} {ft : Int32} {ap : Nat} {S : St} (h : SR B ct gr PA BY OU ft ap S) {t d : Nat} (h1 : sI B 1 = 1) (h4 : sI B 4 = nI t) (h5 : sI B 5 = nI d) (hb : t + d ≤ 2 ^ 30) : df_X13_all n S = some (nI (szA (t, d)), S) := by
  have k1 : sI S 1 = 1 := (SR_1 h).trans h1
  have k4 : sI S 4 = nI t := (SR_4 h).trans h4
  have k5 : sI S 5 = nI d := (SR_5 h).trans h5
  unfold df_X13_all df_X13_all_0 df_X13_all_34 df_X13_base df_X13_base_0
  rw [if_neg (show ¬ sI S 1 = 0 by rw [k1]; decide), k5, k4, nb_b2, k5]
  have e1 : ((((nI t + 1023) / 1024) * 1024 : Int32)) = nI (bsN t) := bs_R (by omega)
  rw [e1, ← szA_n (t := t) (d := d) hb]
  split <;> rfl
theorem wr_2 {n : Nat} {B : St} {ct : Nat} {gr : Bool} {PA BY OU : Nat → Int32} {ap t d fm : Nat} (h1 : sI B 1 = 1) (h4 : sI B 4 = nI t) (h5 : sI B 5 = nI d) (hb : t + d ≤ 2 ^ 30) (hfm : fm + szA (t, d) ≤ 131072) : ∀ (m x g : Nat) (S : St), x + m = szA (t, d) → m < g → SR B ct gr PA BY (zrL OU fm x) 0 ap S → ∃ S' : St, df_X13_put__2 n g (nI fm) (nI x) S = df_X13_put__35 n n (nI fm) 1 0 0 (pO S' 0 (some 11)) ∧ SR B ct gr PA BY (zrL OU fm (szA (t, d))) 0 ap S' := fun m => by
  induction m with
  | zero =>
    intro x g S e1 e2 h
    obtain ⟨g, rfl⟩ : ∃ k : Nat, g = k + 1 := ⟨g - 1, by omega⟩
    have : x = szA (t, d) := by omega
    subst this
    refine ⟨S, ?_, h⟩
    show dF_X13_put__2 n (df_X13_put__2 n g) (nI fm) (nI (szA (t, d))) S = _
    unfold dF_X13_put__2
    rw [all_R h h1 h4 h5 hb, nb_b2, if_pos (zle (Nat.le_refl _) (by omega)), nb_let]
  | succ m ih =>
    intro x g S e1 e2 h
    obtain ⟨g, rfl⟩ : ∃ k : Nat, g = k + 1 := ⟨g - 1, by omega⟩
    have h9 := SR_w9 h (upd (zrL OU fm x) (fm + x) 0)
    rw [zrL_s] at h9
    obtain ⟨S', r1, r2⟩ := ih (x + 1) g _ (by omega) (by omega) h9
    refine ⟨S', ?_, r2⟩
    show dF_X13_put__2 n (df_X13_put__2 n g) (nI fm) (nI x) S = _
    unfold dF_X13_put__2
    rw [all_R h h1 h4 h5 hb, nb_b2, if_neg (znle (show x < szA (t, d) by omega) (by omega)), nI_add, nm_ck (by omega) (by omega), nI_clamp (by omega), SR_r9 h, nb_let, nb_let, show nI x + Int32.ofInt 1 = nI (x + 1) from nI_add x 1, zrL_s]
    exact r1
/-- all of put(row, from) -/
theorem wr_J {n L : Nat} {c : Nat → Nat} {B0 : St} (hX : TXT n L c B0) {X : Nat → Nat} {nL nS Tz dz : Nat} {OF W : Nat → Int32} (hK : XOK L c X nL) {BY PA : Nat → Int32} {Ds : Nat → Dt} {Qs Es Zs Fs N0 AA of lv Ls ad sz : Nat → Nat} {BB : Nat → List Int32} {fm : Nat} (hf9 : fm ≤ 98304) (hnS : nS ≤ 8200) (hT : Tz + dz ≤ 2 ^ 30) (hst : ∀ s : Nat, s < nS → SRD n L c X nL W BY s (Ds s) (Qs s) (Es s) (Zs s) (Fs s) (N0 s) (AA s) ∧ PA s = nI (AA s * 2 ^ 17 + Qs s) ∧ OF s = nI (of s) ∧ Ls s = nlC c (Qs s) + 1 ∧ AA s % 4 = lv s ∧ ZK (Ds s) (BY s) (Fs s) (lv s) ∧ ad s = of s + (if Zs s = 1 then bsN Tz else 0) ∧ sz s = szN (Ds s) (BY s) (lv s) (of s) ∧ sZ (Ds s) (lv s) ≤ sz s ∧ ad s + sz s ≤ 32768 ∧ BB s = sB (Ds s) (VV c X (Es s) nL (Qs s) (nI Tz) (nI (ad s)) W) (nI (ad s)) (lv s) ∧ ∀ t : Nat, t < s → Qs t < Qs s) {B S : St} {OU : Nat → Int32} {ct ap : Nat} {gr : Bool} (hB : RBd L c X nL nS Tz OF W B) (h1 : sI B 1 = 1) (h5 : sI B 5 = nI dz) (hz : szA (Tz, dz) ≤ 32768) (h : SR B ct gr PA BY OU 0 ap S) : ∃ (B' S' : St) (ct' ap' : Nat) (gr' : Bool), df_X13_put_ n (nI fm) S = some S' ∧ RBd L c X nL nS Tz OF W B' ∧ SR B' ct' gr' PA BY (rmR (zrL OU fm (szA (Tz, dz))) fm ad BB sz Ls nS) 0 ap' S' ∧ sI B' 1 = 1 ∧ sI B' 5 = nI dz := by
  have hn := hX.1
  have h0 : SR B ct gr PA BY (zrL OU fm 0) 0 ap S := by rw [zrL_0]; exact h
  obtain ⟨S1, r1, r2⟩ := wr_2 (n := n) (t := Tz) (d := dz) (fm := fm) h1 hB.2.2.2.2.2.1 h5 hT (by omega) (szA (Tz, dz)) 0 n S (by omega) (by omega) h0
  have hB1 : RBd L c X nL nS Tz OF W (pO B 0 (some 11)) := hB
  obtain ⟨B', S', ct', ap', gr', z1, z2, z3, z4, z5, z6⟩ := wr_35 hX hK hf9 hnS (by omega) hst (zrL OU fm (szA (Tz, dz))) nS 0 0 n (pO B 0 (some 11)) (pO S1 0 (some 11)) ct ap gr (by omega) (by omega) (fun _ => Nat.zero_le _) hB1 rfl (SR_pO r2 (some 11))
  exact ⟨B', S', ct', ap', gr', r1.trans z1, z2, z4, z5.trans h1, z6.trans h5⟩
