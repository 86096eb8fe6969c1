theorem pI_33 {Q : St} {u v : Int32} : pI (pI Q 3 u) 3 v = pI Q 3 v := Prod.ext (funext fun j => by
  show (if j = 3 then v else if j = 3 then u else Q.1 j) = if j = 3 then v else Q.1 j
  split <;> rfl) rfl
/-- which method puts a statement -/
def ptK (n i kd : Nat) (s : St × (St × St) × St) : Option (St × (St × St) × St) := if kd = 0 then df_X1_putPlain n (nI (8 * i)) s else if kd = 1 ∨ kd = 2 then df_X1_putGrown n (nI (8 * i)) s else if kd = 3 then df_X1_putAddress n (nI (8 * i)) s else if kd = 4 then df_X1_putNumber n (nI (8 * i)) s else if kd = 5 then df_X1_putList n (nI (8 * i)) s else if kd = 6 then df_X1_putTexts n (nI (8 * i)) s else some s
theorem pA_0 {n g i sn : Nat} {M Q U P : St} (h0 : sI Q 0 = nI sn) (hsn : sn ≤ 8194) (hi : i < 2 ^ 30) (h : sn ≤ i ∨ ¬ sI Q 2 = 0) : df_X1_putAll_10 n (g + 1) (nI i) (M, ((Q, U), P)) = some (M, ((Q, U), P)) := by
  show dF_X1_putAll_10 n (df_X1_putAll_10 n g) (nI i) (M, ((Q, U), P)) = _
  unfold dF_X1_putAll_10 df_X1_putAll_152
  rw [show sI ((M, ((Q, U), P)) : St × (St × St) × St).2.1.1 0 = nI sn from h0]
  by_cases y : sn ≤ i
  · rw [if_pos (zle y (by omega))]
  · rw [if_neg (znle (show i < sn by omega) (by omega)), if_neg (show ¬ sI ((M, ((Q, U), P)) : St × (St × St) × St).2.1.1 2 = 0 from h.resolve_left y)]
theorem pA_1 {n g i sn kd : Nat} {M Q U P : St} {ln : Int32} (h0 : sI Q 0 = nI sn) (hsn : sn ≤ 8194) (hi : i < sn) (h2 : sI Q 2 = 0) (r0 : sR Q 0 (8 * i) = ln) (r4 : sR Q 0 (8 * i + 4) = nI kd) (hk : kd ≤ 8) : df_X1_putAll_10 n (g + 1) (nI i) (M, ((Q, U), P)) = nd_b1 (ptK n i kd (M, ((pI Q 3 ln, U), P))) (fun s => df_X1_putAll_10 n g (nI (i + 1)) s) := by
  show dF_X1_putAll_10 n (df_X1_putAll_10 n g) (nI i) (M, ((Q, U), P)) = _
  unfold dF_X1_putAll_10 df_X1_putAll_101 df_X1_putAll_146
  rw [show sI ((M, ((Q, U), P)) : St × (St × St) × St).2.1.1 0 = nI sn from h0, if_neg (znle hi (by omega)), if_pos (show sI ((M, ((Q, U), P)) : St × (St × St) × St).2.1.1 2 = 0 from h2), ix8z i, nb_let, show nI (8 * i) + 0 = nI (8 * i + 0) from nI_add (8 * i) 0, show nI (8 * i) + 4 = nI (8 * i + 4) from nI_add (8 * i) 4, nm_ck (by omega) (by omega), nb_let, nm_ck (by omega) (by omega), nI_clamp (by omega), nI_clamp (by omega)]
  rw [show sR ((M, ((Q, U), P)) : St × (St × St) × St).2.1.1 0 (8 * i + 0) = ln from r0]
  rw [show sR ((M, ((pI Q 3 ln, U), P)) : St × (St × St) × St).2.1.1 0 (8 * i + 4) = nI kd from r4]
  have st : ∀ s : St × (St × St) × St, nd_let (nI i + Int32.ofInt 1) (fun (z12 : Int32) => df_X1_putAll_10 n g z12 s) = df_X1_putAll_10 n g (nI (i + 1)) s := fun s => by
    rw [nb_let, show nI i + Int32.ofInt 1 = nI (i + 1) from nI_add i 1]
  simp only [st]
  unfold ptK
  by_cases d0 : kd = 0
  · rw [if_pos (show nI kd = 0 from congrArg nI d0), if_pos d0]
  rw [if_neg (show ¬ nI kd = 0 from zne (b := 0) d0 (by omega) (by omega)), if_neg d0]
  by_cases d1 : kd = 1
  · rw [if_pos (show nI kd = 1 from congrArg nI d1), if_pos (show kd = 1 ∨ kd = 2 from Or.inl d1)]
  rw [if_neg (show ¬ nI kd = 1 from zne (b := 1) d1 (by omega) (by omega))]
  by_cases d2 : kd = 2
  · rw [if_pos (show nI kd = 2 from congrArg nI d2), if_pos (show kd = 1 ∨ kd = 2 from Or.inr d2)]
  rw [if_neg (show ¬ nI kd = 2 from zne (b := 2) d2 (by omega) (by omega)), if_neg (show ¬ (kd = 1 ∨ kd = 2) by omega)]
  by_cases d3 : kd = 3
  · rw [if_pos (show nI kd = 3 from congrArg nI d3), if_pos d3]
  rw [if_neg (show ¬ nI kd = 3 from zne (b := 3) d3 (by omega) (by omega)), if_neg d3]
  by_cases d4 : kd = 4
  · rw [if_pos (show nI kd = 4 from congrArg nI d4), if_pos d4]
  rw [if_neg (show ¬ nI kd = 4 from zne (b := 4) d4 (by omega) (by omega)), if_neg d4]
  by_cases d5 : kd = 5
  · rw [if_pos (show nI kd = 5 from congrArg nI d5), if_pos d5]
  rw [if_neg (show ¬ nI kd = 5 from zne (b := 5) d5 (by omega) (by omega)), if_neg d5]
  by_cases d6 : kd = 6
  · rw [if_pos (show nI kd = 6 from congrArg nI d6), if_pos d6]
  rw [if_neg (show ¬ nI kd = 6 from zne (b := 6) d6 (by omega) (by omega)), if_neg d6, nb_b1]
theorem lay_m {Ds : Nat → Dt} {Zs : Nat → Nat} {BY : Nat → Int32} {lv : Nat → Nat} : ∀ (j s : Nat), (lay Ds Zs BY lv s).1 ≤ (lay Ds Zs BY lv (s + j)).1 ∧ (lay Ds Zs BY lv s).2 ≤ (lay Ds Zs BY lv (s + j)).2 := fun j => by
  induction j with
  | zero => intro s; exact ⟨Nat.le_refl _, Nat.le_refl _⟩
  | succ j ih =>
    intro s
    obtain ⟨i1, i2⟩ := ih s
    show _ ≤ (if Zs (s + j) = 1 then ((lay Ds Zs BY lv (s + j)).1, _) else (_, (lay Ds Zs BY lv (s + j)).2) : Nat × Nat).1 ∧ _ ≤ (if Zs (s + j) = 1 then ((lay Ds Zs BY lv (s + j)).1, _) else (_, (lay Ds Zs BY lv (s + j)).2) : Nat × Nat).2
    by_cases y : Zs (s + j) = 1
    · rw [if_pos y]; exact ⟨i1, Nat.le_trans i2 (Nat.le_add_right _ _)⟩
    · rw [if_neg y]; exact ⟨Nat.le_trans i1 (Nat.le_add_right _ _), i2⟩
/-- every statement lies in the image -/
def szA (l : Nat × Nat) : Nat := if l.2 = 0 then l.1 else bsN l.1 + l.2
theorem ad_ok {Ds : Nat → Dt} {Zs : Nat → Nat} {BY : Nat → Int32} {lv : Nat → Nat} {nS s : Nat} (hs : s < nS) (h : szA (lay Ds Zs BY lv nS) ≤ 32768) : adN Zs (ofs Ds Zs BY lv) (lay Ds Zs BY lv nS).1 s + szN (Ds s) (BY s) (lv s) (ofs Ds Zs BY lv s) ≤ 32768 := by
  have h1 := lay_m (Ds := Ds) (Zs := Zs) (BY := BY) (lv := lv) (nS - (s + 1)) (s + 1)
  rw [show s + 1 + (nS - (s + 1)) = nS by omega] at h1
  unfold szA at h
  unfold adN ofs
  by_cases y : Zs s = 1
  · have e : lay Ds Zs BY lv (s + 1) = ((lay Ds Zs BY lv s).1, (lay Ds Zs BY lv s).2 + szN (Ds s) (BY s) (lv s) (lay Ds Zs BY lv s).2) := if_pos y
    rw [e] at h1
    have h1 : (lay Ds Zs BY lv s).1 ≤ (lay Ds Zs BY lv nS).1 ∧ (lay Ds Zs BY lv s).2 + szN (Ds s) (BY s) (lv s) (lay Ds Zs BY lv s).2 ≤ (lay Ds Zs BY lv nS).2 := h1
    rw [if_pos y, if_pos y]
    by_cases w : (lay Ds Zs BY lv nS).2 = 0
    · rw [if_pos w] at h
      unfold bsN
      omega
    · rw [if_neg w] at h
      omega
  · have e : lay Ds Zs BY lv (s + 1) = ((lay Ds Zs BY lv s).1 + szN (Ds s) (BY s) (lv s) (lay Ds Zs BY lv s).1, (lay Ds Zs BY lv s).2) := if_neg y
    rw [e] at h1
    have h1 : (lay Ds Zs BY lv s).1 + szN (Ds s) (BY s) (lv s) (lay Ds Zs BY lv s).1 ≤ (lay Ds Zs BY lv nS).1 ∧ (lay Ds Zs BY lv s).2 ≤ (lay Ds Zs BY lv nS).2 := h1
    rw [if_neg y, if_neg y]
    by_cases w : (lay Ds Zs BY lv nS).2 = 0
    · rw [if_pos w] at h
      omega
    · rw [if_neg w] at h
      unfold bsN at h
      omega
theorem PUTD_c {M Q P : St} {cs nl ns : Nat} {C A NM NR LB : Nat → Int32} {ad F F' : Nat} {bsx bsx' : List Int32} {U : St} {f : Nat → Int32} {r : Option (St × (St × St) × St)} (h1 : F = F') (h2 : F = 0 → bsx = bsx') (h : PUTD M Q P cs nl ns C A NM NR LB ad F bsx U f r) : PUTD M Q P cs nl ns C A NM NR LB ad F' bsx' U f r := by
  subst h1
  obtain ⟨U', f', a1, a2, a3, a4, a5⟩ := h
  exact ⟨U', f', a1, a2, a3, a4, fun z => by rw [← h2 z]; exact a5 z⟩
/-- one statement is put, in the class -/
theorem PT1 {n L : Nat} {c X : Nat → Nat} {nL : Nat} {Wz SW0 LW C A : Nat → Int32} {ns : Nat} {bs ws : Nat → Nat} {cs lu i : Nat} {pa bb : Int32} {D : Dt} {q e se ln fl n0 : Nat} {NP : Nat → Int32} (hn : 70000 < n) (hs : STr n L c X nL Wz SW0 LW C A ns bs ws cs lu i pa bb D q e se ln fl n0 NP) (hlu : lu ≤ 32832) {l : Nat} (hz : ZK D bb fl l) (d9 : ¬ D.1 = 9) {Q : St} (rr : ∀ x : Nat, x < 8 → ¬ x = 2 → ¬ x = 3 → sR Q 0 (8 * i + x) = SW0 (8 * i + x)) {ad off : Nat} (r2 : sR Q 0 (8 * i + 2) = nI ad) (r3 : sR Q 0 (8 * i + 3) = nI (szN D bb l off)) (hL1 : sR Q 1 = LW) (ha : ad + szN D bb l off ≤ 32768) (hi : i < 8194) (h2 : sI Q 2 = 0) {nl : Nat} {NM NR LB W : Nat → Int32} {ts : Int32} (hT : ∀ U : St, URD U cs nl ns C A NM NR LB → TT c X nL q ts W NP ns bs ws U) {U : St} (hU : URD U cs nl ns C A NM NR LB) (M P : St) (f : Nat → Int32) : PUTD M Q P cs nl ns C A NM NR LB ad (sF D (VV c X e nL q ts (nI ad) W) (nI ad) l) (sB D (VV c X e nL q ts (nI ad) W) (nI ad) l) U f (ptK n i D.1 (M, ((Q, U), pR P 0 f))) := by
  obtain ⟨c1, c2, c3, c4, c5, c6, c6', c7, c8, c9, c10, c11, c12, c13⟩ := hs
  obtain ⟨z1, z2, z3, z4, z5⟩ := sz_1 hz off
  rcases c13 with z | ⟨z, le, b, cd, lt, s0, s1, u0, u1, w0, w1, w3, w4, w5, w6, w7, w8, w9, w10⟩
  · exact absurd z.1 d9
  rw [Nat.mul_comm i 8] at w0 w1 w3 w4 w5 w6 w7
  have v4 := (rr 4 (by omega) (by omega) (by omega)).trans w4
  have v5 := (rr 5 (by omega) (by omega) (by omega)).trans w5
  have v6 := (rr 6 (by omega) (by omega) (by omega)).trans w6
  have v7 := (rr 7 (by omega) (by omega) (by omega)).trans w7
  have ev : cd = nI s0 → CDo NP c e ns bs ws C A s0 D.2.2.2.1 s1 → (∃ (m : Nat) (P : Nat → Tp), D.2.2.2.1 = [(m, P)]) → ∃ S' : Nat → Int32, df_X9_evaluate n cd (nI ad) U = some (zV (VV c X e nL q ts (nI ad) W) (dQ D) (dN D), vC U 1 (trO (mV (VV c X e nL q ts (nI ad) W) (dQ D) (dN D)) (dV (VV c X e nL q ts (nI ad) W) (dQ D) (dN D))) S') := fun e1 e2 e3 => by
    obtain ⟨m, P', e3⟩ := e3
    have eQ : dQ D = P' := by unfold dQ; rw [e3]
    have eN : dN D = m := by unfold dN; rw [e3]
    rw [e3] at e2
    obtain ⟨⟨f1, f2, f3, f4⟩, f5⟩ := e2
    have f4 : s0 + m + 1 = s1 := f4
    rw [eQ, eN, e1]
    exact ev_C hn hU (hT U hU) f1 f2 (by omega) (f5 (m, P') (List.mem_singleton.mpr rfl))
  generalize hV : VV c X e nL q ts (nI ad) W = V at *
  rcases w8 with h | h | h | h | h | h | h | h | h
  · obtain ⟨k1, k2, k3, k4, k5, k6, k7, k8⟩ := h
    have le1 : nI (szN D bb l off) = le := (z5 (by omega) (by omega) (by omega)).trans k5
    obtain ⟨len, hlen, e1, e2⟩ : ∃ len : Nat, (len = 2 ∨ len = 4) ∧ le = nI len ∧ (len = 4 ↔ D.2.1 &&& 3 = 3) := by
      by_cases y : D.2.1 &&& 3 = 3
      · exact ⟨4, Or.inr rfl, by rw [k4, if_pos y], fun _ => y, fun _ => rfl⟩
      · exact ⟨2, Or.inl rfl, by rw [k4, if_neg y], fun w => absurd w (by decide), fun w => absurd w y⟩
    have hsz : szN D bb l off = len := by
      rw [e1] at le1
      exact (nI_eq (by omega) (by omega)).mp le1
    rw [hsz] at ha r3
    have := ptP (M := M) (P := P) hn hU h2 hi r2 r3 v5 v6 (v7.trans k6) k7 hlen ha (fun l0 => ev (k8 l0).1 (k8 l0).2.1 (k8 l0).2.2) f
    have eK : ptK n i D.1 (M, ((Q, U), pR P 0 f)) = df_X1_putPlain n (nI (8 * i)) (M, ((Q, U), pR P 0 f)) := if_pos k1
    rw [eK]
    refine PUTD_c ?_ (fun _ => ?_) this
    · exact (if_pos k1).symm
    · have eB : sB D V (nI ad) l = (if D.2.2.1 = 0 then byZ D.2.1 D.2.1 else byZ D.2.1 (D.2.1 ||| lbO D.2.2.1 (vtO D.2.2.1 (nI ad) (zV V (dQ D) (dN D))))) := if_pos k1
      rw [eB, k3]
      unfold byZ
      by_cases y : D.2.1 &&& 3 = 3
      · rw [if_pos (e2.mpr y), if_pos y, if_pos y]
        split <;> rfl
      · rw [if_neg (fun w => y (e2.mp w)), if_neg y, if_neg y]
        split <;> rfl
  · obtain ⟨k1, k2, k3, k4, k5, k6, k7, k8, k9⟩ := h
    have l1 : l ≤ 1 := by
      rcases hz with y | y | y | y
      · exact y.2.2.1
      · exact absurd y.1 (by omega)
      · exact absurd y.1 (by omega)
      · exact absurd k1 y.1
    rw [z4 (Or.inl k1)] at ha r3
    have := ptG (M := M) (P := P) hn hU h2 hi r2 r3 v4 v5 v6 (Or.inl ⟨k1, l1, k3.2⟩) ha (ev k6 k7 k8) f
    have eK : ptK n i D.1 (M, ((Q, U), pR P 0 f)) = df_X1_putGrown n (nI (8 * i)) (M, ((Q, U), pR P 0 f)) := (if_neg (by omega)).trans (if_pos (Or.inl k1))
    rw [eK]
    refine PUTD_c ?_ (fun _ => ?_) this
    · have eF : sF D V (nI ad) l = vF (mV V (dQ D) (dN D)) (dV V (dQ D) (dN D)) (lfO (hpO true l) (zV V (dQ D) (dN D) - nI ad)) := (if_neg (by omega)).trans (if_pos k1)
      rw [eF, decide_eq_true k1]
      unfold offO
      rw [if_neg (show ¬ l = 2 by omega)]
    · have eB : sB D V (nI ad) l = hopL l ((D.2.1 >>> ((7 : Int32) &&& 31)) &&& 31) (zV V (dQ D) (dN D) - nI ad) := (if_neg (by omega)).trans (if_pos k1)
      rw [eB, if_pos k1, k3.1]
  · obtain ⟨k1, k2, k3, k4, k5, k6, k7, k8⟩ := h
    have l1 : l ≤ 2 := by
      rcases hz with y | y | y | y
      · exact absurd y.1 (by omega)
      · exact y.2.2.1
      · exact absurd y.1 (by omega)
      · exact absurd k1 y.2.1
    rw [z4 (Or.inr k1)] at ha r3
    have := ptG (M := M) (P := P) hn hU h2 hi r2 r3 v4 v5 v6 (Or.inr ⟨k1, l1⟩) ha (ev k5 k6 k7) f
    have eK : ptK n i D.1 (M, ((Q, U), pR P 0 f)) = df_X1_putGrown n (nI (8 * i)) (M, ((Q, U), pR P 0 f)) := (if_neg (by omega)).trans (if_pos (Or.inr k1))
    rw [eK]
    refine PUTD_c ?_ (fun _ => ?_) this
    · have eF : sF D V (nI ad) l = vF (mV V (dQ D) (dN D)) (dV V (dQ D) (dN D)) (lfO (hpO false l) (offO l (zV V (dQ D) (dN D) - nI ad))) := (if_neg (by omega)).trans ((if_neg (by omega)).trans (if_pos k1))
      rw [eF, decide_eq_false (show ¬ D.1 = 1 by omega)]
    · have eB : sB D V (nI ad) l = brnC l D.2.1 (zV V (dQ D) (dN D) - nI ad) := (if_neg (by omega)).trans ((if_neg (by omega)).trans (if_pos k1))
      rw [eB, if_neg (show ¬ D.1 = 1 by omega), k3]
  · obtain ⟨k1, k2, k3, k4, k5, k6, k7, k8, k9⟩ := h
    have le1 : nI (szN D bb l off) = nI 8 := ((z5 (by omega) (by omega) (by omega)).trans k5).trans k4
    have hsz : szN D bb l off = 8 := (nI_eq (by omega) (by omega)).mp le1
    rw [hsz] at ha
    have := ptA (M := M) (P := P) hn hU h2 hi r2 v5 v6 ha (ev k7 k8 k9) f
    have eK : ptK n i D.1 (M, ((Q, U), pR P 0 f)) = df_X1_putAddress n (nI (8 * i)) (M, ((Q, U), pR P 0 f)) := (if_neg (by omega)).trans ((if_neg (by omega)).trans (if_pos k1))
    rw [eK]
    refine PUTD_c ?_ (fun _ => ?_) this
    · exact ((if_neg (by omega)).trans ((if_neg (by omega)).trans ((if_neg (by omega)).trans (if_pos k1)))).symm
    · rw [k3]
      exact ((if_neg (by omega)).trans ((if_neg (by omega)).trans ((if_neg (by omega)).trans (if_pos k1)))).symm
  · obtain ⟨k1, k2, k3, k4, k5, k6, k7, k8⟩ := h
    have hnl := numB_l b cd
    have le1 : nI (szN D bb l off) = nI (numB b cd).length := ((z5 (by omega) (by omega) (by omega)).trans k6).trans k5
    have hsz : szN D bb l off = (numB b cd).length := (nI_eq (by omega) (by omega)).mp le1
    rw [hsz] at ha r3
    have := ptN (M := M) (P := P) hn hU h2 hi r2 r3 v5 v6 ha f
    have eK : ptK n i D.1 (M, ((Q, U), pR P 0 f)) = df_X1_putNumber n (nI (8 * i)) (M, ((Q, U), pR P 0 f)) := (if_neg (by omega)).trans ((if_neg (by omega)).trans ((if_neg (by omega)).trans (if_pos k1)))
    rw [eK]
    refine PUTD_c ?_ (fun _ => ?_) this
    · exact ((if_neg (by omega)).trans ((if_neg (by omega)).trans ((if_neg (by omega)).trans ((if_neg (by omega)).trans (if_neg (by omega)))))).symm
    · rw [← k8]
      exact ((if_neg (by omega)).trans ((if_neg (by omega)).trans ((if_neg (by omega)).trans ((if_neg (by omega)).trans (if_neg (by omega)))))).symm
  · obtain ⟨k1, k2, k3, k4, k5, k6, k7, k8, k9, k10⟩ := h
    have le1 : nI (szN D bb l off) = nI (D.2.2.1 * D.2.2.2.1.length) := ((z5 (by omega) (by omega) (by omega)).trans k6).trans k5
    have lb : D.2.2.1 * D.2.2.2.1.length ≤ 4 * 32768 := Nat.mul_le_mul (by omega) k10
    have hsz : szN D bb l off = D.2.2.1 * D.2.2.2.1.length := (nI_eq (by omega) (by omega)).mp le1
    rw [hsz] at ha r3
    have := ptL (M := M) (P := P) (W := W) hn hU h2 hT hi k3 r2 r3 (v5.trans k4) (v6.trans k8) ha w9 k9 k10 f
    rw [hV] at this
    have eK : ptK n i D.1 (M, ((Q, U), pR P 0 f)) = df_X1_putList n (nI (8 * i)) (M, ((Q, U), pR P 0 f)) := (if_neg (by omega)).trans ((if_neg (by omega)).trans ((if_neg (by omega)).trans ((if_neg (by omega)).trans (if_pos k1))))
    rw [eK]
    refine PUTD_c ?_ (fun _ => ?_) this
    · exact ((if_neg (by omega)).trans ((if_neg (by omega)).trans ((if_neg (by omega)).trans ((if_neg (by omega)).trans (if_pos k1))))).symm
    · exact ((if_neg (by omega)).trans ((if_neg (by omega)).trans ((if_neg (by omega)).trans ((if_neg (by omega)).trans (if_pos k1))))).symm
  · obtain ⟨k1, k2, k3, k4, k5, k6, k7, k8⟩ := h
    have le1 : nI (szN D bb l off) = nI D.2.2.2.2.length := ((z5 (by omega) (by omega) (by omega)).trans k4).trans k3
    have hsz : szN D bb l off = D.2.2.2.2.length := (nI_eq (by omega) (by omega)).mp le1
    rw [hsz] at ha r3
    have := ptX (M := M) (P := P) hn hU h2 hi r2 r3 (v6.trans k6) ha (by omega) (fun x hx => by rw [hL1]; exact k8 x hx) f
    have eK : ptK n i D.1 (M, ((Q, U), pR P 0 f)) = df_X1_putTexts n (nI (8 * i)) (M, ((Q, U), pR P 0 f)) := (if_neg (by omega)).trans ((if_neg (by omega)).trans ((if_neg (by omega)).trans ((if_neg (by omega)).trans ((if_neg (by omega)).trans (if_pos k1)))))
    rw [eK]
    refine PUTD_c ?_ (fun _ => ?_) this
    · exact ((if_neg (by omega)).trans ((if_neg (by omega)).trans ((if_neg (by omega)).trans ((if_neg (by omega)).trans (if_neg (by omega)))))).symm
    · exact ((if_neg (by omega)).trans ((if_neg (by omega)).trans ((if_neg (by omega)).trans ((if_neg (by omega)).trans (if_neg (by omega)))))).symm
  all_goals
    obtain ⟨k1, k2, ⟨k3, k4⟩, k5⟩ := h
    have eK : ptK n i D.1 (M, ((Q, U), pR P 0 f)) = some (M, ((Q, U), pR P 0 f)) := (if_neg (by omega)).trans ((if_neg (by omega)).trans ((if_neg (by omega)).trans ((if_neg (by omega)).trans ((if_neg (by omega)).trans (if_neg (by omega))))))
    have eF : sF D V (nI ad) l = 0 := ((if_neg (by omega)).trans ((if_neg (by omega)).trans ((if_neg (by omega)).trans ((if_neg (by omega)).trans (if_neg (by omega))))))
    have eB : sB D V (nI ad) l = [] := ((if_neg (by omega)).trans ((if_neg (by omega)).trans ((if_neg (by omega)).trans ((if_neg (by omega)).trans (if_neg (by omega)))))).trans k4
    rw [eK, eF, eB]
    exact ⟨U, f, by rw [show nI 0 = 0 from rfl, pI_z2 h2], hU, rfl, rfl, fun _ => rfl⟩
