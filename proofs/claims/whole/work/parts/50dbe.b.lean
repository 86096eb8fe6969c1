/-- the class: a text without strange letters -/
theorem st_43 {n L : Nat} {c : Nat → Nat} {Q U : St} (hL : L ≤ 32768) (h127 : ∀ i : Nat, c i < 127) (hch : ∀ i : Nat, c i = 9 ∨ c i = 10 ∨ 32 ≤ c i) (r7 : ∀ i : Nat, i < L → sR U 7 i = nI (c i)) (q2 : sI Q 2 = 0) : ∀ (m x g : Nat) (y : Int32), x + m = L → m < g → df_X1_start_43 n g (nI L) y (nI x) (Q, U) = some (Q, U) := fun m => by
  induction m with
  | zero =>
    intro x g y h1 h2
    obtain ⟨g, rfl⟩ : ∃ k : Nat, g = k + 1 := ⟨g - 1, by omega⟩
    show dF_X1_start_43 n (df_X1_start_43 n g) (nI L) y (nI x) (Q, U) = _
    unfold dF_X1_start_43 df_X1_start_112
    rw [if_pos (zle (show L ≤ x by omega) (by omega))]
  | succ m ih =>
    intro x g y h1 h2
    obtain ⟨g, rfl⟩ : ∃ k : Nat, g = k + 1 := ⟨g - 1, by omega⟩
    have hx := h127 x
    have go : ∀ y' : Int32, df_X1_start_106 n (df_X1_start_43 n g) (nI L) y' (nI x) (Q, U) = some (Q, U) := fun y' => by
      unfold df_X1_start_106
      rw [nb_let, show nI x + Int32.ofInt 1 = nI (x + 1) from nI_add x 1]
      exact ih (x + 1) g y' (by omega) (by omega)
    show dF_X1_start_43 n (df_X1_start_43 n g) (nI L) y (nI x) (Q, U) = _
    unfold dF_X1_start_43
    rw [if_neg (znle (show x < L by omega) (by omega)), if_pos (show sI ((Q, U) : St × St).1 2 = 0 from q2), nm_ck (by omega) (by omega), nb_let, nI_clamp (by omega), show sR ((Q, U) : St × St).2 7 x = nI (c x) from r7 x (by omega)]
    by_cases y1 : c x = 10
    · rw [if_pos (show nI (c x) = 10 from congrArg nI y1), nb_let]
      exact go _
    rw [if_neg (show ¬ nI (c x) = 10 from zne (b := 10) y1 (by omega) (by omega))]
    by_cases y2 : c x = 9
    · rw [if_pos (show nI (c x) = 9 from congrArg nI y2)]
      exact go _
    rw [if_neg (show ¬ nI (c x) = 9 from zne (b := 9) y2 (by omega) (by omega)), if_neg (show ¬ nI (c x) < 32 from znl (b := 32) (by have := hch x; omega) (by omega)), if_pos (show nI (c x) ≤ 126 from zle (b := 126) (by omega) (by omega))]
    exact go _
theorem nch2 : ∀ z : Fin 128, vp_nar .char ((nI z.1).toUInt32.toUInt16.toUInt32.toInt32) = nI z.1 := by decide +kernel
/-- the reference, once the letters are copied -/
def asF (n : Nat) (T S : St) : Option (Int32 × (St × St)) := nd_b1 (df_X13_readAll n (pI (pI S 12 0) 1 0)) (fun (s6 : St) => if sI s6 12 ≤ 0 then asR n T s6 else some (sI s6 12, (T, s6)))
theorem as_7 {n L : Nat} {c : Nat → Nat} {T : St} (hL : L ≤ 32768) (h127 : ∀ i : Nat, c i < 127) (t0 : ∀ i : Nat, i < L → sR T 0 i = nI (c i)) : ∀ (m x g : Nat) (S : St), x + m = L → m < g → sI S 0 = nI L → (∀ i : Nat, i < x → sR S 2 i = nI (c i)) → ∃ f : Nat → Int32, df_X13_assemble_7 n g (nI x) (T, S) = asF n T (pR S 2 f) ∧ ∀ i : Nat, i < L → f i = nI (c i) := fun m => by
  induction m with
  | zero =>
    intro x g S h1 h2 h0 hx
    obtain ⟨g, rfl⟩ : ∃ k : Nat, g = k + 1 := ⟨g - 1, by omega⟩
    refine ⟨sR S 2, ?_, fun i hi => hx i (by omega)⟩
    show dF_X13_assemble_7 n (df_X13_assemble_7 n g) (nI x) (T, S) = _
    unfold dF_X13_assemble_7
    rw [show sI ((T, S) : St × St).2 0 = nI L from h0, if_pos (zle (show L ≤ x by omega) (by omega)), nm_r0]
    rfl
  | succ m ih =>
    intro x g S h1 h2 h0 hx
    obtain ⟨g, rfl⟩ : ∃ k : Nat, g = k + 1 := ⟨g - 1, by omega⟩
    have hc := h127 x
    obtain ⟨f, r1, r2⟩ := ih (x + 1) g (pR S 2 (upd (sR S 2) x (nI (c x)))) (by omega) (by omega) h0 (fun i hi => by
      rw [show sR (pR S 2 (upd (sR S 2) x (nI (c x)))) 2 = upd (sR S 2) x (nI (c x)) from pR_e]
      by_cases w : i = x
      · rw [w, up_e]
      · rw [up_n w]; exact hx i (by omega))
    refine ⟨f, ?_, r2⟩
    rw [pR_2] at r1
    show dF_X13_assemble_7 n (df_X13_assemble_7 n g) (nI x) (T, S) = _
    unfold dF_X13_assemble_7
    rw [show sI ((T, S) : St × St).2 0 = nI L from h0, if_neg (znle (show x < L by omega) (by omega)), nm_ck (by omega) (by omega), nm_ck (by omega) (by omega), nb_let, nb_let, nI_clamp (by omega), show sR ((T, S) : St × St).1 0 x = nI (c x) from t0 x (by omega), show vp_nar .char ((nI (c x)).toUInt32.toUInt16.toUInt32.toInt32) = nI (c x) from nch2 ⟨c x, by omega⟩, show nI x + Int32.ofInt 1 = nI (x + 1) from nI_add x 1]
    exact r1
/-- the same fault (only the answers) -/
def SFN (M T : St) (rc : Option (Int32 × (St × (St × St) × St))) (rr : Option (Int32 × (St × St))) : Prop := ∃ (r : Int32) (Q' U' P' S' : St), 0 < r.toInt ∧ rc = some (r, (M, ((Q', U'), P'))) ∧ rr = some (r, (T, S'))
/-- make against assemble, for every text without strange letters -/
theorem MAK {n L : Nat} {c : Nat → Nat} {M Q U P T S : St} {fx gr ms dv ls : Bool} (hn : 70000 < n) (hL : L ≤ 32768) (h127 : ∀ i : Nat, c i < 127) (hend : ∀ i : Nat, L ≤ i → c i = 10) (hch : ∀ i : Nat, c i = 9 ∨ c i = 10 ∨ 32 ≤ c i) (r7 : ∀ i : Nat, i < L → sR U 7 i = nI (c i)) (t0 : ∀ i : Nat, i < L → sR T 0 i = nI (c i)) (u10 : sI U 10 = bI fx) (s20 : sI S 20 = bI gr) (s21 : sI S 21 = bI ms) (s22 : sI S 22 = bI dv) (s23 : sI S 23 = bI ls) (hc : cstS S) : SFN M T (df_X1_make n (nI L) (M, ((Q, U), P))) (df_X13_assemble n (nI L) (T, S)) ∨ ∃ U' : St, sO U' 0 = some 8 ∧ ASG n L c M U' P T (df_X1_make n (nI L) (M, ((Q, U), P))) (df_X13_assemble n (nI L) (T, S)) := by
  obtain ⟨Q0, U0, e1, q0, q1, q2, q3, q4, q6, u5, u8, u9, u10', r4, r5, uo, r7'⟩ : ∃ Q0 U0 : St, df_X1_start n (nI L) (Q, U) = some (Q0, U0) ∧ sI Q0 0 = 0 ∧ sI Q0 1 = 0 ∧ sI Q0 2 = 0 ∧ sI Q0 3 = 0 ∧ sI Q0 4 = 0 ∧ sI Q0 6 = 0 ∧ sI U0 5 = 0 ∧ sI U0 8 = 0 ∧ sI U0 9 = 0 ∧ sI U0 10 = bI fx ∧ (∀ h : Nat, h < 256 → sR U0 4 h = 0) ∧ (∀ d : Nat, d < 20 → sR U0 5 d = 0) ∧ sO U0 0 = some 8 ∧ (∀ i : Nat, i < L → sR U0 7 i = nI (c i)) := by
    refine ⟨pI (pI (pI (pI (pI (pI Q 0 0) 1 0) 2 0) 3 0) 4 0) 6 0, pR (pR (pI (pI (pI (pO U 0 (some 8)) 5 0) 8 0) 9 0) 4 (nd_fl 256 0 (sR U 4))) 5 (nd_fl 20 0 (sR U 5)), ?_, rfl, rfl, rfl, rfl, rfl, rfl, rfl, rfl, rfl, u10, fun h hh => ?_, fun d hd => ?_, rfl, r7⟩
    · have := st_43 (n := n) (Q := pI (pI (pI (pI (pI (pI Q 0 0) 1 0) 2 0) 3 0) 4 0) 6 0) (U := pR (pR (pI (pI (pI (pO U 0 (some 8)) 5 0) 8 0) 9 0) 4 (nd_fl 256 0 (sR U 4))) 5 (nd_fl 20 0 (sR U 5))) hL h127 hch r7 rfl L 0 n 1 (by omega) (by omega)
      exact this
    · show nd_fl 256 0 (sR U 4) h = 0
      exact if_pos hh
    · show nd_fl 20 0 (sR U 5) d = 0
      exact if_pos hd
  obtain ⟨f, a1, a2⟩ := as_7 (n := n) (T := T) hL h127 t0 L 0 n (pI S 0 (nI L)) (by omega) (by omega) rfl (fun i hi => absurd hi (Nat.not_lt_zero _))
  have hD := RD_0 (n := n) (L := L) (c := c) (Q := Q0) (U := U0) (S := pI (pI (pI (pI (pI (pI (pI (pR (pI S 0 (nI L)) 2 f) 12 0) 1 0) 7 0) 13 1) 14 0) 2 0) 3 0) q0 q1 q2 q3 q4 q6 u5 u8 u9 u10' r4 r5 uo r7' rfl rfl rfl rfl rfl rfl s20 s21 s22 s23 rfl a2 hc
  obtain ⟨Q', U', S', b1, b2, b3⟩ := rdl_all (s1 := M) (s3 := P) hn hL h127 hend hch (L + 2) 0 n n Q0 U0 _ (by omega) (by omega) (by omega) (by omega) hD
  have eC : df_X1_make n (nI L) (M, ((Q, U), P)) = df_X1_make_90 n (M, ((Q', U'), P)) := by
    unfold df_X1_make df_X1_make_0
    rw [show df_X1_start n (nI L) ((M, ((Q, U), P)) : St × (St × St) × St).2.1 = _ from e1, nb_b1, nb_let]
    exact b1
  have eR : df_X13_assemble n (nI L) (T, S) = if sI S' 12 ≤ 0 then asR n T S' else some (sI S' 12, (T, S')) := by
    have : df_X13_assemble n (nI L) (T, S) = asF n T (pR (pI S 0 (nI L)) 2 f) := a1
    rw [this]
    unfold asF
    rw [show df_X13_readAll n (pI (pI (pR (pI S 0 (nI L)) 2 f) 12 0) 1 0) = some S' from b2, nb_b1]
  rw [eC, eR]
  rcases b3 with ⟨ff, l, c1, c2, c3, c4, c5, c6⟩ | ⟨c1, p', c2, c3, c4⟩
  · left
    have hv : sI S' 12 = nI (ff + 16 * l) := by
      rw [c6, show (16 : Int32) = nI 16 from rfl, pk_mul, nI_add]
    have nf : ¬ sI ((M, ((Q', U'), P)) : St × (St × St) × St).2.1.1 2 = 0 := by
      rw [show sI ((M, ((Q', U'), P)) : St × (St × St) × St).2.1.1 2 = _ from c4]
      exact zne (b := 0) (by omega) (by omega) (by omega)
    refine ⟨nI ff + 16 * nI l, Q', U', P, S', fl_ps c1 c2 c3, ?_, ?_⟩
    · unfold df_X1_make_90 df_X1_make_118 df_X1_make_130 df_X1_make_153
      rw [if_neg nf, if_neg nf, if_neg nf]
      rw [show sI ((M, ((Q', U'), P)) : St × (St × St) × St).2.1.1 2 = _ from c4, show sI ((M, ((Q', U'), P)) : St × (St × St) × St).2.1.1 3 = _ from c5]
    · rw [if_neg (show ¬ sI S' 12 ≤ 0 by rw [hv]; exact znle (b := 0) (by omega) (by omega)), c6]
  · have z12 : sI S' 12 = 0 := by
      obtain ⟨B, Bq, B0, sn, lu, ln, lx, se, co, od, SW, LW, cs, ns, C, A, NM, BK, bs, ws, nl, NR, LB, sc, X, nL, nS, PA, BY, OU, Ds, Qs, Es, Zs, Ls, Fs, N0, NP, e0, tp, st, fx, Sx, ap, kd, fr, nm, ct, gr, hR, hQ, hU, hS, o8, r7, b0, b2⟩ := c4
      exact SR_12 hS
    have o8 : sO U' 0 = some 8 := by
      obtain ⟨B, Bq, B0, sn, lu, ln, lx, se, co, od, SW, LW, cs, ns, C, A, NM, BK, bs, ws, nl, NR, LB, sc, X, nL, nS, PA, BY, OU, Ds, Qs, Es, Zs, Ls, Fs, N0, NP, e0, tp, st, fx, Sx, ap, kd, fr, nm, ct, gr, hR, hQ, hU, hS, o8, r7, b0, b2⟩ := c4
      rw [hU]
      exact o8
    rw [if_pos (show sI S' 12 ≤ 0 by rw [z12]; decide)]
    rcases MK_1 hn hL h127 hend hch c4 c2 c3 M P T with ⟨r, Q2, U2, P2, S2, d1, d2, d3, d4⟩ | d
    · exact Or.inl ⟨r, Q2, U2, P2, S2, d1, d2, d3⟩
    · exact Or.inr ⟨U', o8, AS_J d⟩

