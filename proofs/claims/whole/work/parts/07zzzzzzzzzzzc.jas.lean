/-- both throw, or answer alike, and stand; the reference's rows of labels may change -/
def anU (n : Nat) (c : Option ((Int32 × S12) ⊕ (String × S12))) (r : Option (Int32 × ((S19 × Lb) × Ox))) : Prop := (∃ (v : Int32) (σ' : S12) (ω : S19 × Lb), c = some (Sum.inr ("java/lang/IllegalArgumentException", σ')) ∧ r = some (v, (ω, none)) ∧ sI ω.1.1 0 = 1 ∧ JJ n σ' ω) ∨ ∃ (v : Int32) (σ' : S12) (ω : S19 × Lb) (o : Ox), c = some (Sum.inl (v, σ')) ∧ r = some (v, (ω, o)) ∧ sI ω.1.1 0 = 0 ∧ ∀ na : Nat, JJ n σ' (asL na (ω, o))
/-- another program in the pool, that the line of time doesn't use -/
theorem jA_pp {n : Nat} {t t' : S11} {τ : S19} (h : jA n t τ) (p1 : t'.1 = t.1) (p0 : t'.2.1 0 = t.2.1 0) (p3 : t'.2.1 3 = t.2.1 3) (q1 : t'.2.2.1 = t.2.2.1) (q2 : t'.2.2.2.1 = t.2.2.2.1) (q3 : t'.2.2.2.2.1 = t.2.2.2.2.1) (q4 : ∀ v i : Nat, v < 4 → t.2.1 0 v = some i → t'.2.2.2.2.2.1 i = t.2.2.2.2.2.1 i) (q5 : t'.2.2.2.2.2.2.2 = t.2.2.2.2.2.2.2) : jA n t' τ := by
  have eE : ∀ V : St, eA t V → eA t' V := fun V h => by unfold eA; rw [p1, q2, q3]; exact h
  obtain ⟨h0, ⟨h1, h2, ⟨W, w1, w2, w3⟩, h4, h5, h6, h7, h8⟩ | ⟨h1, h2, vn, Q, V, N, T, e, c, k, lo, h3⟩⟩ := h
  · exact ⟨by unfold sp2; rw [p1]; exact h0, Or.inl ⟨by rw [p1]; exact h1, h2, ⟨W, eE W w1, w2, w3⟩, by rw [q1]; exact h4, by rw [q1]; exact h5, by rw [p3]; exact h6, h7, fun v hv => by rw [p0]; exact h8 v hv⟩⟩
  · obtain ⟨⟨a1, a2, a3, a4, a5, a6, a7, a8, a9, ⟨cp, sp, at_, ix, hC⟩, a11⟩, hL, hev, hv, h456, hk, hX, h10, h14, hS, h11⟩ := h3
    obtain ⟨⟨d1, d2, d3, d4, d5, d6⟩, e1, e2, e3, e4, e5⟩ := hC
    refine ⟨by unfold sp2; rw [p1]; exact h0, Or.inr ⟨by rw [p1]; exact h1, h2, vn, Q, V, N, T, e, c, k, lo, ⟨eE V a1, a2, a3, ⟨by rw [q1]; exact a4.1, fun v hv => ?_⟩, a5, by rw [p1]; exact a6, by rw [p1]; exact a7, by rw [p1]; exact a8, by rw [q1]; exact a9, ⟨cp, sp, at_, ix, ⟨d1, d2, by rw [p1]; exact d3, by rw [p1]; exact d4, d5, d6⟩, by rw [p3]; exact e1, e2, e3, e4, fun i hi => by rw [p1, q5]; exact e5 i hi⟩, fun j hj => by rw [p1]; exact a11 j hj⟩, hL, hev, hv, h456, hk, hX, h10, h14, hS, by rw [p1]; exact h11⟩⟩
    rcases a4.2 v hv with ⟨x1, x2⟩ | ⟨j, T, Z, x1, x2, x3, x4⟩
    · exact Or.inl ⟨by rw [p0]; exact x1, x2⟩
    · exact Or.inr ⟨j, T, Z, x1, by rw [p0]; exact x2, x3, by rw [q4 v j hv x2]; exact x4⟩
theorem jA_r0 {n : Nat} {t : S11} {τ : S19} (h : jA n t τ) (v : Nat) (hv : v < 4) : t.2.1 0 v = none ∨ ∃ j : Nat, j < 9 ∧ t.2.1 0 v = some j := by
  obtain ⟨h0, ⟨h1, h2, ⟨W, w1, w2, w3⟩, h4, h5, h6, h7, h8⟩ | ⟨h1, h2, vn, Q, V, N, T, e, c, k, lo, h3⟩⟩ := h
  · exact Or.inl (h8 v hv)
  · rcases h3.1.2.2.2.1.2 v hv with ⟨x1, x2⟩ | ⟨j, T, Z, x1, x2, x3, x4⟩
    · exact Or.inl x1
    · exact Or.inr ⟨j, x1, x2⟩
/-- the class behind an assemble -/
def asC (σ : S12) (W : Rw) (Q' U' P' : St) (j : Nat) : S12 := (pI (pI σ.1 0 0) 1 0, (W, (σ.2.2.1, ((Q', U'), (σ.2.2.2.2.1, (σ.2.2.2.2.2.1, (σ.2.2.2.2.2.2.1, (σ.2.2.2.2.2.2.2.1, ((fun i => if i = j then P' else σ.2.2.2.2.2.2.2.2.1 i), σ.2.2.2.2.2.2.2.2.2)))))))))
theorem JJ_as {n : Nat} {σ : S12} {τ : S19} {x : Lb} (h : JJ n σ (τ, x)) {j : Nat} (hu : ∀ k : Nat, k < 4 → ¬ σ.2.1 1 k = some j ∧ ¬ σ.2.1 0 k = some j) {W : Rw} (hW : ∀ r : Nat, ¬ r = 1 → W r = σ.2.1 r) {Q' U' P' T1 S' : St} {x' : Lb} (f7 : sR U' 7 = sR σ.2.2.2.1.2 7) (f10 : b01 (sI U' 10)) (g0 : sR S' 0 = sR τ.2.1 0) (g1 : sR S' 1 = sR τ.2.1 1) (g2 : sQ S' = sQ τ.2.1) (g3 : b01 (sI S' 20) ∧ b01 (sI S' 21) ∧ b01 (sI S' 22) ∧ b01 (sI S' 23)) (i1 : sI T1 1 = 0) (i2 : sI T1 2 = 0) (i3 : ∀ k : Nat, ¬ k = 0 → ¬ k = 1 → ¬ k = 2 → sI T1 k = sI τ.1 k) (i4 : ∀ r : Nat, 5 ≤ r → sR T1 r = sR τ.1 r) (i5 : ∀ r : Nat, sQ T1 r = sQ τ.1 r) (hp : rp (asC σ W Q' U' P' j) ((T1, (S', τ.2.2)), x')) (hq : rpP (W 1) (fun i => if i = j then P' else σ.2.2.2.2.2.2.2.2.1 i) T1 (sR S' 9)) : JJ n (asC σ W Q' U' P' j) ((T1, (S', τ.2.2)), x') := by
  obtain ⟨e1, e2, e3, e4, e5, ⟨Nb, pos, e6⟩, e7, e8, e9⟩ := h
  have e6 : bRk n (σ.2.1 2) (tl σ).2.2.2.2.2.2.1 τ.2.2.1.1 Nb pos := e6
  refine ⟨⟨?_, ?_, ?_, ?_, ?_, ?_⟩, ?_, hp, hq, ?_, ⟨Nb, pos, ?_⟩, ?_, ?_, ?_⟩
  · show (0 : Int32) = sI T1 1
    exact i1.symm
  · show (0 : Int32) = sI T1 2
    exact i2.symm
  · show (0 : Int) ≤ (0 : Int32).toInt
    decide
  · show (0 : Int32).toInt ≤ 32768
    decide
  · intro y
    exact absurd rfl y
  · intro k hk
    have hk : (k : Int) < (0 : Int32).toInt := hk
    have hk : (k : Int) < 0 := hk
    omega
  · refine rl_k e2 ?_ rfl (i3 12 (by omega) (by omega) (by omega)) (i4 10 (by omega))
    show sI (pI (pI σ.1 0 0) 1 0) 2 = _
    rw [nb_II, if_neg (by omega), nb_II, if_neg (by omega)]
  · refine jA_pp (t := tl σ) (jA_u (τ := τ) e5 ⟨fun k k1 k2 => i3 k (by omega) (by omega) (by omega), fun r r1 r2 => i4 r r1, i5, rfl⟩) rfl (hW 0 (by omega)) (hW 3 (by omega)) rfl rfl rfl (fun v i hv hi => ?_) rfl
    show (if i = j then P' else σ.2.2.2.2.2.2.2.2.1 i) = _
    rw [if_neg (fun z => (hu v hv).2 (by rw [← z]; exact hi))]
    rfl
  · show bRk n (W 2) σ.2.2.2.2.2.2.2.2.2.1 τ.2.2.1.1 Nb pos
    rw [hW 2 (by omega)]
    exact e6
  · show sI σ.2.2.2.2.1 7 = sI T1 7
    rw [i3 7 (by omega) (by omega) (by omega)]
    exact e7
  · refine ⟨fun i hi => ?_, fun i hi => ?_, ?_, f10⟩
    · show W 4 i = _
      rw [hW 4 (by omega)]
      exact e8.1 i hi
    · show W 5 i = _
      rw [hW 5 (by omega)]
      exact e8.2.1 i hi
    · show tbW (sR U' 7)
      rw [f7]
      exact e8.2.2.1
  · refine ⟨fun k hk => ?_, e9.2.1, g3⟩
    show sQ S' 0 k = nmT k ∧ sR S' 0 k = shT k ∧ sR S' 1 k = ptT k
    rw [g0, g1, g2]
    exact e9.1 k hk
theorem rq_as {P T1 S' : St} {q : Nat} {τ : S19} {y : Nat × Nat × (Nat → Int32)} (h : rq P q τ y) (a : ∀ r : Nat, 1 ≤ r → r ≤ 4 → sR T1 r q = sR τ.1 r q) (b : ∀ i : Nat, 32768 * q ≤ i → i < 32768 * q + 32768 → sR S' 9 i = sR τ.2.1 9 i) : rq P q (T1, (S', τ.2.2)) y := by
  obtain ⟨h1, h2, h3, h4, h5, h6, h7⟩ := h
  refine ⟨(a 1 (by omega) (by omega)).trans h1, (a 2 (by omega) (by omega)).trans h2, (a 3 (by omega) (by omega)).trans h3, (a 4 (by omega) (by omega)).trans h4, h5, fun k hk => ?_, h7⟩
  show sR S' 9 (32768 * q + k) &&& 255 = _
  rw [b (32768 * q + k) (by omega) (by omega)]
  exact h6 k hk
theorem rqP_as {P : St} {q : Nat} {im im' : Nat → Int32} {tx da en : Int32} (h : rqP P q im tx da en) (b : ∀ i : Nat, 32768 * q ≤ i → i < 32768 * q + 32768 → im' i = im i) : rqP P q im' tx da en := by
  obtain ⟨T, Z, h1, h2, h3, h4, h5, h6, h7, h8, h9, h10⟩ := h
  refine ⟨T, Z, h1, h2, h3, h4, h5, h6, h7, h8, h9, fun i hi => ?_⟩
  rw [b (32768 * q + i) (by omega) (by omega)]
  exact h10 i hi
/-- rows of programs where nothing was assembled -/
theorem rp_f {σ : S12} {τ : S19} {x : Lb} {j : Nat} {Q' U' P' T1 S' : St} (h : rp σ (τ, x)) (hu : ∀ k : Nat, k < 4 → ¬ σ.2.1 1 k = some j ∧ ¬ σ.2.1 0 k = some j) (o : sO T1 0 = sO τ.1 0) (r : ∀ k : Nat, sR T1 k = sR τ.1 k) (g9 : sR S' 9 = sR τ.2.1 9) : rp (asC σ σ.2.1 Q' U' P' j) ((T1, (S', τ.2.2)), x) := by
  refine ⟨o.trans h.1, fun q hq => ?_⟩
  have g := h.2 q hq
  show match σ.2.1 1 q with
    | none => sR T1 0 q = 0
    | some i => i < 9 ∧ (¬ sR T1 0 q = 0) ∧ ∃ y, x q = some y ∧ rq (if i = j then P' else σ.2.2.2.2.2.2.2.2.1 i) q (T1, (S', τ.2.2)) y
  rw [r 0]
  cases hr : σ.2.1 1 q with
  | none => rw [hr] at g; exact g
  | some i =>
    rw [hr] at g
    obtain ⟨g1, g2, y, g3, g4⟩ := g
    refine ⟨g1, g2, y, g3, ?_⟩
    rw [if_neg (fun z => (hu q hq).1 (by rw [hr, z]))]
    exact rq_as g4 (fun k _ _ => by rw [r k]) (fun i _ _ => by rw [g9])
theorem rpP_f {σ : S12} {τ : S19} {j : Nat} {P' T1 S' : St} (h : rpP (σ.2.1 1) σ.2.2.2.2.2.2.2.2.1 τ.1 (sR τ.2.1 9)) (hu : ∀ k : Nat, k < 4 → ¬ σ.2.1 1 k = some j ∧ ¬ σ.2.1 0 k = some j) (r : ∀ k : Nat, sR T1 k = sR τ.1 k) (g9 : sR S' 9 = sR τ.2.1 9) : rpP (σ.2.1 1) (fun i => if i = j then P' else σ.2.2.2.2.2.2.2.2.1 i) T1 (sR S' 9) := fun q hq => by
  rw [r 0, r 1, r 2, r 3, g9]
  rcases h q hq with y | ⟨i, y1, y2, y3, y4⟩
  · exact Or.inl y
  · refine Or.inr ⟨i, y1, y2, y3, ?_⟩
    show rqP (if i = j then P' else σ.2.2.2.2.2.2.2.2.1 i) q _ _ _ _
    rw [if_neg (fun z => (hu q hq).1 (by rw [y2, z]))]
    exact y4
/-- rows of programs where program A was assembled -/
theorem rp_s {σ : S12} {τ : S19} {x : Lb} {j A : Nat} {Q' U' P' T1 S' : St} {y : Nat × Nat × (Nat → Int32)} {v : Nat → Int32} (hj : j < 9) (h : rp σ (τ, x)) (hu : ∀ k : Nat, k < 4 → ¬ σ.2.1 1 k = some j ∧ ¬ σ.2.1 0 k = some j) (o : sO T1 0 = sO τ.1 0) (r : ∀ k : Nat, k ≤ 4 → sR T1 k = upd (sR τ.1 k) A (v k)) (v0 : v 0 = 1) (g9 : ∀ i : Nat, i < 32768 * A ∨ 32768 * A + 32768 ≤ i → sR S' 9 i = sR τ.2.1 9 i) (hy : rq P' A (T1, (S', τ.2.2)) y) : rp (asC σ (pW σ.2.1 1 (va_up (σ.2.1 1) A (some j))) Q' U' P' j) ((T1, (S', τ.2.2)), fun i => if i = A then some y else x i) := by
  refine ⟨o.trans h.1, fun q hq => ?_⟩
  have g := h.2 q hq
  show match (if q = A then some j else σ.2.1 1 q) with
    | none => sR T1 0 q = 0
    | some i => i < 9 ∧ (¬ sR T1 0 q = 0) ∧ ∃ y', (if q = A then some y else x q) = some y' ∧ rq (if i = j then P' else σ.2.2.2.2.2.2.2.2.1 i) q (T1, (S', τ.2.2)) y'
  rw [r 0 (by omega), v0]
  by_cases z : q = A
  · subst z
    rw [if_pos rfl, nm_us]
    refine ⟨hj, by decide, y, if_pos rfl, ?_⟩
    rw [if_pos rfl]
    exact hy
  · rw [if_neg z, nm_un z]
    cases hr : σ.2.1 1 q with
    | none => rw [hr] at g; exact g
    | some i =>
      rw [hr] at g
      obtain ⟨g1, g2, y', g3, g4⟩ := g
      refine ⟨g1, g2, y', (if_neg z).trans g3, ?_⟩
      rw [if_neg (fun w => (hu q hq).1 (by rw [hr, w]))]
      exact rq_as g4 (fun k k1 k2 => by rw [r k k2, nm_un z]) (fun i i1 i2 => g9 i (by omega))
theorem rpP_s {σ : S12} {τ : S19} {j A : Nat} {P' T1 S' : St} {v : Nat → Int32} (hj : j < 9) (h : rpP (σ.2.1 1) σ.2.2.2.2.2.2.2.2.1 τ.1 (sR τ.2.1 9)) (hu : ∀ k : Nat, k < 4 → ¬ σ.2.1 1 k = some j ∧ ¬ σ.2.1 0 k = some j) (r : ∀ k : Nat, k ≤ 4 → sR T1 k = upd (sR τ.1 k) A (v k)) (v0 : v 0 = 1) (g9 : ∀ i : Nat, i < 32768 * A ∨ 32768 * A + 32768 ≤ i → sR S' 9 i = sR τ.2.1 9 i) (hy : rqP P' A (sR S' 9) (v 1) (v 2) (v 3)) : rpP (pW σ.2.1 1 (va_up (σ.2.1 1) A (some j)) 1) (fun i => if i = j then P' else σ.2.2.2.2.2.2.2.2.1 i) T1 (sR S' 9) := fun q hq => by
  show ((if q = A then some j else σ.2.1 1 q) = none ∧ sR T1 0 q = nI 0) ∨ ∃ i : Nat, i < 9 ∧ (if q = A then some j else σ.2.1 1 q) = some i ∧ sR T1 0 q = nI 1 ∧ rqP (if i = j then P' else σ.2.2.2.2.2.2.2.2.1 i) q (sR S' 9) (sR T1 1 q) (sR T1 2 q) (sR T1 3 q)
  rw [r 0 (by omega), r 1 (by omega), r 2 (by omega), r 3 (by omega), v0]
  by_cases z : q = A
  · subst z
    rw [if_pos rfl, nm_us, nm_us, nm_us, nm_us]
    refine Or.inr ⟨j, hj, rfl, rfl, ?_⟩
    rw [if_pos rfl]
    exact hy
  · rw [if_neg z, nm_un z, nm_un z, nm_un z, nm_un z]
    rcases h q hq with y | ⟨i, y1, y2, y3, y4⟩
    · exact Or.inl y
    · refine Or.inr ⟨i, y1, y2, y3, ?_⟩
      rw [if_neg (fun w => (hu q hq).1 (by rw [y2, w]))]
      exact rqP_as y4 (fun i i1 i2 => g9 i (by omega))
theorem b01_b {v : Int32} (h : b01 v) : ∃ b : Bool, v = bI b := by
  rcases h with h | h
  · exact ⟨false, h⟩
  · exact ⟨true, h⟩
theorem by_255 : ∀ z : Fin 256, vp_nar .byte ((nI z.1).toInt8.toInt32) &&& 255 = nI z.1 := by decide +kernel
theorem jj_assemble (n T L : Nat) (hn : 70000 < n) (v : Int32) {σ : S12} {τ : S19} {x : Lb} (h : JJ n σ (τ, x)) : anU n (df_X12_assemble n T L v σ) (df_X19_assemble n v (τ, x)) := by
  have inE : df_X19_in n v.toInt64 0 3 () = some (if (0 : Int) ≤ v.toInt ∧ v.toInt ≤ 3 then 1 else 0, ()) := nb_in32 n v 0 3
  by_cases c : 0 ≤ v.toInt ∧ v.toInt ≤ 3
  · obtain ⟨A, hA, rfl, _⟩ := ix_nI (k := 3) c.1 c.2
    rw [if_pos c] at inE
    obtain ⟨e1, e2, e3, e4, e5, e6, e7, e8, e9⟩ := id h
    obtain ⟨j, hj, eu, hu⟩ := unP n T L (by omega) (σ := σ) (fun k hk => by
      rcases e4 k hk with ⟨a, _⟩ | ⟨i, a, b, _⟩
      · exact Or.inl a
      · exact Or.inr ⟨i, a, b⟩) (fun k hk => jA_r0 e5 k hk) e8.1
    obtain ⟨len, l1, l2, l3⟩ := ix_nI (k := 32768) e1.2.2.1 e1.2.2.2.1
    have l3 : (sI σ.1 0).toInt = (len : Int) := l3
    have ut : df_X12_useTape n T L σ = some (nI len, (pI (pI σ.1 0 0) 1 0, σ.2)) := by rw [← l2]; rfl
    have hz : ∀ i : Nat, ∃ z : Nat, i < len → z < 256 ∧ sR σ.2.2.2.1.2 7 i = vp_nar .byte ((nI z).toInt8.toInt32) ∧ sR τ.2.2.2.1 3 i = nI z := fun i => by
      by_cases ci : i < len
      · obtain ⟨z, z1, z2, z3⟩ := tb_z e8.2.2.1 (j := i) (by omega)
        exact ⟨z, fun _ => ⟨z1, z2, (e1.2.2.2.2.2 i (by omega)).trans z3⟩⟩
      · exact ⟨0, fun y => absurd y ci⟩
    obtain ⟨d, hd⟩ : ∃ d : Nat → Nat, ∀ i : Nat, (i < len → d i < 256 ∧ sR σ.2.2.2.1.2 7 i = vp_nar .byte ((nI (d i)).toInt8.toInt32) ∧ sR τ.2.2.2.1 3 i = nI (d i)) ∧ (len ≤ i → d i = 10) := ⟨fun i => if i < len then Classical.choose (hz i) else 10, fun i => ⟨fun hi => by
      show (if i < len then Classical.choose (hz i) else 10) < 256 ∧ sR σ.2.2.2.1.2 7 i = vp_nar .byte ((nI (if i < len then Classical.choose (hz i) else 10)).toInt8.toInt32) ∧ sR τ.2.2.2.1 3 i = nI (if i < len then Classical.choose (hz i) else 10)
      rw [if_pos hi]
      exact Classical.choose_spec (hz i) hi, fun hi => if_neg (by omega)⟩⟩
    obtain ⟨T0, hT0⟩ : ∃ T0 : St, T0 = pI (pI (pI τ.1 0 0) 1 0) 2 0 := ⟨_, rfl⟩
    have tI : ∀ k : Nat, ¬ k = 0 → ¬ k = 1 → ¬ k = 2 → sI T0 k = sI τ.1 k := fun k k0 k1 k2 => by
      rw [hT0, nb_II, if_neg k2, nb_II, if_neg k1, nb_II, if_neg k0]
    have tR : ∀ k : Nat, sR T0 k = sR τ.1 k := fun k => by rw [hT0]; rfl
    have tQ : ∀ k : Nat, sQ T0 k = sQ τ.1 k := fun k => by rw [hT0]; rfl
    have tO : ∀ k : Nat, sO T0 k = sO τ.1 k := fun k => by rw [hT0]; rfl
    have t0 : sI T0 0 = 0 := by rw [hT0]; rfl
    have t1 : sI T0 1 = 0 := by rw [hT0]; rfl
    have t2 : sI T0 2 = 0 := by rw [hT0]; rfl
    have us : ∀ Y : St × (St × (St × St)) × St × St, df_X19_use n (pI τ.1 0 0, Y) = some (T0, Y) := fun Y => by rw [hT0]; rfl
    have cR : ∀ (r : Int32) (Q' U' P' : St), df_X1_make n (nI len) (nd_st0, σ.2.2.2.1, σ.2.2.2.2.2.2.2.2.1 j) = some (r, (nd_st0, ((Q', U'), P'))) → df_X12_assemble n T L (nI A) σ = some (Sum.inl (r, asC σ (if r = 0 then pW σ.2.1 1 (va_up (σ.2.1 1) A (some j)) else σ.2.1) Q' U' P' j)) := fun r Q' U' P' hm => by
      unfold df_X12_assemble df_X12_assemble_0 df_X12_assemble_50
      rw [if_neg (show ¬ nI A < (0 : Int32) from znl (b := 0) (by omega) (by omega)), if_pos (show nI A < (4 : Int32) from zlt (b := 4) (by omega) (by omega)), eu, nb_b2, nb_mS, ut, nb_b2, nb_lt hj]
      dsimp only
      rw [hm, nb_b2, nb_let, nm_ck (by omega) (by omega), nb_let, nI_clamp (by omega)]
      by_cases z : r = 0
      · rw [if_pos z, if_pos z]
        rfl
      · rw [if_neg z, if_neg z]
        rfl
    have fC : ∀ (r : Int32) (Q' U' P' : St), df_X1_make n (nI len) (nd_st0, σ.2.2.2.1, σ.2.2.2.2.2.2.2.2.1 j) = some (r, (nd_st0, ((Q', U'), P'))) → sR U' 7 = sR σ.2.2.2.1.2 7 ∧ b01 (sI U' 10) := fun r Q' U' P' hm => (ok_df_X1_make (U0 := σ.2.2.2.1.2) n (nI len) (nd_st0, σ.2.2.2.1, σ.2.2.2.2.2.2.2.2.1 j) ⟨rfl, e8.2.2.2⟩).1 _ hm
    have sS : df_X19_strange n (pI τ.1 0 0, τ.2) = some (nI (stG d len 0 1), (pI τ.1 0 0, τ.2)) := str_R (τ := (pI τ.1 0 0, τ.2)) l1 (fun i hi => ((hd i).1 hi).1) (by show sI τ.1 1 = _; rw [← e1.1]; exact l2) (fun i hi => ((hd i).1 hi).2.2) len 0 n 1 (by omega) (by omega) (by omega)
    have eR : df_X19_assemble n (nI A) (τ, x) = if nI (stG d len 0 1) ≤ 0 then nd_b2 (df_X13_assemble n (nI len) (pR nd_st0 0 (sR τ.2.2.2.1 3), τ.2.1)) (fun (q12 : Int32) (s13 : St × St) => df_X19_assemble_61 n (nI A) q12 ((pI τ.1 0 0, (s13.2, (τ.2.2.1, (pR τ.2.2.2.1 3 (sR s13.1 0), τ.2.2.2.2)))), x)) else df_X19_assemble_61 n (nI A) (1 + 16 * nI (stG d len 0 1)) ((pI τ.1 0 0, τ.2), x) := by
      unfold df_X19_assemble df_X19_assemble_0 df_X19_assemble_18
      rw [inE, nb_b2, if_neg (by decide), nb_fails, nb_b2, nb_let, if_pos (show (0 : Int32) = 0 ∧ (0 : Int32) = 0 from ⟨rfl, rfl⟩), if_pos rfl, if_pos rfl, if_pos rfl]
      rw [show df_X19_strange n (((pI ((τ, x) : S19 × Lb).1.1 0 0, ((τ, x) : S19 × Lb).1.2), ((τ, x) : S19 × Lb).2) : S19 × Lb).1 = _ from sS, nb_b2, nb_let]
      rw [show df_X19_strange n (((pI τ.1 0 0, τ.2), (((pI ((τ, x) : S19 × Lb).1.1 0 0, ((τ, x) : S19 × Lb).1.2), ((τ, x) : S19 × Lb).2) : S19 × Lb).2) : S19 × Lb).1 = _ from sS, nb_b2, nb_let]
      rw [show sI (((pI τ.1 0 0, τ.2), (((pI ((τ, x) : S19 × Lb).1.1 0 0, ((τ, x) : S19 × Lb).1.2), ((τ, x) : S19 × Lb).2) : S19 × Lb).2) : S19 × Lb).1.1 1 = nI len by show sI τ.1 1 = _; rw [← e1.1]; exact l2]
      rfl
    have u61 : ∀ (r : Int32) (Y : St × (St × (St × St)) × St × St), ¬ r ≤ 0 → df_X19_assemble_61 n (nI A) r ((pI τ.1 0 0, Y), x) = some (r, (((T0, Y), x), none)) := fun r Y hr => by
      unfold df_X19_assemble_61
      rw [show df_X19_use n (((pI τ.1 0 0, Y), x) : S19 × Lb).1 = _ from us Y, nb_b1, nb_let, if_neg hr]
    have f9 : ∀ (W : Rw) (Q' U' P' S' : St), sR U' 7 = sR σ.2.2.2.1.2 7 ∧ b01 (sI U' 10) → FrR True False τ.2.1 S' → W = σ.2.1 → JJ n (asC σ W Q' U' P' j) ((T0, (S', τ.2.2)), x) := fun W Q' U' P' S' fu fs hw => by
      subst hw
      obtain ⟨s0, s1, s2, s3, _, s4⟩ := fs
      exact JJ_as h hu (fun _ _ => rfl) fu.1 fu.2 s0 s1 s2 s4 t1 t2 tI (fun r _ => tR r) tQ (rp_f e3 hu (tO 0) tR (s3 trivial)) (rpP_f e4 hu tR (s3 trivial))
    by_cases zs : stG d len 0 1 = 0
    · have pl := stG_0 (c := d) len 0 1 (by omega) zs
      have h127 : ∀ i : Nat, d i < 127 := fun i => by
        by_cases hi : i < len
        · have := pl i (by omega) (by omega)
          omega
        · rw [(hd i).2 (by omega)]
          decide
      have hch : ∀ i : Nat, d i = 9 ∨ d i = 10 ∨ 32 ≤ d i := fun i => by
        by_cases hi : i < len
        · have := pl i (by omega) (by omega)
          omega
        · exact Or.inr (Or.inl ((hd i).2 (by omega)))
      have r7 : ∀ i : Nat, i < len → sR σ.2.2.2.1.2 7 i = nI (d i) := fun i hi => by
        have a := (hd i).1 hi
        rw [a.2.1]
        exact (bz_C ⟨d i, a.1⟩).2.2 (by have := h127 i; show d i < 128; omega)
      obtain ⟨g1, hg1⟩ := b01_b e8.2.2.2
      obtain ⟨g2, hg2⟩ := b01_b e9.2.2.1
      obtain ⟨g3, hg3⟩ := b01_b e9.2.2.2.1
      obtain ⟨g4, hg4⟩ := b01_b e9.2.2.2.2.1
      obtain ⟨g5, hg5⟩ := b01_b e9.2.2.2.2.2
      have rs2 : pR τ.2.2.2.1 3 (sR (pR nd_st0 0 (sR τ.2.2.2.1 3)) 0) = τ.2.2.2.1 := nm_r0 _ _
      have fR : ∀ (r : Int32) (S' : St), df_X13_assemble n (nI len) (pR nd_st0 0 (sR τ.2.2.2.1 3), τ.2.1) = some (r, (pR nd_st0 0 (sR τ.2.2.2.1 3), S')) → FrR True False τ.2.1 S' := fun r S' hm => (ok_df_X13_assemble (w := True) (m := False) (S0 := τ.2.1) n (nI len) (pR nd_st0 0 (sR τ.2.2.2.1 3), τ.2.1) ⟨rfl, rfl, rfl, fun _ => rfl, fun z => z.elim, e9.2.2⟩).1 _ hm
      have e61 : ∀ (r : Int32) (S' : St), df_X13_assemble n (nI len) (pR nd_st0 0 (sR τ.2.2.2.1 3), τ.2.1) = some (r, (pR nd_st0 0 (sR τ.2.2.2.1 3), S')) → df_X19_assemble n (nI A) (τ, x) = df_X19_assemble_61 n (nI A) r ((pI τ.1 0 0, (S', τ.2.2)), x) := fun r S' hm => by
        rw [eR, if_pos (show nI (stG d len 0 1) ≤ 0 by rw [zs]; decide), hm, nb_b2]
        show df_X19_assemble_61 n (nI A) r ((pI τ.1 0 0, (S', (τ.2.2.1, (pR τ.2.2.2.1 3 (sR (pR nd_st0 0 (sR τ.2.2.2.1 3)) 0), τ.2.2.2.2)))), x) = _
        rw [rs2]
      rcases MAK (n := n) (L := len) (c := d) (M := nd_st0) (Q := σ.2.2.2.1.1) (U := σ.2.2.2.1.2) (P := σ.2.2.2.2.2.2.2.2.1 j) (T := pR nd_st0 0 (sR τ.2.2.2.1 3)) (S := τ.2.1) hn l1 h127 (fun i hi => (hd i).2 hi) hch r7 (fun i hi => ((hd i).1 hi).2.2) hg1 hg2 hg3 hg4 hg5 e9.1 with ⟨r, Q', U', P', S', d1, d2, d3⟩ | ⟨U', o8, hG⟩
      · have rn : ¬ r = 0 := fun z => by rw [z] at d1; exact absurd d1 (by decide)
        refine Or.inr ⟨r, _, ((T0, (S', τ.2.2)), x), none, cR r Q' U' P' d2, ?_, t0, fun na => ?_⟩
        · rw [e61 r S' d3]
          exact u61 _ _ (fun z => by rw [Int32.le_iff_toInt_le] at z; have z : r.toInt ≤ 0 := z; omega)
        · rw [if_neg rn]
          exact f9 σ.2.1 Q' U' P' S' (fC _ _ _ _ d2) (fR r S' d3) rfl
      · obtain ⟨Q2, U2, P2, S2, t, z, co, m, row, c1, c2, x1, x2, x3, x4, x5, x6, p0, p1, p2, p3, p4, p5, b1, b2, b3, hp⟩ := AS_Z hn l1 hG
        obtain ⟨S3, s1, s2, s3⟩ := hp (32768 * A) (by omega)
        have fr2 := fR 0 S2 c2
        have fr3 : FrR False False τ.2.1 S3 := (ok_df_X13_put_ (w := False) (m := False) (S0 := τ.2.1) n (nI (32768 * A)) (fun z => z.elim id id) S2 ⟨fr2.1, fr2.2.1, fr2.2.2.1, fun z => z.elim, fun z => z.elim, fr2.2.2.2.2.2⟩).1 _ s1
        obtain ⟨T1, hT1⟩ : ∃ T1 : St, T1 = pR (pR (pR (pR (pR T0 0 (upd (sR T0 0) A 1)) 1 (upd (sR T0 1) A (nI t))) 2 (upd (sR T0 2) A (nI (bsN t)))) 3 (upd (sR T0 3) A (nI z))) 4 (upd (sR T0 4) A (nI co)) := ⟨_, rfl⟩
        have e72 : df_X19_assemble_61 n (nI A) 0 ((pI τ.1 0 0, (S2, τ.2.2)), x) = some (0, (((T1, (S3, τ.2.2)), x), some (A, (m, row)))) := by
          have ck : ∀ y : Option (Int32 × ((S19 × Lb) × Ox)), nd_ck (nI A) 4 y = y := fun y => nm_ck (by omega) (by omega)
          have o96 : sO T0 0 = some 96 := (tO 0).trans e3.1
          unfold df_X19_assemble_61
          rw [show df_X19_use n (((pI τ.1 0 0, (S2, τ.2.2)), x) : S19 × Lb).1 = _ from us _, nb_b1, nb_let, if_pos (show (0 : Int32) ≤ 0 by decide), ck, nb_let, nI_clamp (by omega)]
          dsimp only
          rw [x1, nb_b2, nb_let, ck, nb_let]
          dsimp only
          rw [x2, nb_b2, nb_let, ck, nb_let]
          dsimp only
          rw [x3, nb_b2, nb_let, ck, nb_let]
          dsimp only
          rw [x4, nb_b2, nb_let, ck, nb_let]
          unfold df_X19_assemble_132
          dsimp only
          refine (if_pos (show _ = some 96 from o96)).trans ?_
          rw [x5, nb_b2, ck, show (32768 : Int32) * nI A = nI (32768 * A) from pk_mul 32768 A, s1, nb_b1, hT1, nI_clamp (by omega)]
          rfl
        have cT : ∀ k : Nat, sI T1 k = sI T0 k := fun k => by rw [hT1]; rfl
        have rT : ∀ k : Nat, k ≤ 4 → sR T1 k = upd (sR τ.1 k) A ((fun k => if k = 0 then 1 else if k = 1 then nI t else if k = 2 then nI (bsN t) else if k = 3 then nI z else nI co) k) := fun k hk => by
          rw [hT1, ← tR k]
          rcases (show k = 0 ∨ k = 1 ∨ k = 2 ∨ k = 3 ∨ k = 4 by omega) with rfl | rfl | rfl | rfl | rfl <;> rfl
        have g9 : ∀ i : Nat, i < 32768 * A ∨ 32768 * A + 32768 ≤ i → sR S3 9 i = sR τ.2.1 9 i := fun i hi => (s3 i hi).trans (congrFun (fr2.2.2.2.1 trivial) i)
        refine Or.inr ⟨0, _, ((T1, (S3, τ.2.2)), x), some (A, (m, row)), cR 0 Q2 U2 P2 c1, ?_, (cT 0).trans t0, fun na => ?_⟩
        · rw [e61 0 S2 c2, e72]
        · rw [if_pos rfl]
          show JJ n _ ((T1, (S3, τ.2.2)), fun i => if i = A then some (na, m, row) else x i)
          have fu := fC _ _ _ _ c1
          refine JJ_as h hu (fun r hr => if_neg hr) fu.1 fu.2 fr3.1 fr3.2.1 fr3.2.2.1 fr3.2.2.2.2.2 ((cT 1).trans t1) ((cT 2).trans t2) (fun k k0 k1 k2 => (cT k).trans (tI k k0 k1 k2)) (fun r hr => ?_) (fun r => by rw [hT1]; exact tQ r) (rp_s hj e3 hu (by rw [hT1]; exact tO 0) rT rfl g9 ?_) (rpP_s hj e4 hu rT rfl g9 ?_)
          · rw [hT1, sR_ne (by omega), sR_ne (by omega), sR_ne (by omega), sR_ne (by omega), sR_ne (by omega)]
            exact tR r
          · refine ⟨?_, ?_, ?_, ?_, ?_, fun k hk => ?_, p4.symm, x6, fun k hk => p5 k hk⟩
            · show sR T1 1 A = _
              rw [rT 1 (by omega), nm_us, p0]
              rfl
            · show sR T1 2 A = _
              rw [rT 2 (by omega), nm_us, p1]
              rfl
            · show sR T1 3 A = _
              rw [rT 3 (by omega), nm_us, p2]
              rfl
            · show sR T1 4 A = _
              rw [rT 4 (by omega), nm_us, p3]
              rfl
            · rw [p2, nI_toInt (by omega)]
              omega
            · rw [p2, nI_toInt (by omega)] at hk
              obtain ⟨b, l, hb, hl, y1, y2, _⟩ := s2 k (by omega)
              show sR S3 9 (32768 * A + k) &&& 255 = sR P2 0 k &&& 255
              rw [y2, y1, show vp_nar .byte ((nI b).toInt8.toInt32) &&& 255 = nI b from by_255 ⟨b, hb⟩, pk_andN (by omega) (m := 255) 8 (by decide), show (l * 256 + b) % 2 ^ 8 = b by omega]
          · exact ⟨t, z, b1, b2, b3, p0, p1, p2, rfl, rfl, rfl, s2⟩
    · obtain ⟨Q', U', hm⟩ := MAKs (n := n) (M := nd_st0) (Q := σ.2.2.2.1.1) (U := σ.2.2.2.1.2) (P := σ.2.2.2.2.2.2.2.2.1 j) hn l1 (fun i hi => ((hd i).1 hi).1) (fun i hi => ((hd i).1 hi).2.1) zs
      have sl := stG_l (c := d) len 0 1
      have rp0 : 0 < (1 + 16 * nI (stG d len 0 1)).toInt := fl_ps (f := 1) (by omega) (by omega) (by omega)
      have rn : ¬ 1 + 16 * nI (stG d len 0 1) = 0 := fun z => by rw [z] at rp0; exact absurd rp0 (by decide)
      refine Or.inr ⟨1 + 16 * nI (stG d len 0 1), _, ((T0, τ.2), x), none, cR _ Q' U' _ hm, ?_, t0, fun na => ?_⟩
      · rw [eR, if_neg (show ¬ nI (stG d len 0 1) ≤ 0 from znle (b := 0) (by omega) (by omega))]
        exact u61 _ _ (fun z => by rw [Int32.le_iff_toInt_le] at z; have z : (1 + 16 * nI (stG d len 0 1)).toInt ≤ 0 := z; omega)
      · rw [if_neg rn]
        exact f9 σ.2.1 Q' U' _ τ.2.1 (fC _ _ _ _ hm) ⟨rfl, rfl, rfl, fun _ => rfl, fun z => z.elim, e9.2.2⟩ rfl
  · rw [if_neg c] at inE
    have eR : df_X19_assemble n v (τ, x) = some (0, (((pI τ.1 0 1, τ.2), x), none)) := by
      unfold df_X19_assemble df_X19_assemble_0 df_X19_assemble_18
      rw [inE, nb_b2, if_pos rfl, nb_fails, nb_b2, nb_let, if_neg (show ¬ ((1 : Int32) = 0 ∧ (0 : Int32) = 0) by decide), if_neg (show ¬ (1 : Int32) = 0 by decide), if_neg (show ¬ (1 : Int32) = 0 by decide)]
    have eC : df_X12_assemble n T L v σ = some (Sum.inr ("java/lang/IllegalArgumentException", σ)) := by
      unfold df_X12_assemble df_X12_assemble_0 df_X12_assemble_9
      by_cases y : v < 0
      · rw [if_pos y]
      · rw [if_neg y, if_neg (fun q => c ⟨by rw [nb_lt0] at y; omega, by rw [Int32.lt_iff_toInt_lt] at q; have q : v.toInt < 4 := q; omega⟩)]
    exact Or.inl ⟨0, σ, _, eC, eR, rfl, JJ_0 h 1⟩
