/-- both throw, or answer alike, and stand; the reference's rows of labels may change -/
def anU (n t0 : Nat) (c : Option ((Int32 × S12) ⊕ (String × S12))) (r : Option (Int32 × ((S19 × Lb) × Ox))) : Prop := (∃ (v : Int32) (σ' : S12) (ω : S19 × Lb), c = some (Sum.inr ("java/lang/IllegalArgumentException", σ')) ∧ r = some (v, (ω, none)) ∧ sI ω.1.1 0 = 1 ∧ tp σ' ≤ t0 ∧ JJ n σ' ω) ∨ ∃ (v : Int32) (σ' : S12) (ω : S19 × Lb) (o : Ox), c = some (Sum.inl (v, σ')) ∧ r = some (v, (ω, o)) ∧ sI ω.1.1 0 = 0 ∧ tp σ' + oxN o ≤ t0 + 43 ∧ ∀ na : Nat, JJ n σ' (asL na (ω, o))
/-- another program in the pool, that the line of time doesn't use -/
theorem jA_pp {n : Nat} {t t' : S11} {τ : S19} (h : jA n t τ) (p1 : t'.1 = t.1) (p0 : t'.2.1 0 = t.2.1 0) (p3 : t'.2.1 3 = t.2.1 3) (q1 : t'.2.2.1 = t.2.2.1) (q2 : t'.2.2.2.1 = t.2.2.2.1) (q3 : t'.2.2.2.2.1 = t.2.2.2.2.1) (q4 : ∀ v i : Nat, v < 4 → t.2.1 0 v = some i → t'.2.2.2.2.2.1 i = t.2.2.2.2.2.1 i) (q5 : t'.2.2.2.2.2.2.2 = t.2.2.2.2.2.2.2) : jA n t' τ := by
  have eE : ∀ V : St, eA t V → eA t' V := fun V h => by unfold eA; rw [p1, q2, q3]; exact h
  obtain ⟨h0, ⟨h1, h2, ⟨W, w1, w2, w3⟩, h4, h5, h6, h7, h8⟩ | ⟨h1, h2, vn, Q, V, N, T, e, c, k, lo, h3⟩⟩ := h
  · exact ⟨by unfold sp2; rw [p1]; exact h0, Or.inl ⟨by rw [p1]; exact h1, h2, ⟨W, eE W w1, w2, w3⟩, by rw [q1]; exact h4, by rw [q1]; exact h5, by rw [p3]; exact h6, h7, fun v hv => by rw [p0]; exact h8 v hv⟩⟩
  · obtain ⟨⟨a1, a2, a3, a4, a5, a6, a7, a8, a9, ⟨cp, sp, at_, ix, hC⟩, a11⟩, hL, hev, hv, h456, hk, hX, h10, h14, hS, h11⟩ := h3
    obtain ⟨⟨d1, d2, d3, d4, d5, d6⟩, e1, e2, e3, e4, e5⟩ := hC
    refine ⟨by unfold sp2; rw [p1]; exact h0, Or.inr ⟨by rw [p1]; exact h1, h2, vn, Q, V, N, T, e, c, k, lo, ⟨eE V a1, a2, a3, ⟨by rw [q1]; exact a4.1, fun v hv => ?_⟩, a5, by rw [p1]; exact a6, by rw [p1]; exact a7, by rw [p1]; exact a8, by rw [q1]; exact a9, ⟨cp, sp, at_, ix, ⟨d1, d2, by rw [p1]; exact d3, by rw [p1]; exact d4, d5, d6⟩, by rw [p3]; exact e1, e2, e3, e4, fun i hi => by rw [p1, q5]; exact e5 i hi⟩, fun j hj => by rw [p1]; exact a11 j hj⟩, hL, hev, hv, h456, hk, hX, h10, h14, hS, by rw [p1]; exact h11⟩⟩
    rcases a4.2 v hv with ⟨x1, x2⟩ | ⟨j, T, Z, x1, x2, x3, x4⟩
    · exact Or.inl ⟨by rw [p0]; exact x1, x2⟩
    · exact Or.inr ⟨j, T, Z, x1, by rw [p0]; exact x2, x3, by rw [q4 v j hv x2]; exact x4⟩
theorem jA_r0 {n : Nat} {t : S11} {τ : S19} (h : jA n t τ) (v : Nat) (hv : v < 4) : t.2.1 0 v = none ∨ ∃ j : Nat, j < 9 ∧ t.2.1 0 v = some j := by
  obtain ⟨h0, ⟨h1, h2, ⟨W, w1, w2, w3⟩, h4, h5, h6, h7, h8⟩ | ⟨h1, h2, vn, Q, V, N, T, e, c, k, lo, h3⟩⟩ := h
  · exact Or.inl (h8 v hv)
  · rcases h3.1.2.2.2.1.2 v hv with ⟨x1, x2⟩ | ⟨j, T, Z, x1, x2, x3, x4⟩
    · exact Or.inl x1
    · exact Or.inr ⟨j, x1, x2⟩
/-- the class behind an assemble -/
def asC (σ : S12) (W : Rw) (Q' U' P' : St) (j : Nat) : S12 := (pI (pI σ.1 0 0) 1 0, (W, (σ.2.2.1, ((Q', U'), (σ.2.2.2.2.1, (σ.2.2.2.2.2.1, (σ.2.2.2.2.2.2.1, (σ.2.2.2.2.2.2.2.1, ((fun i => if i = j then P' else σ.2.2.2.2.2.2.2.2.1 i), σ.2.2.2.2.2.2.2.2.2)))))))))
theorem JJ_as {n : Nat} {σ : S12} {τ : S19} {x : Lb} (h : JJ n σ (τ, x)) {j : Nat} (hu : ∀ k : Nat, k < 4 → ¬ σ.2.1 1 k = some j ∧ ¬ σ.2.1 0 k = some j) {W : Rw} (hW : ∀ r : Nat, ¬ r = 1 → W r = σ.2.1 r) {Q' U' P' T1 S' : St} {x' : Lb} (f7 : sR U' 7 = sR σ.2.2.2.1.2 7) (f10 : b01 (sI U' 10)) (g0 : sR S' 0 = sR τ.2.1 0) (g1 : sR S' 1 = sR τ.2.1 1) (g2 : sQ S' = sQ τ.2.1) (g3 : b01 (sI S' 20) ∧ b01 (sI S' 21) ∧ b01 (sI S' 22) ∧ b01 (sI S' 23)) (i1 : sI T1 1 = 0) (i2 : sI T1 2 = 0) (i3 : ∀ k : Nat, ¬ k = 0 → ¬ k = 1 → ¬ k = 2 → sI T1 k = sI τ.1 k) (i4 : ∀ r : Nat, 5 ≤ r → sR T1 r = sR τ.1 r) (i5 : ∀ r : Nat, sQ T1 r = sQ τ.1 r) (hp : rp (asC σ W Q' U' P' j) ((T1, (S', τ.2.2)), x')) (hq : rpP (W 1) (fun i => if i = j then P' else σ.2.2.2.2.2.2.2.2.1 i) T1 (sR S' 9)) : JJ n (asC σ W Q' U' P' j) ((T1, (S', τ.2.2)), x') := by
  obtain ⟨e1, e2, e3, e4, e5, ⟨Nb, pos, e6⟩, e7, e8, e9⟩ := h
  have e6 : bRk n (σ.2.1 2) (tl σ).2.2.2.2.2.2.1 τ.2.2.1.1 Nb pos := e6
  refine ⟨⟨?_, ?_, ?_, ?_, ?_, ?_⟩, ?_, hp, hq, ?_, ⟨Nb, pos, ?_⟩, ?_, ?_, ?_⟩
  · show (0 : Int32) = sI T1 1
    exact i1.symm
  · show (0 : Int32) = sI T1 2
    exact i2.symm
  · show (0 : Int) ≤ (0 : Int32).toInt
    decide
  · show (0 : Int32).toInt ≤ 32768
    decide
  · intro y
    exact absurd rfl y
  · intro k hk
    have hk : (k : Int) < (0 : Int32).toInt := hk
    have hk : (k : Int) < 0 := hk
    omega
  · refine rl_k e2 ?_ rfl (i3 12 (by omega) (by omega) (by omega)) (i4 10 (by omega))
    show sI (pI (pI σ.1 0 0) 1 0) 2 = _
    rw [nb_II, if_neg (by omega), nb_II, if_neg (by omega)]
  · refine jA_pp (t := tl σ) (jA_u (τ := τ) e5 ⟨fun k k1 k2 => i3 k (by omega) (by omega) (by omega), fun r r1 r2 => i4 r r1, i5, rfl⟩) rfl (hW 0 (by omega)) (hW 3 (by omega)) rfl rfl rfl (fun v i hv hi => ?_) rfl
    show (if i = j then P' else σ.2.2.2.2.2.2.2.2.1 i) = _
    rw [if_neg (fun z => (hu v hv).2 (by rw [← z]; exact hi))]
    rfl
  · show bRk n (W 2) σ.2.2.2.2.2.2.2.2.2.1 τ.2.2.1.1 Nb pos
    rw [hW 2 (by omega)]
    exact e6
  · show sI σ.2.2.2.2.1 7 = sI T1 7
    rw [i3 7 (by omega) (by omega) (by omega)]
    exact e7
  · refine ⟨fun i hi => ?_, fun i hi => ?_, ?_, f10⟩
    · show W 4 i = _
      rw [hW 4 (by omega)]
      exact e8.1 i hi
    · show W 5 i = _
      rw [hW 5 (by omega)]
      exact e8.2.1 i hi
    · show tbW (sR U' 7)
      rw [f7]
      exact e8.2.2.1
  · refine ⟨fun k hk => ?_, e9.2.1, g3⟩
    show sQ S' 0 k = nmT k ∧ sR S' 0 k = shT k ∧ sR S' 1 k = ptT k
    rw [g0, g1, g2]
    exact e9.1 k hk
theorem rq_as {P T1 S' : St} {q : Nat} {τ : S19} {y : Nat × Nat × (Nat → Int32)} (h : rq P q τ y) (a : ∀ r : Nat, 1 ≤ r → r ≤ 4 → sR T1 r q = sR τ.1 r q) (b : ∀ i : Nat, 32768 * q ≤ i → i < 32768 * q + 32768 → sR S' 9 i = sR τ.2.1 9 i) : rq P q (T1, (S', τ.2.2)) y := by
  obtain ⟨h1, h2, h3, h4, h5, h6, h7⟩ := h
  refine ⟨(a 1 (by omega) (by omega)).trans h1, (a 2 (by omega) (by omega)).trans h2, (a 3 (by omega) (by omega)).trans h3, (a 4 (by omega) (by omega)).trans h4, h5, fun k hk => ?_, h7⟩
  show sR S' 9 (32768 * q + k) &&& 255 = _
  rw [b (32768 * q + k) (by omega) (by omega)]
  exact h6 k hk
theorem rqP_as {P : St} {q : Nat} {im im' : Nat → Int32} {tx da en : Int32} (h : rqP P q im tx da en) (b : ∀ i : Nat, 32768 * q ≤ i → i < 32768 * q + 32768 → im' i = im i) : rqP P q im' tx da en := by
  obtain ⟨T, Z, h1, h2, h3, h4, h5, h6, h7, h8, h9, h10⟩ := h
  refine ⟨T, Z, h1, h2, h3, h4, h5, h6, h7, h8, h9, fun i hi => ?_⟩
  rw [b (32768 * q + i) (by omega) (by omega)]
  exact h10 i hi
/-- rows of programs where nothing was assembled -/
theorem rp_f {σ : S12} {τ : S19} {x : Lb} {j : Nat} {Q' U' P' T1 S' : St} (h : rp σ (τ, x)) (hu : ∀ k : Nat, k < 4 → ¬ σ.2.1 1 k = some j ∧ ¬ σ.2.1 0 k = some j) (o : sO T1 0 = sO τ.1 0) (r : ∀ k : Nat, sR T1 k = sR τ.1 k) (g9 : sR S' 9 = sR τ.2.1 9) : rp (asC σ σ.2.1 Q' U' P' j) ((T1, (S', τ.2.2)), x) := by
  refine ⟨o.trans h.1, fun q hq => ?_⟩
  have g := h.2 q hq
  show match σ.2.1 1 q with
    | none => sR T1 0 q = 0
    | some i => i < 9 ∧ (¬ sR T1 0 q = 0) ∧ ∃ y, x q = some y ∧ rq (if i = j then P' else σ.2.2.2.2.2.2.2.2.1 i) q (T1, (S', τ.2.2)) y
  rw [r 0]
  cases hr : σ.2.1 1 q with
  | none => rw [hr] at g; exact g
  | some i =>
    rw [hr] at g
    obtain ⟨g1, g2, y, g3, g4⟩ := g
    refine ⟨g1, g2, y, g3, ?_⟩
    rw [if_neg (fun z => (hu q hq).1 (by rw [hr, z]))]
    exact rq_as g4 (fun k _ _ => by rw [r k]) (fun i _ _ => by rw [g9])
theorem rpP_f {σ : S12} {τ : S19} {j : Nat} {P' T1 S' : St} (h : rpP (σ.2.1 1) σ.2.2.2.2.2.2.2.2.1 τ.1 (sR τ.2.1 9)) (hu : ∀ k : Nat, k < 4 → ¬ σ.2.1 1 k = some j ∧ ¬ σ.2.1 0 k = some j) (r : ∀ k : Nat, sR T1 k = sR τ.1 k) (g9 : sR S' 9 = sR τ.2.1 9) : rpP (σ.2.1 1) (fun i => if i = j then P' else σ.2.2.2.2.2.2.2.2.1 i) T1 (sR S' 9) := fun q hq => by
  rw [r 0, r 1, r 2, r 3, g9]
  rcases h q hq with y | ⟨i, y1, y2, y3, y4⟩
  · exact Or.inl y
  · refine Or.inr ⟨i, y1, y2, y3, ?_⟩
    show rqP (if i = j then P' else σ.2.2.2.2.2.2.2.2.1 i) q _ _ _ _
    rw [if_neg (fun z => (hu q hq).1 (by rw [y2, z]))]
    exact y4
/-- rows of programs where program A was assembled -/
theorem rp_s {σ : S12} {τ : S19} {x : Lb} {j A : Nat} {Q' U' P' T1 S' : St} {y : Nat × Nat × (Nat → Int32)} {v : Nat → Int32} (hj : j < 9) (h : rp σ (τ, x)) (hu : ∀ k : Nat, k < 4 → ¬ σ.2.1 1 k = some j ∧ ¬ σ.2.1 0 k = some j) (o : sO T1 0 = sO τ.1 0) (r : ∀ k : Nat, k ≤ 4 → sR T1 k = upd (sR τ.1 k) A (v k)) (v0 : v 0 = 1) (g9 : ∀ i : Nat, i < 32768 * A ∨ 32768 * A + 32768 ≤ i → sR S' 9 i = sR τ.2.1 9 i) (hy : rq P' A (T1, (S', τ.2.2)) y) : rp (asC σ (pW σ.2.1 1 (va_up (σ.2.1 1) A (some j))) Q' U' P' j) ((T1, (S', τ.2.2)), fun i => if i = A then some y else x i) := by
  refine ⟨o.trans h.1, fun q hq => ?_⟩
  have g := h.2 q hq
  show match (if q = A then some j else σ.2.1 1 q) with
    | none => sR T1 0 q = 0
    | some i => i < 9 ∧ (¬ sR T1 0 q = 0) ∧ ∃ y', (if q = A then some y else x q) = some y' ∧ rq (if i = j then P' else σ.2.2.2.2.2.2.2.2.1 i) q (T1, (S', τ.2.2)) y'
  rw [r 0 (by omega), v0]
  by_cases z : q = A
  · subst z
    rw [if_pos rfl, nm_us]
    refine ⟨hj, by decide, y, if_pos rfl, ?_⟩
    rw [if_pos rfl]
    exact hy
  · rw [if_neg z, nm_un z]
    cases hr : σ.2.1 1 q with
    | none => rw [hr] at g; exact g
    | some i =>
      rw [hr] at g
      obtain ⟨g1, g2, y', g3, g4⟩ := g
      refine ⟨g1, g2, y', (if_neg z).trans g3, ?_⟩
      rw [if_neg (fun w => (hu q hq).1 (by rw [hr, w]))]
      exact rq_as g4 (fun k k1 k2 => by rw [r k k2, nm_un z]) (fun i i1 i2 => g9 i (by omega))
theorem rpP_s {σ : S12} {τ : S19} {j A : Nat} {P' T1 S' : St} {v : Nat → Int32} (hj : j < 9) (h : rpP (σ.2.1 1) σ.2.2.2.2.2.2.2.2.1 τ.1 (sR τ.2.1 9)) (hu : ∀ k : Nat, k < 4 → ¬ σ.2.1 1 k = some j ∧ ¬ σ.2.1 0 k = some j) (r : ∀ k : Nat, k ≤ 4 → sR T1 k = upd (sR τ.1 k) A (v k)) (v0 : v 0 = 1) (g9 : ∀ i : Nat, i < 32768 * A ∨ 32768 * A + 32768 ≤ i → sR S' 9 i = sR τ.2.1 9 i) (hy : rqP P' A (sR S' 9) (v 1) (v 2) (v 3)) : rpP (pW σ.2.1 1 (va_up (σ.2.1 1) A (some j)) 1) (fun i => if i = j then P' else σ.2.2.2.2.2.2.2.2.1 i) T1 (sR S' 9) := fun q hq => by
  show ((if q = A then some j else σ.2.1 1 q) = none ∧ sR T1 0 q = nI 0) ∨ ∃ i : Nat, i < 9 ∧ (if q = A then some j else σ.2.1 1 q) = some i ∧ sR T1 0 q = nI 1 ∧ rqP (if i = j then P' else σ.2.2.2.2.2.2.2.2.1 i) q (sR S' 9) (sR T1 1 q) (sR T1 2 q) (sR T1 3 q)
  rw [r 0 (by omega), r 1 (by omega), r 2 (by omega), r 3 (by omega), v0]
  by_cases z : q = A
  · subst z
    rw [if_pos rfl, nm_us, nm_us, nm_us, nm_us]
    refine Or.inr ⟨j, hj, rfl, rfl, ?_⟩
    rw [if_pos rfl]
    exact hy
  · rw [if_neg z, nm_un z, nm_un z, nm_un z, nm_un z]
    rcases h q hq with y | ⟨i, y1, y2, y3, y4⟩
    · exact Or.inl y
    · refine Or.inr ⟨i, y1, y2, y3, ?_⟩
      rw [if_neg (fun w => (hu q hq).1 (by rw [y2, w]))]
      exact rqP_as y4 (fun i i1 i2 => g9 i (by omega))
theorem b01_b {v : Int32} (h : b01 v) : ∃ b : Bool, v = bI b := by
  rcases h with h | h
  · exact ⟨false, h⟩
  · exact ⟨true, h⟩
theorem by_255 : ∀ z : Fin 256, vp_nar .byte ((nI z.1).toInt8.toInt32) &&& 255 = nI z.1 := by decide +kernel
theorem jj_assemble (n T L : Nat) (hn : 70000 < n) (v : Int32) {σ : S12} {τ : S19} {x : Lb} (h : JJ n σ (τ, x)) : anU n (tp σ) (df_X12_assemble n T L v σ) (df_X19_assemble n v (τ, x)) := by
  have inE : df_X19_in n v.toInt64 0 3 () = some (if (0 : Int) ≤ v.toInt ∧ v.toInt ≤ 3 then 1 else 0, ()) := nb_in32 n v 0 3
  by_cases c : 0 ≤ v.toInt ∧ v.toInt ≤ 3
  · obtain ⟨A, hA, rfl, _⟩ := ix_nI (k := 3) c.1 c.2
    rw [if_pos c] at inE
    obtain ⟨e1, e2, e3, e4, e5, e6, e7, e8, e9⟩ := id h
    obtain ⟨j, hj, eu, hu⟩ := unP n T L (by omega) (σ := σ) (fun k hk => by
      rcases e4 k hk with ⟨a, _⟩ | ⟨i, a, b, _⟩
      · exact Or.inl a
      · exact Or.inr ⟨i, a, b⟩) (fun k hk => jA_r0 e5 k hk) e8.1
    obtain ⟨len, l1, l2, l3⟩ := ix_nI (k := 32768) e1.2.2.1 e1.2.2.2.1
    have l3 : (sI σ.1 0).toInt = (len : Int) := l3
    have tpl : tp σ = len := by
      unfold tp
      rw [l2]
      exact nI_clamp (by omega)
    have tp0 : ∀ (W : Rw) (Q' U' P' : St) {k : Nat} (_ : k ≤ tp σ + 43), tp (asC σ W Q' U' P' j) + k ≤ tp σ + 43 := fun W Q' U' P' k hk => by
      have e : tp (asC σ W Q' U' P' j) = 0 := rfl
      rw [e]
      omega
    have ut : df_X12_useTape n T L σ = some (nI len, (pI (pI σ.1 0 0) 1 0, σ.2)) := by rw [← l2]; rfl
    have hz : ∀ i : Nat, ∃ z : Nat, i < len → z < 256 ∧ sR σ.2.2.2.1.2 7 i = vp_nar .byte ((nI z).toInt8.toInt32) ∧ sR τ.2.2.2.1 3 i = nI z := fun i => by
      by_cases ci : i < len
      · obtain ⟨z, z1, z2, z3⟩ := tb_z e8.2.2.1 (j := i) (by omega)
        exact ⟨z, fun _ => ⟨z1, z2, (e1.2.2.2.2.2 i (by omega)).trans z3⟩⟩
      · exact ⟨0, fun y => absurd y ci⟩
    obtain ⟨d, hd⟩ : ∃ d : Nat → Nat, ∀ i : Nat, (i < len → d i < 256 ∧ sR σ.2.2.2.1.2 7 i = vp_nar .byte ((nI (d i)).toInt8.toInt32) ∧ sR τ.2.2.2.1 3 i = nI (d i)) ∧ (len ≤ i → d i = 10) := ⟨fun i => if i < len then Classical.choose (hz i) else 10, fun i => ⟨fun hi => by
      show (if i < len then Classical.choose (hz i) else 10) < 256 ∧ sR σ.2.2.2.1.2 7 i = vp_nar .byte ((nI (if i < len then Classical.choose (hz i) else 10)).toInt8.toInt32) ∧ sR τ.2.2.2.1 3 i = nI (if i < len then Classical.choose (hz i) else 10)
      rw [if_pos hi]
      exact Classical.choose_spec (hz i) hi, fun hi => if_neg (by omega)⟩⟩
    obtain ⟨T0, hT0⟩ : ∃ T0 : St, T0 = pI (pI (pI τ.1 0 0) 1 0) 2 0 := ⟨_, rfl⟩
    have tI : ∀ k : Nat, ¬ k = 0 → ¬ k = 1 → ¬ k = 2 → sI T0 k = sI τ.1 k := fun k k0 k1 k2 => by
      rw [hT0, nb_II, if_neg k2, nb_II, if_neg k1, nb_II, if_neg k0]
    have tR : ∀ k : Nat, sR T0 k = sR τ.1 k := fun k => by rw [hT0]; rfl
    have tQ : ∀ k : Nat, sQ T0 k = sQ τ.1 k := fun k => by rw [hT0]; rfl
    have tO : ∀ k : Nat, sO T0 k = sO τ.1 k := fun k => by rw [hT0]; rfl
    have t0 : sI T0 0 = 0 := by rw [hT0]; rfl
    have t1 : sI T0 1 = 0 := by rw [hT0]; rfl
    have t2 : sI T0 2 = 0 := by rw [hT0]; rfl
    have us : ∀ Y : St × (St × (St × St)) × St × St, df_X19_use n (pI τ.1 0 0, Y) = some (T0, Y) := fun Y => by rw [hT0]; rfl
    have cR : ∀ (r : Int32) (Q' U' P' : St), df_X1_make n (nI len) (nd_st0, σ.2.2.2.1, σ.2.2.2.2.2.2.2.2.1 j) = some (r, (nd_st0, ((Q', U'), P'))) → df_X12_assemble n T L (nI A) σ = some (Sum.inl (r, asC σ (if r = 0 then pW σ.2.1 1 (va_up (σ.2.1 1) A (some j)) else σ.2.1) Q' U' P' j)) := fun r Q' U' P' hm => by
      unfold df_X12_assemble df_X12_assemble_0 df_X12_assemble_50
      rw [if_neg (show ¬ nI A < (0 : Int32) from znl (b := 0) (by omega) (by omega)), if_pos (show nI A < (4 : Int32) from zlt (b := 4) (by omega) (by omega)), eu, nb_b2, nb_mS, ut, nb_b2, nb_lt hj]
      dsimp only
      rw [hm, nb_b2, nb_let, nm_ck (by omega) (by omega), nb_let, nI_clamp (by omega)]
      by_cases z : r = 0
      · rw [if_pos z, if_pos z]
        rfl
      · rw [if_neg z, if_neg z]
        rfl
    have fC : ∀ (r : Int32) (Q' U' P' : St), df_X1_make n (nI len) (nd_st0, σ.2.2.2.1, σ.2.2.2.2.2.2.2.2.1 j) = some (r, (nd_st0, ((Q', U'), P'))) → sR U' 7 = sR σ.2.2.2.1.2 7 ∧ b01 (sI U' 10) := fun r Q' U' P' hm => (ok_df_X1_make (U0 := σ.2.2.2.1.2) n (nI len) (nd_st0, σ.2.2.2.1, σ.2.2.2.2.2.2.2.2.1 j) ⟨rfl, e8.2.2.2⟩).1 _ hm
    have sS : df_X19_strange n (pI τ.1 0 0, τ.2) = some (nI (stG d len 0 1), (pI τ.1 0 0, τ.2)) := str_R (τ := (pI τ.1 0 0, τ.2)) l1 (fun i hi => ((hd i).1 hi).1) (by show sI τ.1 1 = _; rw [← e1.1]; exact l2) (fun i hi => ((hd i).1 hi).2.2) len 0 n 1 (by omega) (by omega) (by omega)
    have eR : df_X19_assemble n (nI A) (τ, x) = if nI (stG d len 0 1) ≤ 0 then nd_b2 (df_X13_assemble n (nI len) (pR nd_st0 0 (sR τ.2.2.2.1 3), τ.2.1)) (fun (q12 : Int32) (s13 : St × St) => df_X19_assemble_61 n (nI A) q12 ((pI τ.1 0 0, (s13.2, (τ.2.2.1, (pR τ.2.2.2.1 3 (sR s13.1 0), τ.2.2.2.2)))), x)) else df_X19_assemble_61 n (nI A) (1 + 16 * nI (stG d len 0 1)) ((pI τ.1 0 0, τ.2), x) := by
      unfold df_X19_assemble df_X19_assemble_0 df_X19_assemble_18
      rw [inE, nb_b2, if_neg (by decide), nb_fails, nb_b2, nb_let, if_pos (show (0 : Int32) = 0 ∧ (0 : Int32) = 0 from ⟨rfl, rfl⟩), if_pos rfl, if_pos rfl, if_pos rfl]
      rw [show df_X19_strange n (((pI ((τ, x) : S19 × Lb).1.1 0 0, ((τ, x) : S19 × Lb).1.2), ((τ, x) : S19 × Lb).2) : S19 × Lb).1 = _ from sS, nb_b2, nb_let]
      rw [show df_X19_strange n (((pI τ.1 0 0, τ.2), (((pI ((τ, x) : S19 × Lb).1.1 0 0, ((τ, x) : S19 × Lb).1.2), ((τ, x) : S19 × Lb).2) : S19 × Lb).2) : S19 × Lb).1 = _ from sS, nb_b2, nb_let]
      rw [show sI (((pI τ.1 0 0, τ.2), (((pI ((τ, x) : S19 × Lb).1.1 0 0, ((τ, x) : S19 × Lb).1.2), ((τ, x) : S19 × Lb).2) : S19 × Lb).2) : S19 × Lb).1.1 1 = nI len by show sI τ.1 1 = _; rw [← e1.1]; exact l2]
      rfl
    have u61 : ∀ (r : Int32) (Y : St × (St × (St × St)) × St × St), ¬ r ≤ 0 → df_X19_assemble_61 n (nI A) r ((pI τ.1 0 0, Y), x) = some (r, (((T0, Y), x), none)) := fun r Y hr => by
      unfold df_X19_assemble_61
      rw [show df_X19_use n (((pI τ.1 0 0, Y), x) : S19 × Lb).1 = _ from us Y, nb_b1, nb_let, if_neg hr]
    have f9 : ∀ (W : Rw) (Q' U' P' S' : St), sR U' 7 = sR σ.2.2.2.1.2 7 ∧ b01 (sI U' 10) → FrR True False τ.2.1 S' → W = σ.2.1 → JJ n (asC σ W Q' U' P' j) ((T0, (S', τ.2.2)), x) := fun W Q' U' P' S' fu fs hw => by
      subst hw
      obtain ⟨s0, s1, s2, s3, _, s4⟩ := fs
      exact JJ_as h hu (fun _ _ => rfl) fu.1 fu.2 s0 s1 s2 s4 t1 t2 tI (fun r _ => tR r) tQ (rp_f e3 hu (tO 0) tR (s3 trivial)) (rpP_f e4 hu tR (s3 trivial))
    by_cases zs : stG d len 0 1 = 0
    · have pl := stG_0 (c := d) len 0 1 (by omega) zs
      have h127 : ∀ i : Nat, d i < 127 := fun i => by
        by_cases hi : i < len
        · have := pl i (by omega) (by omega)
          omega
        · rw [(hd i).2 (by omega)]
          decide
      have hch : ∀ i : Nat, d i = 9 ∨ d i = 10 ∨ 32 ≤ d i := fun i => by
        by_cases hi : i < len
        · have := pl i (by omega) (by omega)
          omega
        · exact Or.inr (Or.inl ((hd i).2 (by omega)))
      have r7 : ∀ i : Nat, i < len → sR σ.2.2.2.1.2 7 i = nI (d i) := fun i hi => by
        have a := (hd i).1 hi
        rw [a.2.1]
        exact (bz_C ⟨d i, a.1⟩).2.2 (by have := h127 i; show d i < 128; omega)
      obtain ⟨g1, hg1⟩ := b01_b e8.2.2.2
      obtain ⟨g2, hg2⟩ := b01_b e9.2.2.1
      obtain ⟨g3, hg3⟩ := b01_b e9.2.2.2.1
      obtain ⟨g4, hg4⟩ := b01_b e9.2.2.2.2.1
      obtain ⟨g5, hg5⟩ := b01_b e9.2.2.2.2.2
      have rs2 : pR τ.2.2.2.1 3 (sR (pR nd_st0 0 (sR τ.2.2.2.1 3)) 0) = τ.2.2.2.1 := nm_r0 _ _
      have fR : ∀ (r : Int32) (S' : St), df_X13_assemble n (nI len) (pR nd_st0 0 (sR τ.2.2.2.1 3), τ.2.1) = some (r, (pR nd_st0 0 (sR τ.2.2.2.1 3), S')) → FrR True False τ.2.1 S' := fun r S' hm => (ok_df_X13_assemble (w := True) (m := False) (S0 := τ.2.1) n (nI len) (pR nd_st0 0 (sR τ.2.2.2.1 3), τ.2.1) ⟨rfl, rfl, rfl, fun _ => rfl, fun z => z.elim, e9.2.2⟩).1 _ hm
      have e61 : ∀ (r : Int32) (S' : St), df_X13_assemble n (nI len) (pR nd_st0 0 (sR τ.2.2.2.1 3), τ.2.1) = some (r, (pR nd_st0 0 (sR τ.2.2.2.1 3), S')) → df_X19_assemble n (nI A) (τ, x) = df_X19_assemble_61 n (nI A) r ((pI τ.1 0 0, (S', τ.2.2)), x) := fun r S' hm => by
        rw [eR, if_pos (show nI (stG d len 0 1) ≤ 0 by rw [zs]; decide), hm, nb_b2]
        show df_X19_assemble_61 n (nI A) r ((pI τ.1 0 0, (S', (τ.2.2.1, (pR τ.2.2.2.1 3 (sR (pR nd_st0 0 (sR τ.2.2.2.1 3)) 0), τ.2.2.2.2)))), x) = _
        rw [rs2]
      rcases MAK (n := n) (L := len) (c := d) (M := nd_st0) (Q := σ.2.2.2.1.1) (U := σ.2.2.2.1.2) (P := σ.2.2.2.2.2.2.2.2.1 j) (T := pR nd_st0 0 (sR τ.2.2.2.1 3)) (S := τ.2.1) hn l1 h127 (fun i hi => (hd i).2 hi) hch r7 (fun i hi => ((hd i).1 hi).2.2) hg1 hg2 hg3 hg4 hg5 e9.1 with ⟨r, Q', U', P', S', d1, d2, d3⟩ | ⟨U', o8, hG⟩
      · have rn : ¬ r = 0 := fun z => by rw [z] at d1; exact absurd d1 (by decide)
        refine Or.inr ⟨r, _, ((T0, (S', τ.2.2)), x), none, cR r Q' U' P' d2, ?_, t0, tp0 _ _ _ _ (Nat.zero_le _), fun na => ?_⟩
        · rw [e61 r S' d3]
          exact u61 _ _ (fun z => by rw [Int32.le_iff_toInt_le] at z; have z : r.toInt ≤ 0 := z; omega)
        · rw [if_neg rn]
          exact f9 σ.2.1 Q' U' P' S' (fC _ _ _ _ d2) (fR r S' d3) rfl
      · obtain ⟨Q2, U2, P2, S2, t, z, co, m, row, c1, c2, x1, x2, x3, x4, x5, x6, p0, p1, p2, p3, p4, p5, b1, b2, b3, hp⟩ := AS_Z hn l1 hG
        obtain ⟨S3, s1, s2, s3⟩ := hp (32768 * A) (by omega)
        have fr2 := fR 0 S2 c2
        have fr3 : FrR False False τ.2.1 S3 := (ok_df_X13_put_ (w := False) (m := False) (S0 := τ.2.1) n (nI (32768 * A)) (fun z => z.elim id id) S2 ⟨fr2.1, fr2.2.1, fr2.2.2.1, fun z => z.elim, fun z => z.elim, fr2.2.2.2.2.2⟩).1 _ s1
        obtain ⟨T1, hT1⟩ : ∃ T1 : St, T1 = pR (pR (pR (pR (pR T0 0 (upd (sR T0 0) A 1)) 1 (upd (sR T0 1) A (nI t))) 2 (upd (sR T0 2) A (nI (bsN t)))) 3 (upd (sR T0 3) A (nI z))) 4 (upd (sR T0 4) A (nI co)) := ⟨_, rfl⟩
        have e72 : df_X19_assemble_61 n (nI A) 0 ((pI τ.1 0 0, (S2, τ.2.2)), x) = some (0, (((T1, (S3, τ.2.2)), x), some (A, (m, row)))) := by
          have ck : ∀ y : Option (Int32 × ((S19 × Lb) × Ox)), nd_ck (nI A) 4 y = y := fun y => nm_ck (by omega) (by omega)
          have o96 : sO T0 0 = some 96 := (tO 0).trans e3.1
          unfold df_X19_assemble_61
          rw [show df_X19_use n (((pI τ.1 0 0, (S2, τ.2.2)), x) : S19 × Lb).1 = _ from us _, nb_b1, nb_let, if_pos (show (0 : Int32) ≤ 0 by decide), ck, nb_let, nI_clamp (by omega)]
          dsimp only
          rw [x1, nb_b2, nb_let, ck, nb_let]
          dsimp only
          rw [x2, nb_b2, nb_let, ck, nb_let]
          dsimp only
          rw [x3, nb_b2, nb_let, ck, nb_let]
          dsimp only
          rw [x4, nb_b2, nb_let, ck, nb_let]
          unfold df_X19_assemble_132
          dsimp only
          refine (if_pos (show _ = some 96 from o96)).trans ?_
          rw [x5, nb_b2, ck, show (32768 : Int32) * nI A = nI (32768 * A) from pk_mul 32768 A, s1, nb_b1, hT1, nI_clamp (by omega)]
          rfl
        have cT : ∀ k : Nat, sI T1 k = sI T0 k := fun k => by rw [hT1]; rfl
        have rT : ∀ k : Nat, k ≤ 4 → sR T1 k = upd (sR τ.1 k) A ((fun k => if k = 0 then 1 else if k = 1 then nI t else if k = 2 then nI (bsN t) else if k = 3 then nI z else nI co) k) := fun k hk => by
          rw [hT1, ← tR k]
          rcases (show k = 0 ∨ k = 1 ∨ k = 2 ∨ k = 3 ∨ k = 4 by omega) with rfl | rfl | rfl | rfl | rfl <;> rfl
        have g9 : ∀ i : Nat, i < 32768 * A ∨ 32768 * A + 32768 ≤ i → sR S3 9 i = sR τ.2.1 9 i := fun i hi => (s3 i hi).trans (congrFun (fr2.2.2.2.1 trivial) i)
        refine Or.inr ⟨0, _, ((T1, (S3, τ.2.2)), x), some (A, (m, row)), cR 0 Q2 U2 P2 c1, ?_, (cT 0).trans t0, tp0 _ _ _ _ (by show m ≤ tp σ + 43; rw [tpl]; have := x6.2; omega), fun na => ?_⟩
        · rw [e61 0 S2 c2, e72]
        · rw [if_pos rfl]
          show JJ n _ ((T1, (S3, τ.2.2)), fun i => if i = A then some (na, m, row) else x i)
          have fu := fC _ _ _ _ c1
          refine JJ_as h hu (fun r hr => if_neg hr) fu.1 fu.2 fr3.1 fr3.2.1 fr3.2.2.1 fr3.2.2.2.2.2 ((cT 1).trans t1) ((cT 2).trans t2) (fun k k0 k1 k2 => (cT k).trans (tI k k0 k1 k2)) (fun r hr => ?_) (fun r => by rw [hT1]; exact tQ r) (rp_s hj e3 hu (by rw [hT1]; exact tO 0) rT rfl g9 ?_) (rpP_s hj e4 hu rT rfl g9 ?_)
          · rw [hT1, sR_ne (by omega), sR_ne (by omega), sR_ne (by omega), sR_ne (by omega), sR_ne (by omega)]
            exact tR r
          · refine ⟨?_, ?_, ?_, ?_, ?_, fun k hk => ?_, p4.symm, x6.1, fun k hk => p5 k hk⟩
            · show sR T1 1 A = _
              rw [rT 1 (by omega), nm_us, p0]
              rfl
            · show sR T1 2 A = _
              rw [rT 2 (by omega), nm_us, p1]
              rfl
            · show sR T1 3 A = _
              rw [rT 3 (by omega), nm_us, p2]
              rfl
            · show sR T1 4 A = _
              rw [rT 4 (by omega), nm_us, p3]
              rfl
            · rw [p2, nI_toInt (by omega)]
              omega
            · rw [p2, nI_toInt (by omega)] at hk
              obtain ⟨b, l, hb, hl, y1, y2, _⟩ := s2 k (by omega)
              show sR S3 9 (32768 * A + k) &&& 255 = sR P2 0 k &&& 255
              rw [y2, y1, show vp_nar .byte ((nI b).toInt8.toInt32) &&& 255 = nI b from by_255 ⟨b, hb⟩, pk_andN (by omega) (m := 255) 8 (by decide), show (l * 256 + b) % 2 ^ 8 = b by omega]
          · exact ⟨t, z, b1, b2, b3, p0, p1, p2, rfl, rfl, rfl, s2⟩
    · obtain ⟨Q', U', hm⟩ := MAKs (n := n) (M := nd_st0) (Q := σ.2.2.2.1.1) (U := σ.2.2.2.1.2) (P := σ.2.2.2.2.2.2.2.2.1 j) hn l1 (fun i hi => ((hd i).1 hi).1) (fun i hi => ((hd i).1 hi).2.1) zs
      have sl := stG_l (c := d) len 0 1
      have rp0 : 0 < (1 + 16 * nI (stG d len 0 1)).toInt := fl_ps (f := 1) (by omega) (by omega) (by omega)
      have rn : ¬ 1 + 16 * nI (stG d len 0 1) = 0 := fun z => by rw [z] at rp0; exact absurd rp0 (by decide)
      refine Or.inr ⟨1 + 16 * nI (stG d len 0 1), _, ((T0, τ.2), x), none, cR _ Q' U' _ hm, ?_, t0, tp0 _ _ _ _ (Nat.zero_le _), fun na => ?_⟩
      · rw [eR, if_neg (show ¬ nI (stG d len 0 1) ≤ 0 from znle (b := 0) (by omega) (by omega))]
        exact u61 _ _ (fun z => by rw [Int32.le_iff_toInt_le] at z; have z : (1 + 16 * nI (stG d len 0 1)).toInt ≤ 0 := z; omega)
      · rw [if_neg rn]
        exact f9 σ.2.1 Q' U' _ τ.2.1 (fC _ _ _ _ hm) ⟨rfl, rfl, rfl, fun _ => rfl, fun z => z.elim, e9.2.2⟩ rfl
  · rw [if_neg c] at inE
    have eR : df_X19_assemble n v (τ, x) = some (0, (((pI τ.1 0 1, τ.2), x), none)) := by
      unfold df_X19_assemble df_X19_assemble_0 df_X19_assemble_18
      rw [inE, nb_b2, if_pos rfl, nb_fails, nb_b2, nb_let, if_neg (show ¬ ((1 : Int32) = 0 ∧ (0 : Int32) = 0) by decide), if_neg (show ¬ (1 : Int32) = 0 by decide), if_neg (show ¬ (1 : Int32) = 0 by decide)]
    have eC : df_X12_assemble n T L v σ = some (Sum.inr ("java/lang/IllegalArgumentException", σ)) := by
      unfold df_X12_assemble df_X12_assemble_0 df_X12_assemble_9
      by_cases y : v < 0
      · rw [if_pos y]
      · rw [if_neg y, if_neg (fun q => c ⟨by rw [nb_lt0] at y; omega, by rw [Int32.lt_iff_toInt_lt] at q; have q : v.toInt < 4 := q; omega⟩)]
    exact Or.inl ⟨0, σ, _, eC, eR, rfl, Nat.le_refl _, JJ_0 h 1⟩

/-- the class's operand out of an instruction's bits: where its bits stand (letters HIJKLMNPQSTUVWXY) -/
def pbL : List (List Int32) := [[1048576, 2097152, 4194304, 8388608, 16777216, 0, 0, 0, 0, 0, 0, 0, 0, 0, 0, 0, 0, 0, 0, 0, 0], [1048576, 2097152, 4194304, 8388608, 16777216, 33554432, 67108864, 134217728, 268435456, 536870912, 1073741824, (-2147483648), 0, 0, 0, 0, 0, 0, 0, 0, 0], [0, 2097152, 4194304, 8388608, 16777216, 33554432, 67108864, 134217728, 268435456, 536870912, 1073741824, 1048576, 4096, 8192, 16384, 32768, 65536, 131072, 262144, 524288, (-2147483648)], [0, 8, 16, 32, 2048, 4, 128, 64, 512, 1024, 256, 4096, 0, 0, 0, 0, 0, 0, 0, 0, 0], [0, 8, 16, 1024, 2048, 4, 32, 64, 4096, 0, 0, 0, 0, 0, 0, 0, 0, 0, 0, 0, 0], [4, 8, 16, 32, 64, 4096, 0, 0, 0, 0, 0, 0, 0, 0, 0, 0, 0, 0, 0, 0, 0], [4, 8, 16, 32, 64, 4096, 0, 0, 0, 0, 0, 0, 0, 0, 0, 0, 0, 0, 0, 0, 0], [0, 0, 16, 32, 64, 4096, 4, 8, 0, 0, 0, 0, 0, 0, 0, 0, 0, 0, 0, 0, 0], [0, 0, 512, 1024, 2048, 4096, 128, 256, 0, 0, 0, 0, 0, 0, 0, 0, 0, 0, 0, 0, 0], [128, 256, 512, 1024, 2048, 33554432, 67108864, 134217728, 268435456, 536870912, 1073741824, (-2147483648), 0, 0, 0, 0, 0, 0, 0, 0, 0], [0, 256, 512, 1024, 2048, 33554432, 67108864, 134217728, 268435456, 536870912, 1073741824, 128, (-2147483648), 0, 0, 0, 0, 0, 0, 0, 0], [4096, 8192, 16384, 32768, 65536, 131072, 262144, 524288, 1048576, 2097152, 4194304, 8388608, 16777216, 33554432, 67108864, 134217728, 268435456, 536870912, 1073741824, (-2147483648), 0], [4, 8, 16, 32, 64, 0, 0, 0, 0, 0, 0, 0, 0, 0, 0, 0, 0, 0, 0, 0, 0], [0, 0, 64, 1024, 2048, 4096, 32, 0, 0, 0, 0, 0, 0, 0, 0, 0, 0, 0, 0, 0, 0], [0, 0, 64, 32, 2048, 4096, 128, 256, 512, 1024, 0, 0, 0, 0, 0, 0, 0, 0, 0, 0, 0], [0, 0, 0, 0, 64, 4, 32, 8, 16, 4096, 0, 0, 0, 0, 0, 0, 0, 0, 0, 0, 0]]
def pbT (j k : Nat) : Int32 := (pbL.getD j []).getD k 0
def gaL (j : Nat) : Int32 := ([72, 73, 74, 75, 76, 77, 78, 80, 81, 83, 84, 85, 86, 87, 88, 89] : List Int32).getD j 0
theorem pb_1 : ∀ (j : Fin 16) (k : Fin 21), df_X7_placed 0 (gaL j.1) ((1 : Int32) <<< (nI k.1 &&& 31)) () = some (pbT j.1 k.1, ()) := by decide +kernel
theorem pb_n {n j k : Nat} (hj : j < 16) (hk : k < 21) : df_X7_placed n (gaL j) ((1 : Int32) <<< (nI k &&& 31)) () = some (pbT j k, ()) := (show df_X7_placed n (gaL j) ((1 : Int32) <<< (nI k &&& 31)) () = df_X7_placed 0 (gaL j) ((1 : Int32) <<< (nI k &&& 31)) () from rfl).trans (pb_1 ⟨j, hj⟩ ⟨k, hk⟩)
def gaV (pb : Nat → Int32) (w : Int32) : Nat → Int32
  | 0 => 0
  | k + 1 => if pb k = 0 then gaV pb w k else gaV pb w k ||| (if w &&& pb k = 0 then 0 else (1 : Int32) <<< (nI k &&& 31))
def gaH (pb : Nat → Int32) : Nat → Nat
  | 0 => 0
  | k + 1 => if pb k = 0 then gaH pb k else k
theorem gaV_n (pb : Nat → Int32) (w : Int32) (k : Nat) : gaV pb w (k + 1) = if pb k = 0 then gaV pb w k else gaV pb w k ||| (if w &&& pb k = 0 then 0 else (1 : Int32) <<< (nI k &&& 31)) := rfl
theorem gaH_n (pb : Nat → Int32) (k : Nat) : gaH pb (k + 1) = if pb k = 0 then gaH pb k else k := rfl
def gaE (n : Nat) (lt V : Int32) (H : Nat) : Option (Int32 × Unit) := nd_b2 (df_X7_fits n lt (-16) ()) (fun (q2 : Int32) (_ : Unit) => if q2 = 0 then some (V, ()) else (if ((V >>> (nI H &&& 31)) &&& 1) = 0 then some (V, ()) else some (V - ((2 : Int32) <<< (nI H &&& 31)), ())))
theorem ga_7 {n : Nat} {w lt : Int32} {pb : Nat → Int32} (hp : ∀ k : Nat, k < 21 → df_X7_placed n lt ((1 : Int32) <<< (nI k &&& 31)) () = some (pb k, ())) : ∀ m k g : Nat, k + m = 21 → m < g → df_X7_gathered_7 n g lt w (gaV pb w k) (nI (gaH pb k)) (nI k) () = gaE n lt (gaV pb w 21) (gaH pb 21) := fun m => by
  induction m with
  | zero =>
    intro k g h1 h2
    obtain ⟨g, rfl⟩ : ∃ k : Nat, g = k + 1 := ⟨g - 1, by omega⟩
    have e : k = 21 := by omega
    subst e
    show dF_X7_gathered_7 n (df_X7_gathered_7 n g) lt w (gaV pb w 21) (nI (gaH pb 21)) (nI 21) () = _
    unfold dF_X7_gathered_7 df_X7_gathered_85 df_X7_gathered_86 gaE
    rw [if_pos (show (20 : Int32) < nI 21 by decide)]
  | succ m ih =>
    intro k g h1 h2
    obtain ⟨g, rfl⟩ : ∃ k : Nat, g = k + 1 := ⟨g - 1, by omega⟩
    have i1 := ih (k + 1) g (by omega) (by omega)
    rw [gaV_n, gaH_n] at i1
    show dF_X7_gathered_7 n (df_X7_gathered_7 n g) lt w (gaV pb w k) (nI (gaH pb k)) (nI k) () = _
    unfold dF_X7_gathered_7 df_X7_gathered_48 df_X7_gathered_50
    rw [if_neg (show ¬ (20 : Int32) < nI k from znl (a := 20) (by omega) (by omega)), hp k (by omega), nb_b2, show nI k + Int32.ofInt 1 = nI (k + 1) from nI_add k 1]
    by_cases y : pb k = 0
    · rw [if_pos y, if_pos y] at i1
      rw [if_pos y, nb_let]
      exact i1
    · rw [if_neg y, if_neg y] at i1
      rw [if_neg y]
      by_cases z : w &&& pb k = 0
      · rw [if_pos z] at i1
        rw [if_pos z, nb_let, nb_let]
        exact i1
      · rw [if_neg z] at i1
        rw [if_neg z, nb_let, nb_let]
        exact i1
theorem ga_1 {n j : Nat} (hn : 30 < n) (hj : j < 16) (w : Int32) : df_X7_gathered n (gaL j) w () = gaE n (gaL j) (gaV (pbT j) w 21) (gaH (pbT j) 21) := ga_7 (fun k hk => pb_n hj hk) 21 0 n (by omega) (by omega)

/-- the builder of the class: its letters as a list -/
def BL0 (τ : Sb) (N : Nat) : Prop := sI τ.2.2 0 = 0 ∧ sI τ.2.2 2 = nI N ∧ N ≤ τ.1 ∧ ((τ.1 = 16 ∧ τ.2.1 = 0) ∨ τ.1 = 34) ∧ ∀ j : Nat, fits .byte (.int (sR τ.2.2 0 j)) = true
def BL (τ : Sb) (L : List Nat) : Prop := BL0 τ L.length ∧ ∀ j : Nat, j < L.length → sR τ.2.2 0 j = nI (L.getD j 0)
theorem fit_b : ∀ k : Fin 128, fits .byte (.int (nI k.1)) = true ∧ vp_nar .byte (nI k.1) = nI k.1 ∧ (nI k.1).toInt8.toInt32 = nI k.1 := by decide +kernel
theorem bl_G {n : Nat} {τ : Sb} {N k : Nat} (h : BL0 τ N) (hk : k ≤ 34) (hN : N ≤ k) : ∃ τ1 : Sb, df_J5_ensureCapacityInternal_d00df n (nI k) τ = some τ1 ∧ BL0 τ1 N ∧ k ≤ τ1.1 ∧ ∀ j : Nat, j < N → sR τ1.2.2 0 j = sR τ.2.2 0 j := by
  obtain ⟨c0, c2, cN, cm, cf⟩ := h
  have m34 : τ.1 ≤ 34 := by rcases cm with ⟨a, -⟩ | a <;> omega
  have e1 : (nI k - Int32.ofNat τ.1).toInt = (k : Int) - τ.1 := pk_sub_toInt (by omega) (by omega)
  unfold df_J5_ensureCapacityInternal_d00df
  rw [if_pos c0]
  by_cases hc : k ≤ τ.1
  · rw [if_pos (by rw [Int32.le_iff_toInt_le, e1, Int32.toInt_zero]; omega)]
    exact ⟨τ, rfl, ⟨c0, c2, cN, cm, cf⟩, hc, fun _ _ => rfl⟩
  · rw [if_neg (fun z => hc (by rw [Int32.le_iff_toInt_le, e1, Int32.toInt_zero] at z; omega))]
    have c16 : τ.1 = 16 ∧ τ.2.1 = 0 := by
      rcases cm with a | a
      · exact a
      · omega
    have tk : (nI k).toInt = k := nI_toInt (by omega)
    rw [if_pos ⟨c16.1, c16.2, by rw [tk]; omega, by rw [tk]; omega⟩]
    refine ⟨_, if_pos (fun i _ => cf _), ⟨c0, c2, ?_, Or.inr rfl, ?_⟩, ?_, ?_⟩
    · show N ≤ 34
      omega
    · intro j
      show fits .byte (.int (va_cpy (sR τ.2.2 0) (fun _ => 0) 0 0 16 j)) = true
      unfold va_cpy
      split
      · exact cf _
      · show fits .byte (.int 0) = true
        decide
    · exact hk
    · intro j hj
      show va_cpy (sR τ.2.2 0) (fun _ => 0) 0 0 16 j = _
      unfold va_cpy
      rw [if_pos ⟨Nat.zero_le _, by omega⟩, Nat.zero_add, Nat.sub_zero]
theorem getD_l {L M : List Nat} {j : Nat} (h : j < L.length) : (L ++ M).getD j 0 = L.getD j 0 := by
  rw [List.getD_eq_getElem?_getD, List.getD_eq_getElem?_getD, List.getElem?_append_left h]
theorem getD_r {L M : List Nat} {j : Nat} (h : L.length ≤ j) : (L ++ M).getD j 0 = M.getD (j - L.length) 0 := by
  rw [List.getD_eq_getElem?_getD, List.getD_eq_getElem?_getD, List.getElem?_append_right h]
theorem bl_cat {τ : Sb} {L M : List Nat} (h0 : BL0 τ (L.length + M.length)) (h1 : ∀ j : Nat, j < L.length → sR τ.2.2 0 j = nI (L.getD j 0)) (h2 : ∀ j : Nat, j < M.length → sR τ.2.2 0 (L.length + j) = nI (M.getD j 0)) : BL τ (L ++ M) := by
  refine ⟨by rw [List.length_append]; exact h0, fun j hj => ?_⟩
  rw [List.length_append] at hj
  by_cases c : j < L.length
  · rw [getD_l c]; exact h1 j c
  · rw [getD_r (by omega)]
    have := h2 (j - L.length) (by omega)
    rw [show L.length + (j - L.length) = j by omega] at this
    exact this
theorem st_ok : ∀ L ∈ ks_l, ∀ x ∈ L, x = nI x.toNatClampNeg ∧ x.toNatClampNeg < 128 := by decide +kernel
def strL (i : Nat) : List Nat := (ks_l.getD i []).map Int32.toNatClampNeg
theorem st_n (i : Nat) : (strL i).length = ks_n i := List.length_map ..
theorem st_m {i j : Nat} (hj : j < ks_n i) : ∃ x, (ks_l.getD i [])[j]? = some x ∧ x = nI x.toNatClampNeg ∧ x.toNatClampNeg < 128 := by
  have hl : j < (ks_l.getD i []).length := hj
  have hm : ks_l.getD i [] ∈ ks_l := by
    rw [List.getD_eq_getElem?_getD] at hl ⊢
    cases e : ks_l[i]? with
    | none => rw [e] at hl; exact absurd hl (Nat.not_lt_zero _)
    | some M => exact List.mem_of_getElem? e
  exact ⟨_, List.getElem?_eq_getElem hl, st_ok _ hm _ (List.getElem_mem hl)⟩
theorem st_b {i j : Nat} (hj : j < ks_n i) : ks_b i j = nI ((strL i).getD j 0) := by
  obtain ⟨x, e, h, -⟩ := st_m hj
  unfold ks_b strL
  rw [List.getD_eq_getElem?_getD, e, List.getD_eq_getElem?_getD, List.getElem?_map, e]
  exact h
theorem st_l {i j : Nat} (hj : j < ks_n i) : (strL i).getD j 0 < 128 := by
  obtain ⟨x, e, -, h⟩ := st_m hj
  unfold strL
  rw [List.getD_eq_getElem?_getD, List.getElem?_map, e]
  exact h
theorem il_1 {n mm : Nat} {σ : St} (h : sI σ 0 = 0) : df_J5_isLatin1_aae02 n mm σ = some (1, σ) := by
  unfold df_J5_isLatin1_aae02 df_J5_isLatin1_aae02_0 df_J5_isLatin1_aae02_18
  rw [if_pos h]
  exact nb_z1
theorem ce_1 {n c : Nat} (h : c < 128) : df_J1_canEncode_fc78d n (nI c) () = some (1, ()) := by
  unfold df_J1_canEncode_fc78d df_J1_canEncode_fc78d_0 df_J1_canEncode_fc78d_12
  rw [if_neg (show ¬ (255 : Int32) < nI c from znl (a := 255) (by omega) (by decide))]
  exact nb_z1
theorem ps_1 {n mm N i : Nat} {σ : St} (hc : sI σ 0 = 0) (hi : i < 190) (hN : N + ks_n i ≤ mm) (hm : mm ≤ 34) : df_J5_putStringAt_47b60 n mm (nI N) i σ = some (pR σ 0 (va_cpy (ks_b i) (sR σ 0) 0 N (ks_n i))) := by
  have z : ∀ (x : Option (Int32 × Unit)), nd_z .byte 0 x = x := fun x => nar_z (by decide)
  have e1 : df_J0_coder_7d493 n i () = some (0, ()) := by
    unfold df_J0_coder_7d493 df_J0_coder_7d493_0 df_J0_coder_7d493_14
    rw [nb_lt hi, z]
  have s0 : nI N <<< ((0 : Int32) &&& 31) = nI N := sb_shl0 _
  have cl : Int32.toNatClampNeg (Int32.ofNat (ks_n i)) = ks_n i := nI_clamp (by omega)
  have cN : Int32.toNatClampNeg (nI N) = N := nI_clamp (by omega)
  have c0 : Int32.toNatClampNeg (0 : Int32) = 0 := by decide
  have nn : ∀ k : Nat, k < 2 ^ 31 → ¬ nI k < (0 : Int32) := fun k hk => znl (b := 0) (Nat.zero_le _) hk
  unfold df_J5_putStringAt_47b60 df_J5_putStringAt_47b60_0 df_J5_inflateIfNeededFor_a7421 df_J5_inflateIfNeededFor_a7421_0 df_J5_inflateIfNeededFor_a7421_21
  rw [nb_lt hi, e1, nb_b2, if_pos hc, nb_b1, nb_lt hi, hc]
  unfold df_J0_getBytes_840e7 df_J0_getBytes_840e7_0 df_J0_getBytes_840e7_43
  rw [nb_lt hi, e1, nb_b2, if_pos rfl, nb_lt hi, nb_lt hi, nb_lt hi, nb_lt hi, s0, cl, cN, c0]
  unfold nd_cp
  rw [if_pos ⟨by decide, nn N (by omega), nn (ks_n i) (by omega), by rw [c0, cl]; omega, by rw [cN, cl]; omega⟩]
  rfl
theorem ap_S {n i : Nat} {τ : Sb} {L : List Nat} (h : BL τ L) (hi : i < 190) (hl : L.length + ks_n i ≤ 34) : ∃ τ' : Sb, df_J4_append_15ec4 n i τ = some τ' ∧ BL τ' (L ++ strL i) := by
  obtain ⟨h0, h1⟩ := h
  obtain ⟨τ1, g1, ⟨c0, c2, cN, cm, cf⟩, g3, g4⟩ := bl_G (n := n) (k := L.length + ks_n i) h0 hl (by omega)
  have hcn : sI τ.2.2 2 = nI L.length := h0.2.1
  have m34 : τ1.1 ≤ 34 := by rcases cm with ⟨a, -⟩ | a <;> omega
  have e1 : df_J4_append_15ec4 n i τ = some (τ1.1, (τ1.2.1, pI (pR τ1.2.2 0 (va_cpy (ks_b i) (sR τ1.2.2 0) 0 L.length (ks_n i))) 2 (nI (L.length + ks_n i)))) := by
    unfold df_J4_append_15ec4 df_J4_append_15ec4_0 df_J5_append_cf1ce df_J5_append_cf1ce_0
    rw [nb_lt hi, ln_1 n i hi, nb_b2, hcn, nI_add, g1, nb_b1, c2, ps_1 c0 hi g3 m34, nb_b1, nb_let, nb_let, nb_b1]
    show some (τ1.1, (τ1.2.1, pI (pR τ1.2.2 0 (va_cpy (ks_b i) (sR τ1.2.2 0) 0 L.length (ks_n i))) 2 (sI τ1.2.2 2 + nI (ks_n i)))) = _
    rw [c2, nI_add]
  refine ⟨_, e1, bl_cat ⟨c0, ?_, ?_, cm, ?_⟩ ?_ ?_⟩
  · rw [st_n]; rfl
  · rw [st_n]; exact g3
  · intro j
    show fits .byte (.int (va_cpy (ks_b i) (sR τ1.2.2 0) 0 L.length (ks_n i) j)) = true
    unfold va_cpy
    split
    · rename_i hj
      rw [st_b (show 0 + (j - L.length) < ks_n i by omega)]
      exact (fit_b ⟨_, st_l (show 0 + (j - L.length) < ks_n i by omega)⟩).1
    · exact cf j
  · intro j hj
    show va_cpy (ks_b i) (sR τ1.2.2 0) 0 L.length (ks_n i) j = _
    unfold va_cpy
    rw [if_neg (by omega), g4 j hj]
    exact h1 j hj
  · intro j hj
    rw [st_n] at hj
    show va_cpy (ks_b i) (sR τ1.2.2 0) 0 L.length (ks_n i) (L.length + j) = _
    unfold va_cpy
    rw [if_pos (by omega), show 0 + (L.length + j - L.length) = j by omega]
    exact st_b hj
theorem ap_C {n c : Nat} {τ : Sb} {L : List Nat} (h : BL τ L) (hc : c < 128) (hl : L.length + 1 ≤ 34) : ∃ τ' : Sb, df_J4_append_cf468 n (nI c) τ = some τ' ∧ BL τ' (L ++ [c]) := by
  obtain ⟨h0, h1⟩ := h
  obtain ⟨τ1, g1, ⟨c0, c2, cN, cm, cf⟩, g3, g4⟩ := bl_G (n := n) (k := L.length + 1) h0 hl (by omega)
  have hcn : sI τ.2.2 2 = nI L.length := h0.2.1
  have f3 : fits .byte (.int (nI c)) = true ∧ vp_nar .byte (nI c) = nI c ∧ (nI c).toInt8.toInt32 = nI c := fit_b ⟨c, hc⟩
  have a1 : ∀ k : Nat, nI k + 1 = nI (k + 1) := fun k => nI_add k 1
  have n1 : ¬ (1 : Int32) = 0 := by decide
  have e1 : df_J4_append_cf468 n (nI c) τ = some (τ1.1, (τ1.2.1, pR (pI τ1.2.2 2 (nI (L.length + 1))) 0 (upd (sR τ1.2.2 0) L.length (nI c)))) := by
    unfold df_J4_append_cf468 df_J4_append_cf468_0 df_J5_append_3fe6f df_J5_append_3fe6f_0 df_J5_append_3fe6f_75
    rw [hcn, a1, g1, nb_b1, il_1 c0, nb_b2, nb_let, if_neg n1, ce_1 hc, nb_b2, if_neg n1, nb_let, nb_let]
    show nd_b1 (nd_ck (sI τ1.2.2 2) τ1.1 (nd_let (τ1.1, (τ1.2.1, (pR (pI τ1.2.2 2 (sI τ1.2.2 2 + 1)) 0 (upd (sR (pI τ1.2.2 2 (sI τ1.2.2 2 + 1)) 0) (Int32.toNatClampNeg (sI τ1.2.2 2)) (vp_nar .byte ((nI c).toInt8.toInt32)))))) (fun (s13 : Sb) => some s13))) (fun s1 => some s1) = _
    rw [c2, nm_ck (by omega) (by omega), nb_let, nb_b1, a1, nI_clamp (by omega), f3.2.2, f3.2.1]
    rfl
  refine ⟨_, e1, bl_cat (M := [c]) ⟨c0, rfl, g3, cm, ?_⟩ ?_ ?_⟩
  · intro j
    show fits .byte (.int (upd (sR τ1.2.2 0) L.length (nI c) j)) = true
    unfold upd
    split
    · exact f3.1
    · exact cf j
  · intro j hj
    show upd (sR τ1.2.2 0) L.length (nI c) j = _
    unfold upd
    rw [if_neg (by omega), g4 j hj]
    exact h1 j hj
  · intro j hj
    obtain rfl : j = 0 := by
      have hj : j < 1 := hj
      omega
    show upd (sR τ1.2.2 0) L.length (nI c) (L.length + 0) = nI c
    unfold upd
    rw [if_pos (Nat.add_zero _)]

/-- decimal digits -/
def dgF : Nat → Nat → List Nat
  | 0, w => [48 + w % 10]
  | k + 1, w => if w < 10 then [48 + w] else dgF k (w / 10) ++ [48 + w % 10]
def dgL (w : Nat) : List Nat := dgF 10 w
theorem dg_f : ∀ k w : Nat, w < 10 ^ (k + 1) → dgF (k + 1) w = dgF k w := fun k => by
  induction k with
  | zero =>
    intro w h
    have h : w < 10 := h
    show (if w < 10 then [48 + w] else _) = [48 + w % 10]
    rw [if_pos h, Nat.mod_eq_of_lt h]
  | succ k ih =>
    intro w h
    show (if w < 10 then [48 + w] else dgF (k + 1) (w / 10) ++ [48 + w % 10]) = (if w < 10 then [48 + w] else dgF k (w / 10) ++ [48 + w % 10])
    by_cases c : w < 10
    · rw [if_pos c, if_pos c]
    · rw [if_neg c, if_neg c, ih (w / 10) (by rw [Nat.pow_succ] at h; omega)]
theorem dg_0 {w : Nat} (h : w < 10) : dgL w = [48 + w] := if_pos h
theorem dg_s {w : Nat} (h : 10 ≤ w) (h1 : w < 10 ^ 10) : dgL w = dgL (w / 10) ++ [48 + w % 10] := by
  show (if w < 10 then [48 + w] else dgF 9 (w / 10) ++ [48 + w % 10]) = dgF 10 (w / 10) ++ _
  rw [if_neg (by omega), dg_f 9 (w / 10) (by omega)]
theorem dg_ln : ∀ k w : Nat, (dgF k w).length ≤ k + 1 := fun k => by
  induction k with
  | zero => intro w; exact Nat.le_refl 1
  | succ k ih =>
    intro w
    show (if w < 10 then [48 + w] else dgF k (w / 10) ++ [48 + w % 10]).length ≤ k + 2
    split
    · show 1 ≤ k + 2
      omega
    · rw [List.length_append]
      have := ih (w / 10)
      show (dgF k (w / 10)).length + 1 ≤ k + 2
      omega
theorem dg_l10 {w : Nat} (h : w < 10 ^ 10) : (dgL w).length ≤ 10 := by
  unfold dgL
  rw [dg_f 9 w h]
  exact dg_ln 9 w
theorem dg_p {w : Nat} (h : w < 10 ^ 10) : 1 ≤ (dgL w).length := by
  by_cases c : w < 10
  · rw [dg_0 c]; exact Nat.le_refl 1
  · rw [dg_s (by omega) h, List.length_append]; exact Nat.le_add_left _ _
theorem dg_x : ∀ k w : Nat, ∀ x ∈ dgF k w, 48 ≤ x ∧ x < 58 := fun k => by
  induction k with
  | zero =>
    intro w x h
    have h : x = 48 + w % 10 := List.mem_singleton.mp h
    omega
  | succ k ih =>
    intro w x h
    have h : x ∈ (if w < 10 then [48 + w] else dgF k (w / 10) ++ [48 + w % 10]) := h
    split at h
    · have h : x = 48 + w := List.mem_singleton.mp h
      omega
    · rcases List.mem_append.mp h with h | h
      · exact ih _ x h
      · have h : x = 48 + w % 10 := List.mem_singleton.mp h
        omega
theorem dg_n : ∀ i w : Nat, i ≤ 9 → 10 ^ i ≤ w → w < 10 ^ (i + 1) → (dgL w).length = i + 1 := fun i => by
  induction i with
  | zero =>
    intro w _ _ h
    rw [dg_0 (by omega)]
    rfl
  | succ i ih =>
    intro w hi h h1
    have p1 : 10 ^ (i + 1) = 10 ^ i * 10 := Nat.pow_succ ..
    have p2 : 10 ^ (i + 1 + 1) = 10 ^ (i + 1) * 10 := Nat.pow_succ ..
    have p3 : 10 ^ (i + 1 + 1) ≤ 10 ^ 10 := Nat.pow_le_pow_right (by omega) (by omega)
    have p4 : 1 ≤ 10 ^ i := Nat.one_le_pow _ _ (by omega)
    rw [dg_s (by omega) (by omega), List.length_append, ih (w / 10) (by omega) (by omega) (by omega)]
    rfl
/-- negative numbers -/
theorem ng_t {w : Nat} (h : w < 2 ^ 31) : (-nI w).toInt = -(w : Int) := by
  rw [Int32.toInt_neg, nI_toInt h]
  exact Int.bmod_eq_of_le (by omega) (by omega)
theorem ng_le {a b : Nat} (ha : a < 2 ^ 31) (hb : b < 2 ^ 31) : -nI a ≤ -nI b ↔ b ≤ a := by
  rw [Int32.le_iff_toInt_le, ng_t ha, ng_t hb]
  omega
theorem ng_lt {a b : Nat} (ha : a < 2 ^ 31) (hb : b < 2 ^ 31) : -nI a < -nI b ↔ b < a := by
  rw [Int32.lt_iff_toInt_lt, ng_t ha, ng_t hb]
  omega
theorem ng_d {w : Nat} (h : w < 2 ^ 31) : (-nI w) / (100 : Int32) = -nI (w / 100) := by
  apply Int32.toInt_inj.mp
  rw [Int32.toInt_div, ng_t h, ng_t (by omega), show (100 : Int32).toInt = 100 from by decide, Int.neg_tdiv]
  have e : ((w : Int).tdiv 100) = ((w / 100 : Nat) : Int) := by
    rw [Int.tdiv_eq_ediv_of_nonneg (by omega)]
    omega
  rw [e]
  exact Int.bmod_eq_of_le (by omega) (by omega)
theorem ng_r {w : Nat} (h : w < 2 ^ 31) : (-nI (w / 100)) * 100 - (-nI w) = nI (w % 100) := by
  rw [Int32.neg_mul, Int32.sub_neg, Int32.add_comm, ← Int32.sub_eq_add_neg, show nI (w / 100) * 100 = nI (w / 100 * 100) from pk_mul _ _, pk_sub (by omega)]
  congr 1
  omega
theorem ng_10 (k : Nat) : (10 : Int32) * -nI k = -nI (10 * k) := by
  rw [Int32.mul_neg, show (10 : Int32) * nI k = nI (10 * k) from pk_mul _ _]
/-- stringSize -/
theorem ss_16 {n w : Nat} {d : Int32} (hw : w < 2 ^ 31) : ∀ j i m : Nat, i + j = 10 → 1 ≤ i → j < m → (1 < i → 10 ^ (i - 1) ≤ w) → ∀ x2 : Int32, (i < 10 → x2 = -nI (10 ^ i)) → df_J6_stringSize_0f7a4_16 n m (-nI w) d x2 (nI i) () = some (nI (dgL w).length + d, ()) := fun j => by
  induction j with
  | zero =>
    intro i m hi h1 hm hg x2 hx
    obtain ⟨m, rfl⟩ : ∃ g : Nat, m = g + 1 := ⟨m - 1, by omega⟩
    obtain rfl : i = 10 := by omega
    show dF_J6_stringSize_0f7a4_16 n (df_J6_stringSize_0f7a4_16 n m) (-nI w) d x2 (nI 10) () = _
    unfold dF_J6_stringSize_0f7a4_16
    rw [if_pos (show (10 : Int32) ≤ nI 10 by decide), dg_n 9 w (by omega) (hg (by omega)) (by omega)]
    rfl
  | succ j ih =>
    intro i m hi h1 hm hg x2 hx
    obtain ⟨m, rfl⟩ : ∃ g : Nat, m = g + 1 := ⟨m - 1, by omega⟩
    have hx := hx (by omega)
    subst hx
    have p9 : 10 ^ i ≤ 10 ^ 9 := Nat.pow_le_pow_right (by omega) (by omega)
    have p0 : 10 ^ i = 10 ^ (i - 1) * 10 := by rw [← Nat.pow_succ]; congr 1; omega
    have n1 : ¬ (10 : Int32) ≤ nI i := znle (b := i) (a := 10) (by omega) (by omega)
    show dF_J6_stringSize_0f7a4_16 n (df_J6_stringSize_0f7a4_16 n m) (-nI w) d (-nI (10 ^ i)) (nI i) () = _
    unfold dF_J6_stringSize_0f7a4_16
    rw [if_neg n1]
    by_cases c : 10 ^ i ≤ w
    · rw [if_pos ((ng_le hw (by omega)).mpr c), nb_let, nb_let, show nI i + Int32.ofInt 1 = nI (i + 1) from nI_add i 1, ng_10]
      exact ih (i + 1) m (by omega) (by omega) (by omega) (fun _ => c) _ (fun _ => by rw [Nat.pow_succ, Nat.mul_comm])
    · rw [if_neg (fun z => c ((ng_le hw (by omega)).mp z))]
      have e : (dgL w).length = i := by
        by_cases c1 : i = 1
        · subst c1
          rw [dg_0 (by omega)]; rfl
        · have := dg_n (i - 1) w (by omega) (hg (by omega)) (by rw [show i - 1 + 1 = i by omega]; omega)
          omega
      rw [e]
def decI (v : Int32) : List Nat := if v < 0 then 45 :: dgL (-v).toNatClampNeg else dgL v.toNatClampNeg
theorem de_n {w : Nat} (h : w < 2 ^ 31) (h0 : 0 < w) : decI (-nI w) = 45 :: dgL w := by
  have l : -nI w < 0 := by rw [Int32.lt_iff_toInt_lt, ng_t h, Int32.toInt_zero]; omega
  unfold decI
  rw [if_pos l, Int32.neg_neg, nI_clamp h]
theorem de_p {w : Nat} (h : w < 2 ^ 31) : decI (nI w) = dgL w := by
  unfold decI
  rw [if_neg (show ¬ nI w < 0 from znl (b := 0) (Nat.zero_le _) h), nI_clamp h]
theorem si_c {v : Int32} (h : v ≠ Int32.minValue) : ∃ w : Nat, w < 2 ^ 31 ∧ (v = nI w ∨ (v = -nI w ∧ 0 < w)) := by
  have lo := Int32.le_toInt v
  have hi := Int32.toInt_lt v
  have ne : v.toInt ≠ -2147483648 := fun z => h (Int32.toInt_inj.mp (by rw [z]; decide))
  by_cases c : 0 ≤ v.toInt
  · refine ⟨v.toInt.toNat, by omega, Or.inl (Int32.toInt_inj.mp ?_)⟩
    rw [nI_toInt (by omega)]
    omega
  · refine ⟨(-v.toInt).toNat, by omega, Or.inr ⟨Int32.toInt_inj.mp ?_, by omega⟩⟩
    rw [ng_t (by omega)]
    omega
theorem de_l {v : Int32} (h : v ≠ Int32.minValue) : (decI v).length ≤ 11 := by
  obtain ⟨w, hw, e | ⟨e, h0⟩⟩ := si_c h
  · rw [e, de_p hw]
    exact Nat.le_trans (dg_l10 (by omega)) (by omega)
  · rw [e, de_n hw h0]
    exact Nat.succ_le_succ (dg_l10 (by omega))
theorem de_x {v : Int32} (h : v ≠ Int32.minValue) : ∀ x ∈ decI v, x < 128 := by
  intro x hx
  obtain ⟨w, hw, e | ⟨e, h0⟩⟩ := si_c h
  · rw [e, de_p hw] at hx
    have := dg_x 10 w x hx
    omega
  · rw [e, de_n hw h0] at hx
    rcases List.mem_cons.mp hx with y | y
    · omega
    · have := dg_x 10 w x y
      omega
theorem ss_1 {n : Nat} {v : Int32} (hn : 20 < n) (h : v ≠ Int32.minValue) : df_J6_stringSize_0f7a4 n v () = some (nI (decI v).length, ()) := by
  obtain ⟨w, hw, e | ⟨e, h0⟩⟩ := si_c h
  · rw [e, de_p hw]
    unfold df_J6_stringSize_0f7a4 df_J6_stringSize_0f7a4_0 df_J6_stringSize_0f7a4_11
    rw [if_neg (show ¬ nI w < 0 from znl (b := 0) (Nat.zero_le _) hw), nb_let, show (-10 : Int32) = -nI (10 ^ 1) from by decide]
    refine (ss_16 hw 9 1 n rfl (Nat.le_refl 1) (by omega) (fun z => absurd z (by decide)) _ (fun _ => rfl)).trans ?_
    rw [show nI (dgL w).length + 0 = nI (dgL w).length from nI_add _ 0]
  · rw [e, de_n hw h0]
    have l : -nI w < 0 := by rw [Int32.lt_iff_toInt_lt, ng_t hw, Int32.toInt_zero]; omega
    unfold df_J6_stringSize_0f7a4 df_J6_stringSize_0f7a4_0 df_J6_stringSize_0f7a4_11
    rw [if_pos l, show (-10 : Int32) = -nI (10 ^ 1) from by decide]
    refine (ss_16 hw 9 1 n rfl (Nat.le_refl 1) (by omega) (fun z => absurd z (by decide)) _ (fun _ => rfl)).trans ?_
    rw [show nI (dgL w).length + 1 = nI ((dgL w).length + 1) from nI_add _ 1]
    rfl

/-- getChars: digits written from behind -/
theorem dt_1 : ∀ r : Fin 100, dg_o r.1 = nI (48 + r.1 % 10) ∧ dg_t r.1 = nI (48 + r.1 / 10) := by decide +kernel
def rwL (f g : Nat → Int32) (p : Nat) (L : List Nat) : Prop := (∀ j : Nat, j < p → g j = f j) ∧ (∀ j : Nat, j < L.length → g (p + j) = nI (L.getD j 0)) ∧ ((∀ j : Nat, fits .byte (.int (f j)) = true) → ∀ j : Nat, fits .byte (.int (g j)) = true)
theorem rw_0 (f : Nat → Int32) (p : Nat) : rwL f f p [] := ⟨fun _ _ => rfl, fun j h => absurd h (Nat.not_lt_zero _), id⟩
theorem rw_c {f g : Nat → Int32} {p c : Nat} {L : List Nat} (h : rwL f g (p + 1) L) (hc : c < 128) : rwL f (upd g p (nI c)) p (c :: L) := by
  obtain ⟨h1, h2, h3⟩ := h
  refine ⟨fun j hj => ?_, fun j hj => ?_, fun hf j => ?_⟩
  · unfold upd
    rw [if_neg (by omega)]
    exact h1 j (by omega)
  · unfold upd
    rcases j with _ | j
    · rw [if_pos (Nat.add_zero _)]; rfl
    · have hj : j + 1 < L.length + 1 := hj
      rw [if_neg (by omega), show p + (j + 1) = p + 1 + j by omega, h2 j (by omega)]
      rfl
  · unfold upd
    split
    · exact (fit_b ⟨c, hc⟩).1
    · exact h3 hf j
theorem mi_1 {p : Nat} (h : 1 ≤ p) (h1 : p < 2 ^ 31) : nI p + Int32.ofInt (-1) = nI (p - 1) := by
  rw [show Int32.ofInt (-1) = -nI 1 from by decide, ← Int32.sub_eq_add_neg, pk_sub h]
theorem gc_b {n mm w p : Nat} {x6 : Int32} {f : Nat → Int32} {L : List Nat} {σ : St} {g : Int32 → Int32 → Int32 → St → Option (Int32 × St)} (hm : mm ≤ 34) (hw : w < 100) (hl : (dgL w).length ≤ p) (hp : p ≤ mm) (h : rwL f (sR σ 0) p L) : ∃ σ' : St, dF_J6_getChars_ba4f3_22 n mm g (-nI w) (nI p) x6 σ = df_J6_getChars_ba4f3_104 n mm (nI (p - (dgL w).length)) x6 σ' ∧ rwL f (sR σ' 0) (p - (dgL w).length) (dgL w ++ L) := by
  have p1 : 1 ≤ p := Nat.le_trans (dg_p (by omega)) hl
  have l1 : (-100 : Int32) < -nI w := (ng_lt (a := 100) (by omega) (by omega)).mpr hw
  have d1 := dt_1 ⟨w, hw⟩
  have d1 : dg_o w = nI (48 + w % 10) ∧ dg_t w = nI (48 + w / 10) := d1
  have b1 : vp_nar .byte (nI (48 + w % 10)) = nI (48 + w % 10) := (fit_b ⟨48 + w % 10, by omega⟩).2.1
  have b2 : vp_nar .byte (nI (48 + w / 10)) = nI (48 + w / 10) := (fit_b ⟨48 + w / 10, by omega⟩).2.1
  have r1 : rwL f (upd (sR σ 0) (p - 1) (nI (48 + w % 10))) (p - 1) ((48 + w % 10) :: L) := rw_c (by rw [Nat.sub_add_cancel p1]; exact h) (by omega)
  unfold dF_J6_getChars_ba4f3_22
  rw [if_pos l1, nb_let, mi_1 p1 (by omega), Int32.neg_neg, nm_ck hw (by omega), nm_ck (by omega) (by omega), nb_let, nI_clamp (by omega), nI_clamp (by omega), d1.1, b1]
  by_cases c : w < 10
  · rw [if_pos (show (-9 : Int32) ≤ -nI w from (ng_le (a := 9) (by omega) (by omega)).mpr (by omega)), dg_0 c]
    refine ⟨_, rfl, ?_⟩
    rw [Nat.mod_eq_of_lt c] at r1 ⊢
    exact r1
  · have p2 : 2 ≤ p := by
      rw [dg_s (by omega) (by omega), List.length_append, dg_0 (by omega)] at hl
      exact hl
    have e : dgL w = [48 + w / 10, 48 + w % 10] := by rw [dg_s (by omega) (by omega), dg_0 (by omega)]; rfl
    rw [if_neg (show ¬ (-9 : Int32) ≤ -nI w from fun z => c (by have := (ng_le (a := 9) (b := w) (by omega) (by omega)).mp z; omega)), nb_let, mi_1 (by omega) (by omega), nm_ck hw (by omega), nm_ck (by omega) (by omega), nb_let, nI_clamp (by omega), d1.2, b2, e]
    refine ⟨_, rfl, ?_⟩
    exact rw_c (p := p - 1 - 1) (by rw [Nat.sub_add_cancel (by omega)]; exact r1) (by omega)
theorem dg_2 {w : Nat} (h : 100 ≤ w) (h1 : w < 10 ^ 10) : dgL w = dgL (w / 100) ++ [48 + w / 10 % 10, 48 + w % 10] := by
  rw [dg_s (by omega) h1, dg_s (w := w / 10) (by omega) (by omega), Nat.div_div_eq_div_mul, List.append_assoc]
  rfl
theorem gc_22 {n mm : Nat} {x6 : Int32} {f : Nat → Int32} (hm : mm ≤ 34) : ∀ m w p : Nat, ∀ (L : List Nat) (σ : St), w < 100 ^ (m + 1) → w < 2 ^ 31 → (dgL w).length ≤ p → p ≤ mm → rwL f (sR σ 0) p L → ∀ m2 : Nat, m < m2 → ∃ σ' : St, df_J6_getChars_ba4f3_22 n mm m2 (-nI w) (nI p) x6 σ = df_J6_getChars_ba4f3_104 n mm (nI (p - (dgL w).length)) x6 σ' ∧ rwL f (sR σ' 0) (p - (dgL w).length) (dgL w ++ L) := fun m => by
  induction m with
  | zero =>
    intro w p L σ h1 h2 h3 h4 h5 m2 h6
    obtain ⟨m2, rfl⟩ : ∃ g : Nat, m2 = g + 1 := ⟨m2 - 1, by omega⟩
    exact gc_b hm h1 h3 h4 h5
  | succ m ih =>
    intro w p L σ h1 h2 h3 h4 h5 m2 h6
    obtain ⟨m2, rfl⟩ : ∃ g : Nat, m2 = g + 1 := ⟨m2 - 1, by omega⟩
    by_cases c : w < 100
    · exact gc_b hm c h3 h4 h5
    · have e := dg_2 (w := w) (by omega) (by omega)
      have e1 : (dgL w).length = (dgL (w / 100)).length + 2 := by rw [e, List.length_append]; rfl
      have q1 := dg_p (w := w / 100) (by omega)
      have hr : w % 100 < 100 := Nat.mod_lt _ (by omega)
      have d1 : dg_o (w % 100) = nI (48 + w % 100 % 10) ∧ dg_t (w % 100) = nI (48 + w % 100 / 10) := dt_1 ⟨w % 100, hr⟩
      have b1 : vp_nar .byte (nI (48 + w % 100 % 10)) = nI (48 + w % 100 % 10) := (fit_b ⟨48 + w % 100 % 10, by omega⟩).2.1
      have b2 : vp_nar .byte (nI (48 + w % 100 / 10)) = nI (48 + w % 100 / 10) := (fit_b ⟨48 + w % 100 / 10, by omega⟩).2.1
      have r1 : rwL f (upd (sR σ 0) (p - 1) (nI (48 + w % 100 % 10))) (p - 1) ((48 + w % 100 % 10) :: L) := rw_c (by rw [Nat.sub_add_cancel (by omega)]; exact h5) (by omega)
      have r2 : rwL f (upd (upd (sR σ 0) (p - 1) (nI (48 + w % 100 % 10))) (p - 1 - 1) (nI (48 + w % 100 / 10))) (p - 1 - 1) ((48 + w % 100 / 10) :: (48 + w % 100 % 10) :: L) := rw_c (p := p - 1 - 1) (by rw [Nat.sub_add_cancel (by omega)]; exact r1) (by omega)
      obtain ⟨σ', a1, a2⟩ := ih (w / 100) (p - 1 - 1) _ (pR (pR σ 0 (upd (sR σ 0) (p - 1) (nI (48 + w % 100 % 10)))) 0 (upd (upd (sR σ 0) (p - 1) (nI (48 + w % 100 % 10))) (p - 1 - 1) (nI (48 + w % 100 / 10)))) (by rw [Nat.pow_succ] at h1; omega) (by omega) (by omega) (by omega) r2 m2 (by omega)
      refine ⟨σ', ?_, ?_⟩
      · show dF_J6_getChars_ba4f3_22 n mm (df_J6_getChars_ba4f3_22 n mm m2) (-nI w) (nI p) x6 σ = _
        unfold dF_J6_getChars_ba4f3_22
        rw [if_neg (show ¬ (-100 : Int32) < -nI w from fun z => c ((ng_lt (a := 100) (b := w) (by omega) (by omega)).mp z)), nb_let, ng_d h2, nb_let, ng_r h2, nb_let, mi_1 (by omega) (by omega), nm_ck hr (by omega), nm_ck (by omega) (by omega), nb_let, nI_clamp (by omega), nI_clamp (by omega), d1.1, b1, nb_let, mi_1 (by omega) (by omega), nm_ck hr (by omega), nm_ck (by omega) (by omega), nb_let, nI_clamp (by omega), d1.2, b2]
        refine Eq.trans ?_ (a1.trans ?_)
        · rfl
        · rw [e1, show p - 1 - 1 - (dgL (w / 100)).length = p - ((dgL (w / 100)).length + 2) by omega]
      · rw [e1, show p - ((dgL (w / 100)).length + 2) = p - 1 - 1 - (dgL (w / 100)).length by omega, e, List.append_assoc, show w / 10 % 10 = w % 100 / 10 by omega, show w % 10 = w % 100 % 10 by omega]
        exact a2
theorem gc_1 {n mm p : Nat} {v : Int32} {σ : St} (hn : 20 < n) (hv : v ≠ Int32.minValue) (hm : mm ≤ 34) (hl : (decI v).length ≤ p) (hp : p ≤ mm) : ∃ (q : Int32) (σ' : St), df_J6_getChars_ba4f3 n mm v (nI p) σ = some (q, σ') ∧ rwL (sR σ 0) (sR σ' 0) (p - (decI v).length) (decI v) := by
  obtain ⟨w, hw, e | ⟨e, h0⟩⟩ := si_c hv
  · rw [e, de_p hw] at hl ⊢
    obtain ⟨σ', a1, a2⟩ := gc_22 (n := n) (x6 := 0) hm 4 w p [] σ (by omega) hw hl hp (rw_0 _ _) n (by omega)
    refine ⟨nI (p - (dgL w).length), σ', ?_, by rw [List.append_nil] at a2; exact a2⟩
    unfold df_J6_getChars_ba4f3 df_J6_getChars_ba4f3_0 df_J6_getChars_ba4f3_12
    rw [if_pos (show (0 : Int32) ≤ nI w from (nI_leI (a := 0) (by omega) hw).mpr (Nat.zero_le _)), if_pos rfl, nb_let, a1]
    unfold df_J6_getChars_ba4f3_104 df_J6_getChars_ba4f3_118
    rw [if_pos rfl]
  · rw [e, de_n hw h0] at hl ⊢
    have hl : (dgL w).length + 1 ≤ p := hl
    obtain ⟨σ', a1, a2⟩ := gc_22 (n := n) (x6 := 1) hm 4 w p [] σ (by omega) hw (by omega) hp (rw_0 _ _) n (by omega)
    rw [List.append_nil] at a2
    have l : ¬ (0 : Int32) ≤ -nI w := fun z => by rw [Int32.le_iff_toInt_le, ng_t hw, Int32.toInt_zero] at z; omega
    refine ⟨nI (p - (dgL w).length - 1), pR σ' 0 (upd (sR σ' 0) (p - (dgL w).length - 1) (nI 45)), ?_, ?_⟩
    · unfold df_J6_getChars_ba4f3 df_J6_getChars_ba4f3_0 df_J6_getChars_ba4f3_12
      rw [if_neg l, if_neg (by decide), a1]
      unfold df_J6_getChars_ba4f3_104 df_J6_getChars_ba4f3_118
      rw [if_neg (by decide), nb_let, mi_1 (by omega) (by omega), nm_ck (by omega) (by omega), nb_let, nI_clamp (by omega), show vp_nar .byte 45 = nI 45 from by decide]
    · show rwL (sR σ 0) (upd (sR σ' 0) (p - (dgL w).length - 1) (nI 45)) (p - ((dgL w).length + 1)) (45 :: dgL w)
      rw [show p - ((dgL w).length + 1) = p - (dgL w).length - 1 by omega]
      exact rw_c (by rw [Nat.sub_add_cancel (by omega)]; exact a2) (by decide)
theorem ap_I {n : Nat} {v : Int32} {τ : Sb} {L : List Nat} (hn : 20 < n) (h : BL τ L) (hv : v ≠ Int32.minValue) (hl : L.length + (decI v).length ≤ 34) : ∃ τ' : Sb, df_J4_append_bf812 n v τ = some τ' ∧ BL τ' (L ++ decI v) := by
  obtain ⟨h0, h1⟩ := h
  obtain ⟨τ1, g1, ⟨c0, c2, cN, cm, cf⟩, g3, g4⟩ := bl_G (n := n) (k := L.length + (decI v).length) h0 hl (by omega)
  have hcn : sI τ.2.2 2 = nI L.length := h0.2.1
  have m34 : τ1.1 ≤ 34 := by rcases cm with ⟨a, -⟩ | a <;> omega
  have n1 : ¬ (1 : Int32) = 0 := by decide
  obtain ⟨q, σ', a1, b1, b2, b3⟩ := gc_1 (n := n) (mm := τ1.1) (p := L.length + (decI v).length) (σ := pR nd_st0 0 (sR τ1.2.2 0)) hn hv m34 (by omega) g3
  have e1 : df_J4_append_bf812 n v τ = some (τ1.1, (τ1.2.1, pI (pR τ1.2.2 0 (sR σ' 0)) 2 (nI (L.length + (decI v).length)))) := by
    unfold df_J4_append_bf812 df_J4_append_bf812_0 df_J5_append_c97b9 df_J5_append_c97b9_0 df_J5_append_c97b9_48
    rw [nb_let, hcn, ss_1 hn hv, nb_b2, nb_let, nI_add, g1, nb_b1, il_1 c0, nb_b2, nb_let, if_neg n1]
    show nd_b1 (nd_b2 (df_J6_getChars_ba4f3 n τ1.1 v (nI (L.length + (decI v).length)) (pR nd_st0 0 (sR τ1.2.2 0))) (fun (q12 : Int32) (s11 : St) => nd_let (τ1.1, (τ1.2.1, (pR τ1.2.2 0 (sR s11 0)))) (fun (s13 : Sb) => nd_let ((s13.1, (s13.2.1, (pI s13.2.2 2 (nI (L.length + (decI v).length)))))) (fun (s14 : Sb) => some s14)))) (fun s1 => some s1) = _
    rw [a1, nb_b2, nb_let, nb_let, nb_b1]
  rw [Nat.add_sub_cancel] at b1 b2
  refine ⟨_, e1, bl_cat ⟨c0, rfl, g3, cm, fun j => b3 (fun j => cf j) j⟩ (fun j hj => ?_) (fun j hj => ?_)⟩
  · exact (b1 j hj).trans ((g4 j hj).trans (h1 j hj))
  · exact b2 j hj

/-- a field of a word -/
def us (w : Int32) (k : Nat) : Int32 := (w.toUInt32 >>> ((nI k).toUInt32 &&& Int32.toUInt32 (nI 31))).toInt32
theorem gb_u {a : Int32} {s : Nat} (hs : s < 32) (i : Nat) : gb (us a s) i = gb a (s + i) := gb_ush hs i
def fpt (w : Int32) (k m : Nat) : Int32 := us w k &&& nI (2 ^ m - 1)
theorem tbq_1 {m i : Nat} : (2 ^ m - 1).testBit i = decide (i < m) := Nat.testBit_two_pow_sub_one m i
theorem gb_fpt {w : Int32} {k m i : Nat} (hk : k < 32) (hi : i < 32) : gb (fpt w k m) i = (gb w (k + i) && decide (i < m)) := by
  unfold fpt
  rw [gb_and, gb_u hk, gb_n hi, tbq_1]
theorem tbq_2 {p i : Nat} : (2 ^ p).testBit i = decide (p = i) := Nat.testBit_two_pow
theorem an_2 {w : Int32} {p : Nat} (hp : p < 32) : w &&& nI (2 ^ p) = if gb w p = true then nI (2 ^ p) else 0 := by
  apply gb_ext
  intro i hi
  rw [gb_and, gb_n hi, tbq_2]
  by_cases c : p = i
  · subst c
    cases e : gb w p with
    | true => rw [if_pos rfl, gb_n hi, tbq_2, decide_eq_true rfl]; rfl
    | false => rw [if_neg (by decide), show (0 : Int32) = nI 0 from rfl, gb_n hi, Nat.zero_testBit]; rfl
  · rw [decide_eq_false c, Bool.and_false]
    split
    · rw [gb_n hi, tbq_2, decide_eq_false c]
    · rw [show (0 : Int32) = nI 0 from rfl, gb_n hi, Nat.zero_testBit]
theorem usq_1 {w : Int32} {p : Nat} (hp : p < 32) : us w p &&& nI 1 = if gb w p = true then nI 1 else 0 := by
  apply gb_ext
  intro i hi
  rw [gb_and, gb_u hp, gb_n hi, show (1 : Nat) = 2 ^ 0 from rfl, tbq_2]
  by_cases c : 0 = i
  · subst c
    rw [Nat.add_zero]
    cases e : gb w p with
    | true => rw [if_pos rfl, gb_n hi, tbq_2, decide_eq_true rfl]; rfl
    | false => rw [if_neg (by decide), show (0 : Int32) = nI 0 from rfl, gb_n hi, Nat.zero_testBit]; rfl
  · rw [decide_eq_false c, Bool.and_false]
    split
    · rw [gb_n hi, tbq_2, decide_eq_false c]
    · rw [show (0 : Int32) = nI 0 from rfl, gb_n hi, Nat.zero_testBit]
theorem nz_2 : ∀ p : Fin 32, ¬ nI (2 ^ p.1) = (0 : Int32) := by decide +kernel
theorem shq_2 : ∀ k : Fin 32, (1 : Int32) <<< (nI k.1 &&& 31) = nI 1 <<< nI k.1 ∧ (0 : Int32) <<< nI k.1 = 0 := by decide +kernel
theorem bt_s {w : Int32} {p k : Nat} (hp : p < 32) (hk : k < 32) : (if w &&& nI (2 ^ p) = 0 then (0 : Int32) else (1 : Int32) <<< (nI k &&& 31)) = (us w p &&& nI 1) <<< nI k := by
  have s2 := shq_2 ⟨k, hk⟩
  have s2 : (1 : Int32) <<< (nI k &&& 31) = nI 1 <<< nI k ∧ (0 : Int32) <<< nI k = 0 := s2
  rw [an_2 hp, usq_1 hp]
  cases gb w p with
  | true => rw [if_pos (show true = true from rfl), if_pos (show true = true from rfl), if_neg (nz_2 ⟨p, hp⟩), s2.1]
  | false => rw [if_neg (show ¬ (false = true) by decide), if_neg (show ¬ (false = true) by decide), if_pos rfl, s2.2]
def orS (sp : Nat → Option Nat) (w : Int32) : Nat → Int32
  | 0 => 0
  | k + 1 => match sp k with
    | none => orS sp w k
    | some p => orS sp w k ||| ((us w p &&& nI 1) <<< nI k)
def spK (o : Option Nat) : Int32 := match o with
  | none => 0
  | some p => nI (2 ^ p)
theorem gv_all {pb : Nat → Int32} {sp : Nat → Option Nat} {w : Int32} : ∀ m : Nat, m ≤ 32 → (∀ k : Nat, k < m → pb k = spK (sp k) ∧ ∀ p, sp k = some p → p < 32) → gaV pb w m = orS sp w m := fun m => by
  induction m with
  | zero => intro _ _; rfl
  | succ m ih =>
    intro hm h
    obtain ⟨h1, h2⟩ := h m (by omega)
    have i1 := ih (by omega) (fun k hk => h k (by omega))
    rw [gaV_n, i1]
    show _ = (match sp m with | none => orS sp w m | some p => orS sp w m ||| ((us w p &&& nI 1) <<< nI m))
    cases e : sp m with
    | none => rw [if_pos (by rw [h1, e]; rfl)]
    | some p =>
      have hp := h2 p e
      have e3 : pb m = nI (2 ^ p) := by rw [h1, e]; rfl
      rw [e3, if_neg (nz_2 ⟨p, hp⟩), bt_s hp (by omega)]
theorem ad_or {a b : Int32} (h : a &&& b = 0) : a + b = a ||| b := by
  apply Int32.toBitVec_inj.mp
  rw [Int32.toBitVec_add, Int32.toBitVec_or]
  refine BitVec.add_eq_or_of_and_eq_zero _ _ ?_
  rw [← Int32.toBitVec_and, h]
  rfl
theorem sg_2 : ∀ H : Fin 31, -((2 : Int32) <<< (nI H.1 &&& 31)) = nI (2 ^ 32 - 2 ^ (H.1 + 1)) := by decide +kernel
theorem sg_1 {V : Int32} {H : Nat} (hH : H < 31) (hv : V &&& nI (2 ^ 32 - 2 ^ (H + 1)) = 0) : V - ((2 : Int32) <<< (nI H &&& 31)) = V ||| nI (2 ^ 32 - 2 ^ (H + 1)) := by
  rw [Int32.sub_eq_add_neg, sg_2 ⟨H, hH⟩]
  exact ad_or hv
theorem ge_u {n : Nat} {lt V : Int32} {H : Nat} (hf : df_X7_fits n lt (-16) () = some (0, ())) : gaE n lt V H = some (V, ()) := by
  unfold gaE
  rw [hf, nb_b2, if_pos rfl]
theorem ge_s {n : Nat} {lt V : Int32} {H : Nat} (hf : df_X7_fits n lt (-16) () = some (1, ())) (hH : H < 31) (hv : V &&& nI (2 ^ 32 - 2 ^ (H + 1)) = 0) {x : Int32} (h1 : (V >>> (nI H &&& 31)) &&& 1 = 0 → V = x) (h2 : ¬ (V >>> (nI H &&& 31)) &&& 1 = 0 → V ||| nI (2 ^ 32 - 2 ^ (H + 1)) = x) : gaE n lt V H = some (x, ()) := by
  unfold gaE
  rw [hf, nb_b2, if_neg (by decide)]
  by_cases c : (V >>> (nI H &&& 31)) &&& 1 = 0
  · rw [if_pos c, h1 c]
  · rw [if_neg c, sg_1 hH hv, h2 c]
theorem bd_U {v : Int32} {m : Nat} (hm : m < 32) (h : v &&& nI (2 ^ m - 1) = v) : 0 ≤ v.toInt ∧ v.toInt < 2 ^ m := by
  obtain ⟨A, hA, e⟩ := nI_ex v
  have p1 : 2 ^ m ≤ 2 ^ 31 := Nat.pow_le_pow_right (by omega) (by omega)
  have p2 : 0 < 2 ^ m := Nat.pow_pos (by omega)
  have e2 : v = nI (A % 2 ^ m) := by
    rw [← h, e]
    apply gb_ext
    intro i hi
    rw [gb_and, gb_n hi, gb_n hi, gb_n hi, tbq_1, Nat.testBit_mod_two_pow, Bool.and_comm]
  have l := Nat.mod_lt A p2
  rw [e2, nI_toInt (by omega)]
  refine ⟨by omega, ?_⟩
  have : ((2 ^ m : Nat) : Int) = (2 : Int) ^ m := by push_cast; rfl
  omega
theorem gb_c (v : Int32) {i : Nat} (hi : i < 32) : gb (~~~v) i = !gb v i := by
  unfold gb
  rw [Int32.toBitVec_not, BitVec.getLsbD_not, decide_eq_true hi, Bool.true_and]
theorem nt_t (v : Int32) : (~~~v).toInt = -v.toInt - 1 := by
  have lo := Int32.le_toInt v
  have hi := Int32.toInt_lt v
  rw [Int32.toInt_not]
  exact Int.bmod_eq_of_le (by omega) (by omega)
theorem bd_S {v : Int32} {m : Nat} (hm : m < 32) (h : ∀ i : Nat, m ≤ i → i < 32 → gb v i = gb v 31) : -(2 : Int) ^ m ≤ v.toInt ∧ v.toInt < (2 : Int) ^ m := by
  cases e : gb v 31 with
  | false =>
    have := bd_U (v := v) hm (by
      apply gb_ext
      intro i hi
      rw [gb_and, gb_n hi, tbq_1]
      by_cases c : i < m
      · rw [decide_eq_true c, Bool.and_true]
      · rw [decide_eq_false c, Bool.and_false, h i (by omega) hi, e])
    omega
  | true =>
    have := bd_U (v := ~~~v) hm (by
      apply gb_ext
      intro i hi
      rw [gb_and, gb_n hi, tbq_1]
      by_cases c : i < m
      · rw [decide_eq_true c, Bool.and_true]
      · rw [decide_eq_false c, Bool.and_false, gb_c v hi, h i (by omega) hi, e]; rfl)
    rw [nt_t] at this
    omega
/-- one letter: the operand that is taken, whether it fits, its bits -/
def LTp (n : Nat) (w : Int32) (c : Nat) (v : Int32) (b : Bool) (M : Nat) : Prop := df_X7_taken n (nI c) w () = some (v, ()) ∧ df_X7_fits n (nI c) v () = some (bI b, ()) ∧ df_X7_placed n (nI c) v () = some (w &&& nI M, ())
def spL : List (List (Option Nat)) := [[some 20, some 21, some 22, some 23, some 24, none, none, none, none, none, none, none, none, none, none, none, none, none, none, none, none], [some 20, some 21, some 22, some 23, some 24, some 25, some 26, some 27, some 28, some 29, some 30, some 31, none, none, none, none, none, none, none, none, none], [none, some 21, some 22, some 23, some 24, some 25, some 26, some 27, some 28, some 29, some 30, some 20, some 12, some 13, some 14, some 15, some 16, some 17, some 18, some 19, some 31], [none, some 3, some 4, some 5, some 11, some 2, some 7, some 6, some 9, some 10, some 8, some 12, none, none, none, none, none, none, none, none, none], [none, some 3, some 4, some 10, some 11, some 2, some 5, some 6, some 12, none, none, none, none, none, none, none, none, none, none, none, none], [some 2, some 3, some 4, some 5, some 6, some 12, none, none, none, none, none, none, none, none, none, none, none, none, none, none, none], [some 2, some 3, some 4, some 5, some 6, some 12, none, none, none, none, none, none, none, none, none, none, none, none, none, none, none], [none, none, some 4, some 5, some 6, some 12, some 2, some 3, none, none, none, none, none, none, none, none, none, none, none, none, none], [none, none, some 9, some 10, some 11, some 12, some 7, some 8, none, none, none, none, none, none, none, none, none, none, none, none, none], [some 7, some 8, some 9, some 10, some 11, some 25, some 26, some 27, some 28, some 29, some 30, some 31, none, none, none, none, none, none, none, none, none], [none, some 8, some 9, some 10, some 11, some 25, some 26, some 27, some 28, some 29, some 30, some 7, some 31, none, none, none, none, none, none, none, none], [some 12, some 13, some 14, some 15, some 16, some 17, some 18, some 19, some 20, some 21, some 22, some 23, some 24, some 25, some 26, some 27, some 28, some 29, some 30, some 31, none], [some 2, some 3, some 4, some 5, some 6, none, none, none, none, none, none, none, none, none, none, none, none, none, none, none, none], [none, none, some 6, some 10, some 11, some 12, some 5, none, none, none, none, none, none, none, none, none, none, none, none, none, none], [none, none, some 6, some 5, some 11, some 12, some 7, some 8, some 9, some 10, none, none, none, none, none, none, none, none, none, none, none], [none, none, none, none, some 6, some 2, some 5, some 3, some 4, some 12, none, none, none, none, none, none, none, none, none, none, none]]
def spT (j k : Nat) : Option Nat := (spL.getD j []).getD k none
theorem sp_ok : ∀ j : Fin 16, ∀ k : Fin 21, pbT j.1 k.1 = spK (spT j.1 k.1) ∧ ∀ p, spT j.1 k.1 = some p → p < 32 := by
  have h : ∀ j : Fin 16, ∀ k : Fin 21, pbT j.1 k.1 = spK (spT j.1 k.1) ∧ (spT j.1 k.1).getD 0 < 32 := by decide +kernel
  intro j k
  refine ⟨(h j k).1, fun p e => ?_⟩
  have := (h j k).2
  rw [e] at this
  exact this
theorem ga_2 {n j : Nat} (hn : 30 < n) (hj : j < 16) (w : Int32) : df_X7_gathered n (gaL j) w () = gaE n (gaL j) (orS (spT j) w 21) (gaH (pbT j) 21) := by
  rw [ga_1 hn hj w, gv_all 21 (by omega) (fun k hk => sp_ok ⟨j, hj⟩ ⟨k, hk⟩)]
def tvH (w : Int32) : Int32 := (fpt w 20 5)
theorem or_H (w : Int32) : orS (spT 0) w 21 = ((((((nI 0) ||| ((us w 20 &&& nI 1) <<< nI 0)) ||| ((us w 21 &&& nI 1) <<< nI 1)) ||| ((us w 22 &&& nI 1) <<< nI 2)) ||| ((us w 23 &&& nI 1) <<< nI 3)) ||| ((us w 24 &&& nI 1) <<< nI 4)) := rfl
theorem vt_H (w : Int32) : orS (spT 0) w 21 = tvH w := by
  rw [or_H]
  unfold tvH
  (apply gb_ext; apply all32; simp (disch := decide) only [gb_fpt, gb_or, gb_and, gb_xor, gb_shl, gb_shr, gb_ush, gb_u, gb_n, gb_m, gb_hi, Nat.reduceAdd, Nat.reduceSub, Nat.reducePow, Nat.reduceLT, Nat.reduceLeDiff, Nat.testBit, Nat.reduceShiftRight, Nat.reduceBNe, Nat.reduceAnd, Nat.one_and_eq_mod_two, Nat.reduceMod, decide_true, decide_false, Bool.and_true, Bool.true_and, Bool.and_false, Bool.false_and, Bool.or_false, Bool.false_or, Bool.or_true, Bool.true_or, Bool.not_true, Bool.not_false, if_true, if_false, ↓reduceIte, and_self, bne_self_eq_false, Bool.or_self, Bool.and_self, Bool.not_not])
theorem tk_H {n : Nat} (hn : 30 < n) (w : Int32) : df_X7_taken n (nI 72) w () = some (tvH w, ()) := by
  refine Eq.trans (show df_X7_taken n (nI 72) w () = nd_b2 (df_X7_gathered n (gaL 0) w ()) (fun q4 _ => some (q4, ())) from rfl) ?_
  rw [ga_2 hn (by omega) w, ge_u (show df_X7_fits n (gaL 0) (-16) () = some (0, ()) from rfl), vt_H, nb_b2]
def tvI (w : Int32) : Int32 := (w >>> nI 20)
theorem or_I (w : Int32) : orS (spT 1) w 21 = (((((((((((((nI 0) ||| ((us w 20 &&& nI 1) <<< nI 0)) ||| ((us w 21 &&& nI 1) <<< nI 1)) ||| ((us w 22 &&& nI 1) <<< nI 2)) ||| ((us w 23 &&& nI 1) <<< nI 3)) ||| ((us w 24 &&& nI 1) <<< nI 4)) ||| ((us w 25 &&& nI 1) <<< nI 5)) ||| ((us w 26 &&& nI 1) <<< nI 6)) ||| ((us w 27 &&& nI 1) <<< nI 7)) ||| ((us w 28 &&& nI 1) <<< nI 8)) ||| ((us w 29 &&& nI 1) <<< nI 9)) ||| ((us w 30 &&& nI 1) <<< nI 10)) ||| ((us w 31 &&& nI 1) <<< nI 11)) := rfl
theorem vt_I (w : Int32) : (gb w 31 = false → orS (spT 1) w 21 = tvI w) ∧ (gb w 31 = true → orS (spT 1) w 21 ||| nI 4294963200 = tvI w) := by
  rw [or_I]
  unfold tvI
  refine ⟨fun hb => ?_, fun hb => ?_⟩
  · (apply gb_ext; apply all32; simp (disch := decide) only [hb, gb_fpt, gb_or, gb_and, gb_xor, gb_shl, gb_shr, gb_ush, gb_u, gb_n, gb_m, gb_hi, Nat.reduceAdd, Nat.reduceSub, Nat.reducePow, Nat.reduceLT, Nat.reduceLeDiff, Nat.testBit, Nat.reduceShiftRight, Nat.reduceBNe, Nat.reduceAnd, Nat.one_and_eq_mod_two, Nat.reduceMod, decide_true, decide_false, Bool.and_true, Bool.true_and, Bool.and_false, Bool.false_and, Bool.or_false, Bool.false_or, Bool.or_true, Bool.true_or, Bool.not_true, Bool.not_false, if_true, if_false, ↓reduceIte, and_self, bne_self_eq_false, Bool.or_self, Bool.and_self, Bool.not_not])
  · (apply gb_ext; apply all32; simp (disch := decide) only [hb, gb_fpt, gb_or, gb_and, gb_xor, gb_shl, gb_shr, gb_ush, gb_u, gb_n, gb_m, gb_hi, Nat.reduceAdd, Nat.reduceSub, Nat.reducePow, Nat.reduceLT, Nat.reduceLeDiff, Nat.testBit, Nat.reduceShiftRight, Nat.reduceBNe, Nat.reduceAnd, Nat.one_and_eq_mod_two, Nat.reduceMod, decide_true, decide_false, Bool.and_true, Bool.true_and, Bool.and_false, Bool.false_and, Bool.or_false, Bool.false_or, Bool.or_true, Bool.true_or, Bool.not_true, Bool.not_false, if_true, if_false, ↓reduceIte, and_self, bne_self_eq_false, Bool.or_self, Bool.and_self, Bool.not_not])
theorem tk_I {n : Nat} (hn : 30 < n) (w : Int32) : df_X7_taken n (nI 73) w () = some (tvI w, ()) := by
  refine Eq.trans (show df_X7_taken n (nI 73) w () = nd_b2 (df_X7_gathered n (gaL 1) w ()) (fun q4 _ => some (q4, ())) from rfl) ?_
  rw [ga_2 hn (by omega) w, ge_s (x := tvI w) (show df_X7_fits n (gaL 1) (-16) () = some (1, ()) from rfl) (show gaH (pbT 1) 21 < 31 from by decide) ?_ ?_ ?_, nb_b2]
  · show orS (spT 1) w 21 &&& nI 4294963200 = nI 0
    rw [or_I]
    (apply gb_ext; apply all32; simp (disch := decide) only [gb_or, gb_and, gb_xor, gb_shl, gb_shr, gb_ush, gb_u, gb_n, gb_m, gb_hi, Nat.reduceAdd, Nat.reduceSub, Nat.reducePow, Nat.reduceLT, Nat.reduceLeDiff, Nat.testBit, Nat.reduceShiftRight, Nat.reduceBNe, Nat.reduceAnd, Nat.one_and_eq_mod_two, Nat.reduceMod, decide_true, decide_false, Bool.and_true, Bool.true_and, Bool.and_false, Bool.false_and, Bool.or_false, Bool.false_or, Bool.or_true, Bool.true_or, Bool.not_true, Bool.not_false, if_true, if_false, ↓reduceIte, and_self, bne_self_eq_false, Bool.or_self, Bool.and_self, Bool.not_not])
  · intro z
    refine (vt_I w).1 ?_
    have z1 := congrArg (fun y => gb y 0) (show (orS (spT 1) w 21 >>> nI 11) &&& nI 1 = nI 0 from z)
    rw [or_I] at z1
    simp (disch := decide) only [gb_or, gb_and, gb_shl, gb_shr, gb_u, gb_n, Nat.reduceAdd, Nat.reduceSub, Nat.reduceLT, Nat.testBit, Nat.reduceShiftRight, Nat.reduceBNe, Nat.reduceAnd, Nat.one_and_eq_mod_two, Nat.reduceMod, decide_true, decide_false, Bool.and_true, Bool.true_and, Bool.and_false, Bool.false_and, Bool.or_false, Bool.false_or, Bool.not_true, Bool.not_false, if_true, if_false, ↓reduceIte, bne_self_eq_false] at z1
    exact z1
  · intro z
    refine (vt_I w).2 ?_
    cases hb : gb w 31 with
    | true => rfl
    | false =>
      refine absurd ?_ z
      show (orS (spT 1) w 21 >>> nI 11) &&& nI 1 = nI 0
      rw [or_I]
      (apply gb_ext; apply all32; simp (disch := decide) only [hb, gb_or, gb_and, gb_xor, gb_shl, gb_shr, gb_ush, gb_u, gb_n, gb_m, gb_hi, Nat.reduceAdd, Nat.reduceSub, Nat.reducePow, Nat.reduceLT, Nat.reduceLeDiff, Nat.testBit, Nat.reduceShiftRight, Nat.reduceBNe, Nat.reduceAnd, Nat.one_and_eq_mod_two, Nat.reduceMod, decide_true, decide_false, Bool.and_true, Bool.true_and, Bool.and_false, Bool.false_and, Bool.or_false, Bool.false_or, Bool.or_true, Bool.true_or, Bool.not_true, Bool.not_false, if_true, if_false, ↓reduceIte, and_self, bne_self_eq_false, Bool.or_self, Bool.and_self, Bool.not_not])
def tvJ (w : Int32) : Int32 := ((w >>> nI 31) <<< nI 20) ||| ((fpt w 12 8) <<< nI 12) ||| ((fpt w 20 1) <<< nI 11) ||| ((fpt w 21 10) <<< nI 1)
theorem or_J (w : Int32) : orS (spT 2) w 21 = (((((((((((((((((((((nI 0) ||| ((us w 21 &&& nI 1) <<< nI 1)) ||| ((us w 22 &&& nI 1) <<< nI 2)) ||| ((us w 23 &&& nI 1) <<< nI 3)) ||| ((us w 24 &&& nI 1) <<< nI 4)) ||| ((us w 25 &&& nI 1) <<< nI 5)) ||| ((us w 26 &&& nI 1) <<< nI 6)) ||| ((us w 27 &&& nI 1) <<< nI 7)) ||| ((us w 28 &&& nI 1) <<< nI 8)) ||| ((us w 29 &&& nI 1) <<< nI 9)) ||| ((us w 30 &&& nI 1) <<< nI 10)) ||| ((us w 20 &&& nI 1) <<< nI 11)) ||| ((us w 12 &&& nI 1) <<< nI 12)) ||| ((us w 13 &&& nI 1) <<< nI 13)) ||| ((us w 14 &&& nI 1) <<< nI 14)) ||| ((us w 15 &&& nI 1) <<< nI 15)) ||| ((us w 16 &&& nI 1) <<< nI 16)) ||| ((us w 17 &&& nI 1) <<< nI 17)) ||| ((us w 18 &&& nI 1) <<< nI 18)) ||| ((us w 19 &&& nI 1) <<< nI 19)) ||| ((us w 31 &&& nI 1) <<< nI 20)) := rfl
theorem vt_J (w : Int32) : (gb w 31 = false → orS (spT 2) w 21 = tvJ w) ∧ (gb w 31 = true → orS (spT 2) w 21 ||| nI 4292870144 = tvJ w) := by
  rw [or_J]
  unfold tvJ
  refine ⟨fun hb => ?_, fun hb => ?_⟩
  · (apply gb_ext; apply all32; simp (disch := decide) only [hb, gb_fpt, gb_or, gb_and, gb_xor, gb_shl, gb_shr, gb_ush, gb_u, gb_n, gb_m, gb_hi, Nat.reduceAdd, Nat.reduceSub, Nat.reducePow, Nat.reduceLT, Nat.reduceLeDiff, Nat.testBit, Nat.reduceShiftRight, Nat.reduceBNe, Nat.reduceAnd, Nat.one_and_eq_mod_two, Nat.reduceMod, decide_true, decide_false, Bool.and_true, Bool.true_and, Bool.and_false, Bool.false_and, Bool.or_false, Bool.false_or, Bool.or_true, Bool.true_or, Bool.not_true, Bool.not_false, if_true, if_false, ↓reduceIte, and_self, bne_self_eq_false, Bool.or_self, Bool.and_self, Bool.not_not])
  · (apply gb_ext; apply all32; simp (disch := decide) only [hb, gb_fpt, gb_or, gb_and, gb_xor, gb_shl, gb_shr, gb_ush, gb_u, gb_n, gb_m, gb_hi, Nat.reduceAdd, Nat.reduceSub, Nat.reducePow, Nat.reduceLT, Nat.reduceLeDiff, Nat.testBit, Nat.reduceShiftRight, Nat.reduceBNe, Nat.reduceAnd, Nat.one_and_eq_mod_two, Nat.reduceMod, decide_true, decide_false, Bool.and_true, Bool.true_and, Bool.and_false, Bool.false_and, Bool.or_false, Bool.false_or, Bool.or_true, Bool.true_or, Bool.not_true, Bool.not_false, if_true, if_false, ↓reduceIte, and_self, bne_self_eq_false, Bool.or_self, Bool.and_self, Bool.not_not])
theorem tk_J {n : Nat} (hn : 30 < n) (w : Int32) : df_X7_taken n (nI 74) w () = some (tvJ w, ()) := by
  refine Eq.trans (show df_X7_taken n (nI 74) w () = nd_b2 (df_X7_gathered n (gaL 2) w ()) (fun q4 _ => some (q4, ())) from rfl) ?_
  rw [ga_2 hn (by omega) w, ge_s (x := tvJ w) (show df_X7_fits n (gaL 2) (-16) () = some (1, ()) from rfl) (show gaH (pbT 2) 21 < 31 from by decide) ?_ ?_ ?_, nb_b2]
  · show orS (spT 2) w 21 &&& nI 4292870144 = nI 0
    rw [or_J]
    (apply gb_ext; apply all32; simp (disch := decide) only [gb_or, gb_and, gb_xor, gb_shl, gb_shr, gb_ush, gb_u, gb_n, gb_m, gb_hi, Nat.reduceAdd, Nat.reduceSub, Nat.reducePow, Nat.reduceLT, Nat.reduceLeDiff, Nat.testBit, Nat.reduceShiftRight, Nat.reduceBNe, Nat.reduceAnd, Nat.one_and_eq_mod_two, Nat.reduceMod, decide_true, decide_false, Bool.and_true, Bool.true_and, Bool.and_false, Bool.false_and, Bool.or_false, Bool.false_or, Bool.or_true, Bool.true_or, Bool.not_true, Bool.not_false, if_true, if_false, ↓reduceIte, and_self, bne_self_eq_false, Bool.or_self, Bool.and_self, Bool.not_not])
  · intro z
    refine (vt_J w).1 ?_
    have z1 := congrArg (fun y => gb y 0) (show (orS (spT 2) w 21 >>> nI 20) &&& nI 1 = nI 0 from z)
    rw [or_J] at z1
    simp (disch := decide) only [gb_or, gb_and, gb_shl, gb_shr, gb_u, gb_n, Nat.reduceAdd, Nat.reduceSub, Nat.reduceLT, Nat.testBit, Nat.reduceShiftRight, Nat.reduceBNe, Nat.reduceAnd, Nat.one_and_eq_mod_two, Nat.reduceMod, decide_true, decide_false, Bool.and_true, Bool.true_and, Bool.and_false, Bool.false_and, Bool.or_false, Bool.false_or, Bool.not_true, Bool.not_false, if_true, if_false, ↓reduceIte, bne_self_eq_false] at z1
    exact z1
  · intro z
    refine (vt_J w).2 ?_
    cases hb : gb w 31 with
    | true => rfl
    | false =>
      refine absurd ?_ z
      show (orS (spT 2) w 21 >>> nI 20) &&& nI 1 = nI 0
      rw [or_J]
      (apply gb_ext; apply all32; simp (disch := decide) only [hb, gb_or, gb_and, gb_xor, gb_shl, gb_shr, gb_ush, gb_u, gb_n, gb_m, gb_hi, Nat.reduceAdd, Nat.reduceSub, Nat.reducePow, Nat.reduceLT, Nat.reduceLeDiff, Nat.testBit, Nat.reduceShiftRight, Nat.reduceBNe, Nat.reduceAnd, Nat.one_and_eq_mod_two, Nat.reduceMod, decide_true, decide_false, Bool.and_true, Bool.true_and, Bool.and_false, Bool.false_and, Bool.or_false, Bool.false_or, Bool.or_true, Bool.true_or, Bool.not_true, Bool.not_false, if_true, if_false, ↓reduceIte, and_self, bne_self_eq_false, Bool.or_self, Bool.and_self, Bool.not_not])
def tvK (w : Int32) : Int32 := ((fpt w 3 3) <<< nI 1) ||| ((fpt w 11 1) <<< nI 4) ||| ((fpt w 2 1) <<< nI 5) ||| ((fpt w 7 1) <<< nI 6) ||| ((fpt w 6 1) <<< nI 7) ||| ((fpt w 9 2) <<< nI 8) ||| ((fpt w 8 1) <<< nI 10) ||| ((-(fpt w 12 1)) <<< nI 11)
theorem or_K (w : Int32) : orS (spT 3) w 21 = ((((((((((((nI 0) ||| ((us w 3 &&& nI 1) <<< nI 1)) ||| ((us w 4 &&& nI 1) <<< nI 2)) ||| ((us w 5 &&& nI 1) <<< nI 3)) ||| ((us w 11 &&& nI 1) <<< nI 4)) ||| ((us w 2 &&& nI 1) <<< nI 5)) ||| ((us w 7 &&& nI 1) <<< nI 6)) ||| ((us w 6 &&& nI 1) <<< nI 7)) ||| ((us w 9 &&& nI 1) <<< nI 8)) ||| ((us w 10 &&& nI 1) <<< nI 9)) ||| ((us w 8 &&& nI 1) <<< nI 10)) ||| ((us w 12 &&& nI 1) <<< nI 11)) := rfl
theorem vt_K (w : Int32) : (gb w 12 = false → orS (spT 3) w 21 = tvK w) ∧ (gb w 12 = true → orS (spT 3) w 21 ||| nI 4294963200 = tvK w) := by
  rw [or_K]
  unfold tvK
  refine ⟨fun hb => ?_, fun hb => ?_⟩
  · have e : fpt w 12 1 = nI 0 := by
      (apply gb_ext; apply all32; simp (disch := decide) only [hb, gb_fpt, gb_or, gb_and, gb_xor, gb_shl, gb_shr, gb_ush, gb_u, gb_n, gb_m, gb_hi, Nat.reduceAdd, Nat.reduceSub, Nat.reducePow, Nat.reduceLT, Nat.reduceLeDiff, Nat.testBit, Nat.reduceShiftRight, Nat.reduceBNe, Nat.reduceAnd, Nat.one_and_eq_mod_two, Nat.reduceMod, decide_true, decide_false, Bool.and_true, Bool.true_and, Bool.and_false, Bool.false_and, Bool.or_false, Bool.false_or, Bool.or_true, Bool.true_or, Bool.not_true, Bool.not_false, if_true, if_false, ↓reduceIte, and_self, bne_self_eq_false, Bool.or_self, Bool.and_self, Bool.not_not])
    rw [e]
    rw [show -nI 0 = nI 0 from by decide]
    (apply gb_ext; apply all32; simp (disch := decide) only [hb, gb_fpt, gb_or, gb_and, gb_xor, gb_shl, gb_shr, gb_ush, gb_u, gb_n, gb_m, gb_hi, Nat.reduceAdd, Nat.reduceSub, Nat.reducePow, Nat.reduceLT, Nat.reduceLeDiff, Nat.testBit, Nat.reduceShiftRight, Nat.reduceBNe, Nat.reduceAnd, Nat.one_and_eq_mod_two, Nat.reduceMod, decide_true, decide_false, Bool.and_true, Bool.true_and, Bool.and_false, Bool.false_and, Bool.or_false, Bool.false_or, Bool.or_true, Bool.true_or, Bool.not_true, Bool.not_false, if_true, if_false, ↓reduceIte, and_self, bne_self_eq_false, Bool.or_self, Bool.and_self, Bool.not_not])
  · have e : fpt w 12 1 = nI 1 := by
      (apply gb_ext; apply all32; simp (disch := decide) only [hb, gb_fpt, gb_or, gb_and, gb_xor, gb_shl, gb_shr, gb_ush, gb_u, gb_n, gb_m, gb_hi, Nat.reduceAdd, Nat.reduceSub, Nat.reducePow, Nat.reduceLT, Nat.reduceLeDiff, Nat.testBit, Nat.reduceShiftRight, Nat.reduceBNe, Nat.reduceAnd, Nat.one_and_eq_mod_two, Nat.reduceMod, decide_true, decide_false, Bool.and_true, Bool.true_and, Bool.and_false, Bool.false_and, Bool.or_false, Bool.false_or, Bool.or_true, Bool.true_or, Bool.not_true, Bool.not_false, if_true, if_false, ↓reduceIte, and_self, bne_self_eq_false, Bool.or_self, Bool.and_self, Bool.not_not])
    rw [e]
    (apply gb_ext; apply all32; simp (disch := decide) only [hb, gb_fpt, gb_or, gb_and, gb_xor, gb_shl, gb_shr, gb_ush, gb_u, gb_n, gb_m, gb_hi, Nat.reduceAdd, Nat.reduceSub, Nat.reducePow, Nat.reduceLT, Nat.reduceLeDiff, Nat.testBit, Nat.reduceShiftRight, Nat.reduceBNe, Nat.reduceAnd, Nat.one_and_eq_mod_two, Nat.reduceMod, decide_true, decide_false, Bool.and_true, Bool.true_and, Bool.and_false, Bool.false_and, Bool.or_false, Bool.false_or, Bool.or_true, Bool.true_or, Bool.not_true, Bool.not_false, if_true, if_false, ↓reduceIte, and_self, bne_self_eq_false, Bool.or_self, Bool.and_self, Bool.not_not])
theorem tk_K {n : Nat} (hn : 30 < n) (w : Int32) : df_X7_taken n (nI 75) w () = some (tvK w, ()) := by
  refine Eq.trans (show df_X7_taken n (nI 75) w () = nd_b2 (df_X7_gathered n (gaL 3) w ()) (fun q4 _ => some (q4, ())) from rfl) ?_
  rw [ga_2 hn (by omega) w, ge_s (x := tvK w) (show df_X7_fits n (gaL 3) (-16) () = some (1, ()) from rfl) (show gaH (pbT 3) 21 < 31 from by decide) ?_ ?_ ?_, nb_b2]
  · show orS (spT 3) w 21 &&& nI 4294963200 = nI 0
    rw [or_K]
    (apply gb_ext; apply all32; simp (disch := decide) only [gb_or, gb_and, gb_xor, gb_shl, gb_shr, gb_ush, gb_u, gb_n, gb_m, gb_hi, Nat.reduceAdd, Nat.reduceSub, Nat.reducePow, Nat.reduceLT, Nat.reduceLeDiff, Nat.testBit, Nat.reduceShiftRight, Nat.reduceBNe, Nat.reduceAnd, Nat.one_and_eq_mod_two, Nat.reduceMod, decide_true, decide_false, Bool.and_true, Bool.true_and, Bool.and_false, Bool.false_and, Bool.or_false, Bool.false_or, Bool.or_true, Bool.true_or, Bool.not_true, Bool.not_false, if_true, if_false, ↓reduceIte, and_self, bne_self_eq_false, Bool.or_self, Bool.and_self, Bool.not_not])
  · intro z
    refine (vt_K w).1 ?_
    have z1 := congrArg (fun y => gb y 0) (show (orS (spT 3) w 21 >>> nI 11) &&& nI 1 = nI 0 from z)
    rw [or_K] at z1
    simp (disch := decide) only [gb_or, gb_and, gb_shl, gb_shr, gb_u, gb_n, Nat.reduceAdd, Nat.reduceSub, Nat.reduceLT, Nat.testBit, Nat.reduceShiftRight, Nat.reduceBNe, Nat.reduceAnd, Nat.one_and_eq_mod_two, Nat.reduceMod, decide_true, decide_false, Bool.and_true, Bool.true_and, Bool.and_false, Bool.false_and, Bool.or_false, Bool.false_or, Bool.not_true, Bool.not_false, if_true, if_false, ↓reduceIte, bne_self_eq_false] at z1
    exact z1
  · intro z
    refine (vt_K w).2 ?_
    cases hb : gb w 12 with
    | true => rfl
    | false =>
      refine absurd ?_ z
      show (orS (spT 3) w 21 >>> nI 11) &&& nI 1 = nI 0
      rw [or_K]
      (apply gb_ext; apply all32; simp (disch := decide) only [hb, gb_or, gb_and, gb_xor, gb_shl, gb_shr, gb_ush, gb_u, gb_n, gb_m, gb_hi, Nat.reduceAdd, Nat.reduceSub, Nat.reducePow, Nat.reduceLT, Nat.reduceLeDiff, Nat.testBit, Nat.reduceShiftRight, Nat.reduceBNe, Nat.reduceAnd, Nat.one_and_eq_mod_two, Nat.reduceMod, decide_true, decide_false, Bool.and_true, Bool.true_and, Bool.and_false, Bool.false_and, Bool.or_false, Bool.false_or, Bool.or_true, Bool.true_or, Bool.not_true, Bool.not_false, if_true, if_false, ↓reduceIte, and_self, bne_self_eq_false, Bool.or_self, Bool.and_self, Bool.not_not])
def tvL (w : Int32) : Int32 := ((fpt w 3 2) <<< nI 1) ||| ((fpt w 10 2) <<< nI 3) ||| ((fpt w 2 1) <<< nI 5) ||| ((fpt w 5 2) <<< nI 6) ||| ((-(fpt w 12 1)) <<< nI 8)
theorem or_L (w : Int32) : orS (spT 4) w 21 = (((((((((nI 0) ||| ((us w 3 &&& nI 1) <<< nI 1)) ||| ((us w 4 &&& nI 1) <<< nI 2)) ||| ((us w 10 &&& nI 1) <<< nI 3)) ||| ((us w 11 &&& nI 1) <<< nI 4)) ||| ((us w 2 &&& nI 1) <<< nI 5)) ||| ((us w 5 &&& nI 1) <<< nI 6)) ||| ((us w 6 &&& nI 1) <<< nI 7)) ||| ((us w 12 &&& nI 1) <<< nI 8)) := rfl
theorem vt_L (w : Int32) : (gb w 12 = false → orS (spT 4) w 21 = tvL w) ∧ (gb w 12 = true → orS (spT 4) w 21 ||| nI 4294966784 = tvL w) := by
  rw [or_L]
  unfold tvL
  refine ⟨fun hb => ?_, fun hb => ?_⟩
  · have e : fpt w 12 1 = nI 0 := by
      (apply gb_ext; apply all32; simp (disch := decide) only [hb, gb_fpt, gb_or, gb_and, gb_xor, gb_shl, gb_shr, gb_ush, gb_u, gb_n, gb_m, gb_hi, Nat.reduceAdd, Nat.reduceSub, Nat.reducePow, Nat.reduceLT, Nat.reduceLeDiff, Nat.testBit, Nat.reduceShiftRight, Nat.reduceBNe, Nat.reduceAnd, Nat.one_and_eq_mod_two, Nat.reduceMod, decide_true, decide_false, Bool.and_true, Bool.true_and, Bool.and_false, Bool.false_and, Bool.or_false, Bool.false_or, Bool.or_true, Bool.true_or, Bool.not_true, Bool.not_false, if_true, if_false, ↓reduceIte, and_self, bne_self_eq_false, Bool.or_self, Bool.and_self, Bool.not_not])
    rw [e]
    rw [show -nI 0 = nI 0 from by decide]
    (apply gb_ext; apply all32; simp (disch := decide) only [hb, gb_fpt, gb_or, gb_and, gb_xor, gb_shl, gb_shr, gb_ush, gb_u, gb_n, gb_m, gb_hi, Nat.reduceAdd, Nat.reduceSub, Nat.reducePow, Nat.reduceLT, Nat.reduceLeDiff, Nat.testBit, Nat.reduceShiftRight, Nat.reduceBNe, Nat.reduceAnd, Nat.one_and_eq_mod_two, Nat.reduceMod, decide_true, decide_false, Bool.and_true, Bool.true_and, Bool.and_false, Bool.false_and, Bool.or_false, Bool.false_or, Bool.or_true, Bool.true_or, Bool.not_true, Bool.not_false, if_true, if_false, ↓reduceIte, and_self, bne_self_eq_false, Bool.or_self, Bool.and_self, Bool.not_not])
  · have e : fpt w 12 1 = nI 1 := by
      (apply gb_ext; apply all32; simp (disch := decide) only [hb, gb_fpt, gb_or, gb_and, gb_xor, gb_shl, gb_shr, gb_ush, gb_u, gb_n, gb_m, gb_hi, Nat.reduceAdd, Nat.reduceSub, Nat.reducePow, Nat.reduceLT, Nat.reduceLeDiff, Nat.testBit, Nat.reduceShiftRight, Nat.reduceBNe, Nat.reduceAnd, Nat.one_and_eq_mod_two, Nat.reduceMod, decide_true, decide_false, Bool.and_true, Bool.true_and, Bool.and_false, Bool.false_and, Bool.or_false, Bool.false_or, Bool.or_true, Bool.true_or, Bool.not_true, Bool.not_false, if_true, if_false, ↓reduceIte, and_self, bne_self_eq_false, Bool.or_self, Bool.and_self, Bool.not_not])
    rw [e]
    (apply gb_ext; apply all32; simp (disch := decide) only [hb, gb_fpt, gb_or, gb_and, gb_xor, gb_shl, gb_shr, gb_ush, gb_u, gb_n, gb_m, gb_hi, Nat.reduceAdd, Nat.reduceSub, Nat.reducePow, Nat.reduceLT, Nat.reduceLeDiff, Nat.testBit, Nat.reduceShiftRight, Nat.reduceBNe, Nat.reduceAnd, Nat.one_and_eq_mod_two, Nat.reduceMod, decide_true, decide_false, Bool.and_true, Bool.true_and, Bool.and_false, Bool.false_and, Bool.or_false, Bool.false_or, Bool.or_true, Bool.true_or, Bool.not_true, Bool.not_false, if_true, if_false, ↓reduceIte, and_self, bne_self_eq_false, Bool.or_self, Bool.and_self, Bool.not_not])
theorem tk_L {n : Nat} (hn : 30 < n) (w : Int32) : df_X7_taken n (nI 76) w () = some (tvL w, ()) := by
  refine Eq.trans (show df_X7_taken n (nI 76) w () = nd_b2 (df_X7_gathered n (gaL 4) w ()) (fun q4 _ => some (q4, ())) from rfl) ?_
  rw [ga_2 hn (by omega) w, ge_s (x := tvL w) (show df_X7_fits n (gaL 4) (-16) () = some (1, ()) from rfl) (show gaH (pbT 4) 21 < 31 from by decide) ?_ ?_ ?_, nb_b2]
  · show orS (spT 4) w 21 &&& nI 4294966784 = nI 0
    rw [or_L]
    (apply gb_ext; apply all32; simp (disch := decide) only [gb_or, gb_and, gb_xor, gb_shl, gb_shr, gb_ush, gb_u, gb_n, gb_m, gb_hi, Nat.reduceAdd, Nat.reduceSub, Nat.reducePow, Nat.reduceLT, Nat.reduceLeDiff, Nat.testBit, Nat.reduceShiftRight, Nat.reduceBNe, Nat.reduceAnd, Nat.one_and_eq_mod_two, Nat.reduceMod, decide_true, decide_false, Bool.and_true, Bool.true_and, Bool.and_false, Bool.false_and, Bool.or_false, Bool.false_or, Bool.or_true, Bool.true_or, Bool.not_true, Bool.not_false, if_true, if_false, ↓reduceIte, and_self, bne_self_eq_false, Bool.or_self, Bool.and_self, Bool.not_not])
  · intro z
    refine (vt_L w).1 ?_
    have z1 := congrArg (fun y => gb y 0) (show (orS (spT 4) w 21 >>> nI 8) &&& nI 1 = nI 0 from z)
    rw [or_L] at z1
    simp (disch := decide) only [gb_or, gb_and, gb_shl, gb_shr, gb_u, gb_n, Nat.reduceAdd, Nat.reduceSub, Nat.reduceLT, Nat.testBit, Nat.reduceShiftRight, Nat.reduceBNe, Nat.reduceAnd, Nat.one_and_eq_mod_two, Nat.reduceMod, decide_true, decide_false, Bool.and_true, Bool.true_and, Bool.and_false, Bool.false_and, Bool.or_false, Bool.false_or, Bool.not_true, Bool.not_false, if_true, if_false, ↓reduceIte, bne_self_eq_false] at z1
    exact z1
  · intro z
    refine (vt_L w).2 ?_
    cases hb : gb w 12 with
    | true => rfl
    | false =>
      refine absurd ?_ z
      show (orS (spT 4) w 21 >>> nI 8) &&& nI 1 = nI 0
      rw [or_L]
      (apply gb_ext; apply all32; simp (disch := decide) only [hb, gb_or, gb_and, gb_xor, gb_shl, gb_shr, gb_ush, gb_u, gb_n, gb_m, gb_hi, Nat.reduceAdd, Nat.reduceSub, Nat.reducePow, Nat.reduceLT, Nat.reduceLeDiff, Nat.testBit, Nat.reduceShiftRight, Nat.reduceBNe, Nat.reduceAnd, Nat.one_and_eq_mod_two, Nat.reduceMod, decide_true, decide_false, Bool.and_true, Bool.true_and, Bool.and_false, Bool.false_and, Bool.or_false, Bool.false_or, Bool.or_true, Bool.true_or, Bool.not_true, Bool.not_false, if_true, if_false, ↓reduceIte, and_self, bne_self_eq_false, Bool.or_self, Bool.and_self, Bool.not_not])
def tvM (w : Int32) : Int32 := (fpt w 2 5) - nI 32 * (fpt w 12 1)
theorem or_M (w : Int32) : orS (spT 5) w 21 = (((((((nI 0) ||| ((us w 2 &&& nI 1) <<< nI 0)) ||| ((us w 3 &&& nI 1) <<< nI 1)) ||| ((us w 4 &&& nI 1) <<< nI 2)) ||| ((us w 5 &&& nI 1) <<< nI 3)) ||| ((us w 6 &&& nI 1) <<< nI 4)) ||| ((us w 12 &&& nI 1) <<< nI 5)) := rfl
theorem vt_M (w : Int32) : (gb w 12 = false → orS (spT 5) w 21 = tvM w) ∧ (gb w 12 = true → orS (spT 5) w 21 ||| nI 4294967232 = tvM w) := by
  rw [or_M]
  unfold tvM
  refine ⟨fun hb => ?_, fun hb => ?_⟩
  · have e : fpt w 12 1 = nI 0 := by
      (apply gb_ext; apply all32; simp (disch := decide) only [hb, gb_fpt, gb_or, gb_and, gb_xor, gb_shl, gb_shr, gb_ush, gb_u, gb_n, gb_m, gb_hi, Nat.reduceAdd, Nat.reduceSub, Nat.reducePow, Nat.reduceLT, Nat.reduceLeDiff, Nat.testBit, Nat.reduceShiftRight, Nat.reduceBNe, Nat.reduceAnd, Nat.one_and_eq_mod_two, Nat.reduceMod, decide_true, decide_false, Bool.and_true, Bool.true_and, Bool.and_false, Bool.false_and, Bool.or_false, Bool.false_or, Bool.or_true, Bool.true_or, Bool.not_true, Bool.not_false, if_true, if_false, ↓reduceIte, and_self, bne_self_eq_false, Bool.or_self, Bool.and_self, Bool.not_not])
    rw [e]
    rw [show fpt w 2 5 - nI 32 * nI 0 = fpt w 2 5 from by rw [show nI 32 * nI 0 = nI 0 from by decide]; exact Int32.sub_zero _]
    (apply gb_ext; apply all32; simp (disch := decide) only [hb, gb_fpt, gb_or, gb_and, gb_xor, gb_shl, gb_shr, gb_ush, gb_u, gb_n, gb_m, gb_hi, Nat.reduceAdd, Nat.reduceSub, Nat.reducePow, Nat.reduceLT, Nat.reduceLeDiff, Nat.testBit, Nat.reduceShiftRight, Nat.reduceBNe, Nat.reduceAnd, Nat.one_and_eq_mod_two, Nat.reduceMod, decide_true, decide_false, Bool.and_true, Bool.true_and, Bool.and_false, Bool.false_and, Bool.or_false, Bool.false_or, Bool.or_true, Bool.true_or, Bool.not_true, Bool.not_false, if_true, if_false, ↓reduceIte, and_self, bne_self_eq_false, Bool.or_self, Bool.and_self, Bool.not_not])
  · have e : fpt w 12 1 = nI 1 := by
      (apply gb_ext; apply all32; simp (disch := decide) only [hb, gb_fpt, gb_or, gb_and, gb_xor, gb_shl, gb_shr, gb_ush, gb_u, gb_n, gb_m, gb_hi, Nat.reduceAdd, Nat.reduceSub, Nat.reducePow, Nat.reduceLT, Nat.reduceLeDiff, Nat.testBit, Nat.reduceShiftRight, Nat.reduceBNe, Nat.reduceAnd, Nat.one_and_eq_mod_two, Nat.reduceMod, decide_true, decide_false, Bool.and_true, Bool.true_and, Bool.and_false, Bool.false_and, Bool.or_false, Bool.false_or, Bool.or_true, Bool.true_or, Bool.not_true, Bool.not_false, if_true, if_false, ↓reduceIte, and_self, bne_self_eq_false, Bool.or_self, Bool.and_self, Bool.not_not])
    rw [e]
    rw [show fpt w 2 5 - nI 32 * nI 1 = fpt w 2 5 ||| nI 4294967264 from by
      rw [show nI 32 * nI 1 = -nI 4294967264 from by decide, Int32.sub_eq_add_neg, Int32.neg_neg]
      refine ad_or ?_
      rw [show (0 : Int32) = nI 0 from rfl]
      (apply gb_ext; apply all32; simp (disch := decide) only [gb_fpt, gb_or, gb_and, gb_xor, gb_shl, gb_shr, gb_ush, gb_u, gb_n, gb_m, gb_hi, Nat.reduceAdd, Nat.reduceSub, Nat.reducePow, Nat.reduceLT, Nat.reduceLeDiff, Nat.testBit, Nat.reduceShiftRight, Nat.reduceBNe, Nat.reduceAnd, Nat.one_and_eq_mod_two, Nat.reduceMod, decide_true, decide_false, Bool.and_true, Bool.true_and, Bool.and_false, Bool.false_and, Bool.or_false, Bool.false_or, Bool.or_true, Bool.true_or, Bool.not_true, Bool.not_false, if_true, if_false, ↓reduceIte, and_self, bne_self_eq_false, Bool.or_self, Bool.and_self, Bool.not_not])]
    (apply gb_ext; apply all32; simp (disch := decide) only [hb, gb_fpt, gb_or, gb_and, gb_xor, gb_shl, gb_shr, gb_ush, gb_u, gb_n, gb_m, gb_hi, Nat.reduceAdd, Nat.reduceSub, Nat.reducePow, Nat.reduceLT, Nat.reduceLeDiff, Nat.testBit, Nat.reduceShiftRight, Nat.reduceBNe, Nat.reduceAnd, Nat.one_and_eq_mod_two, Nat.reduceMod, decide_true, decide_false, Bool.and_true, Bool.true_and, Bool.and_false, Bool.false_and, Bool.or_false, Bool.false_or, Bool.or_true, Bool.true_or, Bool.not_true, Bool.not_false, if_true, if_false, ↓reduceIte, and_self, bne_self_eq_false, Bool.or_self, Bool.and_self, Bool.not_not])
theorem tk_M {n : Nat} (hn : 30 < n) (w : Int32) : df_X7_taken n (nI 77) w () = some (tvM w, ()) := by
  refine Eq.trans (show df_X7_taken n (nI 77) w () = nd_b2 (df_X7_gathered n (gaL 5) w ()) (fun q4 _ => some (q4, ())) from rfl) ?_
  rw [ga_2 hn (by omega) w, ge_s (x := tvM w) (show df_X7_fits n (gaL 5) (-16) () = some (1, ()) from rfl) (show gaH (pbT 5) 21 < 31 from by decide) ?_ ?_ ?_, nb_b2]
  · show orS (spT 5) w 21 &&& nI 4294967232 = nI 0
    rw [or_M]
    (apply gb_ext; apply all32; simp (disch := decide) only [gb_or, gb_and, gb_xor, gb_shl, gb_shr, gb_ush, gb_u, gb_n, gb_m, gb_hi, Nat.reduceAdd, Nat.reduceSub, Nat.reducePow, Nat.reduceLT, Nat.reduceLeDiff, Nat.testBit, Nat.reduceShiftRight, Nat.reduceBNe, Nat.reduceAnd, Nat.one_and_eq_mod_two, Nat.reduceMod, decide_true, decide_false, Bool.and_true, Bool.true_and, Bool.and_false, Bool.false_and, Bool.or_false, Bool.false_or, Bool.or_true, Bool.true_or, Bool.not_true, Bool.not_false, if_true, if_false, ↓reduceIte, and_self, bne_self_eq_false, Bool.or_self, Bool.and_self, Bool.not_not])
  · intro z
    refine (vt_M w).1 ?_
    have z1 := congrArg (fun y => gb y 0) (show (orS (spT 5) w 21 >>> nI 5) &&& nI 1 = nI 0 from z)
    rw [or_M] at z1
    simp (disch := decide) only [gb_or, gb_and, gb_shl, gb_shr, gb_u, gb_n, Nat.reduceAdd, Nat.reduceSub, Nat.reduceLT, Nat.testBit, Nat.reduceShiftRight, Nat.reduceBNe, Nat.reduceAnd, Nat.one_and_eq_mod_two, Nat.reduceMod, decide_true, decide_false, Bool.and_true, Bool.true_and, Bool.and_false, Bool.false_and, Bool.or_false, Bool.false_or, Bool.not_true, Bool.not_false, if_true, if_false, ↓reduceIte, bne_self_eq_false] at z1
    exact z1
  · intro z
    refine (vt_M w).2 ?_
    cases hb : gb w 12 with
    | true => rfl
    | false =>
      refine absurd ?_ z
      show (orS (spT 5) w 21 >>> nI 5) &&& nI 1 = nI 0
      rw [or_M]
      (apply gb_ext; apply all32; simp (disch := decide) only [hb, gb_or, gb_and, gb_xor, gb_shl, gb_shr, gb_ush, gb_u, gb_n, gb_m, gb_hi, Nat.reduceAdd, Nat.reduceSub, Nat.reducePow, Nat.reduceLT, Nat.reduceLeDiff, Nat.testBit, Nat.reduceShiftRight, Nat.reduceBNe, Nat.reduceAnd, Nat.one_and_eq_mod_two, Nat.reduceMod, decide_true, decide_false, Bool.and_true, Bool.true_and, Bool.and_false, Bool.false_and, Bool.or_false, Bool.false_or, Bool.or_true, Bool.true_or, Bool.not_true, Bool.not_false, if_true, if_false, ↓reduceIte, and_self, bne_self_eq_false, Bool.or_self, Bool.and_self, Bool.not_not])
def tvN (w : Int32) : Int32 := (fpt w 2 5) - nI 32 * (fpt w 12 1)
theorem or_N (w : Int32) : orS (spT 6) w 21 = (((((((nI 0) ||| ((us w 2 &&& nI 1) <<< nI 0)) ||| ((us w 3 &&& nI 1) <<< nI 1)) ||| ((us w 4 &&& nI 1) <<< nI 2)) ||| ((us w 5 &&& nI 1) <<< nI 3)) ||| ((us w 6 &&& nI 1) <<< nI 4)) ||| ((us w 12 &&& nI 1) <<< nI 5)) := rfl
theorem vt_N (w : Int32) : (gb w 12 = false → orS (spT 6) w 21 = tvN w) ∧ (gb w 12 = true → orS (spT 6) w 21 ||| nI 4294967232 = tvN w) := by
  rw [or_N]
  unfold tvN
  refine ⟨fun hb => ?_, fun hb => ?_⟩
  · have e : fpt w 12 1 = nI 0 := by
      (apply gb_ext; apply all32; simp (disch := decide) only [hb, gb_fpt, gb_or, gb_and, gb_xor, gb_shl, gb_shr, gb_ush, gb_u, gb_n, gb_m, gb_hi, Nat.reduceAdd, Nat.reduceSub, Nat.reducePow, Nat.reduceLT, Nat.reduceLeDiff, Nat.testBit, Nat.reduceShiftRight, Nat.reduceBNe, Nat.reduceAnd, Nat.one_and_eq_mod_two, Nat.reduceMod, decide_true, decide_false, Bool.and_true, Bool.true_and, Bool.and_false, Bool.false_and, Bool.or_false, Bool.false_or, Bool.or_true, Bool.true_or, Bool.not_true, Bool.not_false, if_true, if_false, ↓reduceIte, and_self, bne_self_eq_false, Bool.or_self, Bool.and_self, Bool.not_not])
    rw [e]
    rw [show fpt w 2 5 - nI 32 * nI 0 = fpt w 2 5 from by rw [show nI 32 * nI 0 = nI 0 from by decide]; exact Int32.sub_zero _]
    (apply gb_ext; apply all32; simp (disch := decide) only [hb, gb_fpt, gb_or, gb_and, gb_xor, gb_shl, gb_shr, gb_ush, gb_u, gb_n, gb_m, gb_hi, Nat.reduceAdd, Nat.reduceSub, Nat.reducePow, Nat.reduceLT, Nat.reduceLeDiff, Nat.testBit, Nat.reduceShiftRight, Nat.reduceBNe, Nat.reduceAnd, Nat.one_and_eq_mod_two, Nat.reduceMod, decide_true, decide_false, Bool.and_true, Bool.true_and, Bool.and_false, Bool.false_and, Bool.or_false, Bool.false_or, Bool.or_true, Bool.true_or, Bool.not_true, Bool.not_false, if_true, if_false, ↓reduceIte, and_self, bne_self_eq_false, Bool.or_self, Bool.and_self, Bool.not_not])
  · have e : fpt w 12 1 = nI 1 := by
      (apply gb_ext; apply all32; simp (disch := decide) only [hb, gb_fpt, gb_or, gb_and, gb_xor, gb_shl, gb_shr, gb_ush, gb_u, gb_n, gb_m, gb_hi, Nat.reduceAdd, Nat.reduceSub, Nat.reducePow, Nat.reduceLT, Nat.reduceLeDiff, Nat.testBit, Nat.reduceShiftRight, Nat.reduceBNe, Nat.reduceAnd, Nat.one_and_eq_mod_two, Nat.reduceMod, decide_true, decide_false, Bool.and_true, Bool.true_and, Bool.and_false, Bool.false_and, Bool.or_false, Bool.false_or, Bool.or_true, Bool.true_or, Bool.not_true, Bool.not_false, if_true, if_false, ↓reduceIte, and_self, bne_self_eq_false, Bool.or_self, Bool.and_self, Bool.not_not])
    rw [e]
    rw [show fpt w 2 5 - nI 32 * nI 1 = fpt w 2 5 ||| nI 4294967264 from by
      rw [show nI 32 * nI 1 = -nI 4294967264 from by decide, Int32.sub_eq_add_neg, Int32.neg_neg]
      refine ad_or ?_
      rw [show (0 : Int32) = nI 0 from rfl]
      (apply gb_ext; apply all32; simp (disch := decide) only [gb_fpt, gb_or, gb_and, gb_xor, gb_shl, gb_shr, gb_ush, gb_u, gb_n, gb_m, gb_hi, Nat.reduceAdd, Nat.reduceSub, Nat.reducePow, Nat.reduceLT, Nat.reduceLeDiff, Nat.testBit, Nat.reduceShiftRight, Nat.reduceBNe, Nat.reduceAnd, Nat.one_and_eq_mod_two, Nat.reduceMod, decide_true, decide_false, Bool.and_true, Bool.true_and, Bool.and_false, Bool.false_and, Bool.or_false, Bool.false_or, Bool.or_true, Bool.true_or, Bool.not_true, Bool.not_false, if_true, if_false, ↓reduceIte, and_self, bne_self_eq_false, Bool.or_self, Bool.and_self, Bool.not_not])]
    (apply gb_ext; apply all32; simp (disch := decide) only [hb, gb_fpt, gb_or, gb_and, gb_xor, gb_shl, gb_shr, gb_ush, gb_u, gb_n, gb_m, gb_hi, Nat.reduceAdd, Nat.reduceSub, Nat.reducePow, Nat.reduceLT, Nat.reduceLeDiff, Nat.testBit, Nat.reduceShiftRight, Nat.reduceBNe, Nat.reduceAnd, Nat.one_and_eq_mod_two, Nat.reduceMod, decide_true, decide_false, Bool.and_true, Bool.true_and, Bool.and_false, Bool.false_and, Bool.or_false, Bool.false_or, Bool.or_true, Bool.true_or, Bool.not_true, Bool.not_false, if_true, if_false, ↓reduceIte, and_self, bne_self_eq_false, Bool.or_self, Bool.and_self, Bool.not_not])
theorem tk_N {n : Nat} (hn : 30 < n) (w : Int32) : df_X7_taken n (nI 78) w () = some (tvN w, ()) := by
  refine Eq.trans (show df_X7_taken n (nI 78) w () = nd_b2 (df_X7_gathered n (gaL 6) w ()) (fun q4 _ => some (q4, ())) from rfl) ?_
  rw [ga_2 hn (by omega) w, ge_s (x := tvN w) (show df_X7_fits n (gaL 6) (-16) () = some (1, ()) from rfl) (show gaH (pbT 6) 21 < 31 from by decide) ?_ ?_ ?_, nb_b2]
  · show orS (spT 6) w 21 &&& nI 4294967232 = nI 0
    rw [or_N]
    (apply gb_ext; apply all32; simp (disch := decide) only [gb_or, gb_and, gb_xor, gb_shl, gb_shr, gb_ush, gb_u, gb_n, gb_m, gb_hi, Nat.reduceAdd, Nat.reduceSub, Nat.reducePow, Nat.reduceLT, Nat.reduceLeDiff, Nat.testBit, Nat.reduceShiftRight, Nat.reduceBNe, Nat.reduceAnd, Nat.one_and_eq_mod_two, Nat.reduceMod, decide_true, decide_false, Bool.and_true, Bool.true_and, Bool.and_false, Bool.false_and, Bool.or_false, Bool.false_or, Bool.or_true, Bool.true_or, Bool.not_true, Bool.not_false, if_true, if_false, ↓reduceIte, and_self, bne_self_eq_false, Bool.or_self, Bool.and_self, Bool.not_not])
  · intro z
    refine (vt_N w).1 ?_
    have z1 := congrArg (fun y => gb y 0) (show (orS (spT 6) w 21 >>> nI 5) &&& nI 1 = nI 0 from z)
    rw [or_N] at z1
    simp (disch := decide) only [gb_or, gb_and, gb_shl, gb_shr, gb_u, gb_n, Nat.reduceAdd, Nat.reduceSub, Nat.reduceLT, Nat.testBit, Nat.reduceShiftRight, Nat.reduceBNe, Nat.reduceAnd, Nat.one_and_eq_mod_two, Nat.reduceMod, decide_true, decide_false, Bool.and_true, Bool.true_and, Bool.and_false, Bool.false_and, Bool.or_false, Bool.false_or, Bool.not_true, Bool.not_false, if_true, if_false, ↓reduceIte, bne_self_eq_false] at z1
    exact z1
  · intro z
    refine (vt_N w).2 ?_
    cases hb : gb w 12 with
    | true => rfl
    | false =>
      refine absurd ?_ z
      show (orS (spT 6) w 21 >>> nI 5) &&& nI 1 = nI 0
      rw [or_N]
      (apply gb_ext; apply all32; simp (disch := decide) only [hb, gb_or, gb_and, gb_xor, gb_shl, gb_shr, gb_ush, gb_u, gb_n, gb_m, gb_hi, Nat.reduceAdd, Nat.reduceSub, Nat.reducePow, Nat.reduceLT, Nat.reduceLeDiff, Nat.testBit, Nat.reduceShiftRight, Nat.reduceBNe, Nat.reduceAnd, Nat.one_and_eq_mod_two, Nat.reduceMod, decide_true, decide_false, Bool.and_true, Bool.true_and, Bool.and_false, Bool.false_and, Bool.or_false, Bool.false_or, Bool.or_true, Bool.true_or, Bool.not_true, Bool.not_false, if_true, if_false, ↓reduceIte, and_self, bne_self_eq_false, Bool.or_self, Bool.and_self, Bool.not_not])
def tvP (w : Int32) : Int32 := ((fpt w 12 1) <<< nI 5) ||| ((fpt w 4 3) <<< nI 2) ||| ((fpt w 2 2) <<< nI 6)
theorem or_P (w : Int32) : orS (spT 7) w 21 = (((((((nI 0) ||| ((us w 4 &&& nI 1) <<< nI 2)) ||| ((us w 5 &&& nI 1) <<< nI 3)) ||| ((us w 6 &&& nI 1) <<< nI 4)) ||| ((us w 12 &&& nI 1) <<< nI 5)) ||| ((us w 2 &&& nI 1) <<< nI 6)) ||| ((us w 3 &&& nI 1) <<< nI 7)) := rfl
theorem vt_P (w : Int32) : orS (spT 7) w 21 = tvP w := by
  rw [or_P]
  unfold tvP
  (apply gb_ext; apply all32; simp (disch := decide) only [gb_fpt, gb_or, gb_and, gb_xor, gb_shl, gb_shr, gb_ush, gb_u, gb_n, gb_m, gb_hi, Nat.reduceAdd, Nat.reduceSub, Nat.reducePow, Nat.reduceLT, Nat.reduceLeDiff, Nat.testBit, Nat.reduceShiftRight, Nat.reduceBNe, Nat.reduceAnd, Nat.one_and_eq_mod_two, Nat.reduceMod, decide_true, decide_false, Bool.and_true, Bool.true_and, Bool.and_false, Bool.false_and, Bool.or_false, Bool.false_or, Bool.or_true, Bool.true_or, Bool.not_true, Bool.not_false, if_true, if_false, ↓reduceIte, and_self, bne_self_eq_false, Bool.or_self, Bool.and_self, Bool.not_not])
theorem tk_P {n : Nat} (hn : 30 < n) (w : Int32) : df_X7_taken n (nI 80) w () = some (tvP w, ()) := by
  refine Eq.trans (show df_X7_taken n (nI 80) w () = nd_b2 (df_X7_gathered n (gaL 7) w ()) (fun q4 _ => some (q4, ())) from rfl) ?_
  rw [ga_2 hn (by omega) w, ge_u (show df_X7_fits n (gaL 7) (-16) () = some (0, ()) from rfl), vt_P, nb_b2]
def tvQ (w : Int32) : Int32 := ((fpt w 9 4) <<< nI 2) ||| ((fpt w 7 2) <<< nI 6)
theorem or_Q (w : Int32) : orS (spT 8) w 21 = (((((((nI 0) ||| ((us w 9 &&& nI 1) <<< nI 2)) ||| ((us w 10 &&& nI 1) <<< nI 3)) ||| ((us w 11 &&& nI 1) <<< nI 4)) ||| ((us w 12 &&& nI 1) <<< nI 5)) ||| ((us w 7 &&& nI 1) <<< nI 6)) ||| ((us w 8 &&& nI 1) <<< nI 7)) := rfl
theorem vt_Q (w : Int32) : orS (spT 8) w 21 = tvQ w := by
  rw [or_Q]
  unfold tvQ
  (apply gb_ext; apply all32; simp (disch := decide) only [gb_fpt, gb_or, gb_and, gb_xor, gb_shl, gb_shr, gb_ush, gb_u, gb_n, gb_m, gb_hi, Nat.reduceAdd, Nat.reduceSub, Nat.reducePow, Nat.reduceLT, Nat.reduceLeDiff, Nat.testBit, Nat.reduceShiftRight, Nat.reduceBNe, Nat.reduceAnd, Nat.one_and_eq_mod_two, Nat.reduceMod, decide_true, decide_false, Bool.and_true, Bool.true_and, Bool.and_false, Bool.false_and, Bool.or_false, Bool.false_or, Bool.or_true, Bool.true_or, Bool.not_true, Bool.not_false, if_true, if_false, ↓reduceIte, and_self, bne_self_eq_false, Bool.or_self, Bool.and_self, Bool.not_not])
theorem tk_Q {n : Nat} (hn : 30 < n) (w : Int32) : df_X7_taken n (nI 81) w () = some (tvQ w, ()) := by
  refine Eq.trans (show df_X7_taken n (nI 81) w () = nd_b2 (df_X7_gathered n (gaL 8) w ()) (fun q4 _ => some (q4, ())) from rfl) ?_
  rw [ga_2 hn (by omega) w, ge_u (show df_X7_fits n (gaL 8) (-16) () = some (0, ()) from rfl), vt_Q, nb_b2]
def tvS (w : Int32) : Int32 := ((w >>> nI 25) <<< nI 5) ||| (fpt w 7 5)
theorem or_S (w : Int32) : orS (spT 9) w 21 = (((((((((((((nI 0) ||| ((us w 7 &&& nI 1) <<< nI 0)) ||| ((us w 8 &&& nI 1) <<< nI 1)) ||| ((us w 9 &&& nI 1) <<< nI 2)) ||| ((us w 10 &&& nI 1) <<< nI 3)) ||| ((us w 11 &&& nI 1) <<< nI 4)) ||| ((us w 25 &&& nI 1) <<< nI 5)) ||| ((us w 26 &&& nI 1) <<< nI 6)) ||| ((us w 27 &&& nI 1) <<< nI 7)) ||| ((us w 28 &&& nI 1) <<< nI 8)) ||| ((us w 29 &&& nI 1) <<< nI 9)) ||| ((us w 30 &&& nI 1) <<< nI 10)) ||| ((us w 31 &&& nI 1) <<< nI 11)) := rfl
theorem vt_S (w : Int32) : (gb w 31 = false → orS (spT 9) w 21 = tvS w) ∧ (gb w 31 = true → orS (spT 9) w 21 ||| nI 4294963200 = tvS w) := by
  rw [or_S]
  unfold tvS
  refine ⟨fun hb => ?_, fun hb => ?_⟩
  · (apply gb_ext; apply all32; simp (disch := decide) only [hb, gb_fpt, gb_or, gb_and, gb_xor, gb_shl, gb_shr, gb_ush, gb_u, gb_n, gb_m, gb_hi, Nat.reduceAdd, Nat.reduceSub, Nat.reducePow, Nat.reduceLT, Nat.reduceLeDiff, Nat.testBit, Nat.reduceShiftRight, Nat.reduceBNe, Nat.reduceAnd, Nat.one_and_eq_mod_two, Nat.reduceMod, decide_true, decide_false, Bool.and_true, Bool.true_and, Bool.and_false, Bool.false_and, Bool.or_false, Bool.false_or, Bool.or_true, Bool.true_or, Bool.not_true, Bool.not_false, if_true, if_false, ↓reduceIte, and_self, bne_self_eq_false, Bool.or_self, Bool.and_self, Bool.not_not])
  · (apply gb_ext; apply all32; simp (disch := decide) only [hb, gb_fpt, gb_or, gb_and, gb_xor, gb_shl, gb_shr, gb_ush, gb_u, gb_n, gb_m, gb_hi, Nat.reduceAdd, Nat.reduceSub, Nat.reducePow, Nat.reduceLT, Nat.reduceLeDiff, Nat.testBit, Nat.reduceShiftRight, Nat.reduceBNe, Nat.reduceAnd, Nat.one_and_eq_mod_two, Nat.reduceMod, decide_true, decide_false, Bool.and_true, Bool.true_and, Bool.and_false, Bool.false_and, Bool.or_false, Bool.false_or, Bool.or_true, Bool.true_or, Bool.not_true, Bool.not_false, if_true, if_false, ↓reduceIte, and_self, bne_self_eq_false, Bool.or_self, Bool.and_self, Bool.not_not])
theorem tk_S {n : Nat} (hn : 30 < n) (w : Int32) : df_X7_taken n (nI 83) w () = some (tvS w, ()) := by
  refine Eq.trans (show df_X7_taken n (nI 83) w () = nd_b2 (df_X7_gathered n (gaL 9) w ()) (fun q4 _ => some (q4, ())) from rfl) ?_
  rw [ga_2 hn (by omega) w, ge_s (x := tvS w) (show df_X7_fits n (gaL 9) (-16) () = some (1, ()) from rfl) (show gaH (pbT 9) 21 < 31 from by decide) ?_ ?_ ?_, nb_b2]
  · show orS (spT 9) w 21 &&& nI 4294963200 = nI 0
    rw [or_S]
    (apply gb_ext; apply all32; simp (disch := decide) only [gb_or, gb_and, gb_xor, gb_shl, gb_shr, gb_ush, gb_u, gb_n, gb_m, gb_hi, Nat.reduceAdd, Nat.reduceSub, Nat.reducePow, Nat.reduceLT, Nat.reduceLeDiff, Nat.testBit, Nat.reduceShiftRight, Nat.reduceBNe, Nat.reduceAnd, Nat.one_and_eq_mod_two, Nat.reduceMod, decide_true, decide_false, Bool.and_true, Bool.true_and, Bool.and_false, Bool.false_and, Bool.or_false, Bool.false_or, Bool.or_true, Bool.true_or, Bool.not_true, Bool.not_false, if_true, if_false, ↓reduceIte, and_self, bne_self_eq_false, Bool.or_self, Bool.and_self, Bool.not_not])
  · intro z
    refine (vt_S w).1 ?_
    have z1 := congrArg (fun y => gb y 0) (show (orS (spT 9) w 21 >>> nI 11) &&& nI 1 = nI 0 from z)
    rw [or_S] at z1
    simp (disch := decide) only [gb_or, gb_and, gb_shl, gb_shr, gb_u, gb_n, Nat.reduceAdd, Nat.reduceSub, Nat.reduceLT, Nat.testBit, Nat.reduceShiftRight, Nat.reduceBNe, Nat.reduceAnd, Nat.one_and_eq_mod_two, Nat.reduceMod, decide_true, decide_false, Bool.and_true, Bool.true_and, Bool.and_false, Bool.false_and, Bool.or_false, Bool.false_or, Bool.not_true, Bool.not_false, if_true, if_false, ↓reduceIte, bne_self_eq_false] at z1
    exact z1
  · intro z
    refine (vt_S w).2 ?_
    cases hb : gb w 31 with
    | true => rfl
    | false =>
      refine absurd ?_ z
      show (orS (spT 9) w 21 >>> nI 11) &&& nI 1 = nI 0
      rw [or_S]
      (apply gb_ext; apply all32; simp (disch := decide) only [hb, gb_or, gb_and, gb_xor, gb_shl, gb_shr, gb_ush, gb_u, gb_n, gb_m, gb_hi, Nat.reduceAdd, Nat.reduceSub, Nat.reducePow, Nat.reduceLT, Nat.reduceLeDiff, Nat.testBit, Nat.reduceShiftRight, Nat.reduceBNe, Nat.reduceAnd, Nat.one_and_eq_mod_two, Nat.reduceMod, decide_true, decide_false, Bool.and_true, Bool.true_and, Bool.and_false, Bool.false_and, Bool.or_false, Bool.false_or, Bool.or_true, Bool.true_or, Bool.not_true, Bool.not_false, if_true, if_false, ↓reduceIte, and_self, bne_self_eq_false, Bool.or_self, Bool.and_self, Bool.not_not])
def tvT (w : Int32) : Int32 := ((w >>> nI 31) <<< nI 12) ||| ((fpt w 7 1) <<< nI 11) ||| ((fpt w 25 6) <<< nI 5) ||| ((fpt w 8 4) <<< nI 1)
theorem or_T (w : Int32) : orS (spT 10) w 21 = (((((((((((((nI 0) ||| ((us w 8 &&& nI 1) <<< nI 1)) ||| ((us w 9 &&& nI 1) <<< nI 2)) ||| ((us w 10 &&& nI 1) <<< nI 3)) ||| ((us w 11 &&& nI 1) <<< nI 4)) ||| ((us w 25 &&& nI 1) <<< nI 5)) ||| ((us w 26 &&& nI 1) <<< nI 6)) ||| ((us w 27 &&& nI 1) <<< nI 7)) ||| ((us w 28 &&& nI 1) <<< nI 8)) ||| ((us w 29 &&& nI 1) <<< nI 9)) ||| ((us w 30 &&& nI 1) <<< nI 10)) ||| ((us w 7 &&& nI 1) <<< nI 11)) ||| ((us w 31 &&& nI 1) <<< nI 12)) := rfl
theorem vt_T (w : Int32) : (gb w 31 = false → orS (spT 10) w 21 = tvT w) ∧ (gb w 31 = true → orS (spT 10) w 21 ||| nI 4294959104 = tvT w) := by
  rw [or_T]
  unfold tvT
  refine ⟨fun hb => ?_, fun hb => ?_⟩
  · (apply gb_ext; apply all32; simp (disch := decide) only [hb, gb_fpt, gb_or, gb_and, gb_xor, gb_shl, gb_shr, gb_ush, gb_u, gb_n, gb_m, gb_hi, Nat.reduceAdd, Nat.reduceSub, Nat.reducePow, Nat.reduceLT, Nat.reduceLeDiff, Nat.testBit, Nat.reduceShiftRight, Nat.reduceBNe, Nat.reduceAnd, Nat.one_and_eq_mod_two, Nat.reduceMod, decide_true, decide_false, Bool.and_true, Bool.true_and, Bool.and_false, Bool.false_and, Bool.or_false, Bool.false_or, Bool.or_true, Bool.true_or, Bool.not_true, Bool.not_false, if_true, if_false, ↓reduceIte, and_self, bne_self_eq_false, Bool.or_self, Bool.and_self, Bool.not_not])
  · (apply gb_ext; apply all32; simp (disch := decide) only [hb, gb_fpt, gb_or, gb_and, gb_xor, gb_shl, gb_shr, gb_ush, gb_u, gb_n, gb_m, gb_hi, Nat.reduceAdd, Nat.reduceSub, Nat.reducePow, Nat.reduceLT, Nat.reduceLeDiff, Nat.testBit, Nat.reduceShiftRight, Nat.reduceBNe, Nat.reduceAnd, Nat.one_and_eq_mod_two, Nat.reduceMod, decide_true, decide_false, Bool.and_true, Bool.true_and, Bool.and_false, Bool.false_and, Bool.or_false, Bool.false_or, Bool.or_true, Bool.true_or, Bool.not_true, Bool.not_false, if_true, if_false, ↓reduceIte, and_self, bne_self_eq_false, Bool.or_self, Bool.and_self, Bool.not_not])
theorem tk_T {n : Nat} (hn : 30 < n) (w : Int32) : df_X7_taken n (nI 84) w () = some (tvT w, ()) := by
  refine Eq.trans (show df_X7_taken n (nI 84) w () = nd_b2 (df_X7_gathered n (gaL 10) w ()) (fun q4 _ => some (q4, ())) from rfl) ?_
  rw [ga_2 hn (by omega) w, ge_s (x := tvT w) (show df_X7_fits n (gaL 10) (-16) () = some (1, ()) from rfl) (show gaH (pbT 10) 21 < 31 from by decide) ?_ ?_ ?_, nb_b2]
  · show orS (spT 10) w 21 &&& nI 4294959104 = nI 0
    rw [or_T]
    (apply gb_ext; apply all32; simp (disch := decide) only [gb_or, gb_and, gb_xor, gb_shl, gb_shr, gb_ush, gb_u, gb_n, gb_m, gb_hi, Nat.reduceAdd, Nat.reduceSub, Nat.reducePow, Nat.reduceLT, Nat.reduceLeDiff, Nat.testBit, Nat.reduceShiftRight, Nat.reduceBNe, Nat.reduceAnd, Nat.one_and_eq_mod_two, Nat.reduceMod, decide_true, decide_false, Bool.and_true, Bool.true_and, Bool.and_false, Bool.false_and, Bool.or_false, Bool.false_or, Bool.or_true, Bool.true_or, Bool.not_true, Bool.not_false, if_true, if_false, ↓reduceIte, and_self, bne_self_eq_false, Bool.or_self, Bool.and_self, Bool.not_not])
  · intro z
    refine (vt_T w).1 ?_
    have z1 := congrArg (fun y => gb y 0) (show (orS (spT 10) w 21 >>> nI 12) &&& nI 1 = nI 0 from z)
    rw [or_T] at z1
    simp (disch := decide) only [gb_or, gb_and, gb_shl, gb_shr, gb_u, gb_n, Nat.reduceAdd, Nat.reduceSub, Nat.reduceLT, Nat.testBit, Nat.reduceShiftRight, Nat.reduceBNe, Nat.reduceAnd, Nat.one_and_eq_mod_two, Nat.reduceMod, decide_true, decide_false, Bool.and_true, Bool.true_and, Bool.and_false, Bool.false_and, Bool.or_false, Bool.false_or, Bool.not_true, Bool.not_false, if_true, if_false, ↓reduceIte, bne_self_eq_false] at z1
    exact z1
  · intro z
    refine (vt_T w).2 ?_
    cases hb : gb w 31 with
    | true => rfl
    | false =>
      refine absurd ?_ z
      show (orS (spT 10) w 21 >>> nI 12) &&& nI 1 = nI 0
      rw [or_T]
      (apply gb_ext; apply all32; simp (disch := decide) only [hb, gb_or, gb_and, gb_xor, gb_shl, gb_shr, gb_ush, gb_u, gb_n, gb_m, gb_hi, Nat.reduceAdd, Nat.reduceSub, Nat.reducePow, Nat.reduceLT, Nat.reduceLeDiff, Nat.testBit, Nat.reduceShiftRight, Nat.reduceBNe, Nat.reduceAnd, Nat.one_and_eq_mod_two, Nat.reduceMod, decide_true, decide_false, Bool.and_true, Bool.true_and, Bool.and_false, Bool.false_and, Bool.or_false, Bool.false_or, Bool.or_true, Bool.true_or, Bool.not_true, Bool.not_false, if_true, if_false, ↓reduceIte, and_self, bne_self_eq_false, Bool.or_self, Bool.and_self, Bool.not_not])
def tvU (w : Int32) : Int32 := (us w 12)
theorem or_U (w : Int32) : orS (spT 11) w 21 = (((((((((((((((((((((nI 0) ||| ((us w 12 &&& nI 1) <<< nI 0)) ||| ((us w 13 &&& nI 1) <<< nI 1)) ||| ((us w 14 &&& nI 1) <<< nI 2)) ||| ((us w 15 &&& nI 1) <<< nI 3)) ||| ((us w 16 &&& nI 1) <<< nI 4)) ||| ((us w 17 &&& nI 1) <<< nI 5)) ||| ((us w 18 &&& nI 1) <<< nI 6)) ||| ((us w 19 &&& nI 1) <<< nI 7)) ||| ((us w 20 &&& nI 1) <<< nI 8)) ||| ((us w 21 &&& nI 1) <<< nI 9)) ||| ((us w 22 &&& nI 1) <<< nI 10)) ||| ((us w 23 &&& nI 1) <<< nI 11)) ||| ((us w 24 &&& nI 1) <<< nI 12)) ||| ((us w 25 &&& nI 1) <<< nI 13)) ||| ((us w 26 &&& nI 1) <<< nI 14)) ||| ((us w 27 &&& nI 1) <<< nI 15)) ||| ((us w 28 &&& nI 1) <<< nI 16)) ||| ((us w 29 &&& nI 1) <<< nI 17)) ||| ((us w 30 &&& nI 1) <<< nI 18)) ||| ((us w 31 &&& nI 1) <<< nI 19)) := rfl
theorem vt_U (w : Int32) : orS (spT 11) w 21 = tvU w := by
  rw [or_U]
  unfold tvU
  (apply gb_ext; apply all32; simp (disch := decide) only [gb_fpt, gb_or, gb_and, gb_xor, gb_shl, gb_shr, gb_ush, gb_u, gb_n, gb_m, gb_hi, Nat.reduceAdd, Nat.reduceSub, Nat.reducePow, Nat.reduceLT, Nat.reduceLeDiff, Nat.testBit, Nat.reduceShiftRight, Nat.reduceBNe, Nat.reduceAnd, Nat.one_and_eq_mod_two, Nat.reduceMod, decide_true, decide_false, Bool.and_true, Bool.true_and, Bool.and_false, Bool.false_and, Bool.or_false, Bool.false_or, Bool.or_true, Bool.true_or, Bool.not_true, Bool.not_false, if_true, if_false, ↓reduceIte, and_self, bne_self_eq_false, Bool.or_self, Bool.and_self, Bool.not_not])
theorem tk_U {n : Nat} (hn : 30 < n) (w : Int32) : df_X7_taken n (nI 85) w () = some (tvU w, ()) := by
  refine Eq.trans (show df_X7_taken n (nI 85) w () = nd_b2 (df_X7_gathered n (gaL 11) w ()) (fun q4 _ => some (q4, ())) from rfl) ?_
  rw [ga_2 hn (by omega) w, ge_u (show df_X7_fits n (gaL 11) (-16) () = some (0, ()) from rfl), vt_U, nb_b2]
def tvV (w : Int32) : Int32 := (fpt w 2 5)
theorem or_V (w : Int32) : orS (spT 12) w 21 = ((((((nI 0) ||| ((us w 2 &&& nI 1) <<< nI 0)) ||| ((us w 3 &&& nI 1) <<< nI 1)) ||| ((us w 4 &&& nI 1) <<< nI 2)) ||| ((us w 5 &&& nI 1) <<< nI 3)) ||| ((us w 6 &&& nI 1) <<< nI 4)) := rfl
theorem vt_V (w : Int32) : orS (spT 12) w 21 = tvV w := by
  rw [or_V]
  unfold tvV
  (apply gb_ext; apply all32; simp (disch := decide) only [gb_fpt, gb_or, gb_and, gb_xor, gb_shl, gb_shr, gb_ush, gb_u, gb_n, gb_m, gb_hi, Nat.reduceAdd, Nat.reduceSub, Nat.reducePow, Nat.reduceLT, Nat.reduceLeDiff, Nat.testBit, Nat.reduceShiftRight, Nat.reduceBNe, Nat.reduceAnd, Nat.one_and_eq_mod_two, Nat.reduceMod, decide_true, decide_false, Bool.and_true, Bool.true_and, Bool.and_false, Bool.false_and, Bool.or_false, Bool.false_or, Bool.or_true, Bool.true_or, Bool.not_true, Bool.not_false, if_true, if_false, ↓reduceIte, and_self, bne_self_eq_false, Bool.or_self, Bool.and_self, Bool.not_not])
theorem tk_V {n : Nat} (hn : 30 < n) (w : Int32) : df_X7_taken n (nI 86) w () = some (tvV w, ()) := by
  refine Eq.trans (show df_X7_taken n (nI 86) w () = nd_b2 (df_X7_gathered n (gaL 12) w ()) (fun q4 _ => some (q4, ())) from rfl) ?_
  rw [ga_2 hn (by omega) w, ge_u (show df_X7_fits n (gaL 12) (-16) () = some (0, ()) from rfl), vt_V, nb_b2]
def tvW (w : Int32) : Int32 := ((fpt w 10 3) <<< nI 3) ||| ((fpt w 6 1) <<< nI 2) ||| ((fpt w 5 1) <<< nI 6)
theorem or_W (w : Int32) : orS (spT 13) w 21 = ((((((nI 0) ||| ((us w 6 &&& nI 1) <<< nI 2)) ||| ((us w 10 &&& nI 1) <<< nI 3)) ||| ((us w 11 &&& nI 1) <<< nI 4)) ||| ((us w 12 &&& nI 1) <<< nI 5)) ||| ((us w 5 &&& nI 1) <<< nI 6)) := rfl
theorem vt_W (w : Int32) : orS (spT 13) w 21 = tvW w := by
  rw [or_W]
  unfold tvW
  (apply gb_ext; apply all32; simp (disch := decide) only [gb_fpt, gb_or, gb_and, gb_xor, gb_shl, gb_shr, gb_ush, gb_u, gb_n, gb_m, gb_hi, Nat.reduceAdd, Nat.reduceSub, Nat.reducePow, Nat.reduceLT, Nat.reduceLeDiff, Nat.testBit, Nat.reduceShiftRight, Nat.reduceBNe, Nat.reduceAnd, Nat.one_and_eq_mod_two, Nat.reduceMod, decide_true, decide_false, Bool.and_true, Bool.true_and, Bool.and_false, Bool.false_and, Bool.or_false, Bool.false_or, Bool.or_true, Bool.true_or, Bool.not_true, Bool.not_false, if_true, if_false, ↓reduceIte, and_self, bne_self_eq_false, Bool.or_self, Bool.and_self, Bool.not_not])
theorem tk_W {n : Nat} (hn : 30 < n) (w : Int32) : df_X7_taken n (nI 87) w () = some (tvW w, ()) := by
  refine Eq.trans (show df_X7_taken n (nI 87) w () = nd_b2 (df_X7_gathered n (gaL 13) w ()) (fun q4 _ => some (q4, ())) from rfl) ?_
  rw [ga_2 hn (by omega) w, ge_u (show df_X7_fits n (gaL 13) (-16) () = some (0, ()) from rfl), vt_W, nb_b2]
def tvX (w : Int32) : Int32 := ((fpt w 11 2) <<< nI 4) ||| ((fpt w 7 4) <<< nI 6) ||| ((fpt w 6 1) <<< nI 2) ||| ((fpt w 5 1) <<< nI 3)
theorem or_X (w : Int32) : orS (spT 14) w 21 = (((((((((nI 0) ||| ((us w 6 &&& nI 1) <<< nI 2)) ||| ((us w 5 &&& nI 1) <<< nI 3)) ||| ((us w 11 &&& nI 1) <<< nI 4)) ||| ((us w 12 &&& nI 1) <<< nI 5)) ||| ((us w 7 &&& nI 1) <<< nI 6)) ||| ((us w 8 &&& nI 1) <<< nI 7)) ||| ((us w 9 &&& nI 1) <<< nI 8)) ||| ((us w 10 &&& nI 1) <<< nI 9)) := rfl
theorem vt_X (w : Int32) : orS (spT 14) w 21 = tvX w := by
  rw [or_X]
  unfold tvX
  (apply gb_ext; apply all32; simp (disch := decide) only [gb_fpt, gb_or, gb_and, gb_xor, gb_shl, gb_shr, gb_ush, gb_u, gb_n, gb_m, gb_hi, Nat.reduceAdd, Nat.reduceSub, Nat.reducePow, Nat.reduceLT, Nat.reduceLeDiff, Nat.testBit, Nat.reduceShiftRight, Nat.reduceBNe, Nat.reduceAnd, Nat.one_and_eq_mod_two, Nat.reduceMod, decide_true, decide_false, Bool.and_true, Bool.true_and, Bool.and_false, Bool.false_and, Bool.or_false, Bool.false_or, Bool.or_true, Bool.true_or, Bool.not_true, Bool.not_false, if_true, if_false, ↓reduceIte, and_self, bne_self_eq_false, Bool.or_self, Bool.and_self, Bool.not_not])
theorem tk_X {n : Nat} (hn : 30 < n) (w : Int32) : df_X7_taken n (nI 88) w () = some (tvX w, ()) := by
  refine Eq.trans (show df_X7_taken n (nI 88) w () = nd_b2 (df_X7_gathered n (gaL 14) w ()) (fun q4 _ => some (q4, ())) from rfl) ?_
  rw [ga_2 hn (by omega) w, ge_u (show df_X7_fits n (gaL 14) (-16) () = some (0, ()) from rfl), vt_X, nb_b2]
def tvY (w : Int32) : Int32 := ((fpt w 6 1) <<< nI 4) ||| ((fpt w 5 1) <<< nI 6) ||| ((fpt w 3 2) <<< nI 7) ||| ((fpt w 2 1) <<< nI 5) ||| ((-(fpt w 12 1)) <<< nI 9)
theorem or_Y (w : Int32) : orS (spT 15) w 21 = (((((((nI 0) ||| ((us w 6 &&& nI 1) <<< nI 4)) ||| ((us w 2 &&& nI 1) <<< nI 5)) ||| ((us w 5 &&& nI 1) <<< nI 6)) ||| ((us w 3 &&& nI 1) <<< nI 7)) ||| ((us w 4 &&& nI 1) <<< nI 8)) ||| ((us w 12 &&& nI 1) <<< nI 9)) := rfl
theorem vt_Y (w : Int32) : (gb w 12 = false → orS (spT 15) w 21 = tvY w) ∧ (gb w 12 = true → orS (spT 15) w 21 ||| nI 4294966272 = tvY w) := by
  rw [or_Y]
  unfold tvY
  refine ⟨fun hb => ?_, fun hb => ?_⟩
  · have e : fpt w 12 1 = nI 0 := by
      (apply gb_ext; apply all32; simp (disch := decide) only [hb, gb_fpt, gb_or, gb_and, gb_xor, gb_shl, gb_shr, gb_ush, gb_u, gb_n, gb_m, gb_hi, Nat.reduceAdd, Nat.reduceSub, Nat.reducePow, Nat.reduceLT, Nat.reduceLeDiff, Nat.testBit, Nat.reduceShiftRight, Nat.reduceBNe, Nat.reduceAnd, Nat.one_and_eq_mod_two, Nat.reduceMod, decide_true, decide_false, Bool.and_true, Bool.true_and, Bool.and_false, Bool.false_and, Bool.or_false, Bool.false_or, Bool.or_true, Bool.true_or, Bool.not_true, Bool.not_false, if_true, if_false, ↓reduceIte, and_self, bne_self_eq_false, Bool.or_self, Bool.and_self, Bool.not_not])
    rw [e]
    rw [show -nI 0 = nI 0 from by decide]
    (apply gb_ext; apply all32; simp (disch := decide) only [hb, gb_fpt, gb_or, gb_and, gb_xor, gb_shl, gb_shr, gb_ush, gb_u, gb_n, gb_m, gb_hi, Nat.reduceAdd, Nat.reduceSub, Nat.reducePow, Nat.reduceLT, Nat.reduceLeDiff, Nat.testBit, Nat.reduceShiftRight, Nat.reduceBNe, Nat.reduceAnd, Nat.one_and_eq_mod_two, Nat.reduceMod, decide_true, decide_false, Bool.and_true, Bool.true_and, Bool.and_false, Bool.false_and, Bool.or_false, Bool.false_or, Bool.or_true, Bool.true_or, Bool.not_true, Bool.not_false, if_true, if_false, ↓reduceIte, and_self, bne_self_eq_false, Bool.or_self, Bool.and_self, Bool.not_not])
  · have e : fpt w 12 1 = nI 1 := by
      (apply gb_ext; apply all32; simp (disch := decide) only [hb, gb_fpt, gb_or, gb_and, gb_xor, gb_shl, gb_shr, gb_ush, gb_u, gb_n, gb_m, gb_hi, Nat.reduceAdd, Nat.reduceSub, Nat.reducePow, Nat.reduceLT, Nat.reduceLeDiff, Nat.testBit, Nat.reduceShiftRight, Nat.reduceBNe, Nat.reduceAnd, Nat.one_and_eq_mod_two, Nat.reduceMod, decide_true, decide_false, Bool.and_true, Bool.true_and, Bool.and_false, Bool.false_and, Bool.or_false, Bool.false_or, Bool.or_true, Bool.true_or, Bool.not_true, Bool.not_false, if_true, if_false, ↓reduceIte, and_self, bne_self_eq_false, Bool.or_self, Bool.and_self, Bool.not_not])
    rw [e]
    (apply gb_ext; apply all32; simp (disch := decide) only [hb, gb_fpt, gb_or, gb_and, gb_xor, gb_shl, gb_shr, gb_ush, gb_u, gb_n, gb_m, gb_hi, Nat.reduceAdd, Nat.reduceSub, Nat.reducePow, Nat.reduceLT, Nat.reduceLeDiff, Nat.testBit, Nat.reduceShiftRight, Nat.reduceBNe, Nat.reduceAnd, Nat.one_and_eq_mod_two, Nat.reduceMod, decide_true, decide_false, Bool.and_true, Bool.true_and, Bool.and_false, Bool.false_and, Bool.or_false, Bool.false_or, Bool.or_true, Bool.true_or, Bool.not_true, Bool.not_false, if_true, if_false, ↓reduceIte, and_self, bne_self_eq_false, Bool.or_self, Bool.and_self, Bool.not_not])
theorem tk_Y {n : Nat} (hn : 30 < n) (w : Int32) : df_X7_taken n (nI 89) w () = some (tvY w, ()) := by
  refine Eq.trans (show df_X7_taken n (nI 89) w () = nd_b2 (df_X7_gathered n (gaL 15) w ()) (fun q4 _ => some (q4, ())) from rfl) ?_
  rw [ga_2 hn (by omega) w, ge_s (x := tvY w) (show df_X7_fits n (gaL 15) (-16) () = some (1, ()) from rfl) (show gaH (pbT 15) 21 < 31 from by decide) ?_ ?_ ?_, nb_b2]
  · show orS (spT 15) w 21 &&& nI 4294966272 = nI 0
    rw [or_Y]
    (apply gb_ext; apply all32; simp (disch := decide) only [gb_or, gb_and, gb_xor, gb_shl, gb_shr, gb_ush, gb_u, gb_n, gb_m, gb_hi, Nat.reduceAdd, Nat.reduceSub, Nat.reducePow, Nat.reduceLT, Nat.reduceLeDiff, Nat.testBit, Nat.reduceShiftRight, Nat.reduceBNe, Nat.reduceAnd, Nat.one_and_eq_mod_two, Nat.reduceMod, decide_true, decide_false, Bool.and_true, Bool.true_and, Bool.and_false, Bool.false_and, Bool.or_false, Bool.false_or, Bool.or_true, Bool.true_or, Bool.not_true, Bool.not_false, if_true, if_false, ↓reduceIte, and_self, bne_self_eq_false, Bool.or_self, Bool.and_self, Bool.not_not])
  · intro z
    refine (vt_Y w).1 ?_
    have z1 := congrArg (fun y => gb y 0) (show (orS (spT 15) w 21 >>> nI 9) &&& nI 1 = nI 0 from z)
    rw [or_Y] at z1
    simp (disch := decide) only [gb_or, gb_and, gb_shl, gb_shr, gb_u, gb_n, Nat.reduceAdd, Nat.reduceSub, Nat.reduceLT, Nat.testBit, Nat.reduceShiftRight, Nat.reduceBNe, Nat.reduceAnd, Nat.one_and_eq_mod_two, Nat.reduceMod, decide_true, decide_false, Bool.and_true, Bool.true_and, Bool.and_false, Bool.false_and, Bool.or_false, Bool.false_or, Bool.not_true, Bool.not_false, if_true, if_false, ↓reduceIte, bne_self_eq_false] at z1
    exact z1
  · intro z
    refine (vt_Y w).2 ?_
    cases hb : gb w 12 with
    | true => rfl
    | false =>
      refine absurd ?_ z
      show (orS (spT 15) w 21 >>> nI 9) &&& nI 1 = nI 0
      rw [or_Y]
      (apply gb_ext; apply all32; simp (disch := decide) only [hb, gb_or, gb_and, gb_xor, gb_shl, gb_shr, gb_ush, gb_u, gb_n, gb_m, gb_hi, Nat.reduceAdd, Nat.reduceSub, Nat.reducePow, Nat.reduceLT, Nat.reduceLeDiff, Nat.testBit, Nat.reduceShiftRight, Nat.reduceBNe, Nat.reduceAnd, Nat.one_and_eq_mod_two, Nat.reduceMod, decide_true, decide_false, Bool.and_true, Bool.true_and, Bool.and_false, Bool.false_and, Bool.or_false, Bool.false_or, Bool.or_true, Bool.true_or, Bool.not_true, Bool.not_false, if_true, if_false, ↓reduceIte, and_self, bne_self_eq_false, Bool.or_self, Bool.and_self, Bool.not_not])

/-- the class writes registers and instructions -/
def rnN (r i : Nat) : Nat := (strL 11).getD (3 * (r - 1) + i) 0
def rnT (r : Nat) : Nat → List Nat
  | 0 => []
  | j + 1 => (if rnN r (2 - j) = 32 then [] else [rnN r (2 - j)]) ++ rnT r j
def regL (r : Nat) : List Nat := if r = 0 then strL 10 else rnT r 3
theorem rn_s (r j : Nat) : rnT r (j + 1) = (if rnN r (2 - j) = 32 then [] else [rnN r (2 - j)]) ++ rnT r j := rfl
theorem wl_1 {n r : Nat} (h0 : 0 < r) (hr : r < 32) : ∀ j g : Nat, ∀ (τ : Sb) (L : List Nat), j ≤ 3 → j < g → BL τ L → L.length + j ≤ 34 → ∃ τ' : Sb, df_X7_writeRegister_14 n g (nI r) (nI (3 - j)) τ = some τ' ∧ BL τ' (L ++ rnT r j) := fun j => by
  induction j with
  | zero =>
    intro g τ L _ hg h _
    obtain ⟨g, rfl⟩ : ∃ k : Nat, g = k + 1 := ⟨g - 1, by omega⟩
    refine ⟨τ, ?_, by rw [show rnT r 0 = [] from rfl, List.append_nil]; exact h⟩
    show dF_X7_writeRegister_14 n (df_X7_writeRegister_14 n g) (nI r) (nI 3) τ = _
    unfold dF_X7_writeRegister_14
    rw [if_pos (show (3 : Int32) ≤ nI 3 by decide)]
    rfl
  | succ j ih =>
    intro g τ L hj hg h hl
    obtain ⟨g, rfl⟩ : ∃ k : Nat, g = k + 1 := ⟨g - 1, by omega⟩
    have e0 : (nI r - 1) * 3 + nI (3 - (j + 1)) = nI (3 * (r - 1) + (2 - j)) := by
      rw [show nI r - 1 = nI (r - 1) from pk_sub (a := r) (b := 1) h0, show nI (r - 1) * 3 = nI ((r - 1) * 3) from pk_mul _ _, nI_add]
      congr 1
      omega
    have k11 : ks_n 11 = 93 := by decide +kernel
    have hi : 3 * (r - 1) + (2 - j) < ks_n 11 := by omega
    have hb : ks_b 11 (3 * (r - 1) + (2 - j)) = nI (rnN r (2 - j)) := st_b hi
    have hb2 : rnN r (2 - j) < 128 := st_l hi
    have e1 : ∀ τ2 : Sb, df_X7_writeRegister_55 n (df_X7_writeRegister_14 n g) (nI r) (nI (3 - (j + 1))) τ2 = df_X7_writeRegister_14 n g (nI r) (nI (3 - j)) τ2 := fun τ2 => by
      unfold df_X7_writeRegister_55
      rw [nb_let, show nI (3 - (j + 1)) + Int32.ofInt 1 = nI (3 - (j + 1) + 1) from nI_add _ 1, show 3 - (j + 1) + 1 = 3 - j by omega]
    rw [rn_s]
    have e2 : df_X7_writeRegister_14 n (g + 1) (nI r) (nI (3 - (j + 1))) τ = if nI (rnN r (2 - j)) = 32 then df_X7_writeRegister_14 n g (nI r) (nI (3 - j)) τ else nd_b1 (df_J4_append_cf468 n (nI (rnN r (2 - j))) τ) (fun s10 => df_X7_writeRegister_14 n g (nI r) (nI (3 - j)) s10) := by
      show dF_X7_writeRegister_14 n (df_X7_writeRegister_14 n g) (nI r) (nI (3 - (j + 1))) τ = _
      unfold dF_X7_writeRegister_14
      rw [if_neg (show ¬ (3 : Int32) ≤ nI (3 - (j + 1)) from znle (a := 3) (by omega) (by decide)), if_neg (show ¬ nI r ≤ 0 from znle (b := 0) h0 (by omega)), if_neg (show ¬ (32 : Int32) ≤ nI r from znle (a := 32) hr (by decide)), e0, ch_1 n 11 _ (by decide) hi, nb_b2, hb, e1]
      simp only [e1]
    by_cases c : rnN r (2 - j) = 32
    · obtain ⟨τ', a1, a2⟩ := ih g τ L (by omega) (by omega) h (by omega)
      refine ⟨τ', ?_, by rw [if_pos c]; exact a2⟩
      rw [e2, c, if_pos (show nI 32 = 32 from rfl)]
      exact a1
    · obtain ⟨τ1, b1, b2⟩ := ap_C (n := n) h hb2 (by omega)
      obtain ⟨τ', a1, a2⟩ := ih g τ1 (L ++ [rnN r (2 - j)]) (by omega) (by omega) b2 (by rw [List.length_append]; show L.length + 1 + j ≤ 34; omega)
      refine ⟨τ', ?_, by rw [if_neg c, ← List.append_assoc]; exact a2⟩
      rw [e2, if_neg (show ¬ nI (rnN r (2 - j)) = 32 from fun z => c ((nI_eq (by omega) (by omega)).mp (show nI (rnN r (2 - j)) = nI 32 from z))), b1, nb_b1]
      exact a1
theorem rg_4 : ∀ r : Fin 32, (regL r.1).length ≤ 4 := by decide +kernel
theorem ks_4 : ks_n 10 = 4 ∧ ks_n 4 = 3 ∧ ks_n 5 = 3 ∧ ks_n 6 = 5 ∧ ks_n 7 = 2 ∧ ks_n 8 = 1 ∧ ks_n 9 = 1 ∧ ks_n 12 = 0 ∧ ks_n 13 = 1 ∧ ks_n 14 = 2 ∧ ks_n 15 = 6 ∧ ks_n 16 = 6 := by decide +kernel
theorem wr_R {n r : Nat} {τ : Sb} {L : List Nat} (hn : 10 < n) (hr : r < 32) (h : BL τ L) (hl : L.length + 4 ≤ 34) : ∃ τ' : Sb, df_X7_writeRegister n (nI r) τ = some τ' ∧ BL τ' (L ++ regL r) := by
  unfold df_X7_writeRegister df_X7_writeRegister_0 regL
  by_cases c : r = 0
  · subst c
    obtain ⟨τ1, b1, b2⟩ := ap_S (n := n) (i := 10) h (by decide) (by rw [ks_4.1]; exact hl)
    refine ⟨τ1, ?_, by rw [if_pos rfl]; exact b2⟩
    obtain ⟨g, hg⟩ : ∃ k : Nat, n = k + 1 := ⟨n - 1, by omega⟩
    rw [if_pos (show nI 0 = 0 from rfl), b1, nb_b1]
    unfold df_X7_writeRegister_12
    rw [congrArg (fun z => df_X7_writeRegister_14 n z (nI 0) 0 τ1) hg]
    show dF_X7_writeRegister_14 n (df_X7_writeRegister_14 n g) (nI 0) (nI 0) τ1 = _
    unfold dF_X7_writeRegister_14
    rw [if_neg (show ¬ (3 : Int32) ≤ nI 0 by decide), if_pos (show nI 0 ≤ (0 : Int32) by decide)]
    rfl
  · rw [if_neg (show ¬ nI r = 0 from fun z => c ((nI_eq (by omega) (by omega)).mp (show nI r = nI 0 from z))), if_neg c]
    unfold df_X7_writeRegister_12
    exact wl_1 (by omega) hr 3 n τ L (Nat.le_refl 3) (by omega) h (by omega)
def sepL (c : Nat) : List Nat := if c = 44 then strL 7 else if c = 40 then strL 8 else strL 9
def oper (c : Nat) (v : Int32) : List Nat := if c < 65 then sepL c else if 97 ≤ c then regL v.toNatClampNeg else (if c = 84 ∨ c = 74 ∨ c = 75 ∨ c = 76 then (if v < 0 then strL 13 else strL 14) else strL 12) ++ decI v
def oCo (c : Nat) : Nat := if c = 44 then 2 else if c < 65 then 1 else if 97 ≤ c then 4 else 13
/-- what is known of an operand -/
def OKv (n : Nat) (w : Int32) (c : Nat) (v : Int32) : Prop := c < 128 ∧ (65 ≤ c → df_X7_taken n (nI c) w () = some (v, ()) ∧ (97 ≤ c → ∃ r : Nat, r < 32 ∧ v = nI r) ∧ (c < 97 → v ≠ Int32.minValue))
def wrT (V : Nat → Int32) : List Nat → List Nat
  | [] => []
  | c :: r => oper c (V c) ++ wrT V r
def wrCo : List Nat → Nat
  | [] => 0
  | c :: r => oCo c + wrCo r
theorem op_l {n : Nat} {w : Int32} {c : Nat} {v : Int32} (h : OKv n w c v) : (oper c v).length ≤ oCo c := by
  obtain ⟨-, h2⟩ := h
  have k := ks_4
  unfold oper oCo sepL
  by_cases c1 : c = 44
  · rw [if_pos (by omega), if_pos c1, if_pos c1, st_n]; omega
  · rw [if_neg c1, if_neg c1]
    by_cases c2 : c < 65
    · rw [if_pos c2, if_pos c2]
      split
      · rw [st_n]; omega
      · rw [st_n]; omega
    · rw [if_neg c2, if_neg c2]
      obtain ⟨-, q1, q2⟩ := h2 (by omega)
      by_cases c3 : 97 ≤ c
      · rw [if_pos c3, if_pos c3]
        obtain ⟨r, hr, e⟩ := q1 c3
        rw [e, nI_clamp (by omega)]
        exact rg_4 ⟨r, hr⟩
      · rw [if_neg c3, if_neg c3, List.length_append]
        have := de_l (q2 (by omega))
        have : (if c = 84 ∨ c = 74 ∨ c = 75 ∨ c = 76 then (if v < 0 then strL 13 else strL 14) else strL 12).length ≤ 2 := by
          split
          · split
            · rw [st_n]; omega
            · rw [st_n]; omega
          · rw [st_n]; omega
        omega
theorem wo_1 {n : Nat} {g : Nat → Int32 → Int32 → Sb → Option Sb} {x0 k c : Nat} {w v : Int32} {τ : Sb} {L : List Nat} (hn : 20 < n) (h : BL τ L) (hv : OKv n w c v) (hl : L.length + oCo c ≤ 34) : ∃ τ' : Sb, df_X7_write_99 n g x0 w (nI k) (nI c) τ = g x0 w (nI (k + 1)) τ' ∧ BL τ' (L ++ oper c v) := by
  have e1 : ∀ τ2 : Sb, df_X7_write_211 n g x0 w (nI k) τ2 = g x0 w (nI (k + 1)) τ2 := fun τ2 => by
    unfold df_X7_write_211
    rw [nb_let, show nI k + Int32.ofInt 1 = nI (k + 1) from nI_add k 1]
  have kk := ks_4
  obtain ⟨hc, h2⟩ := hv
  have eq_ : ∀ y : Nat, y < 128 → (nI c = nI y ↔ c = y) := fun y hy => nI_eq (by omega) (by omega)
  unfold df_X7_write_99
  unfold oCo at hl
  by_cases c2 : c < 65
  · rw [if_neg (show ¬ (65 : Int32) ≤ nI c from znle (a := 65) c2 (by decide))]
    unfold oper sepL df_X7_write_136
    rw [if_pos c2]
    by_cases c1 : c = 44
    · rw [if_pos (show nI c = 44 from (eq_ 44 (by omega)).mpr c1), if_pos c1]
      rw [if_pos c1] at hl
      obtain ⟨τ1, b1, b2⟩ := ap_S (n := n) (i := 7) h (by decide) (by omega)
      rw [b1, nb_b1, e1]
      exact ⟨τ1, rfl, b2⟩
    · rw [if_neg (show ¬ nI c = 44 from fun z => c1 ((eq_ 44 (by omega)).mp z)), if_neg c1]
      rw [if_neg c1, if_pos c2] at hl
      by_cases c3 : c = 40
      · rw [if_pos (show nI c = 40 from (eq_ 40 (by omega)).mpr c3), if_pos c3]
        obtain ⟨τ1, b1, b2⟩ := ap_S (n := n) (i := 8) h (by decide) (by omega)
        rw [b1, nb_b1, e1]
        exact ⟨τ1, rfl, b2⟩
      · rw [if_neg (show ¬ nI c = 40 from fun z => c3 ((eq_ 40 (by omega)).mp z)), if_neg c3]
        obtain ⟨τ1, b1, b2⟩ := ap_S (n := n) (i := 9) h (by decide) (by omega)
        rw [b1, nb_b1, e1]
        exact ⟨τ1, rfl, b2⟩
  · obtain ⟨q0, q1, q2⟩ := h2 (by omega)
    rw [if_pos (show (65 : Int32) ≤ nI c from (nI_leI (a := 65) (by omega) (by omega)).mpr (by omega))]
    rw [if_neg (show ¬ c = 44 by omega), if_neg c2] at hl
    unfold oper
    rw [if_neg c2]
    by_cases c3 : 97 ≤ c
    · obtain ⟨r, hr, e⟩ := q1 c3
      rw [if_pos c3] at hl
      rw [if_neg (show ¬ nI c < 97 from znl (b := 97) c3 (by omega)), q0, nb_b2, e, if_pos c3, nI_clamp (by omega)]
      obtain ⟨τ1, b1, b2⟩ := wr_R (n := n) (by omega) hr h hl
      rw [b1, nb_b1, e1]
      exact ⟨τ1, rfl, b2⟩
    · rw [if_neg c3] at hl
      have hm := q2 (by omega)
      have hd := de_l hm
      rw [if_pos (show nI c < 97 from zlt (b := 97) (by omega) (by decide)), q0, nb_b2, isT_1 n hc, nb_b2, if_neg c3]
      have two : ∀ i : Nat, i < 190 → ks_n i ≤ 2 → ∃ τ' : Sb, df_X7_write_200 n g x0 w (nI k) v i τ = g x0 w (nI (k + 1)) τ' ∧ BL τ' (L ++ (strL i ++ decI v)) := fun i hi h2 => by
        obtain ⟨τ1, b1, b2⟩ := ap_S (n := n) (i := i) h hi (by omega)
        obtain ⟨τ2, d1, d2⟩ := ap_I (n := n) (v := v) hn b2 hm (by rw [List.length_append, st_n]; omega)
        unfold df_X7_write_200
        rw [b1, nb_b1, d1, nb_b1, e1]
        exact ⟨τ2, rfl, by rw [← List.append_assoc]; exact d2⟩
      by_cases c4 : c = 84 ∨ c = 74 ∨ c = 75 ∨ c = 76
      · rw [if_pos c4, decide_eq_true c4, if_neg (show ¬ bI true = 0 by decide)]
        by_cases c5 : v < 0
        · rw [if_pos c5, if_neg (show ¬ (0 : Int32) ≤ v from fun z => Int32.lt_irrefl (Int32.lt_of_lt_of_le c5 z))]
          exact two 13 (by decide) (by omega)
        · rw [if_neg c5, if_pos (show (0 : Int32) ≤ v from Int32.not_lt.mp c5)]
          exact two 14 (by decide) (by omega)
      · rw [if_neg c4, decide_eq_false c4, if_pos (show bI false = 0 by decide)]
        exact two 12 (by decide) (by omega)
theorem ww_1 {n x0 : Nat} {w : Int32} {V : Nat → Int32} (hn : 20 < n) (hx : x0 < 128) : ∀ (F : List Nat) (k g : Nat) (τ : Sb) (L : List Nat), (∀ j : Nat, j < F.length → (strL (ko_f x0)).getD (k + j) 0 = F.getD j 0) → k + F.length = ks_n (ko_f x0) → F.length < g → (∀ c ∈ F, OKv n w c (V c)) → BL τ L → L.length + (if k = 0 ∧ F ≠ [] then 1 else 0) + wrCo F ≤ 34 → ∃ τ' : Sb, df_X7_write_67 n g x0 w (nI k) τ = some τ' ∧ BL τ' (L ++ ((if k = 0 ∧ F ≠ [] then [32] else []) ++ wrT V F)) := fun F => by
  have fo := fo_l ⟨x0, hx⟩
  have fo1 : ks_n (ko_f x0) ≤ 8 := fo.1
  have fo2 : ko_f x0 < 190 := fo.2
  induction F with
  | nil =>
    intro k g τ L _ hk hg _ h _
    have hk : k = ks_n (ko_f x0) := hk
    obtain ⟨g, rfl⟩ : ∃ k : Nat, g = k + 1 := ⟨g - 1, by omega⟩
    refine ⟨τ, ?_, by rw [if_neg (fun z => z.2 rfl)]; show BL τ (L ++ []); rw [List.append_nil]; exact h⟩
    show dF_X7_write_67 n (df_X7_write_67 n g) x0 w (nI k) τ = _
    unfold dF_X7_write_67
    rw [nb_lt hx, nb_lt fo2, ln_1 n _ fo2, nb_b2, if_pos (by rw [hk]; exact Int32.le_refl _)]
  | cons c F ih =>
    intro k g τ L hF hk hg hO h hl
    have hk : k + (F.length + 1) = ks_n (ko_f x0) := hk
    have hg : F.length + 1 < g := hg
    obtain ⟨g, rfl⟩ : ∃ k : Nat, g = k + 1 := ⟨g - 1, by omega⟩
    have hki : k < ks_n (ko_f x0) := by omega
    have hcv := hO c (List.mem_cons_self ..)
    have ec : ks_b (ko_f x0) k = nI c := by
      rw [st_b hki]
      have := hF 0 (Nat.succ_pos _)
      rw [Nat.add_zero] at this
      rw [this]; rfl
    have hl : L.length + (if k = 0 ∧ (c :: F) ≠ [] then 1 else 0) + (oCo c + wrCo F) ≤ 34 := hl
    have go : ∀ (τ1 : Sb) (L1 : List Nat), BL τ1 L1 → L1.length + (oCo c + wrCo F) ≤ 34 → ∃ τ' : Sb, df_X7_write_99 n (df_X7_write_67 n g) x0 w (nI k) (nI c) τ1 = some τ' ∧ BL τ' (L1 ++ (oper c (V c) ++ wrT V F)) := fun τ1 L1 h1 hl1 => by
      obtain ⟨τ2, a1, a2⟩ := wo_1 (g := df_X7_write_67 n g) (x0 := x0) (k := k) hn h1 hcv (by omega)
      have ol := op_l hcv
      obtain ⟨τ3, b1, b2⟩ := ih (k + 1) g τ2 (L1 ++ oper c (V c)) (fun j hj => by
        have := hF (j + 1) (Nat.succ_lt_succ hj)
        rw [show k + 1 + j = k + (j + 1) by omega, this]; rfl) (by omega) (by omega) (fun c' hc' => hO c' (List.mem_cons_of_mem _ hc')) a2 (by rw [if_neg (fun z => by omega), List.length_append]; omega)
      refine ⟨τ3, a1.trans b1, ?_⟩
      rw [if_neg (fun z => by omega)] at b2
      rw [← List.append_assoc]
      exact b2
    have e2 : df_X7_write_67 n (g + 1) x0 w (nI k) τ = if nI k = 0 then nd_b1 (df_J4_append_cf468 n 32 τ) (fun s43 => df_X7_write_99 n (df_X7_write_67 n g) x0 w (nI k) (nI c) s43) else df_X7_write_99 n (df_X7_write_67 n g) x0 w (nI k) (nI c) τ := by
      show dF_X7_write_67 n (df_X7_write_67 n g) x0 w (nI k) τ = _
      unfold dF_X7_write_67
      rw [nb_lt hx, nb_lt fo2, ln_1 n _ fo2, nb_b2, if_neg (show ¬ nI (ks_n (ko_f x0)) ≤ nI k from znle hki (by omega)), nb_lt hx, nb_lt fo2, ch_1 n _ k fo2 hki, nb_b2, ec]
    rw [e2]
    by_cases c0 : k = 0
    · rw [if_pos (show k = 0 ∧ (c :: F) ≠ [] from ⟨c0, List.cons_ne_nil _ _⟩)] at hl ⊢
      rw [if_pos (show nI k = 0 by rw [c0]; rfl)]
      obtain ⟨τ1, b1, b2⟩ := ap_C (n := n) (c := 32) h (by decide) (by omega)
      obtain ⟨τ', a1, a2⟩ := go τ1 (L ++ [32]) b2 (by rw [List.length_append]; show L.length + 1 + _ ≤ 34; omega)
      refine ⟨τ', ?_, ?_⟩
      · rw [show (32 : Int32) = nI 32 from rfl, b1, nb_b1]
        exact a1
      · rw [List.append_assoc] at a2
        exact a2
    · rw [if_neg (show ¬ (k = 0 ∧ (c :: F) ≠ []) from fun z => c0 z.1)] at hl ⊢
      rw [if_neg (show ¬ nI k = 0 from fun z => c0 ((nI_eq (by omega) (by omega)).mp (show nI k = nI 0 from z)))]
      obtain ⟨τ', a1, a2⟩ := go τ L h (by omega)
      exact ⟨τ', a1, a2⟩
def sfxL (i : Nat) (w : Int32) : List Nat := if (ko_b i &&& 127 : Int32) = 47 then (if w &&& 100663296 = 0 then [] else if w &&& 33554432 = 0 then strL 4 else if w &&& 67108864 = 0 then strL 5 else strL 6) else []
def txL (V : Nat → Int32) (i : Nat) (w : Int32) : List Nat := strL (ko_w i) ++ (sfxL i w ++ ((if strL (ko_f i) ≠ [] then [32] else []) ++ wrT V (strL (ko_f i))))
theorem wk_l : ∀ i : Fin 93, ks_n (ko_w i.1) + (if (ko_b i.1 &&& 127 : Int32) = 47 then 5 else 0) + 1 + wrCo (strL (ko_f i.1)) ≤ 34 ∧ ko_w i.1 < 190 := by decide +kernel
theorem wr_1 {n i : Nat} {w : Int32} {V : Nat → Int32} {τ : Sb} (hn : 20 < n) (hi : i < 93) (hO : ∀ c ∈ strL (ko_f i), OKv n w c (V c)) (h : BL τ []) : ∃ τ' : Sb, df_X7_write n i w τ = some τ' ∧ BL τ' (txL V i w) := by
  have wk := wk_l ⟨i, hi⟩
  have wk1 : ks_n (ko_w i) + (if (ko_b i &&& 127 : Int32) = 47 then 5 else 0) + 1 + wrCo (strL (ko_f i)) ≤ 34 := wk.1
  have wk2 : ko_w i < 190 := wk.2
  have kk := ks_4
  obtain ⟨τ1, b1, b2⟩ := ap_S (n := n) (i := ko_w i) h wk2 (by show 0 + _ ≤ 34; omega)
  rw [List.nil_append] at b2
  have fin : ∀ (τ2 : Sb) (M : List Nat), BL τ2 (strL (ko_w i) ++ M) → M.length ≤ (if (ko_b i &&& 127 : Int32) = 47 then 5 else 0) → ∃ τ' : Sb, df_X7_write_65 n i w τ2 = some τ' ∧ BL τ' (strL (ko_w i) ++ (M ++ ((if strL (ko_f i) ≠ [] then [32] else []) ++ wrT V (strL (ko_f i))))) := fun τ2 M h2 hM => by
    have fl8 : ks_n (ko_f i) ≤ 8 := (fo_l ⟨i, by omega⟩).1
    have c1 : ∀ b : List Nat, (if (0 = 0 ∧ b ≠ []) then 1 else 0) ≤ 1 := fun b => by split <;> omega
    have c2 := c1 (strL (ko_f i))
    obtain ⟨τ3, d1, d2⟩ := ww_1 (x0 := i) (V := V) hn (by omega) (strL (ko_f i)) 0 n τ2 _ (fun j _ => by rw [Nat.zero_add]) (by rw [Nat.zero_add, st_n]) (by rw [st_n]; omega) hO h2 (by rw [List.length_append, st_n]; omega)
    refine ⟨τ3, d1, ?_⟩
    rw [List.append_assoc] at d2
    have e3 : (if 0 = 0 ∧ strL (ko_f i) ≠ [] then [32] else []) = (if strL (ko_f i) ≠ [] then [32] else ([] : List Nat)) := by
      by_cases z : strL (ko_f i) ≠ []
      · rw [if_pos ⟨rfl, z⟩, if_pos z]
      · rw [if_neg (fun y => z y.2), if_neg z]
    rw [e3] at d2
    exact d2
  have sf : ∀ j : Nat, j < 190 → ks_n j ≤ 5 → (ko_b i &&& 127 : Int32) = 47 → ∃ τ' : Sb, df_X7_write_61 n i w j τ1 = some τ' ∧ BL τ' (strL (ko_w i) ++ (strL j ++ ((if strL (ko_f i) ≠ [] then [32] else []) ++ wrT V (strL (ko_f i))))) := fun j hj h5 hA => by
    rw [if_pos hA] at wk1
    obtain ⟨τ2, d1, d2⟩ := ap_S (n := n) (i := j) b2 hj (by rw [st_n]; omega)
    unfold df_X7_write_61
    rw [d1, nb_b1]
    exact fin τ2 (strL j) d2 (by rw [if_pos hA, st_n]; exact h5)
  unfold df_X7_write df_X7_write_0 txL sfxL
  rw [nb_lt (show i < 128 by omega), b1, nb_b1, nb_lt (show i < 128 by omega)]
  by_cases hA : (ko_b i &&& 127 : Int32) = 47
  · rw [if_pos hA, if_pos hA]
    by_cases z0 : w &&& 100663296 = 0
    · rw [if_pos z0, if_pos z0]
      exact fin τ1 [] (by rw [List.append_nil]; exact b2) (Nat.zero_le _)
    · rw [if_neg z0, if_neg z0]
      by_cases z1 : w &&& 33554432 = 0
      · rw [if_pos z1, if_pos z1]
        exact sf 4 (by decide) (by omega) hA
      · rw [if_neg z1, if_neg z1]
        by_cases z2 : w &&& 67108864 = 0
        · rw [if_pos z2, if_pos z2]
          exact sf 5 (by decide) (by omega) hA
        · rw [if_neg z2, if_neg z2]
          exact sf 6 (by decide) (by omega) hA
  · rw [if_neg hA, if_neg hA]
    exact fin τ1 [] (by rw [List.append_nil]; exact b2) (Nat.zero_le _)

/-- the reference's reader as one term: its letters L, operands k, line l, the fields -/
def rwS (B : St) (L : List Nat) : Nat → Int32 := fun j => if j < L.length then nI (L.getD j 0) else sR B 0 j
def inRS (B : St) (L : List Nat) (k l : Nat) (w d a b f : Int32) : Nat → Int32 := fun j => if j = 0 then nI L.length else if j = 1 then nI k else if j = 2 then nI l else if j = 3 then w else if j = 4 then d else if j = 5 then a else if j = 6 then b else if j = 7 then f else B.1 j
def RS (B : St) (L : List Nat) (k l : Nat) (w d a b f : Int32) : St := pR (inRS B L k l w d a b f, B.2) 0 (rwS B L)
section
variable {B : St} {L : List Nat} {k l : Nat} {w d a b f x : Int32}
theorem RS_0 : sI (RS B L k l w d a b f) 0 = nI L.length := rfl
theorem RS_1 : sI (RS B L k l w d a b f) 1 = nI k := rfl
theorem RS_2 : sI (RS B L k l w d a b f) 2 = nI l := rfl
theorem RS_3 : sI (RS B L k l w d a b f) 3 = w := rfl
theorem RS_4 : sI (RS B L k l w d a b f) 4 = d := rfl
theorem RS_5 : sI (RS B L k l w d a b f) 5 = a := rfl
theorem RS_6 : sI (RS B L k l w d a b f) 6 = b := rfl
theorem RS_7 : sI (RS B L k l w d a b f) 7 = f := rfl
theorem RS_r0 : sR (RS B L k l w d a b f) 0 = rwS B L := rfl
theorem RS_r1 : sR (RS B L k l w d a b f) 1 = sR B 1 := rfl
theorem RS_w {i : Nat} {L' : List Nat} {k' l' : Nat} {w' d' a' b' f' : Int32} (hL : L' = L) (h : ∀ j : Nat, (if j = i then x else inRS B L k l w d a b f j) = inRS B L' k' l' w' d' a' b' f' j) : pI (RS B L k l w d a b f) i x = RS B L' k' l' w' d' a' b' f' := by
  subst hL
  show ((fun j => if j = i then x else inRS B L' k l w d a b f j), _) = (inRS B L' k' l' w' d' a' b' f', _)
  rw [funext h]
  rfl
theorem RS_w1 {q : Nat} : pI (RS B L k l w d a b f) 1 (nI q) = RS B L q l w d a b f := RS_w rfl (fun j => by
  unfold inRS
  by_cases e : j = 1
  · subst e; rfl
  · rw [if_neg e]
    simp only [if_neg e])
theorem RS_w2 {q : Nat} : pI (RS B L k l w d a b f) 2 (nI q) = RS B L k q w d a b f := RS_w rfl (fun j => by
  unfold inRS
  by_cases e : j = 2
  · subst e; rfl
  · rw [if_neg e]
    simp only [if_neg e])
theorem RS_w3 : pI (RS B L k l w d a b f) 3 x = RS B L k l x d a b f := RS_w rfl (fun j => by
  unfold inRS
  by_cases e : j = 3
  · subst e; rfl
  · rw [if_neg e]
    simp only [if_neg e])
theorem RS_w4 : pI (RS B L k l w d a b f) 4 x = RS B L k l w x a b f := RS_w rfl (fun j => by
  unfold inRS
  by_cases e : j = 4
  · subst e; rfl
  · rw [if_neg e]
    simp only [if_neg e])
theorem RS_w5 : pI (RS B L k l w d a b f) 5 x = RS B L k l w d x b f := RS_w rfl (fun j => by
  unfold inRS
  by_cases e : j = 5
  · subst e; rfl
  · rw [if_neg e]
    simp only [if_neg e])
theorem RS_w6 : pI (RS B L k l w d a b f) 6 x = RS B L k l w d a x f := RS_w rfl (fun j => by
  unfold inRS
  by_cases e : j = 6
  · subst e; rfl
  · rw [if_neg e]
    simp only [if_neg e])
theorem RS_w7 : pI (RS B L k l w d a b f) 7 x = RS B L k l w d a b x := RS_w rfl (fun j => by
  unfold inRS
  by_cases e : j = 7
  · subst e; rfl
  · rw [if_neg e]
    simp only [if_neg e])
theorem chr_1 : ∀ c : Fin 128, vp_nar .char ((nI c.1).toUInt32.toUInt16.toUInt32.toInt32) = nI c.1 := by decide +kernel
theorem pu_S {n c : Nat} (hc : c < 128) (hl : L.length < 64) : df_X18_put n (nI c) (RS B L k l w d a b f) = some (RS B (L ++ [c]) k l w d a b f) := by
  unfold df_X18_put df_X18_put_0
  rw [RS_0, nm_ck hl (by omega), nb_let, nb_let, nI_clamp (by omega), chr_1 ⟨c, hc⟩]
  congr 1
  have e1 : upd (rwS B L) L.length (nI c) = rwS B (L ++ [c]) := by
    funext j
    unfold upd rwS
    rw [List.length_append]
    show (if j = L.length then nI c else if j < L.length then nI (L.getD j 0) else sR B 0 j) = (if j < L.length + 1 then nI ((L ++ [c]).getD j 0) else sR B 0 j)
    by_cases e : j = L.length
    · rw [if_pos e, if_pos (by omega), e, getD_r (Nat.le_refl _), Nat.sub_self]; rfl
    · rw [if_neg e]
      by_cases e2 : j < L.length
      · rw [if_pos e2, if_pos (by omega), getD_l e2]
      · rw [if_neg e2, if_neg (by omega)]
  have e2 : (fun j => if j = 0 then nI L.length + 1 else inRS B L k l w d a b f j) = inRS B (L ++ [c]) k l w d a b f := by
    funext j
    unfold inRS
    rw [List.length_append]
    by_cases e : j = 0
    · subst e
      rw [if_pos rfl, if_pos rfl]
      exact nI_add _ 1
    · rw [if_neg e, if_neg e, if_neg e]
  have e3 : (fun j => if j = 0 then rwS B (L ++ [c]) else (if j = 0 then rwS B L else B.2.2.1 j)) = (fun j => if j = 0 then rwS B (L ++ [c]) else B.2.2.1 j) := by
    funext j
    by_cases e : j = 0
    · rw [if_pos e, if_pos e]
    · rw [if_neg e, if_neg e, if_neg e]
  show ((fun j => if j = 0 then nI L.length + 1 else inRS B L k l w d a b f j), B.2.1, (fun j => if j = 0 then upd (rwS B L) L.length (nI c) else (if j = 0 then rwS B L else B.2.2.1 j)), B.2.2.2) = (inRS B (L ++ [c]) k l w d a b f, B.2.1, (fun j => if j = 0 then rwS B (L ++ [c]) else B.2.2.1 j), B.2.2.2)
  rw [e2, e1, e3]
def sayL : Nat → Int64 → Option (List Nat)
  | 0, x => if lg_cmp x 0 = 0 then some [] else none
  | m + 1, x => if lg_cmp x 0 = 0 then some [] else if (x &&& 255).toInt32 = nI (x &&& 255).toInt32.toNatClampNeg ∧ (x &&& 255).toInt32.toNatClampNeg < 128 then (sayL m ((x.toUInt64 >>> ((8 : Int32).toInt64.toUInt64 &&& Int64.toUInt64 63)).toInt64)).map (fun r => (x &&& 255).toInt32.toNatClampNeg :: r) else none
theorem sa_S {n : Nat} : ∀ (m g : Nat) (x : Int64) (L M : List Nat), sayL m x = some M → m < g → L.length + M.length ≤ 64 → df_X18_say_2 n g x (RS B L k l w d a b f) = some (RS B (L ++ M) k l w d a b f) := fun m => by
  induction m with
  | zero =>
    intro g x L M hm hg _
    obtain ⟨g, rfl⟩ : ∃ q : Nat, g = q + 1 := ⟨g - 1, by omega⟩
    have hm : (if lg_cmp x 0 = 0 then some ([] : List Nat) else none) = some M := hm
    by_cases c : lg_cmp x 0 = 0
    · rw [if_pos c] at hm
      obtain rfl := Option.some.inj hm
      show dF_X18_say_2 n (df_X18_say_2 n g) x _ = _
      unfold dF_X18_say_2
      rw [if_pos c, List.append_nil]
    · rw [if_neg c] at hm
      exact nomatch hm
  | succ m ih =>
    intro g x L M hm hg hB
    obtain ⟨g, rfl⟩ : ∃ q : Nat, g = q + 1 := ⟨g - 1, by omega⟩
    have hm : (if lg_cmp x 0 = 0 then some ([] : List Nat) else if (x &&& 255).toInt32 = nI (x &&& 255).toInt32.toNatClampNeg ∧ (x &&& 255).toInt32.toNatClampNeg < 128 then (sayL m ((x.toUInt64 >>> ((8 : Int32).toInt64.toUInt64 &&& Int64.toUInt64 63)).toInt64)).map (fun r => (x &&& 255).toInt32.toNatClampNeg :: r) else none) = some M := hm
    by_cases c : lg_cmp x 0 = 0
    · rw [if_pos c] at hm
      obtain rfl := Option.some.inj hm
      show dF_X18_say_2 n (df_X18_say_2 n g) x _ = _
      unfold dF_X18_say_2
      rw [if_pos c, List.append_nil]
    · rw [if_neg c] at hm
      by_cases c2 : (x &&& 255).toInt32 = nI (x &&& 255).toInt32.toNatClampNeg ∧ (x &&& 255).toInt32.toNatClampNeg < 128
      · rw [if_pos c2] at hm
        obtain ⟨M2, hm2, rfl⟩ := Option.map_eq_some_iff.mp hm
        have hB : L.length + (M2.length + 1) ≤ 64 := hB
        have i1 := ih g _ (L ++ [(x &&& 255).toInt32.toNatClampNeg]) M2 hm2 (by omega) (by rw [List.length_append]; show L.length + 1 + _ ≤ 64; omega)
        show dF_X18_say_2 n (df_X18_say_2 n g) x _ = _
        unfold dF_X18_say_2
        rw [if_neg c, c2.1, pu_S c2.2 (by omega), nb_b1, nb_let, i1, List.append_assoc, nI_clamp (by omega)]
        rfl
      · rw [if_neg c2] at hm
        exact nomatch hm
theorem sy_S {n : Nat} {x : Int64} {M : List Nat} (hm : sayL 8 x = some M) (hn : 10 < n) (hB : L.length + M.length ≤ 64) : df_X18_say n x (RS B L k l w d a b f) = some (RS B (L ++ M) k l w d a b f) := sa_S 8 n x L M hm (by omega) hB
/-- Int64 with small values -/
theorem lq_1 {a b : Int64} {A B : Nat} (ha : a.toInt = A) (hb : b.toInt = B) (h : A < 2 ^ 62) : (a / b).toInt = ((A / B : Nat) : Int) := by
  have l : A / B ≤ A := Nat.div_le_self A B
  rw [Int64.toInt_div, ha, hb, Int.tdiv_eq_ediv_of_nonneg (by omega), ← Int.natCast_ediv]
  generalize A / B = q at l
  exact Int.bmod_eq_of_le (by omega) (by omega)
theorem lm_1 {a b : Int64} {A B : Nat} (ha : a.toInt = A) (hb : b.toInt = B) (h : A * B < 2 ^ 62) : (a * b).toInt = ((A * B : Nat) : Int) := by
  rw [Int64.toInt_mul, ha, hb, ← Int.natCast_mul]
  exact Int.bmod_eq_of_le (by omega) (by omega)
theorem ls_1 {a b : Int64} {A B : Nat} (ha : a.toInt = A) (hb : b.toInt = B) (h : A < 2 ^ 62) (h1 : B ≤ A) : (a - b).toInt = ((A - B : Nat) : Int) := by
  rw [Int64.toInt_sub, ha, hb, show (A : Int) - B = ((A - B : Nat) : Int) by omega]
  exact Int.bmod_eq_of_le (by omega) (by omega)
theorem la_1 {a b : Int64} {A B : Nat} (ha : a.toInt = A) (hb : b.toInt = B) (h : A + B < 2 ^ 62) : (a + b).toInt = ((A + B : Nat) : Int) := by
  rw [Int64.toInt_add, ha, hb, show (A : Int) + B = ((A + B : Nat) : Int) by omega]
  exact Int.bmod_eq_of_le (by omega) (by omega)
theorem l3_1 {x : Int64} {c : Nat} (h : x.toInt = c) (hc : c < 2 ^ 31) : x.toInt32 = nI c := by
  apply Int32.toInt_inj.mp
  rw [Int64.toInt_toInt32, h, nI_toInt hc]
  exact Int.bmod_eq_of_le (by omega) (by omega)
theorem l10 : (10 : Int64).toInt = (10 : Nat) ∧ (48 : Int64).toInt = (48 : Nat) ∧ (1 : Int64).toInt = (1 : Nat) ∧ (9 : Int64).toInt = (9 : Nat) ∧ (0 : Int64).toInt = (0 : Nat) := by decide
def dgK (W : Nat) : Nat → List Nat
  | 0 => [48 + W % 10]
  | k + 1 => (48 + W / 10 ^ (k + 1) % 10) :: dgK W k
theorem dk_s : ∀ k W : Nat, dgK W (k + 1) = dgK (W / 10) k ++ [48 + W % 10] := fun k => by
  induction k with
  | zero => intro W; rfl
  | succ k ih =>
    intro W
    show (48 + W / 10 ^ (k + 1 + 1) % 10) :: dgK W (k + 1) = (48 + W / 10 / 10 ^ (k + 1) % 10) :: dgK (W / 10) k ++ [48 + W % 10]
    rw [ih W, Nat.div_div_eq_div_mul, Nat.pow_succ, Nat.mul_comm]
    rfl
theorem dk_1 : ∀ k W : Nat, k ≤ 9 → (0 < k → 10 ^ k ≤ W) → W < 10 ^ (k + 1) → dgK W k = dgL W := fun k => by
  induction k with
  | zero =>
    intro W _ _ h
    have h : W < 10 := h
    rw [dg_0 h]
    show [48 + W % 10] = _
    rw [Nat.mod_eq_of_lt h]
  | succ k ih =>
    intro W hk h1 h2
    have h1 := h1 (Nat.succ_pos _)
    have p1 : 10 ^ (k + 1) = 10 ^ k * 10 := Nat.pow_succ ..
    have p2 : 10 ^ (k + 1 + 1) = 10 ^ (k + 1) * 10 := Nat.pow_succ ..
    have p3 : 10 ^ (k + 1 + 1) ≤ 10 ^ 10 := Nat.pow_le_pow_right (by omega) (by omega)
    have p4 : 1 ≤ 10 ^ k := Nat.one_le_pow _ _ (by omega)
    rw [dk_s, dg_s (by omega) (by omega), ih (W / 10) (by omega) (fun _ => by omega) (by omega)]
theorem dk_l : ∀ k W : Nat, (dgK W k).length = k + 1 := fun k => by
  induction k with
  | zero => intro W; rfl
  | succ k ih => intro W; show (dgK W k).length + 1 = _; rw [ih W]
theorem d24 {n W : Nat} {v : Int64} (hv : v.toInt = W) (hW : W < 10 ^ 10) : ∀ (q g : Nat) (u : Int64) (L : List Nat), u.toInt = ((10 ^ q : Nat) : Int) → q ≤ 10 → q + 1 < g → L.length + (q + 1) ≤ 64 → df_X18_digits_24 n g v u (RS B L k l w d a b f) = some (RS B (L ++ dgK W q) k l w d a b f) := fun q => by
  have q10 := l10
  have one : ∀ (q g : Nat) (u : Int64) (L : List Nat), u.toInt = ((10 ^ q : Nat) : Int) → q ≤ 10 → L.length < 64 → df_X18_digits_24 n (g + 1) v u (RS B L k l w d a b f) = df_X18_digits_24 n g v (u / 10) (RS B (L ++ [48 + W / 10 ^ q % 10]) k l w d a b f) := fun q g u L hu hk hB => by
    have p1 : 1 ≤ 10 ^ q := Nat.one_le_pow _ _ (by omega)
    have p2 : 10 ^ q ≤ 10 ^ 10 := Nat.pow_le_pow_right (by omega) hk
    have z1 : W / 10 ^ q ≤ W := Nat.div_le_self _ _
    have t1 := lq_1 hv hu (by omega)
    have t2 := lq_1 t1 q10.1 (by omega)
    have t3 := lm_1 t2 q10.1 (by omega)
    have t4 := ls_1 t1 t3 (by omega) (by omega)
    have t5 := la_1 q10.2.1 t4 (by omega)
    have t6 : ((48 : Int64) + (v / u - v / u / 10 * 10)).toInt32 = nI (48 + W / 10 ^ q % 10) := by
      rw [l3_1 t5 (by omega)]
      congr 1
      omega
    show dF_X18_digits_24 n (df_X18_digits_24 n g) v u _ = _
    unfold dF_X18_digits_24
    rw [if_neg (fun z => by rw [lcD, hu, q10.2.2.2.2] at z; omega)]
    unfold nd_nz
    rw [if_neg (fun z => by
      have z := of_decide_eq_true z
      rw [z, q10.2.2.2.2] at hu
      omega), t6, pu_S (show 48 + W / 10 ^ q % 10 < 128 by omega) hB, nb_b1, nb_let]
  induction q with
  | zero =>
    intro g u L hu hk hg hB
    obtain ⟨g, rfl⟩ : ∃ q : Nat, g = q + 1 + 1 := ⟨g - 2, by omega⟩
    rw [one 0 (g + 1) u L hu hk (by omega)]
    show dF_X18_digits_24 n (df_X18_digits_24 n g) v (u / 10) _ = _
    unfold dF_X18_digits_24
    have t := lq_1 (A := 1) (B := 10) (show u.toInt = ((1 : Nat) : Int) from hu) q10.1 (by omega)
    rw [if_pos (by rw [lcD, t, q10.2.2.2.2]; decide), Nat.pow_zero, Nat.div_one]
    rfl
  | succ q ih =>
    intro g u L hu hk hg hB
    obtain ⟨g, rfl⟩ : ∃ q : Nat, g = q + 1 := ⟨g - 1, by omega⟩
    have p2 : 10 ^ (q + 1) ≤ 10 ^ 10 := Nat.pow_le_pow_right (by omega) hk
    have t := lq_1 hu q10.1 (by omega)
    rw [Nat.pow_succ, Nat.mul_div_cancel _ (by omega)] at t
    rw [one (q + 1) g u L hu hk (by omega), ih g (u / 10) _ t (by omega) (by omega) (by rw [List.length_append]; show L.length + 1 + _ ≤ 64; omega), List.append_assoc]
    rfl
theorem d2_1 {n W : Nat} {v : Int64} (hn : 20 < n) (hv : v.toInt = W) (hW : W < 10 ^ 10) (hB : L.length + 10 ≤ 64) : ∀ (j q g : Nat) (u : Int64), q + j = 9 → u.toInt = ((10 ^ q : Nat) : Int) → (0 < q → 10 ^ q ≤ W) → j < g → df_X18_digits_2 n g v u (RS B L k l w d a b f) = some (RS B (L ++ dgL W) k l w d a b f) := fun j => by
  have q10 := l10
  have fin : ∀ (q g : Nat) (u : Int64), q ≤ 9 → u.toInt = ((10 ^ q : Nat) : Int) → (0 < q → 10 ^ q ≤ W) → W < 10 ^ (q + 1) → df_X18_digits_2 n (g + 1) v u (RS B L k l w d a b f) = some (RS B (L ++ dgL W) k l w d a b f) := fun q g u hk hu h1 h2 => by
    have b1 := d24 (n := n) (B := B) (k := k) (l := l) (w := w) (d := d) (a := a) (b := b) (f := f) hv hW q n u L hu (by omega) (by omega) (by omega)
    rw [dk_1 q W hk h1 h2] at b1
    have p1 : 1 ≤ 10 ^ q := Nat.one_le_pow _ _ (by omega)
    show dF_X18_digits_2 n (df_X18_digits_2 n g) v u _ = _
    unfold dF_X18_digits_2 nd_nz
    have t1 := lq_1 hv hu (by omega)
    have z1 : W / 10 ^ q ≤ 9 := by
      have : W / 10 ^ q < 10 := Nat.div_lt_of_lt_mul (by rw [← Nat.pow_succ]; exact h2)
      omega
    rw [if_neg (fun z => by
      have z := of_decide_eq_true z
      rw [z, q10.2.2.2.2] at hu
      omega), if_pos (by rw [lcD, t1, q10.2.2.2.1]; omega)]
    exact b1
  induction j with
  | zero =>
    intro q g u hk hu h1 hg
    obtain ⟨g, rfl⟩ : ∃ q : Nat, g = q + 1 := ⟨g - 1, by omega⟩
    obtain rfl : q = 9 := by omega
    exact fin 9 g u (Nat.le_refl _) hu h1 hW
  | succ j ih =>
    intro q g u hk hu h1 hg
    obtain ⟨g, rfl⟩ : ∃ q : Nat, g = q + 1 := ⟨g - 1, by omega⟩
    by_cases c : W < 10 ^ (q + 1)
    · exact fin q g u (by omega) hu h1 c
    · have p1 : 1 ≤ 10 ^ q := Nat.one_le_pow _ _ (by omega)
      have p2 : 10 ^ (q + 1) ≤ 10 ^ 10 := Nat.pow_le_pow_right (by omega) (by omega)
      have p3 : 10 ^ (q + 1) = 10 ^ q * 10 := Nat.pow_succ ..
      have t1 := lq_1 hv hu (by omega)
      have t2 := lm_1 q10.1 hu (by omega)
      have z1 : 10 ≤ W / 10 ^ q := (Nat.le_div_iff_mul_le (by omega)).mpr (by omega)
      have b1 := ih (q + 1) g ((10 : Int64) * u) (by omega) (by rw [t2, p3, Nat.mul_comm]) (fun _ => by omega) (by omega)
      show dF_X18_digits_2 n (df_X18_digits_2 n g) v u _ = _
      unfold dF_X18_digits_2 nd_nz
      rw [if_neg (fun z => by
        have z := of_decide_eq_true z
        rw [z, q10.2.2.2.2] at hu
        omega), if_neg (fun z => by rw [lcD, t1, q10.2.2.2.1] at z; omega), nb_let]
      exact b1
theorem di_S {n W : Nat} {v : Int64} (hn : 20 < n) (hv : v.toInt = W) (hW : W < 10 ^ 10) (hB : L.length + 10 ≤ 64) : df_X18_digits n v (RS B L k l w d a b f) = some (RS B (L ++ dgL W) k l w d a b f) := d2_1 hn hv hW hB 9 0 n 1 rfl l10.2.2.1 (fun z => absurd z (Nat.lt_irrefl 0)) (by omega)
theorem nu_S {n : Nat} {v : Int32} (hn : 20 < n) (hv : v ≠ Int32.minValue) (hB : L.length + 11 ≤ 64) : df_X18_number n v (RS B L k l w d a b f) = some (RS B (L ++ decI v) k l w d a b f) := by
  obtain ⟨x, hx, e | ⟨e, h0⟩⟩ := si_c hv
  · subst e
    have p : (0 : Int32) ≤ nI x := (nI_leI (a := 0) (by omega) hx).mpr (Nat.zero_le _)
    unfold df_X18_number df_X18_number_0 df_X18_number_10 df_X18_number_23
    rw [if_pos p, if_pos p, di_S (W := x) hn (by rw [Int32.toInt_toInt64, nI_toInt hx]) (by omega) (by omega), nb_b1, de_p hx]
  · subst e
    have p : ¬ (0 : Int32) ≤ -nI x := fun z => by rw [Int32.le_iff_toInt_le, ng_t hx, Int32.toInt_zero] at z; omega
    have ti : (-((-nI x).toInt64)).toInt = ((x : Nat) : Int) := by
      rw [Int64.toInt_neg, Int32.toInt_toInt64, ng_t hx, Int.neg_neg]
      exact Int.bmod_eq_of_le (by omega) (by omega)
    unfold df_X18_number df_X18_number_0 df_X18_number_10 df_X18_number_23
    rw [if_neg p, show (45 : Int32) = nI 45 from rfl, pu_S (by decide) (by omega), nb_b1, if_neg p, di_S hn ti (by omega) (by rw [List.length_append]; show L.length + 1 + 10 ≤ 64; omega), nb_b1, de_n hx h0, List.append_assoc]
    rfl
def nxL (k : Nat) : List Nat := if k = 0 then [32] else [44, 32]
theorem nxl_0 : nxL 0 = [32] := rfl
theorem nxl_s (k : Nat) : nxL (k + 1) = [44, 32] := rfl
theorem nx_S {n : Nat} (hk : k < 100) (hB : L.length + 2 ≤ 64) : df_X18_next n (RS B L k l w d a b f) = some (RS B (L ++ nxL k) (k + 1) l w d a b f) := by
  have a1 : nI k + 1 = nI (k + 1) := nI_add k 1
  unfold df_X18_next df_X18_next_0 df_X18_next_13 nxL
  rw [RS_1]
  by_cases c : k = 0
  · rw [if_pos (show nI k ≤ 0 by rw [c]; decide), if_pos c, show (32 : Int32) = nI 32 from rfl, pu_S (by decide) (by omega), nb_b1, nb_let, RS_1, a1, RS_w1]
  · rw [if_neg (show ¬ nI k ≤ 0 from znle (b := 0) (by omega) (by omega)), if_neg c, show (44 : Int32) = nI 44 from rfl, pu_S (by decide) (by omega), nb_b1, show (32 : Int32) = nI 32 from rfl, pu_S (by decide) (by rw [List.length_append]; show L.length + 1 < 64; omega), nb_b1, nb_let, RS_1, a1, RS_w1, List.append_assoc]
    rfl
theorem rg_s : ∀ r : Fin 32, sayL 8 (rgT r.1).toInt64 = some (regL r.1) := by decide +kernel
theorem sr_S {n r : Nat} (hg : ∀ r : Nat, r < 32 → sR B 1 r = rgT r) (hn : 10 < n) (hr : r < 32) (hB : L.length + 4 ≤ 64) : df_X18_say n ((sR B 1 r).toInt64) (RS B L k l w d a b f) = some (RS B (L ++ regL r) k l w d a b f) := by
  have l4 : (regL r).length ≤ 4 := rg_4 ⟨r, hr⟩
  rw [hg r hr]
  exact sy_S (rg_s ⟨r, hr⟩) hn (by show L.length + (regL r).length ≤ 64; omega)
theorem reg_S {n r : Nat} (hg : ∀ r : Nat, r < 32 → sR B 1 r = rgT r) (hn : 10 < n) (hr : r < 32) (hk : k < 100) (hB : L.length + 6 ≤ 64) : df_X18_register n (nI r) (RS B L k l w d a b f) = some (RS B (L ++ (nxL k ++ regL r)) (k + 1) l w d a b f) := by
  have l2 : (nxL k).length ≤ 2 := by unfold nxL; split <;> decide
  unfold df_X18_register df_X18_register_0
  rw [nx_S hk (by omega), nb_b1, nm_ck hr (by omega), RS_r1, nI_clamp (by omega), sr_S hg hn hr (by rw [List.length_append]; omega), nb_b1, List.append_assoc]
theorem im_S {n : Nat} {v : Int32} (hn : 20 < n) (hv : v ≠ Int32.minValue) (hk : k < 100) (hB : L.length + 13 ≤ 64) : df_X18_immediate n v (RS B L k l w d a b f) = some (RS B (L ++ (nxL k ++ decI v)) (k + 1) l w d a b f) := by
  have l2 : (nxL k).length ≤ 2 := by unfold nxL; split <;> decide
  unfold df_X18_immediate df_X18_immediate_0
  rw [nx_S hk (by omega), nb_b1, nu_S hn hv (by rw [List.length_append]; omega), nb_b1, List.append_assoc]
def tgL (v : Int32) : List Nat := (if v < 0 then [46] else [46, 43]) ++ decI v
theorem ta_S {n : Nat} {v : Int32} (hn : 20 < n) (hv : v ≠ Int32.minValue) (hk : k < 100) (hB : L.length + 15 ≤ 64) : df_X18_target n v (RS B L k l w d a b f) = some (RS B (L ++ (nxL k ++ tgL v)) (k + 1) l w d a b f) := by
  have l2 : (nxL k).length ≤ 2 := by unfold nxL; split <;> decide
  unfold df_X18_target df_X18_target_0 df_X18_target_20 tgL
  rw [nx_S hk (by omega), nb_b1, show (46 : Int32) = nI 46 from rfl, pu_S (by decide) (by rw [List.length_append]; omega), nb_b1]
  by_cases c : v < 0
  · rw [if_pos c, if_pos c, nu_S hn hv (by rw [List.length_append, List.length_append]; show L.length + _ + 1 + 11 ≤ 64; omega), nb_b1, List.append_assoc, List.append_assoc]
  · rw [if_neg c, if_neg c, show (43 : Int32) = nI 43 from rfl, pu_S (by decide) (by rw [List.length_append, List.length_append]; show L.length + _ + 1 < 64; omega), nb_b1, nu_S hn hv (by rw [List.length_append, List.length_append, List.length_append]; show L.length + _ + 1 + 1 + 11 ≤ 64; omega), nb_b1, List.append_assoc, List.append_assoc, List.append_assoc]
    rfl
theorem br_S {n r : Nat} (hg : ∀ r : Nat, r < 32 → sR B 1 r = rgT r) (hn : 10 < n) (hr : r < 32) (hB : L.length + 6 ≤ 64) : df_X18_bracket n (nI r) (RS B L k l w d a b f) = some (RS B (L ++ (40 :: (regL r ++ [41]))) k l w d a b f) := by
  have l4 : (regL r).length ≤ 4 := rg_4 ⟨r, hr⟩
  unfold df_X18_bracket df_X18_bracket_0
  rw [show (40 : Int32) = nI 40 from rfl, pu_S (by decide) (by omega), nb_b1, nm_ck hr (by omega), RS_r1, nI_clamp (by omega), sr_S hg hn hr (by rw [List.length_append]; show L.length + 1 + 4 ≤ 64; omega), nb_b1, show (41 : Int32) = nI 41 from rfl, pu_S (by decide) (by rw [List.length_append, List.length_append]; show L.length + 1 + _ < 64; omega), nb_b1, List.append_assoc, List.append_assoc]
  rfl
theorem me_S {n r : Nat} {v : Int32} (hg : ∀ r : Nat, r < 32 → sR B 1 r = rgT r) (hn : 20 < n) (hv : v ≠ Int32.minValue) (hr : r < 32) (hk : k < 100) (hB : L.length + 19 ≤ 64) : df_X18_memory n v (nI r) (RS B L k l w d a b f) = some (RS B (L ++ (nxL k ++ (decI v ++ (40 :: (regL r ++ [41]))))) (k + 1) l w d a b f) := by
  have l2 : (nxL k).length ≤ 2 := by unfold nxL; split <;> decide
  have l11 := de_l hv
  unfold df_X18_memory df_X18_memory_0
  rw [im_S hn hv hk (by omega), nb_b1, br_S hg (by omega) hr (by rw [List.length_append, List.length_append]; omega), nb_b1, List.append_assoc, List.append_assoc]
theorem nm_S {n : Nat} {x : Int64} {M : List Nat} (hm : sayL 8 x = some M) (hn : 10 < n) (hB : L.length + M.length ≤ 64) : df_X18_name n x (RS B L k l w d a b f) = some (RS B (L ++ M) 0 1 w d a b f) := by
  unfold df_X18_name df_X18_name_0
  rw [nb_let, show (1 : Int32) = nI 1 from rfl, RS_w2, nb_let, show (0 : Int32) = nI 0 from rfl, RS_w1, sy_S hm hn hB, nb_b1]
theorem pt_S {n q m : Nat} (hm : m < 31) : df_X18_part n (nI q) (nI m) (RS B L k l w d a b f) = some (fpt w q m, RS B L k l w d a b f) := by
  unfold df_X18_part df_X18_part_0
  rw [mk_1 ⟨m, hm⟩, RS_3]
  rfl
end

