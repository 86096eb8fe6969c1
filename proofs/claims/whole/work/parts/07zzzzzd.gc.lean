/-- what the class's machine answers where a condition asks -/
def eC (n c : Nat) (M : St × St) (E : Evn) : Prop := (∀ r : Nat, r ≤ 32 → df_X2_operand n (nI c) (nI 31) (nI r).toInt64 M = some (E.1 r, M)) ∧ (∀ a : Int64, df_X2_operand n (nI c) (nI 32) a M = some (E.2.1, M)) ∧ (∀ a : Int64, df_X2_operand n (nI c) (nI 33) a M = some (E.2.2.1, M)) ∧ ∀ (o : Nat) (v : Int64) (Cd : St), 25 ≤ o → o ≤ 27 → df_X2_inSpace n (nI o) v (nd_st0, (Cd, M)) = match E.2.2.2 o v with | some x => some (x, (nd_st0, (Cd, M))) | none => some (0, (nd_st0, (pI Cd 3 (nI 1), M)))
/-- a piece of the class's code, from b to b', that is worth d; at most s values lie on the pile meanwhile; what it remembers has the numbers j0 to j1 -/
def gC (d : Dn) (s b b' j0 j1 : Nat) (C : Nat → Int32) (A : Nat → Int64) (T : Nat → Int32) : Prop := b < b' ∧ 1 ≤ s ∧ j0 ≤ j1 ∧ ∀ (n c : Nat) (M : St × St) (E : Evn) (w : Nat → Int64) (Cd : St) (t e g : Nat), eC n c M E → (∀ i : Nat, b ≤ i → i < b' → sR Cd 0 i = C i ∧ sQ Cd 0 i = A i) → (∀ j : Nat, j0 ≤ j → j < j1 → sR Cd 4 j = T j ∧ sQ Cd 2 j = w j) → sI Cd 1 = nI t → sI Cd 3 = nI 0 → t + s ≤ 41 → b' ≤ e → e ≤ 160 → b' - b < g → (∀ v : Int64, d E w = some v → ∃ (g' : Nat) (Cd2 : St), g ≤ g' + (b' - b) ∧ cEv t Cd Cd2 ∧ sI Cd2 1 = nI (t + 1) ∧ sI Cd2 3 = nI 0 ∧ sQ Cd2 1 t = v ∧ df_X2_evaluate_13 n g (nI c) (nI e) (nI b) (nd_st0, (Cd, M)) = df_X2_evaluate_13 n g' (nI c) (nI e) (nI b') (nd_st0, (Cd2, M))) ∧ (d E w = none → ∃ (x : Int64) (Cd2 : St), cEv 0 Cd Cd2 ∧ ¬ sI Cd2 3 = 0 ∧ df_X2_evaluate_13 n g (nI c) (nI e) (nI b) (nd_st0, (Cd, M)) = some (x, (nd_st0, (Cd2, M))))
theorem gC_st {d : Dn} {s b b' j0 j1 : Nat} {C C' : Nat → Int32} {A A' : Nat → Int64} {T T' : Nat → Int32} (h : gC d s b b' j0 j1 C A T) (hC : ∀ i : Nat, b ≤ i → i < b' → C' i = C i ∧ A' i = A i) (hT : ∀ j : Nat, j0 ≤ j → j < j1 → T' j = T j) : gC d s b b' j0 j1 C' A' T' :=
  ⟨h.1, h.2.1, h.2.2.1, fun n c M E w Cd t e g hE hs hj ht hf h41 he he2 hg => h.2.2.2 n c M E w Cd t e g hE (fun i a b => ⟨(hs i a b).1.trans (hC i a b).1, (hs i a b).2.trans (hC i a b).2⟩) (fun j a b => ⟨(hj j a b).1.trans (hT j a b), (hj j a b).2⟩) ht hf h41 he he2 hg⟩
theorem gC_leaf {b j0 o : Nat} {C : Nat → Int32} {A : Nat → Int64} {T : Nat → Int32} (ho : 30 ≤ o) (ho2 : o ≤ 33) (f : Evn → Int64) (hC : C b = nI o) (hv : ∀ (n c : Nat) (M : St × St) (E : Evn), eC n c M E → df_X2_operand n (nI c) (nI o) (A b) M = some (f E, M)) : gC (fun E _ => some (f E)) 1 b (b + 1) j0 j0 C A T := by
  refine ⟨by omega, by omega, Nat.le_refl _, fun n c M E w Cd t e g hE hs hj ht hf h41 he he2 hg => ⟨fun v hv2 => ?_, fun z => (nomatch z)⟩⟩
  obtain ⟨m, rfl⟩ : ∃ m : Nat, g = m + 1 := ⟨g - 1, by omega⟩
  have hv2 : some (f E) = some v := hv2
  injection hv2 with hv2
  subst hv2
  have k := hs b (by omega) (by omega)
  exact ⟨m, pu Cd t (t + 1) (f E), by omega, pu_E .., pu_1 .., hf, pu_t .., ev_op n m c e b o t (by omega) he2 ho ho2 (k.1.trans hC) hf ht (by omega) (by rw [k.2]; exact hv n c M E hE)⟩
theorem gC_old {s b b' j : Nat} {C : Nat → Int32} {A : Nat → Int64} {T : Nat → Int32} (hs1 : 1 ≤ s) (hb : b < b') (hC : C b = nI 23) (hA : A b = (nI j).toInt64) (hj40 : j < 40) (hT : T j = nI b') : gC (fun _ w => some (w j)) s b b' j (j + 1) C A T := by
  refine ⟨hb, hs1, by omega, fun n c M E w Cd t e g hE hs hj ht hf h41 he he2 hg => ⟨fun v hv2 => ?_, fun z => (nomatch z)⟩⟩
  obtain ⟨m, rfl⟩ : ∃ m : Nat, g = m + 1 := ⟨g - 1, by omega⟩
  have hv2 : some (w j) = some v := hv2
  injection hv2 with hv2
  subst hv2
  have k := hs b (by omega) (by omega)
  have q := hj j (by omega) (by omega)
  refine ⟨m, pu Cd t (t + 1) (sQ Cd 2 j), by omega, pu_E .., pu_1 .., hf, (pu_t ..).trans q.2, ev_old n m c e b j b' t (by omega) he2 (k.1.trans hC) (k.2.trans hA) hj40 (q.1.trans hT) hb (by omega) hf ht (by omega)⟩
theorem gC_un {d : Dn} {s b m j0 j1 o : Nat} {C : Nat → Int32} {A : Nat → Int64} {T : Nat → Int32} (ho : o = 19 ∨ o = 20 ∨ o = 21) (h : gC d s b m j0 j1 C A T) (hC : C m = nI o) : gC (dnU o d) s b (m + 1) j0 j1 C A T := by
  obtain ⟨h1, h2, h3, h4⟩ := h
  refine ⟨by omega, h2, h3, fun n c M E w Cd t e g hE hs hj ht hf h41 he he2 hg => ?_⟩
  have k := h4 n c M E w Cd t e g hE (fun i a b => hs i a (by omega)) hj ht hf h41 (by omega) he2 (by omega)
  unfold dnU
  cases hd : d E w with
  | none => exact ⟨fun v z => (nomatch z), fun _ => k.2 hd⟩
  | some v =>
    refine ⟨fun u z => ?_, fun z => (nomatch z)⟩
    have z : some (uV o v) = some u := z
    injection z with z
    subst z
    obtain ⟨g', Cd2, k1, k2, k3, k4, k5, k6⟩ := k.1 v hd
    obtain ⟨q, rfl⟩ : ∃ q : Nat, g' = q + 1 := ⟨g' - 1, by omega⟩
    have x1 : sR Cd2 0 m = nI o := by rw [k2.1.1, (hs m (by omega) (by omega)).1]; exact hC
    have x2 := ev_un n q c e m o t (M := M) (by omega) he2 (by omega) x1 k4 k3 (by omega) k5
    rw [if_neg (by omega)] at x2
    exact ⟨q, pu Cd2 t (t + 1) (uV o v), by omega, cEv_t k2 (pu_E ..), pu_1 .., k4, pu_t .., k6.trans x2⟩
theorem gC_chg {d : Dn} {s b m j : Nat} {C : Nat → Int32} {A : Nat → Int64} {T : Nat → Int32} (h : gC d s b m (j + 1) (j + 1) C A T) (hC : C m = nI 24) (hA : A m = (nI j).toInt64) (hj40 : j < 40) : gC (dnC j d) s b (m + 1) j (j + 1) C A T := by
  obtain ⟨h1, h2, h3, h4⟩ := h
  refine ⟨by omega, h2, by omega, fun n c M E w Cd t e g hE hs hj ht hf h41 he he2 hg => ?_⟩
  have k := h4 n c M E w Cd t e g hE (fun i a b => hs i a (by omega)) (fun i a b => by omega) ht hf h41 (by omega) he2 (by omega)
  unfold dnC
  cases hd : d E w with
  | none => exact ⟨fun v z => (nomatch z), fun _ => k.2 hd⟩
  | some v =>
    refine ⟨fun u z => ?_, fun z => (nomatch z)⟩
    have z : some (if v = w j then (0 : Int64) else 1) = some u := z
    injection z with z
    subst z
    obtain ⟨g', Cd2, k1, k2, k3, k4, k5, k6⟩ := k.1 v hd
    obtain ⟨q, rfl⟩ : ∃ q : Nat, g' = q + 1 := ⟨g' - 1, by omega⟩
    have x1 : sR Cd2 0 m = nI 24 := by rw [k2.1.1, (hs m (by omega) (by omega)).1]; exact hC
    have x3 : sQ Cd2 0 m = (nI j).toInt64 := by rw [k2.1.2.1, (hs m (by omega) (by omega)).2]; exact hA
    have x2 := ev_chg n q c e m j t (M := M) (by omega) he2 x1 x3 hj40 k4 k3 (by omega) k5
    rw [k2.2.1, (hj j (by omega) (by omega)).2] at x2
    exact ⟨q, _, by omega, cEv_t k2 (pu_E ..), pu_1 .., k4, pu_t .., k6.trans x2⟩
theorem gC_mem {d : Dn} {s b m j0 j1 o : Nat} {C : Nat → Int32} {A : Nat → Int64} {T : Nat → Int32} (ho : 25 ≤ o) (ho2 : o ≤ 27) (h : gC d s b m j0 j1 C A T) (hC : C m = nI o) : gC (dnM o d) s b (m + 1) j0 j1 C A T := by
  obtain ⟨h1, h2, h3, h4⟩ := h
  refine ⟨by omega, h2, h3, fun n c M E w Cd t e g hE hs hj ht hf h41 he he2 hg => ?_⟩
  have k := h4 n c M E w Cd t e g hE (fun i a b => hs i a (by omega)) hj ht hf h41 (by omega) he2 (by omega)
  unfold dnM
  cases hd : d E w with
  | none => exact ⟨fun v z => (nomatch z), fun _ => k.2 hd⟩
  | some v =>
    obtain ⟨g', Cd2, k1, k2, k3, k4, k5, k6⟩ := k.1 v hd
    obtain ⟨q, rfl⟩ : ∃ q : Nat, g' = q + 1 + 1 := ⟨g' - 2, by omega⟩
    have x1 : sR Cd2 0 m = nI o := by rw [k2.1.1, (hs m (by omega) (by omega)).1]; exact hC
    have x2 := ev_mem n (q + 1) c e m o t (M := M) (by omega) he2 ho ho2 x1 k4 k3 (by omega) k5 (hE.2.2.2 o v Cd2 ho ho2)
    refine ⟨fun u z => ?_, fun z => ?_⟩
    · have z : E.2.2.2 o v = some u := z
      have x2 := x2.1 u (by rw [z])
      exact ⟨q + 1, pu Cd2 t (t + 1) u, by omega, cEv_t k2 (pu_E ..), pu_1 .., k4, pu_t .., k6.trans x2⟩
    · have z : E.2.2.2 o v = none := z
      have x2 := x2.2 (by rw [z])
      obtain ⟨x, x3⟩ := ev_ff n q c e (m + 1) (Cd := pQ (pI Cd2 3 (nI 1)) 1 (vp_updL (sQ Cd2 1) t 0)) (M := M) rfl
      exact ⟨x, pQ (pI Cd2 3 (nI 1)) 1 (vp_updL (sQ Cd2 1) t 0), ⟨cSt_t k2.1 (cSt_r Cd2), k2.2.1, fun i hi => by omega⟩, show ¬ nI 1 = 0 by decide, k6.trans (x2.trans x3)⟩
theorem gC_bin {d f : Dn} {s u b m p j0 j j1 o : Nat} {C : Nat → Int32} {A : Nat → Int64} {T : Nat → Int32} (ho : 3 ≤ o) (ho2 : o ≤ 18) (h : gC d s b m j0 j C A T) (h' : gC f u m p j j1 C A T) (hC : C p = nI o) : gC (dnB o d f) (s + u) b (p + 1) j0 j1 C A T := by
  obtain ⟨h1, h2, h3, h4⟩ := h
  obtain ⟨i1, i2, i3, i4⟩ := h'
  refine ⟨by omega, by omega, by omega, fun n c M E w Cd t e g hE hs hj ht hf h41 he he2 hg => ?_⟩
  have k := h4 n c M E w Cd t e g hE (fun i a b => hs i a (by omega)) (fun i a b => hj i a (by omega)) ht hf (by omega) (by omega) he2 (by omega)
  unfold dnB
  cases hd : d E w with
  | none => exact ⟨fun v z => (nomatch z), fun _ => k.2 hd⟩
  | some x =>
    obtain ⟨g', Cd1, k1, k2, k3, k4, k5, k6⟩ := k.1 x hd
    have l := i4 n c M E w Cd1 (t + 1) e g' hE (fun i a b => by rw [k2.1.1, k2.1.2.1]; exact hs i (by omega) (by omega)) (fun i a b => by rw [k2.1.2.2.2.2.1, k2.2.1]; exact hj i (by omega) b) k3 k4 (by omega) (by omega) he2 (by omega)
    cases hf2 : f E w with
    | none =>
      refine ⟨fun v z => (nomatch z), fun _ => ?_⟩
      obtain ⟨z, Cd2, l1, l2, l3⟩ := l.2 hf2
      exact ⟨z, Cd2, cEv_t (cEv_l k2 (by omega)) l1, l2, k6.trans l3⟩
    | some y =>
      obtain ⟨g2, Cd2, l1, l2, l3, l4, l5, l6⟩ := l.1 y hf2
      obtain ⟨q, rfl⟩ : ∃ q : Nat, g2 = q + 1 + 1 := ⟨g2 - 2, by omega⟩
      have x1 : sR Cd2 0 p = nI o := by rw [l2.1.1, k2.1.1, (hs p (by omega) (by omega)).1]; exact hC
      have x2 := ev_bin n (q + 1) c e p o t (M := M) (by omega) he2 ho ho2 x1 l4 l3 (by omega) ((l2.2.2 t (by omega)).trans k5) l5
      refine ⟨fun v z => ?_, fun z => ?_⟩
      · have z : bV o x y = some v := z
        rw [z] at x2
        exact ⟨q + 1, pu Cd2 t (t + 1) v, by omega, cEv_t k2 (cEv_t (cEv_l l2 (by omega)) (pu_E ..)), pu_1 .., l4, pu_t .., k6.trans (l6.trans x2)⟩
      · have z : bV o x y = none := z
        rw [z] at x2
        obtain ⟨x', x3⟩ := ev_ff n q c e (p + 1) (Cd := pQ (pI (pI Cd2 1 (nI (t + 1))) 3 (nI 1)) 1 (vp_updL (sQ Cd2 1) t 0)) (M := M) rfl
        exact ⟨x', pQ (pI (pI Cd2 1 (nI (t + 1))) 3 (nI 1)) 1 (vp_updL (sQ Cd2 1) t 0), ⟨cSt_t k2.1 (cSt_t l2.1 (cSt_r Cd2)), l2.2.1.trans k2.2.1, fun i hi => by omega⟩, show ¬ nI 1 = 0 by decide, k6.trans (l6.trans (x2.trans x3))⟩
theorem gC_log {d f : Dn} {s u b m p j0 j j1 o : Nat} {C : Nat → Int32} {A : Nat → Int64} {T : Nat → Int32} (ho : o = 1 ∨ o = 2) (h : gC d s b m j0 j C A T) (h' : gC f u (m + 1) p j j1 C A T) (hC : C p = nI 36) (hI : C m = nI (36 - o)) (hA : A m = (nI (p + 1)).toInt64) : gC (dnG o d f) (s + u) b (p + 1) j0 j1 C A T := by
  obtain ⟨h1, h2, h3, h4⟩ := h
  obtain ⟨i1, i2, i3, i4⟩ := h'
  refine ⟨by omega, by omega, by omega, fun n c M E w Cd t e g hE hs hj ht hf h41 he he2 hg => ?_⟩
  have k := h4 n c M E w Cd t e g hE (fun i a b => hs i a (by omega)) (fun i a b => hj i a (by omega)) ht hf (by omega) (by omega) he2 (by omega)
  unfold dnG
  cases hd : d E w with
  | none => exact ⟨fun v z => (nomatch z), fun _ => k.2 hd⟩
  | some x =>
    obtain ⟨g', Cd1, k1, k2, k3, k4, k5, k6⟩ := k.1 x hd
    obtain ⟨q, rfl⟩ : ∃ q : Nat, g' = q + 1 := ⟨g' - 1, by omega⟩
    have y1 : sR Cd1 0 m = nI (36 - o) := by rw [k2.1.1, (hs m (by omega) (by omega)).1]; exact hI
    have y2 : sQ Cd1 0 m = (nI (p + 1)).toInt64 := by rw [k2.1.2.1, (hs m (by omega) (by omega)).2]; exact hA
    have y3 := ev_if n q c e m o (p + 1) t (M := M) (by omega) he2 ho y1 y2 (by omega) (by omega) k4 k3 (by omega) k5
    by_cases a : x = 0 ↔ o = 1
    · rw [if_pos a] at y3
      have l := i4 n c M E w (pI Cd1 1 (nI t)) t e q hE (fun i a b => by show sR Cd1 0 i = _ ∧ sQ Cd1 0 i = _; rw [k2.1.1, k2.1.2.1]; exact hs i (by omega) (by omega)) (fun i a b => by show sR Cd1 4 i = _ ∧ sQ Cd1 2 i = _; rw [k2.1.2.2.2.2.1, k2.2.1]; exact hj i (by omega) b) rfl k4 (by omega) (by omega) he2 (by omega)
      have x0 : cEv t Cd1 (pI Cd1 1 (nI t)) := ⟨cSt_r Cd1, rfl, fun _ _ => rfl⟩
      cases hf2 : f E w with
      | none =>
        refine ⟨fun v z => ?_, fun _ => ?_⟩
        · have z : (if (x = 0 ↔ o = 1) then (none : Option Int64) else some (if o = 1 then 1 else 0)) = some v := z
          rw [if_pos a] at z
          exact nomatch z
        · obtain ⟨z, Cd2, l1, l2, l3⟩ := l.2 hf2
          exact ⟨z, Cd2, cEv_t (cEv_l (cEv_t k2 x0) (by omega)) l1, l2, k6.trans (y3.trans l3)⟩
      | some y =>
        obtain ⟨g2, Cd2, l1, l2, l3, l4, l5, l6⟩ := l.1 y hf2
        obtain ⟨r, rfl⟩ : ∃ r : Nat, g2 = r + 1 := ⟨g2 - 1, by omega⟩
        have x1 : sR Cd2 0 p = nI 36 := by rw [l2.1.1]; show sR Cd1 0 p = _; rw [k2.1.1, (hs p (by omega) (by omega)).1]; exact hC
        have x2 := ev_un n r c e p 36 t (M := M) (by omega) he2 (by omega) x1 l4 l3 (by omega) l5
        rw [if_pos rfl] at x2
        refine ⟨fun v z => ?_, fun z => ?_⟩
        · have z : (if (x = 0 ↔ o = 1) then some (tV y) else some (if o = 1 then 1 else 0)) = some v := z
          rw [if_pos a] at z
          injection z with z
          subst z
          exact ⟨r, pu Cd2 t (t + 1) (tV y), by omega, cEv_t (cEv_t k2 x0) (cEv_t l2 (pu_E ..)), pu_1 .., l4, pu_t .., k6.trans (y3.trans (l6.trans x2))⟩
        · have z : (if (x = 0 ↔ o = 1) then some (tV y) else some (if o = 1 then 1 else 0)) = none := z
          rw [if_pos a] at z
          exact nomatch z
    · rw [if_neg a] at y3
      refine ⟨fun v z => ?_, fun z => ?_⟩
      · have z : (if (x = 0 ↔ o = 1) then (f E w).bind (fun b => some (tV b)) else some (if o = 1 then 1 else 0)) = some v := z
        rw [if_neg a] at z
        injection z with z
        subst z
        exact ⟨q, _, by omega, cEv_t k2 (pu_E ..), pu_1 .., k4, pu_t .., k6.trans y3⟩
      · have z : (if (x = 0 ↔ o = 1) then (f E w).bind (fun b => some (tV b)) else some (if o = 1 then 1 else 0)) = none := z
        rw [if_neg a] at z
        exact nomatch z
