/-- constants alone or not -/
theorem nwT_n {P : Nat → Tp} {m i : Nat} {o : Tp} (h : ¬ i = m) : nwT P m o i = P i := if_neg h
theorem nwT_e {P : Nat → Tp} {m : Nat} {o : Tp} : nwT P m o m = o := if_pos rfl
theorem fx_k {c : Nat → Nat} {e : Nat} {bs ws : Nat → Nat} {NM : Nat → Int32} {ns m : Nat} {P : Nat → Tp} (o : Tp) (h : o.1 ≤ 16) : fxQ c e bs ws NM ns m P ↔ fxQ c e bs ws NM ns (m + 1) (nwT P m o) := by
  constructor
  · intro z i hi
    by_cases y : i = m
    · rw [y, nwT_e]
      exact ⟨by omega, fun w => by omega⟩
    · rw [nwT_n y]
      exact z i (by omega)
  · intro z i hi
    have := z i (by omega)
    rw [nwT_n (by omega)] at this
    exact this
theorem fx_a {c : Nat → Nat} {e : Nat} {bs ws : Nat → Nat} {NM : Nat → Int32} {ns : Nat} : ∀ (xs : List Nat) (P : Nat → Tp) (m : Nat), (∀ x : Nat, x ∈ xs → x < 16) → (fxQ c e bs ws NM ns m P ↔ fxQ c e bs ws NM ns (m + xs.length) (apl P m xs)) := fun xs => by
  induction xs with
  | nil => intro P m _; exact Iff.rfl
  | cons x xs ih =>
    intro P m h
    have h1 := h x (List.mem_cons_self ..)
    rw [fx_k (m := m) (P := P) (x, 0, 0) (show x ≤ 16 by omega), ih (nwT P m (x, 0, 0)) (m + 1) (fun y hy => h y (List.mem_cons_of_mem _ hy)), show m + 1 + xs.length = m + (x :: xs).length by show _ = m + (xs.length + 1); omega]
    exact Iff.rfl
theorem fx_0 {c : Nat → Nat} {e : Nat} {bs ws : Nat → Nat} {NM : Nat → Int32} {ns m : Nat} {P : Nat → Tp} (o : Tp) (h : o.1 = 18 ∨ o.1 = 19 ∨ o.1 = 20) : false = true ↔ fxQ c e bs ws NM ns (m + 1) (nwT P m o) := by
  constructor
  · intro z; exact absurd z (by decide)
  · intro z
    have := (z m (by omega)).1
    rw [nwT_e] at this
    exact absurd h this
theorem sW_t {c : Nat → Nat} {b l b' l' b2 l2 : Nat} (h : sW c b l b2 l2) (k : sW c b' l' b2 l2) : sW c b l b' l' := ⟨h.1.trans k.1.symm, fun t ht => (h.2 t ht).trans (k.2 t (by have := h.1; have := k.1; omega)).symm⟩
theorem fx_w {L : Nat} {c : Nat → Nat} {e : Nat} {bs ws bs' ws' : Nat → Nat} {NM NM' BK' NR C0 A0 C A : Nat → Int32} {s0 ns ns' m : Nat} {P : Nat → Tp} {fx : Bool} (hp : PS ns NM bs ws ns' NM' bs' ws') (hH : HT L c ns' NM' BK' bs' ws') (hC : CR NR c e C0 A0 s0 ns bs ws m P C A) (h : fx = true ↔ fxQ c e bs ws NM ns m P) (id q : Nat) (h1 : id < ns') (h2 : sW c (bs' id) (ws' id) q (eT c e q - q)) : (fx && decide (NM' (5 * id + 2) = 1)) = true ↔ fxQ c e bs' ws' NM' ns' (m + 1) (nwT P m (17, q, 0)) := by
  rw [Bool.and_eq_true, h, decide_eq_true_eq]
  have p0 := hp.1
  constructor
  · rintro ⟨z, w⟩ i hi
    by_cases y : i = m
    · rw [y, nwT_e]
      exact ⟨by show ¬ (17 = 18 ∨ 17 = 19 ∨ 17 = 20); omega, fun _ => ⟨id, h1, h2, w⟩⟩
    · rw [nwT_n y]
      obtain ⟨u1, u2⟩ := z i (by omega)
      refine ⟨u1, fun v => ?_⟩
      obtain ⟨j, j1, j2, j3⟩ := u2 v
      obtain ⟨k1, k2, k3, _⟩ := hp.2.1 j j1
      exact ⟨j, by omega, by rw [k1, k2]; exact j2, by rw [k3]; exact j3⟩
  · intro z
    constructor
    · intro i hi
      have zi := z i (by omega)
      rw [nwT_n (by omega)] at zi
      refine ⟨zi.1, fun v => ?_⟩
      obtain ⟨j, j1, j2, j3⟩ := zi.2 v
      obtain ⟨j0, _, l0, w0⟩ := (hC.2 i hi).2.2.1 v
      obtain ⟨k1, k2, k3, _⟩ := hp.2.1 j0 l0
      have w0' : sW c (bs' j0) (ws' j0) (P i).2.1 (eT c e (P i).2.1 - (P i).2.1) := by rw [k1, k2]; exact w0
      have e := hH.2.2.2.1 j j0 j1 (by omega) (sW_t j2 w0')
      subst e
      exact ⟨j, l0, w0, by rw [← k3]; exact j3⟩
    · have zm := z m (by omega)
      rw [nwT_e] at zm
      obtain ⟨j, j1, j2, j3⟩ := zm.2 rfl
      have e := hH.2.2.2.1 j id j1 h1 (sW_t j2 h2)
      subst e
      exact j3
theorem lsX {lo : Tp → Bool} {P : Nat → Tp} {m : Nat} {l : List Nat} (o : Tp) (h : okS l) (ho : 16 ≤ o.1) : lsF lo (apl (nwT P m o) (m + 1) (usP l)) (m + 1 + (usP l).length) = (lsF lo P m || lo o) := by
  rw [ls_a (usP l) _ _ (fun x hx => by have := (us_1 l h).2.2.2.2.2.2.1 x hx; omega), ls_w, decide_eq_true ho, Bool.true_and]
/-- a number -/
theorem jA_2 (n L e : Nat) (c : Nat → Nat) (BC : St) (C0 A0 : Nat → Int32) (s0 : Nat) (N : Nat) {BR0 : St} (hT0 : atx n L e c BC BR0) (hB : clB n L e c BC C0 A0 s0 N) (p q p' κ τ v : Nat) (x : Int32) (l : List Nat) (m : Nat) (P : Nat → Tp) (ns : Nat) (fx : Bool) (C A S NM BK : Nat → Int32) (bs ws : Nat → Nat) (k g : Nat) (x1 : Int32) (hN : e - p < N + 1) (hT : TS n L e c BC p q p' κ τ v x) (hE : EC L e c BC C0 A0 s0 p m ns l P fx C A S NM BK bs ws) (h2 : (flat l).length + nbS l ≤ p) (hns : 2 * ns ≤ p) (hk : e - p + 1 ≤ k) (hk2 : k < 2 ^ 20) (hg : e - p + 3 ≤ g) (hκ : κ = 2) : ∃ (ok : Bool) (p2 q2 p2' κ2 τ2 v2 : Nat) (x2 : Int32) (m2 : Nat) (P2 : Nat → Tp) (ns2 : Nat) (fx2 : Bool) (C2 A2 S2 NM2 BK2 : Nat → Int32) (bs2 ws2 : Nat → Nat) (tp2 : Nat), df_X9_sum_26 n g x1 (nI k) (uC (xC BC (s0 + m) l.length 0 ns fx C A S NM BK) p' κ q x) = some (if ok = true then x1 else -1, (uC (xC BC (s0 + m2 + 1) tp2 (if ok = true then 5 else 6) ns2 fx2 C2 A2 S2 NM2 BK2) p2' κ2 q2 x2)) ∧ PS ns NM bs ws ns2 NM2 bs2 ws2 ∧ HTS n L e c BC ns2 NM2 BK2 bs2 ws2 q2 p2' κ2 x2 ∧ (ok = true → TS n L e c BC p2 q2 p2' κ2 τ2 v2 x2 ∧ p ≤ p2 ∧ CR (sR BC 5) c e C0 A0 s0 ns2 bs2 ws2 m2 P2 C2 A2 ∧ C2 (s0 + m2) = 21 ∧ (fx2 = true ↔ fxQ c e bs2 ws2 NM2 ns2 m2 P2) ∧ s0 + m2 ≤ p2 ∧ 2 * ns2 ≤ p2 + 1 ∧ 0 < m2) ∧ RO n L e c BC p ok p2 m2 P2 true l m P (nbS l) := by
  obtain ⟨hn, hL, heL, h127, hend, hce, hO, hst, htC, h0, htR, hch⟩ := id hT0
  obtain ⟨t1, t2, t3, t4, t5, t6, t7, t8, t9⟩ := id hT
  obtain ⟨E1, E2, E3, E4, E5, E6⟩ := id hE
  subst hκ
  have hx : x = nI v := t8 (Or.inl rfl)
  have hτ : τ = 2 := by unfold tkK at t7; omega
  have q2 := (t6 (by decide)).2
  subst hτ
  subst hx
  refine jV n L e c BC C0 A0 s0 N hT0 hB (16, 0, v) p q p' 2 2 v (nI v) l m P ns ns fx fx C A S NM BK (upd C (s0 + m) 16) (upd A (s0 + m) (nI v)) NM BK bs ws bs ws k g x1 hN hT (by decide) E1 h2 ⟨E1, E2, CR_w E3 (16, 0, v) (nI v) ⟨fun _ => rfl, fun z => absurd (show 16 = 17 from z) (by decide), fun z => absurd (show 16 = 19 from z) (by decide), fun z => absurd (show 16 = 20 from z) (by decide), show 1 ≤ 16 ∧ 16 ≤ 20 ∧ ¬ 16 = 15 ∧ (16 = 19 ∨ 16 = 20 → v ≤ 9) by omega⟩, E4, E5.trans (fx_k (16, 0, v) (Nat.le_refl 16)), by omega⟩ (by omega) PS_r hk hk2 hg (xd_N (by omega)) ?_ (by omega)
  intro B V lo hTB hV vs ms dv ls PL xr hvl hER hxr
  obtain ⟨R1, R2, R3, R4⟩ := hER
  have hx := hxr (Or.inl rfl)
  subst hx
  obtain ⟨PL', v', o1, o2, o3, o4⟩ := ro_2 (nm := 0) (n := n) (B := B) (ms := ms) (dv := dv) (ls := ls) (PL := PL) (ap := p') (fr := q) (to := p') (V := V) (P := P) (m := m) hV v hn l vs E1 (by omega) R1 R2 R3
  refine ⟨PL', v', _, ls, 2, q, p', nI v, o1, o2, o3, o4, ?_⟩
  rw [lsX (16, 0, v) E1 (Nat.le_refl 16), (hV.1 v).2.1, Bool.or_false]
  exact R4
/-- the place itself, a name -/
theorem jA_1 (n L e : Nat) (c : Nat → Nat) (BC : St) (C0 A0 : Nat → Int32) (s0 : Nat) (N : Nat) {BR0 : St} (hT0 : atx n L e c BC BR0) (hB : clB n L e c BC C0 A0 s0 N) (p q p' κ τ v : Nat) (x : Int32) (l : List Nat) (m : Nat) (P : Nat → Tp) (ns : Nat) (fx : Bool) (C A S NM BK : Nat → Int32) (bs ws : Nat → Nat) (k g : Nat) (x1 : Int32) (hN : e - p < N + 1) (hT : TS n L e c BC p q p' κ τ v x) (hE : EC L e c BC C0 A0 s0 p m ns l P fx C A S NM BK bs ws) (h2 : (flat l).length + nbS l ≤ p) (hns : 2 * ns ≤ p) (hk : e - p + 1 ≤ k) (hk2 : k < 2 ^ 20) (hg : e - p + 3 ≤ g) (hκ : κ = 1) : ∃ (ok : Bool) (p2 q2 p2' κ2 τ2 v2 : Nat) (x2 : Int32) (m2 : Nat) (P2 : Nat → Tp) (ns2 : Nat) (fx2 : Bool) (C2 A2 S2 NM2 BK2 : Nat → Int32) (bs2 ws2 : Nat → Nat) (tp2 : Nat), df_X9_sum_26 n g x1 (nI k) (uC (xC BC (s0 + m) l.length 0 ns fx C A S NM BK) p' κ q x) = some (if ok = true then x1 else -1, (uC (xC BC (s0 + m2 + 1) tp2 (if ok = true then 5 else 6) ns2 fx2 C2 A2 S2 NM2 BK2) p2' κ2 q2 x2)) ∧ PS ns NM bs ws ns2 NM2 bs2 ws2 ∧ HTS n L e c BC ns2 NM2 BK2 bs2 ws2 q2 p2' κ2 x2 ∧ (ok = true → TS n L e c BC p2 q2 p2' κ2 τ2 v2 x2 ∧ p ≤ p2 ∧ CR (sR BC 5) c e C0 A0 s0 ns2 bs2 ws2 m2 P2 C2 A2 ∧ C2 (s0 + m2) = 21 ∧ (fx2 = true ↔ fxQ c e bs2 ws2 NM2 ns2 m2 P2) ∧ s0 + m2 ≤ p2 ∧ 2 * ns2 ≤ p2 + 1 ∧ 0 < m2) ∧ RO n L e c BC p ok p2 m2 P2 true l m P (nbS l) := by
  obtain ⟨hn, hL, heL, h127, hend, hce, hO, hst, htC, h0, htR, hch⟩ := id hT0
  obtain ⟨t1, t2, t3, t4, t5, t6, t7, t8, t9⟩ := id hT
  obtain ⟨E1, E2, E3, E4, E5, E6⟩ := id hE
  subst hκ
  have K : τ = 1 ∧ q < e ∧ aP (c q) = true ∧ aD (c q) = false ∧ p' = eT c e q ∧ p' - q ≤ 31 := by
    unfold tkK at t7
    rcases t7 with y | y | y | y | y | y | y
    · omega
    · exact y.2
    · omega
    · omega
    · omega
    · omega
    · omega
  obtain ⟨hτ, k1, k2, k3, k4, k5⟩ := K
  subst hτ
  have q2 := (t6 (by decide)).2
  have ref : ∀ (B : St) (V : Tp → Int32 × Bool) (lo : Tp → Bool), atx n L e c BC B → VA n e c B V lo → ∀ (vs : List Int32) (ms dv ls : Bool) (PL : Nat → Int32) (xr : Int32), vs.length = nbS l → ER V lo P m l vs ms dv ls PL → (1 = 2 ∨ 1 = 3 → xr = nI v) → ∃ (PL' : Nat → Int32) (v' : Int32) (ms' ls' : Bool) (tk' fr' to' : Nat) (nm' : Int32), df_X13_operand n (uR (xR B 0 ms dv ls (flat l).length (32800 - vs.length) PL) p' 1 q p' xr) = some (1, (uR (xR B 0 ms' dv ls' (flat (rsP l)).length (32800 - (v' :: vs).length) PL') p' tk' fr' to' nm')) ∧ ER V lo (apl (nwT P m (opW c e q)) (m + 1) (usP l)) (m + 1 + (usP l).length) (rsP l) (v' :: vs) ms' dv ls' PL' := by
    intro B V lo hTB hV vs ms dv ls PL xr hvl hER hxr
    obtain ⟨R1, R2, R3, R4⟩ := hER
    obtain ⟨PL', v', o1, o2, o3, o4⟩ := ro_1 (n := n) (B := B) (ms := ms) (dv := dv) (ls := ls) (PL := PL) (ap := p') (nm := xr) (V := V) (P := P) (m := m) hV q k1 k2 k3 (by omega) hn l vs E1 (by omega) R1 R2 R3
    rw [← k4] at o1
    refine ⟨PL', v', _, _, 1, q, p', xr, o1, o2, o3, o4, ?_⟩
    rw [lsX (opW c e q) E1 (by unfold opW; split <;> (show 16 ≤ _; omega)), R4]
  by_cases y : p' = q + 1 ∧ c q = 46
  · have eo : opW c e q = (18, 0, 0) := by unfold opW; rw [if_pos (by rw [← k4]; exact y)]
    rw [eo] at ref
    obtain ⟨y1, y2⟩ := y
    subst y1
    refine jV n L e c BC C0 A0 s0 N hT0 hB (18, 0, 0) p q (q + 1) 1 1 v x l m P ns ns fx false C A S NM BK (upd C (s0 + m) 18) (upd A (s0 + m) 0) NM BK bs ws bs ws k g x1 hN hT (by decide) E1 h2 ⟨E1, E2, CR_w E3 (18, 0, 0) 0 ⟨fun z => absurd (show 18 = 16 from z) (by decide), fun z => absurd (show 18 = 17 from z) (by decide), fun z => absurd (show 18 = 19 from z) (by decide), fun z => absurd (show 18 = 20 from z) (by decide), show 1 ≤ 18 ∧ 18 ≤ 20 ∧ ¬ 18 = 15 ∧ (18 = 19 ∨ 18 = 20 → 0 ≤ 9) by omega⟩, E4, fx_0 (18, 0, 0) (Or.inl rfl), by omega⟩ (by omega) PS_r hk hk2 hg (xd_H hO (by omega) (by omega) (by rw [htC q (by omega), y2]; rfl)) ref (by omega)
  · have eo : opW c e q = (17, q, 0) := by unfold opW; rw [if_neg (by rw [← k4]; exact y)]
    rw [eo] at ref
    obtain ⟨w, ew⟩ : ∃ w : Nat, p' = q + w := ⟨p' - q, by omega⟩
    have hwl : eT c e q - q = w := by omega
    subst ew
    obtain ⟨id, ns1, NM1, BK1, bs1, ws1, e1, e2, e3, e4, e5, e6, e7, e8⟩ := xd_W (tp := l.length) (st := 0) (fx := fx) (C := C) (A := A) (S := S) (fr := q) (l := w) (nm := x) (cs := s0 + m) hT0 E4 (by omega) (by omega) (by omega) (by omega) (fun z => y ⟨by omega, z.2⟩) (fun t ht => (eT_1 c (show q ≤ e by omega)).2.2.2 (q + t) (by omega) (by omega))
    have hps : PS ns NM bs ws ns1 NM1 bs1 ws1 := ⟨e5, e7, e8⟩
    refine jV n L e c BC C0 A0 s0 N hT0 hB (17, q, 0) p q (q + w) 1 1 v x l m P ns ns1 fx (fx && decide (NM1 (5 * id + 2) = 1)) C A S NM BK (upd C (s0 + m) 17) (upd A (s0 + m) (nI id)) NM1 BK1 bs ws bs1 ws1 k g x1 hN hT (by decide) E1 h2 ⟨E1, E2, CR_w (CR_n e5 (fun i hi => ⟨(e7 i hi).1, (e7 i hi).2.1⟩) E3) (17, q, 0) (nI id) ⟨fun z => absurd (show 17 = 16 from z) (by decide), fun _ => ⟨id, rfl, e3, by show sW c (bs1 id) (ws1 id) q (eT c e q - q); rw [hwl]; exact e4⟩, fun z => absurd (show 17 = 19 from z) (by decide), fun z => absurd (show 17 = 20 from z) (by decide), show 1 ≤ 17 ∧ 17 ≤ 20 ∧ ¬ 17 = 15 ∧ (17 = 19 ∨ 17 = 20 → 0 ≤ 9) by omega⟩, e2, fx_w hps e2 E3 E5 id q e3 (by rw [hwl]; exact e4), by omega⟩ (by omega) hps hk hk2 hg e1 ref (by omega)
/-- a near label -/
theorem jA_3 (n L e : Nat) (c : Nat → Nat) (BC : St) (C0 A0 : Nat → Int32) (s0 : Nat) (N : Nat) {BR0 : St} (hT0 : atx n L e c BC BR0) (hB : clB n L e c BC C0 A0 s0 N) (p q p' κ τ v : Nat) (x : Int32) (l : List Nat) (m : Nat) (P : Nat → Tp) (ns : Nat) (fx : Bool) (C A S NM BK : Nat → Int32) (bs ws : Nat → Nat) (k g : Nat) (x1 : Int32) (hN : e - p < N + 1) (hT : TS n L e c BC p q p' κ τ v x) (hE : EC L e c BC C0 A0 s0 p m ns l P fx C A S NM BK bs ws) (h2 : (flat l).length + nbS l ≤ p) (hns : 2 * ns ≤ p) (hk : e - p + 1 ≤ k) (hk2 : k < 2 ^ 20) (hg : e - p + 3 ≤ g) (hκ : κ = 3) : ∃ (ok : Bool) (p2 q2 p2' κ2 τ2 v2 : Nat) (x2 : Int32) (m2 : Nat) (P2 : Nat → Tp) (ns2 : Nat) (fx2 : Bool) (C2 A2 S2 NM2 BK2 : Nat → Int32) (bs2 ws2 : Nat → Nat) (tp2 : Nat), df_X9_sum_26 n g x1 (nI k) (uC (xC BC (s0 + m) l.length 0 ns fx C A S NM BK) p' κ q x) = some (if ok = true then x1 else -1, (uC (xC BC (s0 + m2 + 1) tp2 (if ok = true then 5 else 6) ns2 fx2 C2 A2 S2 NM2 BK2) p2' κ2 q2 x2)) ∧ PS ns NM bs ws ns2 NM2 bs2 ws2 ∧ HTS n L e c BC ns2 NM2 BK2 bs2 ws2 q2 p2' κ2 x2 ∧ (ok = true → TS n L e c BC p2 q2 p2' κ2 τ2 v2 x2 ∧ p ≤ p2 ∧ CR (sR BC 5) c e C0 A0 s0 ns2 bs2 ws2 m2 P2 C2 A2 ∧ C2 (s0 + m2) = 21 ∧ (fx2 = true ↔ fxQ c e bs2 ws2 NM2 ns2 m2 P2) ∧ s0 + m2 ≤ p2 ∧ 2 * ns2 ≤ p2 + 1 ∧ 0 < m2) ∧ RO n L e c BC p ok p2 m2 P2 true l m P (nbS l) := by
  obtain ⟨hn, hL, heL, h127, hend, hce, hO, hst, htC, h0, htR, hch⟩ := id hT0
  obtain ⟨t1, t2, t3, t4, t5, t6, t7, t8, t9⟩ := id hT
  obtain ⟨E1, E2, E3, E4, E5, E6⟩ := id hE
  subst hκ
  have K : τ = 3 ∧ p' = q + 2 ∧ aD (c q) = true ∧ v = c q - 48 ∧ (c (q + 1) = 102 ∨ c (q + 1) = 98) := by
    unfold tkK at t7
    rcases t7 with y | y | y | y | y | y | y
    · omega
    · omega
    · omega
    · exact y.2
    · omega
    · omega
    · omega
  obtain ⟨hτ, k1, k2, k3, k4⟩ := K
  have k2 := aD_v.mp k2
  have hx : x = nI v := t8 (Or.inr (Or.inl rfl))
  subst hτ
  subst hx
  subst k1
  have v9 : v ≤ 9 := by omega
  have aG1 : ∀ (κ' : Nat) (α : Int32), (κ' = 19 → α = if sR BC 5 (10 + v) - 1 < 0 then -1 - nI v else sR BC 5 (10 + v) - 1) → (κ' = 20 → α = sR BC 5 (10 + v) - 1) → κ' = 19 ∨ κ' = 20 → aG (sR BC 5) c e ns bs ws (κ', 0, v) α := fun κ' α z1 z2 z3 => ⟨fun z => absurd (show κ' = 16 from z) (by omega), fun z => absurd (show κ' = 17 from z) (by omega), z1, z2, show 1 ≤ κ' ∧ κ' ≤ 20 ∧ ¬ κ' = 15 ∧ (κ' = 19 ∨ κ' = 20 → v ≤ 9) by omega⟩
  have go : ∀ (κ' : Nat) (α : Int32) (fw : Bool), κ' = (if fw = true then 19 else 20) → fw = decide (c (q + 1) = 102) → (c (q + 1) = 98 → nI κ' = 20 ∧ α = sR BC 5 (10 + v) - 1) → (c (q + 1) = 102 → nI κ' = 19 ∧ α = if sR BC 5 (10 + v) - 1 < 0 then -1 - nI v else sR BC 5 (10 + v) - 1) → aG (sR BC 5) c e ns bs ws (κ', 0, v) α → ∃ (ok : Bool) (p2 q2 p2' κ2 τ2 v2 : Nat) (x2 : Int32) (m2 : Nat) (P2 : Nat → Tp) (ns2 : Nat) (fx2 : Bool) (C2 A2 S2 NM2 BK2 : Nat → Int32) (bs2 ws2 : Nat → Nat) (tp2 : Nat), df_X9_sum_26 n g x1 (nI k) (uC (xC BC (s0 + m) l.length 0 ns fx C A S NM BK) (q + 2) 3 q (nI v)) = some (if ok = true then x1 else -1, (uC (xC BC (s0 + m2 + 1) tp2 (if ok = true then 5 else 6) ns2 fx2 C2 A2 S2 NM2 BK2) p2' κ2 q2 x2)) ∧ PS ns NM bs ws ns2 NM2 bs2 ws2 ∧ HTS n L e c BC ns2 NM2 BK2 bs2 ws2 q2 p2' κ2 x2 ∧ (ok = true → TS n L e c BC p2 q2 p2' κ2 τ2 v2 x2 ∧ p ≤ p2 ∧ CR (sR BC 5) c e C0 A0 s0 ns2 bs2 ws2 m2 P2 C2 A2 ∧ C2 (s0 + m2) = 21 ∧ (fx2 = true ↔ fxQ c e bs2 ws2 NM2 ns2 m2 P2) ∧ s0 + m2 ≤ p2 ∧ 2 * ns2 ≤ p2 + 1 ∧ 0 < m2) ∧ RO n L e c BC p ok p2 m2 P2 true l m P (nbS l) := by
    intro κ' α fw f1 f2 f3 f4 f5
    refine jV n L e c BC C0 A0 s0 N hT0 hB (κ', 0, v) p q (q + 2) 3 3 v (nI v) l m P ns ns fx false C A S NM BK (upd C (s0 + m) (nI κ')) (upd A (s0 + m) α) NM BK bs ws bs ws k g x1 hN hT (by decide) E1 h2 ⟨E1, E2, CR_w E3 (κ', 0, v) α f5, E4, fx_0 (κ', 0, v) (by rw [f1]; split <;> simp), by omega⟩ (by omega) PS_r hk hk2 hg (xd_R hO (by omega) v (c (q + 1)) (nI κ') α v9 (by omega) (Or.symm k4) (htC (q + 1) (by omega)) rfl f3 f4) ?_ (by omega)
    intro B V lo hTB hV vs ms dv ls PL xr hvl hER hxr
    obtain ⟨R1, R2, R3, R4⟩ := hER
    have hx := hxr (Or.inr rfl)
    subst hx
    obtain ⟨_, _, _, _, _, _, _, _, _, _, htB, _⟩ := id hTB
    subst f1
    obtain ⟨PL', v', o1, o2, o3, o4⟩ := ro_3 (nm := 0) (n := n) (B := B) (ms := ms) (dv := dv) (ls := ls) (PL := PL) (ap := q + 2) (fr := q) (to := q + 1) (V := V) (P := P) (m := m) hV v (c (q + 1)) fw v9 (by omega) (htB (q + 1) (by omega)) (h127 _) f2 hn l vs E1 (by omega) R1 R2 R3
    refine ⟨PL', v', _, true, 3, q, q + 2, nI v, o1, o2, o3, o4, ?_⟩
    rw [lsX _ E1 (by show 16 ≤ (if fw = true then 19 else 20); split <;> omega)]
    cases fw
    · rw [show lo (if false = true then 19 else 20, 0, v) = true from (hV.1 v).2.2.2, Bool.or_true]
    · rw [show lo (if true = true then 19 else 20, 0, v) = true from (hV.1 v).2.2.1, Bool.or_true]
  by_cases y : c (q + 1) = 102
  · exact go 19 _ true rfl (decide_eq_true y).symm (fun z => by omega) (fun _ => ⟨rfl, rfl⟩) (aG1 19 _ (fun _ => rfl) (fun z => by omega) (Or.inl rfl))
  · exact go 20 _ false rfl (decide_eq_false y).symm (fun _ => ⟨rfl, rfl⟩) (fun z => absurd z y) (aG1 20 _ (fun z => by omega) (fun _ => rfl) (Or.inr rfl))
