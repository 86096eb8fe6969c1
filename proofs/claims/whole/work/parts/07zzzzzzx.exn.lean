/-- the bracket behind %hi or %lo, in the reference -/
theorem p216 {n : Nat} {B : St} {ft : Int32} {ms dv ls : Bool} {sg vl : Nat} {PL : Nat → Int32} {ap tk fr to : Nat} {nm : Int32} (s : Nat) (hs : sg + 1 < 32800) {p3 τ3 q3 t3 : Nat} {x3 : Int32} (h3 : τ3 < 300) (T : df_X13_scan n (uR (xR B ft ms dv ls (sg + 1) vl (upd PL sg (nI s))) ap tk fr to nm) = some (uR (xR B ft ms dv ls (sg + 1) vl (upd PL sg (nI s))) p3 τ3 q3 t3 x3)) : df_X13_operand_216 n (nI s) (uR (xR B ft ms dv ls sg vl PL) ap tk fr to nm) = if τ3 = 40 then some (0, (uR (xR B ft ms dv ls (sg + 1 + 1) vl (upd (upd PL sg (nI s)) (sg + 1) 1)) p3 τ3 q3 t3 x3)) else some (0, (uR (xR B (if ft = 0 then 1 + 16 * sI B 13 else ft) ms dv ls (sg + 1) vl (upd PL sg (nI s))) p3 τ3 q3 t3 x3)) := by
  unfold df_X13_operand_216 df_X13_needs df_X13_needs_0 df_X13_operand_233
  rw [rps_1 (nI s) (by omega), nb_b1, T, nb_b1, uR_i8]
  have z1 : ∀ (b : Bool) (x : Option (Int32 × St)), nd_z .boolean (bI b) x = x := fun b x => by cases b <;> exact nar_z (by decide)
  by_cases y : τ3 = 40
  · have f : df_X13_needs_17 n 40 (uR (xR B ft ms dv ls (sg + 1) vl (upd PL sg (nI s))) p3 τ3 q3 t3 x3) = some (bI true, (uR (xR B ft ms dv ls (sg + 1) vl (upd PL sg (nI s))) p3 τ3 q3 t3 x3)) := by
      unfold df_X13_needs_17 df_X13_needs_30
      rw [uR_i8, if_pos (show nI τ3 = (40 : Int32) from congrArg nI y), show (1 : Int32) = bI true from rfl, z1]
    rw [if_pos (show nI τ3 = (40 : Int32) from congrArg nI y), f, nb_b2, if_neg (show ¬ bI true = 0 by decide), rps_1 1 (by omega), nb_b1, if_pos y]
  · have f : df_X13_needs_17 n 40 (uR (xR B (if ft = 0 then 1 + 16 * sI B 13 else ft) ms dv ls (sg + 1) vl (upd PL sg (nI s))) p3 τ3 q3 t3 x3) = some (bI false, (uR (xR B (if ft = 0 then 1 + 16 * sI B 13 else ft) ms dv ls (sg + 1) vl (upd PL sg (nI s))) p3 τ3 q3 t3 x3)) := by
      unfold df_X13_needs_17 df_X13_needs_30
      rw [uR_i8, if_neg (show ¬ nI τ3 = (40 : Int32) from zne (b := 40) y (by omega) (by omega)), show (0 : Int32) = bI false from rfl, z1]
    rw [if_neg (show ¬ nI τ3 = (40 : Int32) from zne (b := 40) y (by omega) (by omega)), rbl_1, nb_b1, f, nb_b2, if_pos (show bI false = 0 from rfl), if_neg y]
theorem sc_t {n L e : Nat} {c : Nat → Nat} {BC BR : St} (hT : atx n L e c BC BR) (p tk fr to : Nat) (nm : Int32) (hp : p ≤ e) (hl : ∀ i : Nat, p ≤ i → i < e → ¬ c i = 10) : ∃ (p3 τ3 q3 : Nat) (x3 : Int32), df_X13_scan n (uR BR p tk fr to nm) = some (uR BR p3 τ3 q3 p3 x3) ∧ p3 ≤ e ∧ τ3 < 300 := by
  obtain ⟨q, p', κ, τ, v, x, _, n2⟩ := nx_1 (cs := 0) (tp := 0) (st := 0) (ns := 0) (fx := true) (C := fun _ => 0) (A := fun _ => 0) (S := fun _ => 0) (NM := fun _ => 0) (BK := fun _ => 0) hT p 0 0 0 hp hl
  obtain ⟨t1, t2, t3, t4, t5, t6, t7, t8, t9⟩ := n2
  obtain ⟨xr, p3, s1, s2, s3⟩ := t9 BR hT tk fr to nm
  refine ⟨p3, τ, q, xr, s1, by omega, ?_⟩
  by_cases y : κ = 5
  · subst y
    have := tk_5 t7
    omega
  · have := tk_n t7 y
    omega
/-- %hi, %lo and no bracket, or neither of them: a fault -/
theorem roP_F {n L e : Nat} {c : Nat → Nat} {BC B : St} (hT : atx n L e c BC B) {ms dv ls : Bool} {sg vl : Nat} {PL : Nat → Int32} {fr to : Nat} {nm : Int32} (hs : sg + 1 < 32800) (hln : ∃ ln : Nat, sI B 13 = nI ln ∧ ln ≤ 40000) {p p2 τ2 q2 : Nat} {x2 : Int32} (he : p2 ≤ e) (h2 : τ2 < 300) (hl : ∀ i : Nat, p2 ≤ i → i < e → ¬ c i = 10) (T : df_X13_scan n (uR (xR B 0 ms dv ls sg vl PL) p 37 fr to nm) = some (uR (xR B 0 ms dv ls sg vl PL) p2 τ2 q2 p2 x2)) (hb : τ2 = 1 → q2 < e ∧ q2 ≤ p2 ∧ (∀ i : Nat, q2 ≤ i → i < p2 → aP (c i) = true) ∧ ¬ (p2 = q2 + 2 ∧ c q2 = 104 ∧ c (q2 + 1) = 105) ∧ ¬ (p2 = q2 + 2 ∧ c q2 = 108 ∧ c (q2 + 1) = 111)) : ∃ (sg' : Nat) (PL' : Nat → Int32) (p3 τ3 q3 : Nat) (x3 : Int32), df_X13_operand n (uR (xR B 0 ms dv ls sg vl PL) p 37 fr to nm) = some (0, (uR (xR B (1 + 16 * sI B 13) ms dv ls sg' vl PL') p3 τ3 q3 p3 x3)) ∧ p3 ≤ e := by
  obtain ⟨hn, hL, heL, h127, hend, hce, hO, hst, htC, h0, htR, hch⟩ := id hT
  obtain ⟨ln, l1, l2⟩ := hln
  have f0 := f1_n l2 l1
  have fin : ∃ (sg' : Nat) (PL' : Nat → Int32) (p3 τ3 q3 : Nat) (x3 : Int32), df_X13_operand_216 n (nI 5) (uR (xR B (1 + 16 * sI B 13) ms dv ls sg vl PL) p2 τ2 q2 p2 x2) = some (0, (uR (xR B (1 + 16 * sI B 13) ms dv ls sg' vl PL') p3 τ3 q3 p3 x3)) ∧ p3 ≤ e := by
    obtain ⟨p3, τ3, q3, x3, s1, s2, s3⟩ := sc_t (at_R (ft := 1 + 16 * sI B 13) (ms := ms) (dv := dv) (ls := ls) (sg := sg + 1) (vl := vl) (PL := upd PL sg (nI 5)) hT) p2 τ2 q2 p2 x2 he hl
    have r := p216 (n := n) (B := B) (ft := 1 + 16 * sI B 13) (ms := ms) (dv := dv) (ls := ls) (sg := sg) (vl := vl) (PL := PL) (ap := p2) (tk := τ2) (fr := q2) (to := p2) (nm := x2) 5 hs s3 s1
    rw [if_neg f0] at r
    by_cases y : τ3 = 40
    · rw [if_pos y] at r
      exact ⟨_, _, p3, τ3, q3, x3, r, s2⟩
    · rw [if_neg y] at r
      exact ⟨_, _, p3, τ3, q3, x3, r, s2⟩
  have key : ∀ y0 : Int64, ¬ lg_cmp y0 584 = 0 → ¬ lg_cmp y0 972 = 0 → df_X13_operand_180 n y0 (uR (xR B 0 ms dv ls sg vl PL) p2 τ2 q2 p2 x2) = df_X13_operand_216 n (nI 5) (uR (xR B (1 + 16 * sI B 13) ms dv ls sg vl PL) p2 τ2 q2 p2 x2) := fun y0 y1 y2 => by
    unfold df_X13_operand_180 df_X13_operand_202
    rw [if_neg y1, if_neg y2, rbl_1, nb_b1, if_neg y1, if_pos rfl]
    rfl
  have st : df_X13_operand n (uR (xR B 0 ms dv ls sg vl PL) p 37 fr to nm) = df_X13_operand_216 n (nI 5) (uR (xR B (1 + 16 * sI B 13) ms dv ls sg vl PL) p2 τ2 q2 p2 x2) := by
    unfold df_X13_operand df_X13_operand_0
    rw [uR_i8, if_neg (show ¬ nI 37 = (1 : Int32) by decide), if_neg (show ¬ nI 37 = (2 : Int32) by decide), if_neg (show ¬ nI 37 = (3 : Int32) by decide), if_pos (show nI 37 = (37 : Int32) from rfl), T, nb_b1, uR_i8]
    by_cases y : τ2 = 1
    · obtain ⟨b0, b1, b2, b3, b4⟩ := hb y
      rw [if_pos (show nI τ2 = (1 : Int32) from congrArg nI y), uR_i9, uR_i10]
      have pk := pk_1 n (S := (uR (xR B 0 ms dv ls sg vl PL) p2 τ2 q2 p2 x2)) (c := c) q2 (p2 - q2) (by omega) h127 (by omega) (fun i hi => ⟨b2 _ (by omega) (by omega), htR _ (by omega)⟩)
      rw [show q2 + (p2 - q2) = p2 by omega] at pk
      rw [pk, nb_b2]
      refine key _ (fun z => b3 ?_) (fun z => b4 ?_)
      · have := (pq_2 q2 (p2 - q2) 104 105 584 (by decide) (by decide) (by decide) h127).mp z
        exact ⟨by omega, this.2⟩
      · have := (pq_2 q2 (p2 - q2) 108 111 972 (by decide) (by decide) (by decide) h127).mp z
        exact ⟨by omega, this.2⟩
    · rw [if_neg (show ¬ nI τ2 = (1 : Int32) from zne (b := 1) y (by omega) (by omega))]
      exact key 0 (by decide) (by decide)
  rw [st]
  exact fin
/-- %hi or %lo -/
theorem roP_1 {n L e : Nat} {c : Nat → Nat} {BC B : St} (hT : atx n L e c BC B) {ms dv ls : Bool} {sg vl : Nat} {PL : Nat → Int32} {fr to : Nat} {nm : Int32} (hs : sg + 1 < 32800) {p q2 : Nat} {x2 : Int32} (he : q2 + 2 ≤ e) (y : Nat) (hy : (y = 13 ∧ c q2 = 104 ∧ c (q2 + 1) = 105) ∨ (y = 14 ∧ c q2 = 108 ∧ c (q2 + 1) = 111)) (T : df_X13_scan n (uR (xR B 0 ms dv ls sg vl PL) p 37 fr to nm) = some (uR (xR B 0 ms dv ls sg vl PL) (q2 + 2) 1 q2 (q2 + 2) x2)) : df_X13_operand n (uR (xR B 0 ms dv ls sg vl PL) p 37 fr to nm) = df_X13_operand_216 n (nI (uo y)) (uR (xR B 0 ms dv ls sg vl PL) (q2 + 2) 1 q2 (q2 + 2) x2) := by
  obtain ⟨hn, hL, heL, h127, hend, hce, hO, hst, htC, h0, htR, hch⟩ := id hT
  unfold df_X13_operand df_X13_operand_0
  rw [uR_i8, if_neg (show ¬ nI 37 = (1 : Int32) by decide), if_neg (show ¬ nI 37 = (2 : Int32) by decide), if_neg (show ¬ nI 37 = (3 : Int32) by decide), if_pos (show nI 37 = (37 : Int32) from rfl), T, nb_b1, uR_i8, if_pos (show nI 1 = (1 : Int32) from rfl), uR_i9, uR_i10]
  have pl : ∀ i : Nat, i < 2 → aP (c (q2 + i)) = true ∧ sR (uR (xR B 0 ms dv ls sg vl PL) (q2 + 2) 1 q2 (q2 + 2) x2) 2 (q2 + i) = nI (c (q2 + i)) := fun i hi => by
    refine ⟨?_, htR _ (by omega)⟩
    have ci : i = 0 ∨ i = 1 := by omega
    rcases hy with ⟨_, u, w⟩ | ⟨_, u, w⟩ <;> rcases ci with z | z <;> subst z
    · rw [Nat.add_zero, u]; decide
    · rw [w]; decide
    · rw [Nat.add_zero, u]; decide
    · rw [w]; decide
  have pk := pk_1 n (S := (uR (xR B 0 ms dv ls sg vl PL) (q2 + 2) 1 q2 (q2 + 2) x2)) (c := c) q2 2 (by omega) h127 (by omega) pl
  rw [pk, nb_b2]
  have k1 := pq_2 (c := c) q2 2 104 105 584 (by decide) (by decide) (by decide) h127
  have k2 := pq_2 (c := c) q2 2 108 111 972 (by decide) (by decide) (by decide) h127
  unfold df_X13_operand_180 df_X13_operand_202
  rcases hy with ⟨e1, u, w⟩ | ⟨e1, u, w⟩
  · subst e1
    rw [if_pos (k1.mpr ⟨rfl, u, w⟩), if_pos (k1.mpr ⟨rfl, u, w⟩)]
    rfl
  · subst e1
    have nk : ¬ lg_cmp (pkO c q2 2) 584 = 0 := fun z => by have := k1.mp z; omega
    rw [if_neg nk, if_pos (k2.mpr ⟨rfl, u, w⟩), if_neg nk]
    rfl
