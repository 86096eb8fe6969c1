/-- operands -/
theorem xd_N {n : Nat} {B : St} {cs tp st ns : Nat} {fx : Bool} {C A S NM BK : Nat → Int32} {ap fr : Nat} {nm : Int32} (h : cs < 32832) : df_X9_takeOperand n (uC (xC B cs tp st ns fx C A S NM BK) ap 2 fr nm) = some (uC (xC B (cs + 1) tp 1 ns fx (upd C cs 16) (upd A cs nm) S NM BK) ap 2 fr nm) := by
  unfold df_X9_takeOperand df_X9_takeOperand_0
  rw [show (1 : Int32) = nI 1 from rfl, xC_w7, nb_let, uC_i2, if_pos (show nI 2 = (2 : Int32) from rfl), uC_i4, xe_1 16 nm h, nb_b1]
  rfl
theorem xd_H {n : Nat} {B : St} {cs tp st ns : Nat} {fx : Bool} {C A S NM BK : Nat → Int32} {fr : Nat} {nm : Int32} (hO : sO B 0 = some 8) (h : cs < 32832) (hf : fr < 32768) (hp : sR B 7 fr = 46) : df_X9_takeOperand n (uC (xC B cs tp st ns fx C A S NM BK) (fr + 1) 1 fr nm) = some (uC (xC B (cs + 1) tp 1 ns false (upd C cs 18) (upd A cs 0) S NM BK) (fr + 1) 1 fr nm) := by
  unfold df_X9_takeOperand df_X9_takeOperand_0
  rw [show (1 : Int32) = nI 1 from rfl, xC_w7, nb_let, uC_i2, if_neg (show ¬ nI 1 = (2 : Int32) by decide), if_pos rfl, uC_i0, uC_i3, show nI (fr + 1) - nI fr = nI 1 from (pk_sub (by omega)).trans (congrArg nI (by omega)), if_pos rfl, uC_o, xC_o0, o8S hO, nm_ck (by omega) (by omega), nI_clamp (by omega), uC_r, xC_r7, hp, if_pos rfl, show (0 : Int32) = bI false from rfl, xC_w10, nb_let, show (bI false : Int32) = 0 from rfl, xe_1 18 0 h, nb_b1]
  rfl
theorem xd_W {n L e : Nat} {c : Nat → Nat} {B BR : St} {cs tp st ns : Nat} {fx : Bool} {C A S NM BK : Nat → Int32} {fr l : Nat} {nm : Int32} {bs ws : Nat → Nat} (hT : atx n L e c B BR) (hH : HT L c ns NM BK bs ws) (hns : ns < 16384) (h : cs < 32832) (hl : 1 ≤ l) (hq : fr + l ≤ L) (hp : ¬ (l = 1 ∧ c fr = 46)) (hA : ∀ t : Nat, t < l → aP (c (fr + t)) = true) : ∃ (id ns' : Nat) (NM' BK' : Nat → Int32) (bs' ws' : Nat → Nat), df_X9_takeOperand n (uC (xC B cs tp st ns fx C A S NM BK) (fr + l) 1 fr nm) = some (uC (xC B (cs + 1) tp 1 ns' (fx && decide (NM' (5 * id + 2) = 1)) (upd C cs 17) (upd A cs (nI id)) S NM' BK') (fr + l) 1 fr nm) ∧ HT L c ns' NM' BK' bs' ws' ∧ id < ns' ∧ sW c (bs' id) (ws' id) fr l ∧ ns ≤ ns' ∧ ns' ≤ ns + 1 ∧ (∀ i : Nat, i < ns → bs' i = bs i ∧ ws' i = ws i ∧ NM' (5 * i + 2) = NM (5 * i + 2) ∧ NM' (5 * i + 3) = NM (5 * i + 3)) ∧ (∀ i : Nat, ns ≤ i → i < ns' → NM' (5 * i + 2) = 0) := by
  obtain ⟨hn, hL, heL, h127, hend, hce, hO, h1, htC, h0, htR, hch⟩ := id hT
  obtain ⟨id, ns', NM', BK', bs', ws', e1, e2, e3, e4, e5, e6, e7, e8⟩ := na_1 (cs := cs) (tp := tp) (st := 1) (fx := fx) (C := C) (A := A) (S := S) (ap := fr + l) (kd := 1) (fr := fr) (nm := nm) hT hH hns fr l hq hA
  refine ⟨id, ns', NM', BK', bs', ws', ?_, e2, e3, e4, e5, e6, e7, e8⟩
  have n2 := e2.1
  have c127 := h127 fr
  have s : df_X9_takeOperand n (uC (xC B cs tp st ns fx C A S NM BK) (fr + l) 1 fr nm) = df_X9_takeOperand_76 n (uC (xC B cs tp 1 ns fx C A S NM BK) (fr + l) 1 fr nm) := by
    unfold df_X9_takeOperand df_X9_takeOperand_0
    rw [show (1 : Int32) = nI 1 from rfl, xC_w7, nb_let, uC_i2, if_neg (show ¬ nI 1 = (2 : Int32) by decide), if_pos rfl, uC_i0, uC_i3, show nI (fr + l) - nI fr = nI l from (pk_sub (by omega)).trans (congrArg nI (by omega))]
    by_cases y : l = 1
    · rw [if_pos (congrArg nI y), uC_o, xC_o0, o8S hO, nm_ck (by omega) (by omega), nI_clamp (by omega), uC_r, xC_r7, htC fr (by omega), if_neg (show ¬ nI (c fr) = (46 : Int32) from zne (b := 46) (fun z => hp ⟨y, z⟩) (by omega) (by omega))]
    · rw [if_neg (zne y (by omega) (by omega))]
  rw [s]
  unfold df_X9_takeOperand_76
  rw [uC_i2, if_pos (show nI 1 = (1 : Int32) from rfl), uC_i0, uC_i3, show nI (fr + l) - nI fr = nI l from (pk_sub (by omega)).trans (congrArg nI (by omega)), e1, nb_b2, xC_u10]
  unfold df_X9_takeOperand_128
  have fin : ∀ b : Bool, df_X9_takeOperand_129 n (nI id) (bI b) (uC (xC B cs tp 1 ns' fx C A S NM' BK') (fr + l) 1 fr nm) = some (uC (xC B (cs + 1) tp 1 ns' b (upd C cs 17) (upd A cs (nI id)) S NM' BK') (fr + l) 1 fr nm) := fun b => by
    unfold df_X9_takeOperand_129
    have z1 : ∀ x : Option St, nd_f .boolean (bI b) x = x := fun x => by cases b <;> rfl
    have z2 : ∀ x : Option St, nd_z .boolean (bI b) x = x := fun x => by cases b <;> exact nar_z (by decide)
    rw [z1, z2, xC_w10, nb_let, xe_1 17 (nI id) h, nb_b1]
    rfl
  cases fx with
  | false =>
    rw [if_pos (show bI false = 0 from rfl)]
    exact fin false
  | true =>
    rw [if_neg (show ¬ bI true = 0 by decide), show nI id * (5 : Int32) = nI (5 * id) from (pk_mul id 5).trans (congrArg nI (Nat.mul_comm id 5)), show nI (5 * id) + (2 : Int32) = nI (5 * id + 2) from nI_add (5 * id) 2, nm_ck (by omega) (by omega), nI_clamp (by omega), uC_r, xC_r3]
    by_cases y : NM' (5 * id + 2) = 1
    · rw [if_pos y, decide_eq_true y]
      exact fin true
    · rw [if_neg y, decide_eq_false y]
      exact fin false
theorem xd_R {n : Nat} {B : St} {cs tp st ns : Nat} {fx : Bool} {C A S NM BK : Nat → Int32} {ap fr : Nat} {nm : Int32} (hO : sO B 0 = some 8) (h : cs < 32832) (d x : Nat) (κ α : Int32) (hd : d ≤ 9) (hf : fr + 1 < 32768) (hx : x = 98 ∨ x = 102) (hp : sR B 7 (fr + 1) = nI x) (hm : nm = nI d) (hα : x = 98 → κ = 20 ∧ α = sR B 5 (10 + d) - 1) (hβ : x = 102 → κ = 19 ∧ α = if sR B 5 (10 + d) - 1 < 0 then -1 - nI d else sR B 5 (10 + d) - 1) : df_X9_takeOperand n (uC (xC B cs tp st ns fx C A S NM BK) ap 3 fr nm) = some (uC (xC B (cs + 1) tp 1 ns false (upd C cs κ) (upd A cs α) S NM BK) ap 3 fr nm) := by
  unfold df_X9_takeOperand df_X9_takeOperand_0 df_X9_takeOperand_76
  rw [show (1 : Int32) = nI 1 from rfl, xC_w7, nb_let, uC_i2, if_neg (show ¬ nI 3 = (2 : Int32) by decide), if_neg (show ¬ nI 3 = nI 1 by decide), if_neg (show ¬ nI 3 = nI 1 by decide), if_pos (show nI 3 = (3 : Int32) from rfl)]
  have q : df_X9_takeNear n (uC (xC B cs tp 1 ns fx C A S NM BK) ap 3 fr nm) = some (uC (xC B (cs + 1) tp 1 ns false (upd C cs κ) (upd A cs α) S NM BK) ap 3 fr nm) := by
    unfold df_X9_takeNear df_X9_takeNear_0 df_X9_takeNear_63
    rw [show pI (uC (xC B cs tp 1 ns fx C A S NM BK) ap 3 fr nm) 10 0 = _ from xC_w10 (v := false), nb_let, uC_i4, hm, show (10 : Int32) + nI d = nI (10 + d) from nI_add 10 d, nm_ck (by omega) (by omega), nI_clamp (by omega), uC_r, xC_r5, nb_let, uC_o, xC_o0, o8S hO, uC_i3, show nI fr + (1 : Int32) = nI (fr + 1) from nI_add fr 1, nm_ck (by omega) (by omega), nI_clamp (by omega), uC_r, xC_r7, hp]
    rcases hx with hx | hx
    · obtain ⟨e1, e2⟩ := hα hx
      subst hx
      rw [if_pos (show nI 98 = (98 : Int32) from rfl), xe_1 20 _ h, nb_b1, e1, e2]
      rfl
    · obtain ⟨e1, e2⟩ := hβ hx
      subst hx
      rw [if_neg (show ¬ nI 102 = (98 : Int32) by decide)]
      by_cases y : sR B 5 (10 + d) - 1 < 0
      · rw [if_pos y] at e2 ⊢
        rw [xe_1 19 _ h, nb_b1, e1, e2]
        rfl
      · rw [if_neg y] at e2 ⊢
        rw [xe_1 19 _ h, nb_b1, e1, e2]
        rfl
  rw [q, nb_b1]
  rfl
theorem xd_S {n : Nat} {B : St} {cs tp st ns : Nat} {fx : Bool} {C A S NM BK : Nat → Int32} {ap fr : Nat} {nm : Int32} (h : tp < 32832) (v : Nat) (hv : v = 45 ∨ v = 126 ∨ v = 40) (hm : nm = nI v) : df_X9_takeOperand n (uC (xC B cs tp st ns fx C A S NM BK) ap 5 fr nm) = some (uC (xC B cs (tp + 1) 0 ns fx C A (upd S tp (if v = 45 then 11 else if v = 126 then 12 else 15)) NM BK) ap 5 fr (nI v)) := by
  unfold df_X9_takeOperand df_X9_takeOperand_0 df_X9_takeOperand_76
  rw [show (1 : Int32) = nI 1 from rfl, xC_w7, nb_let, uC_i2, if_neg (show ¬ nI 5 = (2 : Int32) by decide), if_neg (show ¬ nI 5 = nI 1 by decide), if_neg (show ¬ nI 5 = nI 1 by decide), if_neg (show ¬ nI 5 = (3 : Int32) by decide), if_pos (show nI 5 = (5 : Int32) from rfl), uC_i4, hm]
  unfold df_X9_takeOperand_192 df_X9_takeOperand_223
  rw [uC_i4]
  rcases hv with hv | hv | hv
  · subst hv
    rw [if_pos (show nI 45 = (45 : Int32) from rfl), if_pos (show nI 45 = (45 : Int32) from rfl), xp_1 11 h, nb_b1, show (0 : Int32) = nI 0 from rfl, xC_w7, nb_let]
    rfl
  · subst hv
    rw [if_neg (show ¬ nI 126 = (45 : Int32) by decide), if_pos (show nI 126 = (126 : Int32) from rfl), if_neg (show ¬ nI 126 = (45 : Int32) by decide), if_pos (show nI 126 = (126 : Int32) from rfl), xp_1 12 h, nb_b1, show (0 : Int32) = nI 0 from rfl, xC_w7, nb_let]
    rfl
  · subst hv
    rw [if_neg (show ¬ nI 40 = (45 : Int32) by decide), if_neg (show ¬ nI 40 = (126 : Int32) by decide), if_pos (show nI 40 = (40 : Int32) from rfl), if_neg (show ¬ nI 40 = (45 : Int32) by decide), if_neg (show ¬ nI 40 = (126 : Int32) by decide), xp_1 15 h, nb_b1, show (0 : Int32) = nI 0 from rfl, xC_w7, nb_let]
    rfl
theorem xd_X {n : Nat} {B : St} {cs tp st ns : Nat} {fx : Bool} {C A S NM BK : Nat → Int32} {ap kd fr : Nat} {nm : Int32} (hk : kd = 0 ∨ kd = 4 ∨ kd = 6 ∨ (kd = 5 ∧ ∃ v : Nat, v < 300 ∧ nm = nI v ∧ ¬ v = 45 ∧ ¬ v = 126 ∧ ¬ v = 40)) : df_X9_takeOperand n (uC (xC B cs tp st ns fx C A S NM BK) ap kd fr nm) = some (uC (xC B cs tp (if kd = 5 ∧ nm = 37 then 2 else 6) ns fx C A S NM BK) ap kd fr nm) := by
  have h6 : kd ≤ 6 := by omega
  have s1 : ∀ b : Bool, (if bI b = 0 then df_X9_takeOperand_250 n 6 (uC (xC B cs tp 1 ns fx C A S NM BK) ap kd fr nm) else df_X9_takeOperand_250 n 2 (uC (xC B cs tp 1 ns fx C A S NM BK) ap kd fr nm)) = some (uC (xC B cs tp (if b = true then 2 else 6) ns fx C A S NM BK) ap kd fr nm) := fun b => by
    unfold df_X9_takeOperand_250
    cases b with
    | false => rw [if_pos (show bI false = 0 from rfl), show (6 : Int32) = nI 6 from rfl, xC_w7, nb_let]; rfl
    | true => rw [if_neg (show ¬ bI true = 0 by decide), show (2 : Int32) = nI 2 from rfl, xC_w7, nb_let]; rfl
  have s2 : df_X9_takeOperand_234 n (uC (xC B cs tp 1 ns fx C A S NM BK) ap kd fr nm) = some (uC (xC B cs tp (if decide (kd = 5 ∧ nm = 37) = true then 2 else 6) ns fx C A S NM BK) ap kd fr nm) := by
    unfold df_X9_takeOperand_234
    rw [xs_1 h6, nb_b2]
    exact s1 _
  unfold df_X9_takeOperand df_X9_takeOperand_0 df_X9_takeOperand_76
  rw [show (1 : Int32) = nI 1 from rfl, xC_w7, nb_let, uC_i2, if_neg (show ¬ nI kd = (2 : Int32) from zne (b := 2) (by omega) (by omega) (by omega)), if_neg (zne (show ¬ kd = 1 by omega) (by omega) (by omega)), if_neg (zne (show ¬ kd = 1 by omega) (by omega) (by omega)), if_neg (show ¬ nI kd = (3 : Int32) from zne (b := 3) (by omega) (by omega) (by omega))]
  by_cases y : kd = 5
  · obtain ⟨v, v1, v2, v3, v4, v5⟩ : ∃ v : Nat, v < 300 ∧ nm = nI v ∧ ¬ v = 45 ∧ ¬ v = 126 ∧ ¬ v = 40 := by
      rcases hk with z | z | z | z
      · omega
      · omega
      · omega
      · exact z.2
    rw [if_pos (show nI kd = (5 : Int32) from congrArg nI y), uC_i4, if_neg (show ¬ nm = (45 : Int32) by rw [v2]; exact zne (b := 45) v3 (by omega) (by omega)), if_neg (show ¬ nm = (126 : Int32) by rw [v2]; exact zne (b := 126) v4 (by omega) (by omega)), if_neg (show ¬ nm = (40 : Int32) by rw [v2]; exact zne (b := 40) v5 (by omega) (by omega))]
    rw [s2]
    simp only [decide_eq_true_eq]
  · rw [if_neg (show ¬ nI kd = (5 : Int32) from zne (b := 5) y (by omega) (by omega))]
    rw [s2]
    simp only [decide_eq_true_eq]
/-- %hi and %lo -/
theorem hl_w (k q l x y : Nat) {c : Nat → Nat} {R : Nat → Int32} (h127 : ∀ i : Nat, c i < 127) (hK : ks_n k = 2 ∧ ks_b k 0 = nI x ∧ ks_b k 1 = nI y) (hx : x < 127) (hy : y < 127) (hB : ∀ i : Nat, i < l → R (q + i) = nI (c (q + i))) : wq k q l R ↔ (l = 2 ∧ c q = x ∧ c (q + 1) = y) := by
  constructor
  · rintro ⟨e, h⟩
    rw [hK.1] at e
    have g : ∀ i v : Nat, i < l → v < 127 → ks_b k i = nI v → c (q + i) = v := fun i v hi hv hk => by
      have z := h i hi
      rw [hB i hi, hk, nI_eq (by have := h127 (q + i); omega) (by omega)] at z
      exact z
    exact ⟨e.symm, g 0 x (by omega) hx hK.2.1, g 1 y (by omega) hy hK.2.2⟩
  · rintro ⟨e, h0, h1⟩
    refine ⟨by rw [hK.1, e], fun i hi => ?_⟩
    rw [hB i hi]
    by_cases z0 : i = 0
    · subst z0; rw [hK.2.1]; exact congrArg nI h0
    · have z : i = 1 := by omega
      subst z; rw [hK.2.2, h1]
theorem k19 : ks_n 19 = 2 ∧ ks_b 19 0 = nI 104 ∧ ks_b 19 1 = nI 105 := by decide +kernel
theorem k20 : ks_n 20 = 2 ∧ ks_b 20 0 = nI 108 ∧ ks_b 20 1 = nI 111 := by decide +kernel
theorem xh_1 {n L e : Nat} {c : Nat → Nat} {B BR : St} {cs tp ns : Nat} {fx : Bool} {C A S NM BK : Nat → Int32} {fr l kd : Nat} {nm : Int32} (hT : atx n L e c B BR) (hk : kd ≤ 6) (hq : fr + l ≤ L) : df_X9_takeHalf n (uC (xC B cs tp 2 ns fx C A S NM BK) (fr + l) kd fr nm) = some (uC (xC B cs tp (if kd = 1 ∧ l = 2 ∧ c fr = 104 ∧ c (fr + 1) = 105 then 3 else if kd = 1 ∧ l = 2 ∧ c fr = 108 ∧ c (fr + 1) = 111 then 4 else 6) ns fx C A S NM BK) (fr + l) kd fr nm) := by
  obtain ⟨hn, hL, heL, h127, hend, hce, hO, h1, htC, h0, htR, hch⟩ := id hT
  have fin : ∀ s : Nat, df_X9_takeHalf_130 n (nI s) (uC (xC B cs tp 2 ns fx C A S NM BK) (fr + l) kd fr nm) = some (uC (xC B cs tp s ns fx C A S NM BK) (fr + l) kd fr nm) := fun s => by
    unfold df_X9_takeHalf_130
    rw [xC_w7, nb_let]
    rfl
  unfold df_X9_takeHalf df_X9_takeHalf_0
  rw [xC_u7, if_pos (show nI 2 = (2 : Int32) from rfl), uC_i2]
  by_cases y : kd = 1
  · have rs : sR (pR nd_st0 0 (sR (uC (xC B cs tp 2 ns fx C A S NM BK) (fr + l) kd fr nm) 7)) 0 = sR B 7 := rfl
    have hB : ∀ i : Nat, i < l → sR (pR nd_st0 0 (sR (uC (xC B cs tp 2 ns fx C A S NM BK) (fr + l) kd fr nm) 7)) 0 (fr + i) = nI (c (fr + i)) := fun i hi => by rw [rs]; exact htC _ (by omega)
    have w1 := hl_w 19 fr l 104 105 h127 k19 (by omega) (by omega) hB
    have w2 := hl_w 20 fr l 108 111 h127 k20 (by omega) (by omega) hB
    rw [if_pos (show nI kd = (1 : Int32) from congrArg nI y), uC_o, xC_o0, o8S hO, uC_i3, uC_i0, show nI (fr + l) - nI fr = nI l from (pk_sub (by omega)).trans (congrArg nI (by omega))]
    by_cases z : l = 2 ∧ c fr = 104 ∧ c (fr + 1) = 105
    · rw [sn_y n 19 fr l (by omega) (by omega) (by omega) (w1.mpr z), nb_b2, show pR (uC (xC B cs tp 2 ns fx C A S NM BK) (fr + l) kd fr nm) 7 (sR (pR nd_st0 0 (sR (uC (xC B cs tp 2 ns fx C A S NM BK) (fr + l) kd fr nm) 7)) 0) = (uC (xC B cs tp 2 ns fx C A S NM BK) (fr + l) kd fr nm) from nm_r0 _ 7, nb_let, if_neg (show ¬ nI 1 = (0 : Int32) by decide), show (3 : Int32) = nI 3 from rfl, xC_w7, nb_let, if_pos ⟨y, z⟩]
      rfl
    · rw [sn_n n 19 fr l (by omega) (by omega) (by omega) (fun v => z (w1.mp v)), nb_b2, show pR (uC (xC B cs tp 2 ns fx C A S NM BK) (fr + l) kd fr nm) 7 (sR (pR nd_st0 0 (sR (uC (xC B cs tp 2 ns fx C A S NM BK) (fr + l) kd fr nm) 7)) 0) = (uC (xC B cs tp 2 ns fx C A S NM BK) (fr + l) kd fr nm) from nm_r0 _ 7, nb_let, if_pos (show nI 0 = (0 : Int32) from rfl), if_neg (fun v => z v.2)]
      unfold df_X9_takeHalf_90
      rw [uC_i2, if_pos (show nI kd = (1 : Int32) from congrArg nI y), uC_o, xC_o0, o8S hO, uC_i3, uC_i0, show nI (fr + l) - nI fr = nI l from (pk_sub (by omega)).trans (congrArg nI (by omega))]
      by_cases u : l = 2 ∧ c fr = 108 ∧ c (fr + 1) = 111
      · rw [sn_y n 20 fr l (by omega) (by omega) (by omega) (w2.mpr u), nb_b2, show pR (uC (xC B cs tp 2 ns fx C A S NM BK) (fr + l) kd fr nm) 7 (sR (pR nd_st0 0 (sR (uC (xC B cs tp 2 ns fx C A S NM BK) (fr + l) kd fr nm) 7)) 0) = (uC (xC B cs tp 2 ns fx C A S NM BK) (fr + l) kd fr nm) from nm_r0 _ 7, nb_let, if_neg (show ¬ nI 1 = (0 : Int32) by decide), if_pos ⟨y, u⟩]
        exact fin 4
      · rw [sn_n n 20 fr l (by omega) (by omega) (by omega) (fun v => u (w2.mp v)), nb_b2, show pR (uC (xC B cs tp 2 ns fx C A S NM BK) (fr + l) kd fr nm) 7 (sR (pR nd_st0 0 (sR (uC (xC B cs tp 2 ns fx C A S NM BK) (fr + l) kd fr nm) 7)) 0) = (uC (xC B cs tp 2 ns fx C A S NM BK) (fr + l) kd fr nm) from nm_r0 _ 7, nb_let, if_pos (show nI 0 = (0 : Int32) from rfl), if_neg (fun v => u v.2)]
        exact fin 6
  · rw [if_neg (show ¬ nI kd = (1 : Int32) from zne (b := 1) y (by omega) (by omega)), if_neg (fun v => y v.1), if_neg (fun v => y v.1)]
    unfold df_X9_takeHalf_90
    rw [uC_i2, if_neg (show ¬ nI kd = (1 : Int32) from zne (b := 1) y (by omega) (by omega))]
    exact fin 6
theorem xh_2 {n : Nat} {B : St} {cs tp st ns : Nat} {fx : Bool} {C A S NM BK : Nat → Int32} {ap kd fr : Nat} {nm : Int32} (h : tp < 32832) (hk : kd ≤ 6) (hs : st = 3 ∨ st = 4) : df_X9_takeHalf n (uC (xC B cs tp st ns fx C A S NM BK) ap kd fr nm) = some (uC (xC B cs (tp + 1) (if decide (kd = 5 ∧ nm = 40) = true then 0 else 6) ns fx C A (upd S tp (if st = 3 then 13 else 14)) NM BK) ap kd fr nm) := by
  have fin : ∀ (y1 : Nat) (S' : Nat → Int32) (b : Bool), (if bI b = 0 then df_X9_takeHalf_43 n 6 (uC (xC B cs (tp + 1) st ns fx C A S' NM BK) ap kd fr nm) else df_X9_takeHalf_43 n 0 (uC (xC B cs (tp + 1) st ns fx C A S' NM BK) ap kd fr nm)) = some (uC (xC B cs (tp + 1) (if b = true then 0 else 6) ns fx C A S' NM BK) ap kd fr nm) := fun y1 S' b => by
    unfold df_X9_takeHalf_43
    cases b with
    | false => rw [if_pos (show bI false = 0 from rfl), show (6 : Int32) = nI 6 from rfl, xC_w7, nb_let]; rfl
    | true => rw [if_neg (show ¬ bI true = 0 by decide), show (0 : Int32) = nI 0 from rfl, xC_w7, nb_let]; rfl
  unfold df_X9_takeHalf df_X9_takeHalf_0
  rw [xC_u7, if_neg (show ¬ nI st = (2 : Int32) from zne (b := 2) (by omega) (by omega) (by omega))]
  unfold df_X9_takeHalf_24
  rcases hs with hs | hs
  · rw [if_pos (show nI st = (3 : Int32) from congrArg nI hs), xp_1 13 h, nb_b1, xs_1 hk, nb_b2, if_pos hs]
    exact fin 13 _ _
  · rw [if_neg (show ¬ nI st = (3 : Int32) from zne (b := 3) (by omega) (by omega) (by omega)), xp_1 14 h, nb_b1, xs_1 hk, nb_b2, if_neg (show ¬ st = 3 by omega)]
    exact fin 14 _ _
/-- turns of sum -/
theorem su_n {n g : Nat} {x1 : Int32} (k : Nat) (hk : k < 2 ^ 20) {s s' s2 : St} (h5 : ¬ sI s 7 = 5) (h6 : ¬ sI s 7 = 6) (ht : (if sI s 7 = 0 then df_X9_takeOperand n s else if sI s 7 = 1 then df_X9_takeOperator n s else df_X9_takeHalf n s) = some s') (g5 : ¬ sI s' 7 = 5) (g6 : ¬ sI s' 7 = 6) (hx : df_X9_next n s' = some s2) : df_X9_sum_26 n (g + 1) x1 (nI (k + 1)) s = df_X9_sum_26 n g x1 (nI k) s2 := by
  have fin : df_X9_sum_80 n (df_X9_sum_26 n g) x1 (nI (k + 1)) s' = df_X9_sum_26 n g x1 (nI k) s2 := by
    unfold df_X9_sum_80 df_X9_sum_101
    rw [if_neg g5, if_neg g6, hx, nb_b1, nb_let, show nI (k + 1) + Int32.ofInt (-1) = nI k by rw [show Int32.ofInt (-1) = -nI 1 by decide, ← Int32.sub_eq_add_neg, pk_sub (by omega)]; rfl]
  show dF_X9_sum_26 n (df_X9_sum_26 n g) x1 (nI (k + 1)) s = _
  unfold dF_X9_sum_26
  rw [if_neg (show ¬ nI (k + 1) < (0 : Int32) from znl (b := 0) (by omega) (by omega)), if_neg h5, if_neg h6]
  by_cases y0 : sI s 7 = 0
  · rw [if_pos y0] at ht ⊢
    rw [ht, nb_b1, fin]
  rw [if_neg y0] at ht ⊢
  by_cases y1 : sI s 7 = 1
  · rw [if_pos y1] at ht ⊢
    rw [ht, nb_b1, fin]
  · rw [if_neg y1] at ht ⊢
    rw [ht, nb_b1, fin]
theorem su_e {n g : Nat} {x1 : Int32} (k : Nat) (hk : k < 2 ^ 20) {s s' : St} (h5 : ¬ sI s 7 = 5) (h6 : ¬ sI s 7 = 6) (ht : (if sI s 7 = 0 then df_X9_takeOperand n s else if sI s 7 = 1 then df_X9_takeOperator n s else df_X9_takeHalf n s) = some s') (g5 : sI s' 7 = 5 ∨ sI s' 7 = 6) : df_X9_sum_26 n (g + 1 + 1) x1 (nI (k + 1)) s = df_X9_sum_107 n x1 s' := by
  have e2 : df_X9_sum_26 n (g + 1) x1 (nI k) s' = df_X9_sum_107 n x1 s' := by
    show dF_X9_sum_26 n (df_X9_sum_26 n g) x1 (nI k) s' = _
    unfold dF_X9_sum_26
    rw [if_neg (show ¬ nI k < (0 : Int32) from znl (b := 0) (by omega) (by omega))]
    rcases g5 with g5 | g5
    · rw [if_pos g5]
    · rw [if_neg (show ¬ sI s' 7 = 5 by rw [g5]; decide), if_pos g5]
  have fin : df_X9_sum_80 n (df_X9_sum_26 n (g + 1)) x1 (nI (k + 1)) s' = df_X9_sum_107 n x1 s' := by
    rw [← e2]
    unfold df_X9_sum_80 df_X9_sum_101
    rw [nb_let, show nI (k + 1) + Int32.ofInt (-1) = nI k by rw [show Int32.ofInt (-1) = -nI 1 by decide, ← Int32.sub_eq_add_neg, pk_sub (by omega)]; rfl]
    rcases g5 with g5 | g5
    · rw [if_pos g5]
    · rw [if_neg (show ¬ sI s' 7 = 5 by rw [g5]; decide), if_pos g5]
  show dF_X9_sum_26 n (df_X9_sum_26 n (g + 1)) x1 (nI (k + 1)) s = _
  unfold dF_X9_sum_26
  rw [if_neg (show ¬ nI (k + 1) < (0 : Int32) from znl (b := 0) (by omega) (by omega)), if_neg h5, if_neg h6]
  by_cases y0 : sI s 7 = 0
  · rw [if_pos y0] at ht ⊢
    rw [ht, nb_b1, fin]
  rw [if_neg y0] at ht ⊢
  by_cases y1 : sI s 7 = 1
  · rw [if_pos y1] at ht ⊢
    rw [ht, nb_b1, fin]
  · rw [if_neg y1] at ht ⊢
    rw [ht, nb_b1, fin]
theorem su_z {n : Nat} {B : St} {cs tp st ns : Nat} {fx : Bool} {C A S NM BK : Nat → Int32} {ap kd fr : Nat} {nm : Int32} (x1 : Int32) (h : cs < 32832) (hs : st = 5 ∨ st = 6) : df_X9_sum_107 n x1 (uC (xC B cs tp st ns fx C A S NM BK) ap kd fr nm) = some (if st = 5 then x1 else -1, (uC (xC B (cs + 1) tp st ns fx (upd C cs 21) (upd A cs 0) S NM BK) ap kd fr nm)) := by
  unfold df_X9_sum_107
  rw [xe_1 21 0 h, nb_b1, xC_u7]
  rcases hs with hs | hs
  · rw [if_pos (show nI st = (5 : Int32) from congrArg nI hs), if_pos hs]
    rfl
  · rw [if_neg (show ¬ nI st = (5 : Int32) from zne (b := 5) (by omega) (by omega) (by omega)), if_neg (by omega)]
    rfl
