/-- place of a statement: its start and what stands above it -/
theorem pl_d : ∀ a : Fin 8, ∀ b : Fin 32, nI (a.1 * 2 ^ 17) ||| nI (b.1 * 2 ^ 17) = nI ((a.1 ||| b.1) * 2 ^ 17) ∧ (a.1 ||| b.1) < 32 := by decide +kernel
theorem pl_or {x s : Nat} (b : Nat) (ha : x < 8) (hb : b < 32) (hs : s < 2 ^ 17) : nI (x * 2 ^ 17 + s) ||| nI (b * 2 ^ 17) = nI ((x ||| b) * 2 ^ 17 + s) := by
  obtain ⟨d1, d2⟩ := pl_d ⟨x, ha⟩ ⟨b, hb⟩
  have d1 : nI (x * 2 ^ 17) ||| nI (b * 2 ^ 17) = nI ((x ||| b) * 2 ^ 17) := d1
  have d2 : (x ||| b) < 32 := d2
  rw [← nm_orG 17 hs (by omega), Int32.or_assoc, Int32.or_comm (nI s), ← Int32.or_assoc, d1, nm_orG 17 hs (by omega)]
theorem lev_S {n : Nat} {B : St} {ct : Nat} {gr : Bool} {PA BY OU : Nat → Int32} {ft : Int32} {ap : Nat} {S : St} (h : SR B ct gr PA BY OU ft ap S) {cu A st : Nat} (h16 : sI B 16 = nI cu) (hcu : cu < 11000) (hP : PA cu = nI (A * 2 ^ 17 + st)) (hA : A < 64) (hs : st < 2 ^ 17) : df_X13_level n S = some (nI (A % 4), S) := by
  unfold df_X13_level df_X13_level_0
  rw [SR_16 h, h16, nm_ck hcu (by omega), nI_clamp (by omega), SR_r3 h, hP, show (17 : Int32) &&& 31 = nI 17 from rfl, nm_shr (by omega) (by omega), show (3 : Int32) = nI 3 from rfl, nm_m3 (by omega)]
  congr 3
  omega
/-- the letter of a target at a level -/
def hpO (hop : Bool) (l : Nat) : Nat := if l = 2 then 74 else if l = 1 then (if hop = true then 74 else 84) else if hop = true then 75 else 76
def offO (l : Nat) (v : Int32) : Int32 := if l = 2 then v - 4 else v
def grO (B : St) (hop : Bool) (l : Nat) (ms dv : Bool) (off : Int32) : Bool := decide (sI B 15 = 1) && (!ms && (!dv && (decide (l < if hop = true then 1 else 2) && !lfO (hpO hop l) off)))
theorem f20 {n : Nat} {S : St} {x : Int32} (b : Bool) : nd_f .boolean (bI b) (nd_z .boolean (bI b) (nd_let (pI S 20 (bI b)) (fun (s18 : St) => some (x, s18)))) = some (x, pI S 20 (bI b)) := by
  cases b <;> rfl
theorem tg_170 {n : Nat} {S : St} (x3 off hi lo : Int32) (hlo : (-hi) - 2 = lo) (l mx : Nat) (hl : l < 10) (hmx : mx < 10) : df_X13_target_170 n x3 off hi (nI l) (nI mx) S = some (x3, pI S 20 (bI (decide (l < mx) && !fzO lo hi 2 off))) := by
  have rm := rmd_1 off (k := 2) (Or.inr (Or.inl rfl))
  have rm : (off - off / 2 * 2 = 0) ↔ off &&& nI (2 - 1) = 0 := rm
  unfold df_X13_target_170 df_X13_target_201 df_X13_target_197 df_X13_target_202 fzO
  rw [hlo]
  have F := f20 (n := n) (S := S) (x := x3) false
  have T := f20 (n := n) (S := S) (x := x3) true
  have F : nd_f .boolean 0 (nd_z .boolean 0 (nd_let (pI S 20 0) (fun (s18 : St) => some (x3, s18)))) = some (x3, pI S 20 (bI false)) := F
  have T : nd_f .boolean 1 (nd_z .boolean 1 (nd_let (pI S 20 1) (fun (s18 : St) => some (x3, s18)))) = some (x3, pI S 20 (bI true)) := T
  rw [F, T]
  by_cases y : l < mx
  · rw [if_neg (znle y (by omega)), decide_eq_true y]
    by_cases a1 : off < lo
    · rw [if_pos a1, decide_eq_true a1]; rfl
    · rw [if_neg a1, decide_eq_false a1]
      by_cases a2 : hi < off
      · rw [if_pos a2, decide_eq_true a2]; rfl
      · rw [if_neg a2, decide_eq_false a2]
        by_cases a3 : off &&& nI (2 - 1) = 0
        · rw [if_pos (rm.mpr a3), decide_eq_true a3]; rfl
        · rw [if_neg (fun z => a3 (rm.mp z)), decide_eq_false a3]; rfl
  · rw [if_pos (zle (by omega) (by omega)), decide_eq_false y]; rfl
theorem SR_w20 {B : St} {ct : Nat} {gr : Bool} {PA BY OU : Nat → Int32} {ft : Int32} {ap : Nat} {S : St} (h : SR B ct gr PA BY OU ft ap S) (b : Bool) : SR B ct b PA BY OU ft ap (pI S 20 (bI b)) := by
  obtain ⟨ms, dv, ls, sg, vl, PL, tk, fr, to, nm, rfl⟩ := h
  exact ⟨ms, dv, ls, sg, vl, PL, tk, fr, to, nm, yR_w20⟩
theorem SR_w3 {B : St} {ct : Nat} {gr : Bool} {PA BY OU : Nat → Int32} {ft : Int32} {ap : Nat} {S : St} (h : SR B ct gr PA BY OU ft ap S) (v : Nat → Int32) : SR B ct gr v BY OU ft ap (pR S 3 v) := by
  obtain ⟨ms, dv, ls, sg, vl, PL, tk, fr, to, nm, rfl⟩ := h
  exact ⟨ms, dv, ls, sg, vl, PL, tk, fr, to, nm, yR_y3⟩
theorem SR_w5 {B : St} {ct : Nat} {gr : Bool} {PA BY OU : Nat → Int32} {ft : Int32} {ap : Nat} {S : St} (h : SR B ct gr PA BY OU ft ap S) (v : Nat → Int32) : SR B ct gr PA v OU ft ap (pR S 5 v) := by
  obtain ⟨ms, dv, ls, sg, vl, PL, tk, fr, to, nm, rfl⟩ := h
  exact ⟨ms, dv, ls, sg, vl, PL, tk, fr, to, nm, yR_y5⟩
theorem SR_w18 {B : St} {ct : Nat} {gr : Bool} {PA BY OU : Nat → Int32} {ft : Int32} {ap : Nat} {S : St} (h : SR B ct gr PA BY OU ft ap S) (v : Nat) : SR B v gr PA BY OU ft ap (pI S 18 (nI v)) := by
  obtain ⟨ms, dv, ls, sg, vl, PL, tk, fr, to, nm, rfl⟩ := h
  exact ⟨ms, dv, ls, sg, vl, PL, tk, fr, to, nm, yR_w18⟩
theorem SR_w7 {B : St} {ct : Nat} {gr : Bool} {PA BY OU : Nat → Int32} {ft : Int32} {ap : Nat} {S : St} (h : SR B ct gr PA BY OU ft ap S) (v : Nat) : SR B ct gr PA BY OU ft v (pI S 7 (nI v)) := by
  obtain ⟨ms, dv, ls, sg, vl, PL, tk, fr, to, nm, rfl⟩ := h
  exact ⟨ms, dv, ls, sg, vl, PL, tk, fr, to, nm, uR_w7⟩
/-- bounds of a target, and whether it grows -/
theorem tg_119 {n e : Nat} {B : St} (hl : ∃ ln : Nat, sI B 13 = nI ln ∧ ln ≤ 40000) {ct : Nat} {gr : Bool} {PA BY OU : Nat → Int32} {p2 : Nat} {S : St} {ms dv : Bool} (h : SR B ct gr PA BY OU (exF B ms dv) p2 S) (m1 : sI S 21 = bI ms) (m2 : sI S 22 = bI dv) (hp : p2 ≤ e) (kd l : Nat) (hkd : 1 ≤ kd ∧ kd ≤ 3) (hl2 : l ≤ 2) (x3 off hi lo : Int32) (hlo : (-hi) - 2 = lo) : ∃ S' : St, df_X13_target_119 n (nI kd) x3 (nI l) off hi S = some (x3, S') ∧ SR B ct (decide (sI B 15 = 1) && (!ms && (!dv && (decide (l < if kd = 1 then 1 else 2) && !fzO lo hi 2 off)))) PA BY OU (wiF B ms dv (fzO lo hi 2 off)) p2 S' := by
  have st : ∃ S2 : St, df_X13_fits n off lo hi 2 S = some S2 ∧ SR B ct gr PA BY OU (wiF B ms dv (fzO lo hi 2 off)) p2 S2 ∧ sI S2 21 = bI ms ∧ sI S2 22 = bI dv := by
    by_cases y : exF B ms dv = 0
    · rw [y] at h
      obtain ⟨S', f1, f2, f3, f4⟩ := fit_y (n := n) h off lo hi (k := 2) (Or.inr (Or.inl rfl))
      rw [← wiF_o hl y] at f2
      exact ⟨S', f1, f2, f3.trans m1, f4.trans m2⟩
    · have fl : FL e B (exF B ms dv) S := ⟨_, _, _, _, _, _, hp, h⟩
      refine ⟨S, fit_F fl y _ _ _ _ (by decide), ?_, m1, m2⟩
      rw [wiF_e hl y]
      exact h
  obtain ⟨S2, e1, e2, e3, e4⟩ := st
  have off0 : ∀ b : Bool, b = false → ∃ S' : St, df_X13_target_201 n x3 S2 = some (x3, S') ∧ SR B ct b PA BY OU (wiF B ms dv (fzO lo hi 2 off)) p2 S' := fun b hb => by
    subst hb
    refine ⟨_, ?_, SR_w20 e2 false⟩
    unfold df_X13_target_201 df_X13_target_202
    exact f20 (n := n) false
  unfold df_X13_target_119
  rw [hlo, e1, nb_b1, SR_15 e2, e3, e4]
  by_cases y : sI B 15 = 1
  · rw [if_pos y, decide_eq_true y]
    cases ms with
    | true => rw [if_neg (by decide)]; exact off0 _ rfl
    | false =>
      rw [if_pos (by decide)]
      cases dv with
      | true => rw [if_neg (by decide)]; exact off0 _ rfl
      | false =>
        rw [if_pos (by decide)]
        by_cases z : kd = 1
        · rw [if_pos (show nI kd = (1 : Int32) from congrArg nI z), if_pos z]
          exact ⟨_, tg_170 x3 off hi lo hlo l 1 (by omega) (by omega), SR_w20 e2 _⟩
        · rw [if_neg (show ¬ nI kd = (1 : Int32) from zne (b := 1) z (by omega) (by omega)), if_neg z]
          exact ⟨_, tg_170 x3 off hi lo hlo l 2 (by omega) (by omega), SR_w20 e2 _⟩
  · rw [if_neg y, decide_eq_false y]
    exact off0 _ rfl
theorem tg_53 {n e : Nat} {B : St} (hl : ∃ ln : Nat, sI B 13 = nI ln ∧ ln ≤ 40000) {ct : Nat} {gr : Bool} {PA BY OU : Nat → Int32} {p2 : Nat} {S : St} {ms dv : Bool} (h : SR B ct gr PA BY OU (exF B ms dv) p2 S) (m1 : sI S 21 = bI ms) (m2 : sI S 22 = bI dv) (hp : p2 ≤ e) (kd l : Nat) (hop : Bool) (hkd : (hop = true ∧ kd = 1) ∨ (hop = false ∧ (kd = 2 ∨ kd = 3))) (hl2 : l ≤ 2) (v : Int32) : ∃ S' : St, df_X13_target_53 n (nI kd) v (nI l) S = some (v, S') ∧ SR B ct (grO B hop l ms dv (offO l v)) PA BY OU (wiF B ms dv (lfO (hpO hop l) (offO l v))) p2 S' := by
  have kb : 1 ≤ kd ∧ kd ≤ 3 := by omega
  have km : (if kd = 1 then 1 else 2) = (if hop = true then 1 else 2) := by
    rcases hkd with ⟨h1, h2⟩ | ⟨h1, h2⟩
    · rw [if_pos h2, if_pos h1]
    · rw [if_neg (by omega), if_neg (by rw [h1]; decide)]
  have go : ∀ (off hi lo : Int32), (-hi) - 2 = lo → fzO lo hi 2 off = lfO (hpO hop l) off → offO l v = off → ∃ S' : St, df_X13_target_119 n (nI kd) v (nI l) off hi S = some (v, S') ∧ SR B ct (grO B hop l ms dv (offO l v)) PA BY OU (wiF B ms dv (lfO (hpO hop l) (offO l v))) p2 S' := fun off hi lo h1 h2 h3 => by
    obtain ⟨S', r1, r2⟩ := tg_119 (n := n) hl h m1 m2 hp kd l kb hl2 v off hi lo h1
    rw [km, h2] at r2
    rw [h3]
    exact ⟨S', r1, r2⟩
  unfold df_X13_target_53 df_X13_target_68 df_X13_target_87 df_X13_target_93
  rcases (show l = 0 ∨ l = 1 ∨ l = 2 by omega) with z | z | z
  · subst z
    rw [if_neg (show ¬ nI 0 = (2 : Int32) by decide), if_neg (show ¬ nI 0 = (2 : Int32) by decide), if_neg (show ¬ nI 0 = (1 : Int32) by decide), if_neg (show ¬ nI 0 = (1 : Int32) by decide)]
    rcases hkd with ⟨h1, h2⟩ | ⟨h1, h2⟩
    · subst h1
      rw [if_pos (show nI kd = (1 : Int32) from congrArg nI h2)]
      exact go v 2046 (-2048) (by decide) rfl rfl
    · subst h1
      rw [if_neg (show ¬ nI kd = (1 : Int32) from zne (b := 1) (by omega) (by omega) (by omega))]
      exact go v 254 (-256) (by decide) rfl rfl
  · subst z
    rw [if_neg (show ¬ nI 1 = (2 : Int32) by decide), if_neg (show ¬ nI 1 = (2 : Int32) by decide), if_pos (show nI 1 = (1 : Int32) by decide), if_pos (show nI 1 = (1 : Int32) by decide)]
    rcases hkd with ⟨h1, h2⟩ | ⟨h1, h2⟩
    · subst h1
      rw [if_pos (show nI kd = (1 : Int32) from congrArg nI h2)]
      exact go v 1048574 (-1048576) (by decide) rfl rfl
    · subst h1
      rw [if_neg (show ¬ nI kd = (1 : Int32) from zne (b := 1) (by omega) (by omega) (by omega))]
      exact go v 4094 (-4096) (by decide) rfl rfl
  · subst z
    rw [if_pos (show nI 2 = (2 : Int32) by decide), if_pos (show nI 2 = (2 : Int32) by decide)]
    exact go (v - 4) 1048574 (-1048576) (by decide) rfl rfl
/-- a target in a later round -/
theorem tgt_m {n L e : Nat} {c : Nat → Nat} {BC B : St} {X : Nat → Nat} {nL st cu : Nat} (hV : RV n L e c BC B X nL cu) {ct : Nat} {gr : Bool} {PA BY OU : Nat → Int32} {p : Nat} {S : St} (h : SR B ct gr PA BY OU 0 p S) {A : Nat} (hP : PA cu = nI (A * 2 ^ 17 + st)) (hA : A < 64) (hs : st < 2 ^ 17) (hm : ¬ sI B 15 = 0) {p2 m : Nat} {P : Nat → Tp} (R : RX n L e c BC p true p2 m P) (kd : Nat) (hop : Bool) (hkd : (hop = true ∧ kd = 1) ∨ (hop = false ∧ (kd = 2 ∨ kd = 3))) (hl2 : A % 4 ≤ 2) (ls : Int32) : ∃ (z : Int32) (S' : St) (ms dv : Bool), df_X13_target n (nI kd) ls S = some (z - sI B 17, S') ∧ rnF (VW c X e nL st B) P m = ([z], ms, dv) ∧ SR B ct (grO B hop (A % 4) ms dv (offO (A % 4) (z - sI B 17))) PA BY OU (wiF B ms dv (lfO (hpO hop (A % 4)) (offO (A % 4) (z - sI B 17)))) p2 S' ∧ p2 ≤ e := by
  obtain ⟨z, S1, ms, dv, e1, e2, e3, e4, e5, e6, e7⟩ := exp_y hV (⟨A * 2 ^ 17 + st, hP, by omega, by omega⟩ : PY PA cu st) h R
  obtain ⟨S', r1, r2⟩ := tg_53 (n := n) hV.2.2.2.2.2.2.2 e2 e4 e5 e3 kd (A % 4) hop hkd hl2 (z - sI B 17)
  refine ⟨z, S', ms, dv, ?_, e6, r2, e3⟩
  unfold df_X13_target df_X13_target_0 df_X13_target_38
  rw [e1, nb_b2, nb_let, SR_15 e2, SR_17 e2, if_neg hm, if_neg hm, lev_S e2 hV.2.2.2.2.2.1 hV.2.2.2.2.2.2.1 hP hA hs, nb_b2]
  exact r1
/-- a target that is read -/
theorem tgt_0 {n L e : Nat} {c : Nat → Nat} {BC B : St} {X : Nat → Nat} {nL st cu : Nat} (hV : RV n L e c BC B X nL cu) {ct : Nat} {gr : Bool} {PA BY OU : Nat → Int32} {p : Nat} {S : St} (h : SR B ct gr PA BY OU 0 p S) {A : Nat} (hP : PA cu = nI (A * 2 ^ 17 + st)) (hA : A < 8) (hs : st < 2 ^ 17) (hm : sI B 15 = 0) {p2 m : Nat} {P : Nat → Tp} (R : RX n L e c BC p true p2 m P) (kd : Nat) (hop : Bool) (hkd : (hop = true ∧ kd = 1) ∨ (hop = false ∧ (kd = 2 ∨ kd = 3))) (l : Nat) (hl2 : l ≤ 1) : ∃ (z : Int32) (S' : St), df_X13_target n (nI kd) (nI l) S = some (z, S') ∧ SR B ct false (upd PA cu (nI ((A ||| (8 * kd + l)) * 2 ^ 17 + st))) BY OU 0 p2 S' ∧ p2 ≤ e := by
  obtain ⟨z, S1, ms, dv, e1, e2, e3, e4, e5, e6, e7⟩ := exp_y hV (⟨A * 2 ^ 17 + st, hP, by omega, by omega⟩ : PY PA cu st) h R
  have hl := hV.2.2.2.2.2.2.2
  have h16 := hV.2.2.2.2.2.1
  have hcu := hV.2.2.2.2.2.2.1
  have m2 : ¬ sI B 15 = 2 := by rw [hm]; decide
  have m1 : ¬ sI B 15 = 1 := by rw [hm]; decide
  have e2o := e2
  have e2 := SR_w3 e2 (upd PA cu (nI ((A ||| (8 * kd + l)) * 2 ^ 17 + st)))
  obtain ⟨S', r1, r2⟩ := tg_53 (n := n) hl e2 e4 e5 e3 kd l hop hkd (by omega) (z - sI B 17)
  refine ⟨z - sI B 17, S', ?_, ?_, e3⟩
  · have sh : (nI kd : Int32) <<< ((20 : Int32) &&& 31) ||| (nI l : Int32) <<< ((17 : Int32) &&& 31) = nI ((8 * kd + l) * 2 ^ 17) := by
      rw [show (20 : Int32) &&& 31 = nI 20 from rfl, show (17 : Int32) &&& 31 = nI 17 from rfl, nm_shl (by omega) (by omega), nm_shl (by omega) (by omega), show kd * 2 ^ 20 = (kd * 8) * 2 ^ 17 by omega]
      rcases hkd with ⟨_, k⟩ | ⟨_, k | k⟩ <;> subst k <;> rcases (show l = 0 ∨ l = 1 by omega) with q | q <;> subst q <;> decide
    unfold df_X13_target df_X13_target_0 df_X13_target_38
    have s15 : sI S1 15 = sI B 15 := SR_15 e2o
    have s16 : sI S1 16 = sI B 16 := SR_16 e2o
    have s17 : sI S1 17 = sI B 17 := SR_17 e2o
    have s3 : sR S1 3 = PA := SR_r3 e2o
    rw [e1, nb_b2, nb_let, s15, if_pos hm, s16, h16, nm_ck hcu (by omega), nm_ck hcu (by omega), nI_clamp (by omega), s3, hP, sh, pl_or _ hA (by omega) hs, nb_let, SR_15 e2, if_pos hm, s17]
    exact r1
  · have w0 : ∀ b, wiF B ms dv b = 0 := fun b => if_neg m2
    have g0 : ∀ l off, grO B hop l ms dv off = false := fun l off => by unfold grO; rw [decide_eq_false m1]; rfl
    rw [w0, g0] at r2
    exact r2
