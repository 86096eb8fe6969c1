/-- place of a statement: its start and what stands above it -/
theorem pl_d : ∀ a : Fin 8, ∀ b : Fin 32, nI (a.1 * 2 ^ 17) ||| nI (b.1 * 2 ^ 17) = nI ((a.1 ||| b.1) * 2 ^ 17) ∧ (a.1 ||| b.1) < 32 := by decide +kernel
theorem pl_or {x s : Nat} (b : Nat) (ha : x < 8) (hb : b < 32) (hs : s < 2 ^ 17) : nI (x * 2 ^ 17 + s) ||| nI (b * 2 ^ 17) = nI ((x ||| b) * 2 ^ 17 + s) := by
  obtain ⟨d1, d2⟩ := pl_d ⟨x, ha⟩ ⟨b, hb⟩
  have d1 : nI (x * 2 ^ 17) ||| nI (b * 2 ^ 17) = nI ((x ||| b) * 2 ^ 17) := d1
  have d2 : (x ||| b) < 32 := d2
  rw [← nm_orG 17 hs (by omega), Int32.or_assoc, Int32.or_comm (nI s), ← Int32.or_assoc, d1, nm_orG 17 hs (by omega)]
theorem lev_S {n : Nat} {B : St} {ct : Nat} {gr : Bool} {PA BY OU : Nat → Int32} {ft : Int32} {ap : Nat} {S : St} (h : SR B ct gr PA BY OU ft ap S) {cu A st : Nat} (h16 : sI B 16 = nI cu) (hcu : cu < 11000) (hP : PA cu = nI (A * 2 ^ 17 + st)) (hA : A < 64) (hs : st < 2 ^ 17) : df_X13_level n S = some (nI (A % 4), S) := by
  unfold df_X13_level df_X13_level_0
  rw [SR_16 h, h16, nm_ck hcu (by omega), nI_clamp (by omega), SR_r3 h, hP, show (17 : Int32) &&& 31 = nI 17 from rfl, nm_shr (by omega) (by omega), show (3 : Int32) = nI 3 from rfl, nm_m3 (by omega)]
  congr 3
  omega
/-- the letter of a target at a level -/
def hpO (hop : Bool) (l : Nat) : Nat := if l = 2 then 74 else if l = 1 then (if hop = true then 74 else 84) else if hop = true then 75 else 76
def offO (l : Nat) (v : Int32) : Int32 := if l = 2 then v - 4 else v
def grO (B : St) (hop : Bool) (l : Nat) (ms dv : Bool) (off : Int32) : Bool := decide (sI B 15 = 1) && (!ms && (!dv && (decide (l < if hop = true then 1 else 2) && !lfO (hpO hop l) off)))
theorem f20 {n : Nat} {S : St} {x : Int32} (b : Bool) : nd_f .boolean (bI b) (nd_z .boolean (bI b) (nd_let (pI S 20 (bI b)) (fun (s18 : St) => some (x, s18)))) = some (x, pI S 20 (bI b)) := by
  cases b <;> rfl
theorem tg_170 {n : Nat} {S : St} (x3 off hi lo : Int32) (hlo : (-hi) - 2 = lo) (l mx : Nat) (hl : l < 10) (hmx : mx < 10) : df_X13_target_170 n x3 off hi (nI l) (nI mx) S = some (x3, pI S 20 (bI (decide (l < mx) && !fzO lo hi 2 off))) := by
  have rm := rmd_1 off (k := 2) (Or.inr (Or.inl rfl))
  have rm : (off - off / 2 * 2 = 0) ↔ off &&& nI (2 - 1) = 0 := rm
  unfold df_X13_target_170 df_X13_target_201 df_X13_target_197 df_X13_target_202 fzO
  rw [hlo]
  have F := f20 (n := n) (S := S) (x := x3) false
  have T := f20 (n := n) (S := S) (x := x3) true
  have F : nd_f .boolean 0 (nd_z .boolean 0 (nd_let (pI S 20 0) (fun (s18 : St) => some (x3, s18)))) = some (x3, pI S 20 (bI false)) := F
  have T : nd_f .boolean 1 (nd_z .boolean 1 (nd_let (pI S 20 1) (fun (s18 : St) => some (x3, s18)))) = some (x3, pI S 20 (bI true)) := T
  rw [F, T]
  by_cases y : l < mx
  · rw [if_neg (znle y (by omega)), decide_eq_true y]
    by_cases a1 : off < lo
    · rw [if_pos a1, decide_eq_true a1]; rfl
    · rw [if_neg a1, decide_eq_false a1]
      by_cases a2 : hi < off
      · rw [if_pos a2, decide_eq_true a2]; rfl
      · rw [if_neg a2, decide_eq_false a2]
        by_cases a3 : off &&& nI (2 - 1) = 0
        · rw [if_pos (rm.mpr a3), decide_eq_true a3]; rfl
        · rw [if_neg (fun z => a3 (rm.mp z)), decide_eq_false a3]; rfl
  · rw [if_pos (zle (by omega) (by omega)), decide_eq_false y]; rfl
theorem SR_w20 {B : St} {ct : Nat} {gr : Bool} {PA BY OU : Nat → Int32} {ft : Int32} {ap : Nat} {S : St} (h : SR B ct gr PA BY OU ft ap S) (b : Bool) : SR B ct b PA BY OU ft ap (pI S 20 (bI b)) := by
  obtain ⟨ms, dv, ls, sg, vl, PL, tk, fr, to, nm, rfl⟩ := h
  exact ⟨ms, dv, ls, sg, vl, PL, tk, fr, to, nm, yR_w20⟩
theorem SR_w3 {B : St} {ct : Nat} {gr : Bool} {PA BY OU : Nat → Int32} {ft : Int32} {ap : Nat} {S : St} (h : SR B ct gr PA BY OU ft ap S) (v : Nat → Int32) : SR B ct gr v BY OU ft ap (pR S 3 v) := by
  obtain ⟨ms, dv, ls, sg, vl, PL, tk, fr, to, nm, rfl⟩ := h
  exact ⟨ms, dv, ls, sg, vl, PL, tk, fr, to, nm, yR_y3⟩
theorem SR_w5 {B : St} {ct : Nat} {gr : Bool} {PA BY OU : Nat → Int32} {ft : Int32} {ap : Nat} {S : St} (h : SR B ct gr PA BY OU ft ap S) (v : Nat → Int32) : SR B ct gr PA v OU ft ap (pR S 5 v) := by
  obtain ⟨ms, dv, ls, sg, vl, PL, tk, fr, to, nm, rfl⟩ := h
  exact ⟨ms, dv, ls, sg, vl, PL, tk, fr, to, nm, yR_y5⟩
theorem SR_w18 {B : St} {ct : Nat} {gr : Bool} {PA BY OU : Nat → Int32} {ft : Int32} {ap : Nat} {S : St} (h : SR B ct gr PA BY OU ft ap S) (v : Nat) : SR B v gr PA BY OU ft ap (pI S 18 (nI v)) := by
  obtain ⟨ms, dv, ls, sg, vl, PL, tk, fr, to, nm, rfl⟩ := h
  exact ⟨ms, dv, ls, sg, vl, PL, tk, fr, to, nm, yR_w18⟩
theorem SR_w7 {B : St} {ct : Nat} {gr : Bool} {PA BY OU : Nat → Int32} {ft : Int32} {ap : Nat} {S : St} (h : SR B ct gr PA BY OU ft ap S) (v : Nat) : SR B ct gr PA BY OU ft v (pI S 7 (nI v)) := by
  obtain ⟨ms, dv, ls, sg, vl, PL, tk, fr, to, nm, rfl⟩ := h
  exact ⟨ms, dv, ls, sg, vl, PL, tk, fr, to, nm, uR_w7⟩
/-- bounds of a target, and whether it grows -/
theorem tg_119 {n e : Nat} {B : St} (hl : ∃ ln : Nat, sI B 13 = nI ln ∧ ln ≤ 40000) {ct : Nat} {gr : Bool} {PA BY OU : Nat → Int32} {p2 : Nat} {S : St} {ms dv : Bool} (h : SR B ct gr PA BY OU (exF B ms dv) p2 S) (m1 : sI S 21 = bI ms) (m2 : sI S 22 = bI dv) (hp : p2 ≤ e) (kd l : Nat) (hkd : 1 ≤ kd ∧ kd ≤ 3) (hl2 : l ≤ 2) (x3 off hi lo : Int32) (hlo : (-hi) - 2 = lo) : ∃ S' : St, df_X13_target_119 n (nI kd) x3 (nI l) off hi S = some (x3, S') ∧ SR B ct (decide (sI B 15 = 1) && (!ms && (!dv && (decide (l < if kd = 1 then 1 else 2) && !fzO lo hi 2 off)))) PA BY OU (wiF B ms dv (fzO lo hi 2 off)) p2 S' := by
  have st : ∃ S2 : St, df_X13_fits n off lo hi 2 S = some S2 ∧ SR B ct gr PA BY OU (wiF B ms dv (fzO lo hi 2 off)) p2 S2 ∧ sI S2 21 = bI ms ∧ sI S2 22 = bI dv := by
    by_cases y : exF B ms dv = 0
    · rw [y] at h
      obtain ⟨S', f1, f2, f3, f4⟩ := fit_y (n := n) h off lo hi (k := 2) (Or.inr (Or.inl rfl))
      rw [← wiF_o hl y] at f2
      exact ⟨S', f1, f2, f3.trans m1, f4.trans m2⟩
    · have fl : FL e B (exF B ms dv) S := ⟨_, _, _, _, _, _, hp, h⟩
      refine ⟨S, fit_F fl y _ _ _ _ (by decide), ?_, m1, m2⟩
      rw [wiF_e hl y]
      exact h
  obtain ⟨S2, e1, e2, e3, e4⟩ := st
  have off0 : ∀ b : Bool, b = false → ∃ S' : St, df_X13_target_201 n x3 S2 = some (x3, S') ∧ SR B ct b PA BY OU (wiF B ms dv (fzO lo hi 2 off)) p2 S' := fun b hb => by
    subst hb
    refine ⟨_, ?_, SR_w20 e2 false⟩
    unfold df_X13_target_201 df_X13_target_202
    exact f20 (n := n) false
  unfold df_X13_target_119
  rw [hlo, e1, nb_b1, SR_15 e2, e3, e4]
  by_cases y : sI B 15 = 1
  · rw [if_pos y, decide_eq_true y]
    cases ms with
    | true => rw [if_neg (by decide)]; exact off0 _ rfl
    | false =>
      rw [if_pos (by decide)]
      cases dv with
      | true => rw [if_neg (by decide)]; exact off0 _ rfl
      | false =>
        rw [if_pos (by decide)]
        by_cases z : kd = 1
        · rw [if_pos (show nI kd = (1 : Int32) from congrArg nI z), if_pos z]
          exact ⟨_, tg_170 x3 off hi lo hlo l 1 (by omega) (by omega), SR_w20 e2 _⟩
        · rw [if_neg (show ¬ nI kd = (1 : Int32) from zne (b := 1) z (by omega) (by omega)), if_neg z]
          exact ⟨_, tg_170 x3 off hi lo hlo l 2 (by omega) (by omega), SR_w20 e2 _⟩
  · rw [if_neg y, decide_eq_false y]
    exact off0 _ rfl
theorem tg_53 {n e : Nat} {B : St} (hl : ∃ ln : Nat, sI B 13 = nI ln ∧ ln ≤ 40000) {ct : Nat} {gr : Bool} {PA BY OU : Nat → Int32} {p2 : Nat} {S : St} {ms dv : Bool} (h : SR B ct gr PA BY OU (exF B ms dv) p2 S) (m1 : sI S 21 = bI ms) (m2 : sI S 22 = bI dv) (hp : p2 ≤ e) (kd l : Nat) (hop : Bool) (hkd : (hop = true ∧ kd = 1) ∨ (hop = false ∧ (kd = 2 ∨ kd = 3))) (hl2 : l ≤ 2) (v : Int32) : ∃ S' : St, df_X13_target_53 n (nI kd) v (nI l) S = some (v, S') ∧ SR B ct (grO B hop l ms dv (offO l v)) PA BY OU (wiF B ms dv (lfO (hpO hop l) (offO l v))) p2 S' := by
  have kb : 1 ≤ kd ∧ kd ≤ 3 := by omega
  have km : (if kd = 1 then 1 else 2) = (if hop = true then 1 else 2) := by
    rcases hkd with ⟨h1, h2⟩ | ⟨h1, h2⟩
    · rw [if_pos h2, if_pos h1]
    · rw [if_neg (by omega), if_neg (by rw [h1]; decide)]
  have go : ∀ (off hi lo : Int32), (-hi) - 2 = lo → fzO lo hi 2 off = lfO (hpO hop l) off → offO l v = off → ∃ S' : St, df_X13_target_119 n (nI kd) v (nI l) off hi S = some (v, S') ∧ SR B ct (grO B hop l ms dv (offO l v)) PA BY OU (wiF B ms dv (lfO (hpO hop l) (offO l v))) p2 S' := fun off hi lo h1 h2 h3 => by
    obtain ⟨S', r1, r2⟩ := tg_119 (n := n) hl h m1 m2 hp kd l kb hl2 v off hi lo h1
    rw [km, h2] at r2
    rw [h3]
    exact ⟨S', r1, r2⟩
  unfold df_X13_target_53 df_X13_target_68 df_X13_target_87 df_X13_target_93
  rcases (show l = 0 ∨ l = 1 ∨ l = 2 by omega) with z | z | z
  · subst z
    rw [if_neg (show ¬ nI 0 = (2 : Int32) by decide), if_neg (show ¬ nI 0 = (2 : Int32) by decide), if_neg (show ¬ nI 0 = (1 : Int32) by decide), if_neg (show ¬ nI 0 = (1 : Int32) by decide)]
    rcases hkd with ⟨h1, h2⟩ | ⟨h1, h2⟩
    · subst h1
      rw [if_pos (show nI kd = (1 : Int32) from congrArg nI h2)]
      exact go v 2046 (-2048) (by decide) rfl rfl
    · subst h1
      rw [if_neg (show ¬ nI kd = (1 : Int32) from zne (b := 1) (by omega) (by omega) (by omega))]
      exact go v 254 (-256) (by decide) rfl rfl
  · subst z
    rw [if_neg (show ¬ nI 1 = (2 : Int32) by decide), if_neg (show ¬ nI 1 = (2 : Int32) by decide), if_pos (show nI 1 = (1 : Int32) by decide), if_pos (show nI 1 = (1 : Int32) by decide)]
    rcases hkd with ⟨h1, h2⟩ | ⟨h1, h2⟩
    · subst h1
      rw [if_pos (show nI kd = (1 : Int32) from congrArg nI h2)]
      exact go v 1048574 (-1048576) (by decide) rfl rfl
    · subst h1
      rw [if_neg (show ¬ nI kd = (1 : Int32) from zne (b := 1) (by omega) (by omega) (by omega))]
      exact go v 4094 (-4096) (by decide) rfl rfl
  · subst z
    rw [if_pos (show nI 2 = (2 : Int32) by decide), if_pos (show nI 2 = (2 : Int32) by decide)]
    exact go (v - 4) 1048574 (-1048576) (by decide) rfl rfl
/-- a target in a later round -/
theorem tgt_m {n L e : Nat} {c : Nat → Nat} {BC B : St} {X : Nat → Nat} {nL st cu : Nat} (hV : RV n L e c BC B X nL cu) {ct : Nat} {gr : Bool} {PA BY OU : Nat → Int32} {p : Nat} {S : St} (h : SR B ct gr PA BY OU 0 p S) {A : Nat} (hP : PA cu = nI (A * 2 ^ 17 + st)) (hA : A < 64) (hs : st < 2 ^ 17) (hm : ¬ sI B 15 = 0) {p2 m : Nat} {P : Nat → Tp} (R : RX n L e c BC p true p2 m P) (kd : Nat) (hop : Bool) (hkd : (hop = true ∧ kd = 1) ∨ (hop = false ∧ (kd = 2 ∨ kd = 3))) (hl2 : A % 4 ≤ 2) (ls : Int32) : ∃ (z : Int32) (S' : St) (ms dv : Bool), df_X13_target n (nI kd) ls S = some (z - sI B 17, S') ∧ rnF (VW c X e nL st B) P m = ([z], ms, dv) ∧ SR B ct (grO B hop (A % 4) ms dv (offO (A % 4) (z - sI B 17))) PA BY OU (wiF B ms dv (lfO (hpO hop (A % 4)) (offO (A % 4) (z - sI B 17)))) p2 S' ∧ p2 ≤ e := by
  obtain ⟨z, S1, ms, dv, e1, e2, e3, e4, e5, e6, e7⟩ := exp_y hV (⟨A * 2 ^ 17 + st, hP, by omega, by omega⟩ : PY PA cu st) h R
  obtain ⟨S', r1, r2⟩ := tg_53 (n := n) hV.2.2.2.2.2.2.2 e2 e4 e5 e3 kd (A % 4) hop hkd hl2 (z - sI B 17)
  refine ⟨z, S', ms, dv, ?_, e6, r2, e3⟩
  unfold df_X13_target df_X13_target_0 df_X13_target_38
  rw [e1, nb_b2, nb_let, SR_15 e2, SR_17 e2, if_neg hm, if_neg hm, lev_S e2 hV.2.2.2.2.2.1 hV.2.2.2.2.2.2.1 hP hA hs, nb_b2]
  exact r1
/-- a target that is read -/
theorem tgt_0 {n L e : Nat} {c : Nat → Nat} {BC B : St} {X : Nat → Nat} {nL st cu : Nat} (hV : RV n L e c BC B X nL cu) {ct : Nat} {gr : Bool} {PA BY OU : Nat → Int32} {p : Nat} {S : St} (h : SR B ct gr PA BY OU 0 p S) {A : Nat} (hP : PA cu = nI (A * 2 ^ 17 + st)) (hA : A < 8) (hs : st < 2 ^ 17) (hm : sI B 15 = 0) {p2 m : Nat} {P : Nat → Tp} (R : RX n L e c BC p true p2 m P) (kd : Nat) (hop : Bool) (hkd : (hop = true ∧ kd = 1) ∨ (hop = false ∧ (kd = 2 ∨ kd = 3))) (l : Nat) (hl2 : l ≤ 1) : ∃ (z : Int32) (S' : St), df_X13_target n (nI kd) (nI l) S = some (z, S') ∧ SR B ct false (upd PA cu (nI ((A ||| (8 * kd + l)) * 2 ^ 17 + st))) BY OU 0 p2 S' ∧ p2 ≤ e := by
  obtain ⟨z, S1, ms, dv, e1, e2, e3, e4, e5, e6, e7⟩ := exp_y hV (⟨A * 2 ^ 17 + st, hP, by omega, by omega⟩ : PY PA cu st) h R
  have hl := hV.2.2.2.2.2.2.2
  have h16 := hV.2.2.2.2.2.1
  have hcu := hV.2.2.2.2.2.2.1
  have m2 : ¬ sI B 15 = 2 := by rw [hm]; decide
  have m1 : ¬ sI B 15 = 1 := by rw [hm]; decide
  have e2o := e2
  have e2 := SR_w3 e2 (upd PA cu (nI ((A ||| (8 * kd + l)) * 2 ^ 17 + st)))
  obtain ⟨S', r1, r2⟩ := tg_53 (n := n) hl e2 e4 e5 e3 kd l hop hkd (by omega) (z - sI B 17)
  refine ⟨z - sI B 17, S', ?_, ?_, e3⟩
  · have sh : (nI kd : Int32) <<< ((20 : Int32) &&& 31) ||| (nI l : Int32) <<< ((17 : Int32) &&& 31) = nI ((8 * kd + l) * 2 ^ 17) := by
      rw [show (20 : Int32) &&& 31 = nI 20 from rfl, show (17 : Int32) &&& 31 = nI 17 from rfl, nm_shl (by omega) (by omega), nm_shl (by omega) (by omega), show kd * 2 ^ 20 = (kd * 8) * 2 ^ 17 by omega]
      rcases hkd with ⟨_, k⟩ | ⟨_, k | k⟩ <;> subst k <;> rcases (show l = 0 ∨ l = 1 by omega) with q | q <;> subst q <;> decide
    unfold df_X13_target df_X13_target_0 df_X13_target_38
    have s15 : sI S1 15 = sI B 15 := SR_15 e2o
    have s16 : sI S1 16 = sI B 16 := SR_16 e2o
    have s17 : sI S1 17 = sI B 17 := SR_17 e2o
    have s3 : sR S1 3 = PA := SR_r3 e2o
    rw [e1, nb_b2, nb_let, s15, if_pos hm, s16, h16, nm_ck hcu (by omega), nm_ck hcu (by omega), nI_clamp (by omega), s3, hP, sh, pl_or _ hA (by omega) hs, nb_let, SR_15 e2, if_pos hm, s17]
    exact r1
  · have w0 : ∀ b, wiF B ms dv b = 0 := fun b => if_neg m2
    have g0 : ∀ l off, grO B hop l ms dv off = false := fun l off => by unfold grO; rw [decide_eq_false m1]; rfl
    rw [w0, g0] at r2
    exact r2

/-- a jump's bytes, a branch's -/
def hopL (l : Nat) (d v : Int32) : List Int32 := if l = 0 then by2 ((1 ||| (if d = 1 then (1 : Int32) else 5) <<< ((13 : Int32) &&& 31)) ||| plK v) else by4 ((111 ||| d <<< ((7 : Int32) &&& 31)) ||| plJ v)
def brnL (l : Nat) (w x y v : Int32) : List Int32 := if l = 0 then by2 (((1 ||| (if (w >>> ((12 : Int32) &&& 31)) &&& 7 = 0 then (6 : Int32) else 7) <<< ((13 : Int32) &&& 31)) ||| ((x - 8) &&& 7) <<< ((7 : Int32) &&& 31)) ||| plL v) else if l = 1 then by4 ((w ||| (x <<< ((15 : Int32) &&& 31) ||| y <<< ((20 : Int32) &&& 31))) ||| plT v) else by4 (((w ^^^ 4096) ||| (x <<< ((15 : Int32) &&& 31) ||| y <<< ((20 : Int32) &&& 31))) ||| plT 8) ++ by4 (111 ||| plJ (v - 4))
theorem SR_FL {e : Nat} {B : St} {ct : Nat} {gr : Bool} {PA BY OU : Nat → Int32} {ft : Int32} {ap : Nat} {S : St} (h : SR B ct gr PA BY OU ft ap S) (hp : ap ≤ e) : FL e B ft S := ⟨_, _, _, _, _, _, hp, h⟩
theorem FL_lev {n e : Nat} {B : St} {ft : Int32} {S : St} (h : FL e B ft S) {cu : Nat} (h16 : sI B 16 = nI cu) (hcu : cu < 11000) : ∃ x : Int32, df_X13_level n S = some (x, S) := by
  unfold df_X13_level df_X13_level_0
  rw [(FL_f h).2.2.2.2, h16, nm_ck hcu (by omega)]
  exact ⟨_, rfl⟩
/-- jump() in a later round -/
theorem jmp_m {n L e : Nat} {c : Nat → Nat} {BC B : St} {X : Nat → Nat} {nL st cu : Nat} (hV : RV n L e c BC B X nL cu) {ct : Nat} {gr : Bool} {PA BY OU : Nat → Int32} {p : Nat} {S : St} (h : SR B ct gr PA BY OU 0 p S) {A : Nat} (hP : PA cu = nI (A * 2 ^ 17 + st)) (hA : A < 64) (hs : st < 2 ^ 17) (hm : ¬ sI B 15 = 0) (h4 : A % 4 ≤ 1) {p2 m : Nat} {P : Nat → Tp} (R : RX n L e c BC p true p2 m P) (hw : OKW B (ct + if A % 4 = 0 then 2 else 4)) (d : Int32) : ∃ (z : Int32) (ms dv : Bool) (S' : St), df_X13_jump n d S = some S' ∧ rnF (VW c X e nL st B) P m = ([z], ms, dv) ∧ PLO e B ct (grO B true (A % 4) ms dv (z - sI B 17)) PA BY OU p2 (wiF B ms dv (lfO (hpO true (A % 4)) (z - sI B 17))) (hopL (A % 4) d (z - sI B 17)) S' := by
  obtain ⟨z, S1, ms, dv, e1, e2, e3, e4⟩ := tgt_m hV h hP hA hs hm R 1 true (Or.inl ⟨rfl, rfl⟩) (by omega) 0
  have e1 : df_X13_target n 1 0 S = some (z - sI B 17, S1) := e1
  have of : offO (A % 4) (z - sI B 17) = z - sI B 17 := if_neg (by omega)
  rw [of] at e3
  have lv := lev_S (n := n) e3 hV.2.2.2.2.2.1 hV.2.2.2.2.2.2.1 hP hA hs
  refine ⟨z, ms, dv, ?_⟩
  unfold df_X13_jump df_X13_jump_0 df_X13_jump_26 df_X13_jump_57
  rw [e1, nb_b2, lv, nb_b2]
  by_cases zz : wiF B ms dv (lfO (hpO true (A % 4)) (z - sI B 17)) = 0
  · rw [zz] at e3 ⊢
    by_cases y : A % 4 = 0
    · rw [if_pos (show nI (A % 4) = (0 : Int32) from congrArg nI y)]
      obtain ⟨W, w1, w2⟩ := hal_H (n := n) e3 (by rw [if_pos y] at hw; exact hw)
      simp only [sJ_R, nb_b2, nb_b1, w1]
      have hL : ∀ x : Int32, hopL (A % 4) d x = by2 ((1 ||| (if d = 1 then (1 : Int32) else 5) <<< ((13 : Int32) &&& 31)) ||| plK x) := fun x => if_pos y
      by_cases d1 : d = 1
      · rw [if_pos d1]
        refine ⟨_, rfl, e2, ?_⟩
        rw [hL, if_pos d1]
        exact plo2 rfl (w2 _) rfl
      · rw [if_neg d1]
        refine ⟨_, rfl, e2, ?_⟩
        rw [hL, if_neg d1]
        exact plo2 rfl (w2 _) rfl
    · rw [if_neg (show ¬ nI (A % 4) = (0 : Int32) from zne (b := 0) y (by omega) (by omega))]
      obtain ⟨W, w1, w2⟩ := wor_H (n := n) e3 (by rw [if_neg y] at hw; exact hw)
      simp only [jB_R, nb_b2, nb_b1, w1]
      refine ⟨_, rfl, e2, ?_⟩
      rw [show hopL (A % 4) d (z - sI B 17) = by4 ((111 ||| d <<< ((7 : Int32) &&& 31)) ||| plJ (z - sI B 17)) from if_neg y]
      exact plo4 rfl (w2 _) rfl
  · have fl := SR_FL e3 e4
    have m3 := m2_3 (wi_2 zz)
    obtain ⟨W, w1, w2⟩ := hal_G (n := n) fl m3
    obtain ⟨W', w3, w4⟩ := wor_G (n := n) fl m3
    simp only [sJ_R, jB_R, nb_b2, nb_b1, w1, w3]
    split
    · split
      · exact ⟨_, rfl, e2, fun u => absurd u zz, fun _ => w2 _⟩
      · exact ⟨_, rfl, e2, fun u => absurd u zz, fun _ => w2 _⟩
    · exact ⟨_, rfl, e2, fun u => absurd u zz, fun _ => w4 _⟩
/-- jump() as it is read -/
theorem jmp_0 {n L e : Nat} {c : Nat → Nat} {BC B : St} {X : Nat → Nat} {nL st cu : Nat} (hV : RV n L e c BC B X nL cu) {ct : Nat} {gr : Bool} {PA BY OU : Nat → Int32} {p : Nat} {S : St} (h : SR B ct gr PA BY OU 0 p S) {se : Nat} (hP : PA cu = nI ((4 * se) * 2 ^ 17 + st)) (hA : se < 2) (hs : st < 2 ^ 17) (hm : sI B 15 = 0) {p2 m : Nat} {P : Nat → Tp} (R : RX n L e c BC p true p2 m P) (d : Int32) : ∃ S' : St, df_X13_jump n d S = some S' ∧ SR B (ct + 2) false (upd PA cu (nI ((4 * se + 8) * 2 ^ 17 + st))) BY OU 0 p2 S' := by
  obtain ⟨z, S1, e1, e3, e4⟩ := tgt_0 hV h hP (by omega) hs hm R 1 true (Or.inl ⟨rfl, rfl⟩) 0 (by omega)
  have e1 : df_X13_target n 1 0 S = some (z, S1) := e1
  have ao : (4 * se ||| (8 * 1 + 0)) = 4 * se + 8 := by rcases (show se = 0 ∨ se = 1 by omega) with q | q <;> subst q <;> rfl
  rw [ao] at e3
  have lv := lev_S (n := n) e3 hV.2.2.2.2.2.1 hV.2.2.2.2.2.2.1 (A := 4 * se + 8) (st := st) up_e (by omega) hs
  obtain ⟨W, w1, w2⟩ := hal_H (n := n) e3 (fun u => absurd (hm.symm.trans u) (by decide))
  have pt0 : ∀ bs : List Int32, pt B ct OU bs = OU := fun bs => if_neg (by rw [hm]; decide)
  unfold df_X13_jump df_X13_jump_0 df_X13_jump_26 df_X13_jump_57
  rw [e1, nb_b2, lv, nb_b2, if_pos (show nI ((4 * se + 8) % 4) = (0 : Int32) from congrArg nI (show (4 * se + 8) % 4 = 0 by omega))]
  simp only [sJ_R, nb_b2, nb_b1, w1]
  have w2 : ∀ v : Int32, SR B (ct + 2) false (upd PA cu (nI ((4 * se + 8) * 2 ^ 17 + st))) BY OU 0 p2 (W v) := fun v => by
    have := w2 v
    rw [pt0] at this
    exact this
  split
  · exact ⟨_, rfl, w2 _⟩
  · exact ⟨_, rfl, w2 _⟩
/-- with a fault -/
theorem tg_119F {n e : Nat} {B : St} {ft : Int32} {S : St} (h : FL e B ft S) (hf : ¬ ft = 0) (h1 : ¬ sI B 15 = 1) (x1 x3 x4 x5 y0 : Int32) : ∃ S' : St, df_X13_target_119 n x1 x3 x4 x5 y0 S = some (x3, S') ∧ FL e B ft S' := by
  obtain ⟨ct, gr, PA, BY, OU, ap, h2, h3⟩ := id h
  refine ⟨_, ?_, SR_FL (SR_w20 h3 false) h2⟩
  unfold df_X13_target_119
  rw [fit_F h hf _ _ _ _ (by decide), nb_b1, if_neg (by rw [SR_15 h3]; exact h1)]
  unfold df_X13_target_201 df_X13_target_202
  exact f20 (n := n) false
theorem tg_53F {n e : Nat} {B : St} {ft : Int32} {S : St} (h : FL e B ft S) (hf : ¬ ft = 0) (h1 : ¬ sI B 15 = 1) (x1 x3 y : Int32) : ∃ S' : St, df_X13_target_53 n x1 x3 y S = some (x3, S') ∧ FL e B ft S' := by
  have g := fun a b c d => tg_119F (n := n) h hf h1 a x3 b c d
  unfold df_X13_target_53 df_X13_target_68 df_X13_target_87 df_X13_target_93
  (repeat' split) <;> exact g _ _ _ _
theorem tgt_f {n L e : Nat} {c : Nat → Nat} {BC B : St} {X : Nat → Nat} {nL st cu : Nat} (hV : RV n L e c BC B X nL cu) {ct : Nat} {gr : Bool} {PA BY OU : Nat → Int32} {p : Nat} {S : St} (h : SR B ct gr PA BY OU 0 p S) (hY : PY PA cu st) (hm : sI B 15 = 0) {p2 m : Nat} {P : Nat → Tp} (R : RX n L e c BC p false p2 m P) (kd ls : Int32) : ∃ (z : Int32) (S' : St), df_X13_target n kd ls S = some (z, S') ∧ FL e B (nI 1 + 16 * sI B 13) S' := by
  obtain ⟨z, S1, e1, fl⟩ := exp_n hV hY h R
  have ne : ¬ nI 1 + 16 * sI B 13 = 0 := flt_n hV.2.2.2.2.2.2.2 1 (by omega)
  have fl : FL e B (nI 1 + 16 * sI B 13) S1 := fl
  obtain ⟨ct', gr', PA', BY', OU', ap, h2, h3⟩ := id fl
  have fl2 := fun v => SR_FL (SR_w3 h3 v) h2
  have m1 : ¬ sI B 15 = 1 := by rw [hm]; decide
  have h16 := hV.2.2.2.2.2.1
  have hcu := hV.2.2.2.2.2.2.1
  obtain ⟨S2, r1, r2⟩ := tg_53F (n := n) (fl2 (upd PA' cu (PA' cu ||| ((kd : Int32) <<< ((20 : Int32) &&& 31) ||| (ls : Int32) <<< ((17 : Int32) &&& 31))))) ne m1 kd (z - sI B 17) ls
  refine ⟨z - sI B 17, S2, ?_, r2⟩
  unfold df_X13_target df_X13_target_0 df_X13_target_38
  rw [e1, nb_b2, nb_let, SR_15 h3, if_pos hm, SR_16 h3, h16, nm_ck hcu (by omega), nm_ck hcu (by omega), nI_clamp (by omega), SR_r3 h3, nb_let, SR_15 (SR_w3 h3 _), if_pos hm, SR_17 h3]
  exact r1
theorem jmp_f {n L e : Nat} {c : Nat → Nat} {BC B : St} {X : Nat → Nat} {nL st cu : Nat} (hV : RV n L e c BC B X nL cu) {ct : Nat} {gr : Bool} {PA BY OU : Nat → Int32} {p : Nat} {S : St} (h : SR B ct gr PA BY OU 0 p S) (hY : PY PA cu st) (hm : sI B 15 = 0) {p2 m : Nat} {P : Nat → Tp} (R : RX n L e c BC p false p2 m P) (d : Int32) : ∃ S' : St, df_X13_jump n d S = some S' ∧ FL e B (nI 1 + 16 * sI B 13) S' := by
  obtain ⟨z, S1, e1, fl⟩ := tgt_f hV h hY hm R 1 0
  obtain ⟨x, lv⟩ := FL_lev (n := n) fl hV.2.2.2.2.2.1 hV.2.2.2.2.2.2.1
  have m3 := m0_3 hm
  obtain ⟨W, w1, w2⟩ := hal_G (n := n) fl m3
  obtain ⟨W', w3, w4⟩ := wor_G (n := n) fl m3
  unfold df_X13_jump df_X13_jump_0 df_X13_jump_26 df_X13_jump_57
  rw [e1, nb_b2, lv, nb_b2]
  simp only [sJ_R, jB_R, nb_b2, nb_b1, w1, w3]
  split
  · split
    · exact ⟨_, rfl, w2 _⟩
    · exact ⟨_, rfl, w2 _⟩
  · exact ⟨_, rfl, w4 _⟩
theorem br_91F {n e : Nat} {B : St} {ft : Int32} {S : St} (h : FL e B ft S) (m3 : ¬ sI B 15 = 3) (w v q pr : Int32) : ∃ S' : St, df_X13_branch_91 n w v q pr S = some S' ∧ FL e B ft S' := by
  have b111 : ∀ T : St, FL e B ft T → ∃ S' : St, df_X13_branch_111 n w v q pr T = some S' ∧ FL e B ft S' := fun T hT => by
    unfold df_X13_branch_111
    split
    · obtain ⟨S1, e1, f1⟩ := wor_F (n := n) hT m3 (((w ^^^ 4096) ||| pr) ||| plT 8)
      obtain ⟨S2, e2, f2⟩ := wor_F (n := n) f1 m3 (111 ||| plJ (v - 4))
      rw [tB_R, nb_b2, e1, nb_b1, jB_R, nb_b2, e2, nb_b1]
      exact ⟨S2, rfl, f2⟩
    · exact ⟨T, rfl, hT⟩
  unfold df_X13_branch_91
  split
  · obtain ⟨S1, e1, f1⟩ := wor_F (n := n) h m3 ((w ||| pr) ||| plT v)
    rw [tB_R, nb_b2, e1, nb_b1]
    exact b111 S1 f1
  · exact b111 S h
/-- branch(): kind and least level -/
theorem brn_m {n L e : Nat} {c : Nat → Nat} {BC B : St} {X : Nat → Nat} {nL st cu : Nat} (hV : RV n L e c BC B X nL cu) {ct : Nat} {gr : Bool} {PA BY OU : Nat → Int32} {p : Nat} {S : St} (h : SR B ct gr PA BY OU 0 p S) {A : Nat} (hP : PA cu = nI (A * 2 ^ 17 + st)) (hA : A < 64) (hs : st < 2 ^ 17) (hm : ¬ sI B 15 = 0) (h4 : A % 4 ≤ 2) {p2 m : Nat} {P : Nat → Tp} (R : RX n L e c BC p true p2 m P) (hw : OKW B (ct + if A % 4 = 0 then 2 else if A % 4 = 1 then 4 else 8)) (w x y v3 : Int32) : ∃ (z : Int32) (ms dv : Bool) (S' : St), df_X13_branch n w x y v3 S = some S' ∧ rnF (VW c X e nL st B) P m = ([z], ms, dv) ∧ PLO e B ct (grO B false (A % 4) ms dv (offO (A % 4) (z - sI B 17))) PA BY OU p2 (wiF B ms dv (lfO (hpO false (A % 4)) (offO (A % 4) (z - sI B 17)))) (brnL (A % 4) w x y (z - sI B 17)) S' := by
  have key : ∀ (kd : Nat) (ls : Int32), (kd = 2 ∨ kd = 3) → ∃ (z : Int32) (ms dv : Bool) (S' : St), df_X13_branch_21 n w x y (nI kd) ls S = some S' ∧ rnF (VW c X e nL st B) P m = ([z], ms, dv) ∧ PLO e B ct (grO B false (A % 4) ms dv (offO (A % 4) (z - sI B 17))) PA BY OU p2 (wiF B ms dv (lfO (hpO false (A % 4)) (offO (A % 4) (z - sI B 17)))) (brnL (A % 4) w x y (z - sI B 17)) S' := fun kd ls hk => by
    obtain ⟨z, S1, ms, dv, e1, e2, e3, e4⟩ := tgt_m hV h hP hA hs hm R kd false (Or.inr ⟨rfl, hk⟩) (by omega) ls
    have lv := lev_S (n := n) e3 hV.2.2.2.2.2.1 hV.2.2.2.2.2.2.1 hP hA hs
    refine ⟨z, ms, dv, ?_⟩
    unfold df_X13_branch_21 df_X13_branch_67
    rw [e1, nb_b2, lv, nb_b2, nb_let]
    by_cases zz : wiF B ms dv (lfO (hpO false (A % 4)) (offO (A % 4) (z - sI B 17))) = 0
    · rw [zz] at e3 ⊢
      rcases (show A % 4 = 0 ∨ A % 4 = 1 ∨ A % 4 = 2 by omega) with q | q | q
      · rw [q] at e3 ⊢
        rw [if_pos (show nI 0 = (0 : Int32) from rfl)]
        obtain ⟨W, w1, w2⟩ := hal_H (n := n) e3 (by rw [if_pos q] at hw; exact hw)
        simp only [sB_R, nb_b2, nb_b1, w1]
        unfold df_X13_branch_91 df_X13_branch_111
        rw [if_neg (show ¬ nI 0 = (1 : Int32) by decide), if_neg (show ¬ (2 : Int32) ≤ nI 0 by decide)]
        rw [if_neg (show ¬ nI 0 = (1 : Int32) by decide), if_neg (show ¬ (2 : Int32) ≤ nI 0 by decide)]
        by_cases u : (w >>> ((12 : Int32) &&& 31)) &&& 7 = 0
        · rw [if_pos u]
          refine ⟨_, rfl, e2, ?_⟩
          rw [show brnL 0 w x y (z - sI B 17) = by2 (((1 ||| (if (w >>> ((12 : Int32) &&& 31)) &&& 7 = 0 then (6 : Int32) else 7) <<< ((13 : Int32) &&& 31)) ||| ((x - 8) &&& 7) <<< ((7 : Int32) &&& 31)) ||| plL (z - sI B 17)) from rfl, if_pos u]
          exact plo2 rfl (w2 _) rfl
        · rw [if_neg u]
          refine ⟨_, rfl, e2, ?_⟩
          rw [show brnL 0 w x y (z - sI B 17) = by2 (((1 ||| (if (w >>> ((12 : Int32) &&& 31)) &&& 7 = 0 then (6 : Int32) else 7) <<< ((13 : Int32) &&& 31)) ||| ((x - 8) &&& 7) <<< ((7 : Int32) &&& 31)) ||| plL (z - sI B 17)) from rfl, if_neg u]
          exact plo2 rfl (w2 _) rfl
      · rw [q] at e3 ⊢
        rw [if_neg (show ¬ nI 1 = (0 : Int32) by decide)]
        obtain ⟨W, w1, w2⟩ := wor_H (n := n) e3 (by rw [if_neg (by omega), if_pos q] at hw; exact hw)
        unfold df_X13_branch_91 df_X13_branch_111
        rw [if_pos (show nI 1 = (1 : Int32) from rfl)]
        simp only [tB_R, nb_b2, nb_b1, w1, if_neg (show ¬ (2 : Int32) ≤ nI 1 by decide)]
        refine ⟨_, rfl, e2, ?_⟩
        exact plo4 rfl (w2 _) rfl
      · rw [q] at e3 ⊢
        rw [if_neg (show ¬ nI 2 = (0 : Int32) by decide)]
        obtain ⟨W, w1, w2⟩ := wor_H (n := n) e3 (by rw [if_neg (by omega), if_neg (by omega)] at hw; exact OKW_m hw (by omega))
        unfold df_X13_branch_91 df_X13_branch_111
        rw [if_neg (show ¬ nI 2 = (1 : Int32) by decide), if_pos (show (2 : Int32) ≤ nI 2 by decide)]
        rw [tB_R, nb_b2, w1, nb_b1, jB_R, nb_b2]
        obtain ⟨S2, f1, f2⟩ := wor_S (n := n) (w2 (w ^^^ 4096 ||| (x <<< ((15 : Int32) &&& 31) ||| y <<< ((20 : Int32) &&& 31)) ||| plT 8)) (by rw [if_neg (by omega), if_neg (by omega)] at hw; exact hw) (111 ||| plJ (z - sI B 17 - 4))
        rw [f1, nb_b1]
        refine ⟨_, rfl, e2, fun _ => ?_, fun u => absurd rfl u⟩
        rw [show pt B (ct + 4) (pt B ct OU (by4 (w ^^^ 4096 ||| (x <<< ((15 : Int32) &&& 31) ||| y <<< ((20 : Int32) &&& 31)) ||| plT 8))) (by4 (111 ||| plJ (z - sI B 17 - 4))) = pt B ct OU (brnL 2 w x y (z - sI B 17)) from pt_a (by4 _) _] at f2
        exact f2
    · have fl := SR_FL e3 e4
      have m3 := m2_3 (wi_2 zz)
      have fin : ∀ (q : Int32) (T : St), FL e B (wiF B ms dv (lfO (hpO false (A % 4)) (offO (A % 4) (z - sI B 17)))) T → ∃ S' : St, df_X13_branch_91 n w (z - sI B 17) q (x <<< ((15 : Int32) &&& 31) ||| y <<< ((20 : Int32) &&& 31)) T = some S' ∧ FL e B (wiF B ms dv (lfO (hpO false (A % 4)) (offO (A % 4) (z - sI B 17)))) S' := fun q T hT => br_91F hT m3 w _ q _
      rcases (show nI (A % 4) = (0 : Int32) ∨ ¬ nI (A % 4) = (0 : Int32) from Classical.em _) with q | q
      · rw [if_pos q]
        obtain ⟨W, w1, w2⟩ := hal_G (n := n) fl m3
        simp only [sB_R, nb_b2, nb_b1, w1]
        split
        · obtain ⟨S', r1, r2⟩ := fin (nI (A % 4)) _ (w2 (((1 ||| (6 : Int32) <<< ((13 : Int32) &&& 31)) ||| ((x - 8) &&& 7) <<< ((7 : Int32) &&& 31)) ||| plL (z - sI B 17)))
          exact ⟨S', r1, e2, fun u => absurd u zz, fun _ => r2⟩
        · obtain ⟨S', r1, r2⟩ := fin (nI (A % 4)) _ (w2 (((1 ||| (7 : Int32) <<< ((13 : Int32) &&& 31)) ||| ((x - 8) &&& 7) <<< ((7 : Int32) &&& 31)) ||| plL (z - sI B 17)))
          exact ⟨S', r1, e2, fun u => absurd u zz, fun _ => r2⟩
      · rw [if_neg q]
        obtain ⟨S', r1, r2⟩ := fin (nI (A % 4)) _ fl
        exact ⟨S', r1, e2, fun u => absurd u zz, fun _ => r2⟩
  unfold df_X13_branch df_X13_branch_0 df_X13_branch_11
  split
  · exact key 3 1 (by omega)
  · exact key 2 0 (by omega)
/-- branch() as it is read: kd 2, level 0 for a test, else 3, level 1 -/
theorem brn_0 {n L e : Nat} {c : Nat → Nat} {BC B : St} {X : Nat → Nat} {nL st cu : Nat} (hV : RV n L e c BC B X nL cu) {ct : Nat} {gr : Bool} {PA BY OU : Nat → Int32} {p : Nat} {S : St} (h : SR B ct gr PA BY OU 0 p S) {se : Nat} (hP : PA cu = nI ((4 * se) * 2 ^ 17 + st)) (hA : se < 2) (hs : st < 2 ^ 17) (hm : sI B 15 = 0) {p2 m : Nat} {P : Nat → Tp} (R : RX n L e c BC p true p2 m P) (w x y : Int32) (te : Bool) : ∃ S' : St, df_X13_branch n w x y (bI te) S = some S' ∧ SR B (ct + if te = true then 2 else 4) false (upd PA cu (nI ((4 * se + if te = true then 16 else 25) * 2 ^ 17 + st))) BY OU 0 p2 S' := by
  have pt0 : ∀ bs : List Int32, pt B ct OU bs = OU := fun bs => if_neg (by rw [hm]; decide)
  have ok0 : ∀ k : Nat, OKW B k := fun k u => absurd (hm.symm.trans u) (by decide)
  cases te with
  | true =>
    obtain ⟨z, S1, e1, e3, e4⟩ := tgt_0 hV h hP (by omega) hs hm R 2 false (Or.inr ⟨rfl, Or.inl rfl⟩) 0 (by omega)
    have e1 : df_X13_target n 2 0 S = some (z, S1) := e1
    have ao : (4 * se ||| (8 * 2 + 0)) = 4 * se + 16 := by rcases (show se = 0 ∨ se = 1 by omega) with q | q <;> subst q <;> rfl
    rw [ao] at e3
    have lv := lev_S (n := n) e3 hV.2.2.2.2.2.1 hV.2.2.2.2.2.2.1 (A := 4 * se + 16) (st := st) up_e (by omega) hs
    rw [show (4 * se + 16) % 4 = 0 by omega] at lv
    obtain ⟨W, w1, w2⟩ := hal_H (n := n) e3 (ok0 _)
    have w2 : ∀ v : Int32, SR B (ct + 2) false (upd PA cu (nI ((4 * se + 16) * 2 ^ 17 + st))) BY OU 0 p2 (W v) := fun v => by
      have := w2 v
      rw [pt0] at this
      exact this
    rw [if_pos rfl, if_pos rfl]
    unfold df_X13_branch df_X13_branch_0 df_X13_branch_11 df_X13_branch_21 df_X13_branch_67
    rw [if_neg (show ¬ bI true = (0 : Int32) by decide), if_neg (show ¬ bI true = (0 : Int32) by decide), e1, nb_b2, lv, nb_b2, nb_let, if_pos (show nI 0 = (0 : Int32) from rfl)]
    simp only [sB_R, nb_b2, nb_b1, w1]
    have fin : ∀ T : St, df_X13_branch_91 n w z (nI 0) (x <<< ((15 : Int32) &&& 31) ||| y <<< ((20 : Int32) &&& 31)) T = some T := fun T => by
      unfold df_X13_branch_91 df_X13_branch_111
      rw [if_neg (show ¬ nI 0 = (1 : Int32) by decide), if_neg (show ¬ (2 : Int32) ≤ nI 0 by decide)]
    rw [fin, fin]
    split
    · exact ⟨_, rfl, w2 _⟩
    · exact ⟨_, rfl, w2 _⟩
  | false =>
    obtain ⟨z, S1, e1, e3, e4⟩ := tgt_0 hV h hP (by omega) hs hm R 3 false (Or.inr ⟨rfl, Or.inr rfl⟩) 1 (by omega)
    have e1 : df_X13_target n 3 1 S = some (z, S1) := e1
    have ao : (4 * se ||| (8 * 3 + 1)) = 4 * se + 25 := by rcases (show se = 0 ∨ se = 1 by omega) with q | q <;> subst q <;> rfl
    rw [ao] at e3
    have lv := lev_S (n := n) e3 hV.2.2.2.2.2.1 hV.2.2.2.2.2.2.1 (A := 4 * se + 25) (st := st) up_e (by omega) hs
    rw [show (4 * se + 25) % 4 = 1 by omega] at lv
    obtain ⟨W, w1, w2⟩ := wor_H (n := n) e3 (ok0 _)
    have w2 : ∀ v : Int32, SR B (ct + 4) false (upd PA cu (nI ((4 * se + 25) * 2 ^ 17 + st))) BY OU 0 p2 (W v) := fun v => by
      have := w2 v
      rw [pt0] at this
      exact this
    rw [if_neg (by decide), if_neg (by decide)]
    unfold df_X13_branch df_X13_branch_0 df_X13_branch_11 df_X13_branch_21
    rw [if_pos (show bI false = (0 : Int32) from rfl), if_pos (show bI false = (0 : Int32) from rfl), e1, nb_b2, lv, nb_b2, nb_let, if_neg (show ¬ nI 1 = (0 : Int32) by decide)]
    unfold df_X13_branch_91 df_X13_branch_111
    rw [if_pos (show nI 1 = (1 : Int32) from rfl)]
    simp only [tB_R, nb_b2, nb_b1, w1, if_neg (show ¬ (2 : Int32) ≤ nI 1 by decide)]
    exact ⟨_, rfl, w2 _⟩
theorem brn_f {n L e : Nat} {c : Nat → Nat} {BC B : St} {X : Nat → Nat} {nL st cu : Nat} (hV : RV n L e c BC B X nL cu) {ct : Nat} {gr : Bool} {PA BY OU : Nat → Int32} {p : Nat} {S : St} (h : SR B ct gr PA BY OU 0 p S) (hY : PY PA cu st) (hm : sI B 15 = 0) {p2 m : Nat} {P : Nat → Tp} (R : RX n L e c BC p false p2 m P) (w x y v3 : Int32) : ∃ S' : St, df_X13_branch n w x y v3 S = some S' ∧ FL e B (nI 1 + 16 * sI B 13) S' := by
  have m3 := m0_3 hm
  have key : ∀ kd ls : Int32, ∃ S' : St, df_X13_branch_21 n w x y kd ls S = some S' ∧ FL e B (nI 1 + 16 * sI B 13) S' := fun kd ls => by
    obtain ⟨z, S1, e1, fl⟩ := tgt_f hV h hY hm R kd ls
    obtain ⟨q, lv⟩ := FL_lev (n := n) fl hV.2.2.2.2.2.1 hV.2.2.2.2.2.2.1
    unfold df_X13_branch_21 df_X13_branch_67
    rw [e1, nb_b2, lv, nb_b2, nb_let]
    split
    · obtain ⟨W, w1, w2⟩ := hal_G (n := n) fl m3
      simp only [sB_R, nb_b2, nb_b1, w1]
      split
      · exact br_91F (w2 _) m3 w z q _
      · exact br_91F (w2 _) m3 w z q _
    · exact br_91F fl m3 w z q _
  unfold df_X13_branch df_X13_branch_0 df_X13_branch_11
  (repeat' split) <;> exact key _ _

/-- the end of an atomic one's name -/
def s3O (c : Nat → Nat) (z l : Nat) : Nat := if 3 < l ∧ c (z - 3) = 46 ∧ ((c (z - 2) = 97 ∧ c (z - 1) = 113) ∨ (c (z - 2) = 114 ∧ c (z - 1) = 108)) then 3 else 0
def sfO (c : Nat → Nat) (z l : Nat) : Nat := if 5 < l ∧ c (z - 5) = 46 ∧ c (z - 4) = 97 ∧ c (z - 3) = 113 ∧ c (z - 2) = 114 ∧ c (z - 1) = 108 then 5 else s3O c z l
def odO (c : Nat → Nat) (z l : Nat) : Int32 := if sfO c z l = 5 then 100663296 else if sfO c z l = 3 then (if c (z - 1) = 113 then 67108864 else 33554432) else 0
theorem sx_1 {α : Type} {S : St} {c : Nat → Nat} {q l : Nat} (h127 : ∀ i : Nat, c i < 127) (hl : q + l ≤ 32768) (h10 : sI S 10 = nI (q + l)) (hS : ∀ i : Nat, i < l → sR S 2 (q + i) = nI (c (q + i))) (d k : Nat) (hd : 1 ≤ d) (hdl : d ≤ l) (hk : k < 127) (x y : Option α) : nd_ck (sI S 10 - nI d) 32772 (if sR S 2 (sI S 10 - nI d).toNatClampNeg = nI k then x else y) = if c (q + l - d) = k then x else y := by
  have hh := h127 (q + l - d)
  rw [h10, pk_sub (by omega), nm_ck (by omega) (by omega), nI_clamp (by omega), show q + l - d = q + (l - d) by omega, hS _ (by omega)]
  rw [show q + l - d = q + (l - d) by omega] at hh
  by_cases z : c (q + (l - d)) = k
  · rw [if_pos (congrArg nI z), if_pos z]
  · rw [if_neg (zne z (by omega) (by omega)), if_neg z]
theorem suf_R (n : Nat) {S : St} {c : Nat → Nat} {q l : Nat} (h127 : ∀ i : Nat, c i < 127) (hl : q + l ≤ 32768) (h9 : sI S 9 = nI q) (h10 : sI S 10 = nI (q + l)) (hS : ∀ i : Nat, i < l → sR S 2 (q + i) = nI (c (q + i))) : df_X13_suffix n S = some (nI (sfO c (q + l) l), S) := by
  have sx := fun (d k : Nat) (a : 1 ≤ d) (b : d ≤ l) (e : k < 127) (x y : Option (Int32 × St)) => sx_1 h127 hl h10 hS d k a b e x y
  have le : ∀ k : Nat, k < 100 → (nI l ≤ nI k ↔ l ≤ k) := fun k hk => nI_leI (by omega) (by omega)
  have z97 : df_X13_suffix_97 n (nI l) S = some (nI (s3O c (q + l) l), S) := by
    unfold df_X13_suffix_97 df_X13_suffix_138 df_X13_suffix_139 df_X13_suffix_181 df_X13_suffix_182 df_X13_suffix_191 df_X13_suffix_211 df_X13_suffix_212 s3O
    by_cases y : l ≤ 3
    · rw [if_pos (show nI l ≤ (3 : Int32) from (le 3 (by omega)).mpr y), if_pos (show nI l ≤ (3 : Int32) from (le 3 (by omega)).mpr y), if_pos rfl, if_pos rfl, if_neg (by omega)]
      rfl
    · have ny : ¬ nI l ≤ (3 : Int32) := fun z => y ((le 3 (by omega)).mp z)
      have y3 : 3 < l := by omega
      rw [if_neg ny, if_neg ny, if_neg ny]
      rw [show ∀ x y : Option (Int32 × St), nd_ck (sI S 10 - 2) 32772 (if sR S 2 (sI S 10 - 2).toNatClampNeg = 97 then x else y) = if c (q + l - 2) = 97 then x else y from fun x y => sx 2 97 (by omega) (by omega) (by omega) x y]
      rw [show ∀ x y : Option (Int32 × St), nd_ck (sI S 10 - 1) 32772 (if sR S 2 (sI S 10 - 1).toNatClampNeg = 113 then x else y) = if c (q + l - 1) = 113 then x else y from fun x y => sx 1 113 (by omega) (by omega) (by omega) x y]
      simp only [show ∀ x y : Option (Int32 × St), nd_ck (sI S 10 - 2) 32772 (if sR S 2 (sI S 10 - 2).toNatClampNeg = 114 then x else y) = if c (q + l - 2) = 114 then x else y from fun x y => sx 2 114 (by omega) (by omega) (by omega) x y, show ∀ x y : Option (Int32 × St), nd_ck (sI S 10 - 1) 32772 (if sR S 2 (sI S 10 - 1).toNatClampNeg = 108 then x else y) = if c (q + l - 1) = 108 then x else y from fun x y => sx 1 108 (by omega) (by omega) (by omega) x y, show ∀ x y : Option (Int32 × St), nd_ck (sI S 10 - 3) 32772 (if sR S 2 (sI S 10 - 3).toNatClampNeg = 46 then x else y) = if c (q + l - 3) = 46 then x else y from fun x y => sx 3 46 (by omega) (by omega) (by omega) x y]
      have o1 : ((1 : Int32) = 0) = False := eq_false (by decide)
      generalize c (q + l - 1) = c1
      generalize c (q + l - 2) = c2
      generalize c (q + l - 3) = c3
      by_cases a1 : c2 = 97
      · subst a1
        by_cases a2 : c1 = 113
        · subst a2
          by_cases a3 : c3 = 46
          · simp [o1, y3, a3, nI]
          · simp [o1, y3, a3, nI]
        · by_cases a3 : c3 = 46
          · simp [o1, y3, a3, a2, nI]
          · simp [o1, y3, a3, a2, nI]
      · by_cases a4 : c2 = 114
        · subst a4
          by_cases a2 : c1 = 108
          · subst a2
            by_cases a3 : c3 = 46
            · simp [o1, y3, a3, nI]
            · simp [o1, y3, a3, nI]
          · by_cases a3 : c3 = 46
            · simp [o1, y3, a3, a2, nI]
            · simp [o1, y3, a3, a2, nI]
        · by_cases a3 : c3 = 46
          · simp [o1, y3, a3, a1, a4, nI]
          · simp [o1, y3, a3, a1, a4, nI]
  unfold df_X13_suffix df_X13_suffix_0 sfO
  rw [h9, h10, show nI (q + l) - nI q = nI l from (pk_sub (by omega)).trans (congrArg nI (by omega)), nb_let]
  rw [← h10]
  by_cases y : l ≤ 5
  · rw [if_pos (show nI l ≤ (5 : Int32) from (le 5 (by omega)).mpr y), if_neg (by omega), z97]
  · rw [if_neg (show ¬ nI l ≤ (5 : Int32) from fun z => y ((le 5 (by omega)).mp z)), z97]
    rw [show ∀ x y : Option (Int32 × St), nd_ck (sI S 10 - 5) 32772 (if sR S 2 (sI S 10 - 5).toNatClampNeg = 46 then x else y) = if c (q + l - 5) = 46 then x else y from fun x y => sx 5 46 (by omega) (by omega) (by omega) x y]
    rw [show ∀ x y : Option (Int32 × St), nd_ck (sI S 10 - 4) 32772 (if sR S 2 (sI S 10 - 4).toNatClampNeg = 97 then x else y) = if c (q + l - 4) = 97 then x else y from fun x y => sx 4 97 (by omega) (by omega) (by omega) x y]
    rw [show ∀ x y : Option (Int32 × St), nd_ck (sI S 10 - 3) 32772 (if sR S 2 (sI S 10 - 3).toNatClampNeg = 113 then x else y) = if c (q + l - 3) = 113 then x else y from fun x y => sx 3 113 (by omega) (by omega) (by omega) x y]
    rw [show ∀ x y : Option (Int32 × St), nd_ck (sI S 10 - 2) 32772 (if sR S 2 (sI S 10 - 2).toNatClampNeg = 114 then x else y) = if c (q + l - 2) = 114 then x else y from fun x y => sx 2 114 (by omega) (by omega) (by omega) x y]
    rw [show ∀ x y : Option (Int32 × St), nd_ck (sI S 10 - 1) 32772 (if sR S 2 (sI S 10 - 1).toNatClampNeg = 108 then x else y) = if c (q + l - 1) = 108 then x else y from fun x y => sx 1 108 (by omega) (by omega) (by omega) x y]
    have y5 : 5 < l := by omega
    by_cases a5 : c (q + l - 5) = 46
    · by_cases a4 : c (q + l - 4) = 97
      · by_cases a3 : c (q + l - 3) = 113
        · by_cases a2 : c (q + l - 2) = 114
          · by_cases a1 : c (q + l - 1) = 108
            · rw [if_pos a5, if_pos a4, if_pos a3, if_pos a2, if_pos a1, if_pos ⟨y5, a5, a4, a3, a2, a1⟩]; rfl
            · rw [if_pos a5, if_pos a4, if_pos a3, if_pos a2, if_neg a1, if_neg (fun z => a1 z.2.2.2.2.2)]
          · rw [if_pos a5, if_pos a4, if_pos a3, if_neg a2, if_neg (fun z => a2 z.2.2.2.2.1)]
        · rw [if_pos a5, if_pos a4, if_neg a3, if_neg (fun z => a3 z.2.2.2.1)]
      · rw [if_pos a5, if_neg a4, if_neg (fun z => a4 z.2.2.1)]
    · rw [if_neg a5, if_neg (fun z => a5 z.2.1)]
/-- the same in the class -/
theorem wq_3 {k q x y z : Nat} {c : Nat → Nat} {R : Nat → Int32} (h127 : ∀ i : Nat, c i < 127) (hR : ∀ i : Nat, i < 3 → R (q + i) = nI (c (q + i))) (hk : ks_n k = 3) (b0 : ks_b k 0 = nI x) (b1 : ks_b k 1 = nI y) (b2 : ks_b k 2 = nI z) (hx : x < 127) (hy : y < 127) (hz : z < 127) : wq k q 3 R ↔ c q = x ∧ c (q + 1) = y ∧ c (q + 2) = z := by
  have q0 := h127 q
  have q1 := h127 (q + 1)
  have q2 := h127 (q + 2)
  constructor
  · intro h
    have e0 := (hR 0 (by omega)).symm.trans ((h.2 0 (by omega)).trans b0)
    have e1 := (hR 1 (by omega)).symm.trans ((h.2 1 (by omega)).trans b1)
    have e2 := (hR 2 (by omega)).symm.trans ((h.2 2 (by omega)).trans b2)
    rw [Nat.add_zero, nI_eq (by omega) (by omega)] at e0
    rw [nI_eq (by omega) (by omega)] at e1 e2
    exact ⟨e0, e1, e2⟩
  · intro h
    refine ⟨hk, fun i hi => ?_⟩
    rw [hR i hi]
    rcases (show i = 0 ∨ i = 1 ∨ i = 2 by omega) with w | w | w <;> subst w
    · rw [b0, Nat.add_zero, h.1]
    · rw [b1, h.2.1]
    · rw [b2, h.2.2]
theorem wq_5 {q : Nat} {c : Nat → Nat} {R : Nat → Int32} (h127 : ∀ i : Nat, c i < 127) (hR : ∀ i : Nat, i < 5 → R (q + i) = nI (c (q + i))) : wq 6 q 5 R ↔ c q = 46 ∧ c (q + 1) = 97 ∧ c (q + 2) = 113 ∧ c (q + 3) = 114 ∧ c (q + 4) = 108 := by
  have q0 := h127 q
  have q1 := h127 (q + 1)
  have q2 := h127 (q + 2)
  have q3 := h127 (q + 3)
  have q4 := h127 (q + 4)
  constructor
  · intro h
    have e0 := (hR 0 (by omega)).symm.trans ((h.2 0 (by omega)).trans (show ks_b 6 0 = nI 46 from rfl))
    have e1 := (hR 1 (by omega)).symm.trans ((h.2 1 (by omega)).trans (show ks_b 6 1 = nI 97 from rfl))
    have e2 := (hR 2 (by omega)).symm.trans ((h.2 2 (by omega)).trans (show ks_b 6 2 = nI 113 from rfl))
    have e3 := (hR 3 (by omega)).symm.trans ((h.2 3 (by omega)).trans (show ks_b 6 3 = nI 114 from rfl))
    have e4 := (hR 4 (by omega)).symm.trans ((h.2 4 (by omega)).trans (show ks_b 6 4 = nI 108 from rfl))
    rw [Nat.add_zero, nI_eq (by omega) (by omega)] at e0
    rw [nI_eq (by omega) (by omega)] at e1 e2 e3 e4
    exact ⟨e0, e1, e2, e3, e4⟩
  · intro h
    refine ⟨rfl, fun i hi => ?_⟩
    rw [hR i hi]
    rcases (show i = 0 ∨ i = 1 ∨ i = 2 ∨ i = 3 ∨ i = 4 by omega) with w | w | w | w | w <;> subst w
    · rw [Nat.add_zero, h.1]; rfl
    · rw [h.2.1]; rfl
    · rw [h.2.2.1]; rfl
    · rw [h.2.2.2.1]; rfl
    · rw [h.2.2.2.2]; rfl
theorem od_e (c : Nat → Nat) (z l : Nat) : odO c z l = if 5 < l ∧ c (z - 5) = 46 ∧ c (z - 4) = 97 ∧ c (z - 3) = 113 ∧ c (z - 2) = 114 ∧ c (z - 1) = 108 then 100663296 else if s3O c z l = 3 then (if c (z - 1) = 113 then 67108864 else 33554432) else 0 := by
  have s3 : s3O c z l = 3 ∨ s3O c z l = 0 := by
    unfold s3O
    split
    · exact Or.inl rfl
    · exact Or.inr rfl
  unfold odO
  by_cases y : 5 < l ∧ c (z - 5) = 46 ∧ c (z - 4) = 97 ∧ c (z - 3) = 113 ∧ c (z - 2) = 114 ∧ c (z - 1) = 108
  · rw [show sfO c z l = 5 from if_pos y, if_pos rfl, if_pos y]
  · have e : sfO c z l = s3O c z l := if_neg y
    have n5 : ¬ s3O c z l = 5 := by omega
    rw [e, if_neg n5, if_neg y]
theorem ord_C (n : Nat) {B : St} {c : Nat → Nat} {q l : Nat} (hn : 100 < n) (h127 : ∀ i : Nat, c i < 127) (hl : q + l ≤ 32768) (hS : ∀ i : Nat, i < l → sR B 0 (q + i) = nI (c (q + i))) : df_X7_order n (nI q) (nI l) B = some (odO c (q + l) l, B) := by
  have le : ∀ k : Nat, k < 100 → (nI l ≤ nI k ↔ l ≤ k) := fun k hk => nI_leI (by omega) (by omega)
  have z50 : 3 < l → ¬ (c (q + l - 3) = 46 ∧ c (q + l - 2) = 97 ∧ c (q + l - 1) = 113) → df_X7_order_50 n (nI q) (nI l) B = some (if c (q + l - 3) = 46 ∧ c (q + l - 2) = 114 ∧ c (q + l - 1) = 108 then 33554432 else 0, B) := fun y _ => by
    unfold df_X7_order_50 df_X7_order_77 df_X7_order_78
    have w := wq_3 (k := 5) (q := q + l - 3) (x := 46) (y := 114) (z := 108) (R := sR B 0) h127 (fun i hi => by rw [show q + l - 3 + i = q + (l - 3 + i) by omega]; exact hS _ (by omega)) rfl rfl rfl rfl (by omega) (by omega) (by omega)
    rw [show q + l - 3 + 1 = q + l - 2 by omega, show q + l - 3 + 2 = q + l - 1 by omega] at w
    rw [if_neg (show ¬ nI l ≤ (3 : Int32) from fun z => absurd ((le 3 (by omega)).mp z) (by omega)), nI_add, show nI (q + l) - (3 : Int32) = nI (q + l - 3) from pk_sub (b := 3) (by omega)]
    by_cases u : wq 5 (q + l - 3) 3 (sR B 0)
    · rw [show df_X7_stands n 5 (nI (q + l - 3)) 3 B = some (nI 1, B) from sn_y n 5 (q + l - 3) 3 (by omega) (by omega) (by omega) u, nb_b2, if_neg (by decide), if_pos (w.mp u)]
    · rw [show df_X7_stands n 5 (nI (q + l - 3)) 3 B = some (nI 0, B) from sn_n n 5 (q + l - 3) 3 (by omega) (by omega) (by omega) u, nb_b2, if_pos (show nI 0 = (0 : Int32) from rfl), if_neg (fun z => u (w.mpr z))]
  have z25 : df_X7_order_25 n (nI q) (nI l) B = some (if s3O c (q + l) l = 3 then (if c (q + l - 1) = 113 then 67108864 else 33554432) else 0, B) := by
    unfold df_X7_order_25
    by_cases y : l ≤ 3
    · rw [if_pos (show nI l ≤ (3 : Int32) from (le 3 (by omega)).mpr y)]
      unfold df_X7_order_50 df_X7_order_77 df_X7_order_78 s3O
      rw [if_pos (show nI l ≤ (3 : Int32) from (le 3 (by omega)).mpr y), if_neg (show ¬ (3 < l ∧ _) from fun z => absurd z.1 (by omega)), if_neg (by decide)]
    · rw [if_neg (show ¬ nI l ≤ (3 : Int32) from fun z => absurd ((le 3 (by omega)).mp z) y)]
      have w := wq_3 (k := 4) (q := q + l - 3) (x := 46) (y := 97) (z := 113) (R := sR B 0) h127 (fun i hi => by rw [show q + l - 3 + i = q + (l - 3 + i) by omega]; exact hS _ (by omega)) rfl rfl rfl rfl (by omega) (by omega) (by omega)
      rw [show q + l - 3 + 1 = q + l - 2 by omega, show q + l - 3 + 2 = q + l - 1 by omega] at w
      rw [nI_add, show nI (q + l) - (3 : Int32) = nI (q + l - 3) from pk_sub (b := 3) (by omega)]
      by_cases u : wq 4 (q + l - 3) 3 (sR B 0)
      · obtain ⟨u1, u2, u3⟩ := w.mp u
        rw [show df_X7_stands n 4 (nI (q + l - 3)) 3 B = some (nI 1, B) from sn_y n 4 (q + l - 3) 3 (by omega) (by omega) (by omega) u, nb_b2, if_neg (by decide), show s3O c (q + l) l = 3 from if_pos ⟨by omega, u1, Or.inl ⟨u2, u3⟩⟩, if_pos rfl, if_pos u3]
      · have nu := fun z => u (w.mpr z)
        rw [show df_X7_stands n 4 (nI (q + l - 3)) 3 B = some (nI 0, B) from sn_n n 4 (q + l - 3) 3 (by omega) (by omega) (by omega) u, nb_b2, if_pos (show nI 0 = (0 : Int32) from rfl), z50 (by omega) nu]
        by_cases v : c (q + l - 3) = 46 ∧ c (q + l - 2) = 114 ∧ c (q + l - 1) = 108
        · rw [if_pos v, show s3O c (q + l) l = 3 from if_pos ⟨by omega, v.1, Or.inr v.2⟩, if_pos rfl, if_neg (by omega)]
        · have s0 : s3O c (q + l) l = 0 := if_neg (fun z => by
            rcases z.2.2 with k | k
            · exact nu ⟨z.2.1, k⟩
            · exact v ⟨z.2.1, k⟩)
          rw [if_neg v, s0, if_neg (by decide)]
  have e0 : df_X7_order n (nI q) (nI l) B = some (if 5 < l ∧ c (q + l - 5) = 46 ∧ c (q + l - 4) = 97 ∧ c (q + l - 3) = 113 ∧ c (q + l - 2) = 114 ∧ c (q + l - 1) = 108 then 100663296 else if s3O c (q + l) l = 3 then (if c (q + l - 1) = 113 then 67108864 else 33554432) else 0, B) := by
    unfold df_X7_order df_X7_order_0
    by_cases y : l ≤ 5
    · rw [if_pos (show nI l ≤ (5 : Int32) from (le 5 (by omega)).mpr y), z25, if_neg (show ¬ (5 < l ∧ _) from fun z => absurd z.1 (by omega))]
    · rw [if_neg (show ¬ nI l ≤ (5 : Int32) from fun z => absurd ((le 5 (by omega)).mp z) y)]
      have w := wq_5 (q := q + l - 5) (R := sR B 0) h127 (fun i hi => by rw [show q + l - 5 + i = q + (l - 5 + i) by omega]; exact hS _ (by omega))
      rw [show q + l - 5 + 1 = q + l - 4 by omega, show q + l - 5 + 2 = q + l - 3 by omega, show q + l - 5 + 3 = q + l - 2 by omega, show q + l - 5 + 4 = q + l - 1 by omega] at w
      rw [nI_add, show nI (q + l) - (5 : Int32) = nI (q + l - 5) from pk_sub (b := 5) (by omega)]
      by_cases u : wq 6 (q + l - 5) 5 (sR B 0)
      · rw [show df_X7_stands n 6 (nI (q + l - 5)) 5 B = some (nI 1, B) from sn_y n 6 (q + l - 5) 5 (by omega) (by omega) (by omega) u, nb_b2, if_neg (by decide), if_pos ⟨by omega, w.mp u⟩]
      · rw [show df_X7_stands n 6 (nI (q + l - 5)) 5 B = some (nI 0, B) from sn_n n 6 (q + l - 5) 5 (by omega) (by omega) (by omega) u, nb_b2, if_pos (show nI 0 = (0 : Int32) from rfl), z25, if_neg (show ¬ (5 < l ∧ c (q + l - 5) = 46 ∧ c (q + l - 4) = 97 ∧ c (q + l - 3) = 113 ∧ c (q + l - 2) = 114 ∧ c (q + l - 1) = 108) from fun z => u (w.mpr z.2))]
  rw [e0, od_e]

/-- the name of a statement, in both -/
def hdR (n : Nat) (s5 : St) : Option St := nd_b2 (df_X13_suffix n  s5) (fun (q7 : Int32) (s8 : St) => nd_b2 (df_X13_named n ((sI s8 9)) ((sI s8 10)) s8) (fun (q10 : Int32) (s11 : St) => if 0 ≤ q10 then (df_X13_statement_136 n (q10) (0) s11) else (if q7 ≤ 0 then (df_X13_statement_136 n (q10) (0) s11) else (nd_b2 (df_X13_named n ((sI s11 9)) (((sI s11 10) - q7)) s11) (fun (q63 : Int32) (s64 : St) => if q7 = 5 then (df_X13_statement_102 n (q63) (100663296) s64) else (nd_ck (((sI s64 10) - 1)) 32772 (if ((sR s64 2 (Int32.toNatClampNeg ((sI s64 10) - 1))) : Int32) = 113 then (df_X13_statement_102 n (q63) (67108864) s64) else (df_X13_statement_102 n (q63) (33554432) s64))))))))
theorem stm_0 (n : Nat) (v0 v1 : Int32) (s0 : St) : df_X13_statement n v0 v1 s0 = nd_b1 (df_X13_scan n (pI (pI (pI s0 15 v1) 7 v0) 18 0)) (fun (s5 : St) => hdR n s5) := rfl
/-- the rows of names in the reference -/
def cstS (S : St) : Prop := ∀ k : Nat, k < 128 → sQ S 0 k = nmT k ∧ sR S 0 k = shT k ∧ sR S 1 k = ptT k
theorem atm : ∀ y : Fin 128, ((ko_b y.1 &&& 127 = 47 ∧ ko_s y.1 = 1) ↔ (shT (sgm y.1) = 9 ∨ shT (sgm y.1) = 10)) := by decide +kernel
theorem sgm_l {y : Nat} (h : y < 128) : sgm y < 128 := (sgm_1 ⟨y, h⟩).2.2.1
def odK (od : Int32) : Prop := od = 0 ∨ od = 33554432 ∨ od = 67108864 ∨ od = 100663296
theorem od_4 (c : Nat → Nat) (z l : Nat) : odK (odO c z l) ∧ (odO c z l = 0 ↔ sfO c z l = 0) ∧ (sfO c z l = 5 → odO c z l = 100663296) ∧ (sfO c z l = 3 → odO c z l = if c (z - 1) = 113 then 67108864 else 33554432) ∧ (sfO c z l = 0 ∨ (sfO c z l = 3 ∧ 3 < l) ∨ (sfO c z l = 5 ∧ 5 < l)) := by
  have s : sfO c z l = 0 ∨ (sfO c z l = 3 ∧ 3 < l) ∨ (sfO c z l = 5 ∧ 5 < l) := by
    unfold sfO s3O
    split
    · rename_i h; exact Or.inr (Or.inr ⟨rfl, h.1⟩)
    · split
      · rename_i h; exact Or.inr (Or.inl ⟨rfl, h.1⟩)
      · exact Or.inl rfl
  unfold odO odK
  rcases s with s | s | s
  · rw [s, if_neg (by decide), if_neg (by decide)]
    exact ⟨Or.inl rfl, ⟨fun _ => rfl, fun _ => rfl⟩, fun u => absurd u (by decide), fun u => absurd u (by decide), Or.inl rfl⟩
  · rw [s.1, if_neg (by decide), if_pos rfl]
    refine ⟨?_, ?_, fun u => absurd u (by decide), fun _ => rfl, Or.inr (Or.inl ⟨rfl, s.2⟩)⟩
    · split
      · exact Or.inr (Or.inr (Or.inl rfl))
      · exact Or.inr (Or.inl rfl)
    · split <;> decide
  · rw [s.1, if_pos rfl]
    exact ⟨Or.inr (Or.inr (Or.inr rfl)), by decide, fun _ => rfl, fun u => absurd u (by decide), Or.inr (Or.inr ⟨rfl, s.2⟩)⟩
/-- what the class finds -/
def clN (n q l : Nat) (s2 : St) (y : Nat) (od : Int32) : Prop := ∀ s1 : St, df_X1_statementNamed n (nI q) (nI l) (-1) (s1, s2) = some (some y, (pI s1 5 od, s2))
def clZ (n q l : Nat) (s2 : St) : Prop := ∀ s1 : St, sI s1 2 = 0 → ∃ od : Int32, df_X1_statementNamed n (nI q) (nI l) (-1) (s1, s2) = some (none, (pI (pI s1 5 od) 2 2, s2))
theorem nme_1 {n L : Nat} {c : Nat → Nat} (hn : 70000 < n) (hL : L ≤ 32768) (h127 : ∀ i : Nat, c i < 127) (q l : Nat) (hl : 1 ≤ l) (hq : q + l ≤ L) (hP : ∀ i : Nat, i < l → aP (c (q + i)) = true) {s2 : St} (hO : sO s2 0 = some 8) (hC : ∀ i : Nat, i < L → sR s2 7 i = nI (c i)) : (∃ (y : Nat) (od : Int32), y < 128 ∧ odK od ∧ (¬ od = 0 → shT (sgm y) = 9 ∨ shT (sgm y) = 10) ∧ clN n q l s2 y od ∧ (∃ l2 : Nat, l2 ≤ l ∧ ks_n (ko_w y) = l2) ∧ ∀ S : St, cstS S → (∀ i : Nat, i < L → sR S 2 i = nI (c i)) → sI S 9 = nI q → sI S 10 = nI (q + l) → hdR n S = df_X13_statement_136 n (nI (sgm y)) od S) ∨ (clZ n q l s2 ∧ ∀ S : St, cstS S → (∀ i : Nat, i < L → sR S 2 i = nI (c i)) → sI S 9 = nI q → sI S 10 = nI (q + l) → ∃ od : Int32, hdR n S = df_X13_statement_136 n (-1) od S) := by
  have o8' : ∀ {α : Type} (x : Option α), nd_o (sO s2 0) 8 x = x := fun x => o8S hO
  have st0 : pR s2 7 (sR (pR nd_st0 0 (sR s2 7)) 0) = s2 := nm_r0 s2 7
  have hR : ∀ i : Nat, i < L → sR (pR nd_st0 0 (sR s2 7)) 0 i = nI (c i) := hC
  have cn : ∀ k : Nat, k ≤ l → df_X7_named n (nI q) (nI k) (pR nd_st0 0 (sR s2 7)) = some (if fN (opA q k (sR s2 7)) 0 128 < 128 then some (fN (opA q k (sR s2 7)) 0 128) else none, pR nd_st0 0 (sR s2 7)) := fun k hk => cn_1 n q k (by omega) (by omega) (by omega)
  have rn : ∀ (k : Nat) (S : St), k ≤ l → cstS S → (∀ i : Nat, i < L → sR S 2 i = nI (c i)) → df_X13_named n (nI q) (nI (q + k)) S = some (if fN (opB (pkO c q k)) 0 128 < 128 then nI (fN (opB (pkO c q k)) 0 128) else -1, S) := fun k S hk h1 h2 => rn_1 n q k (by omega) h127 (by omega) (fun i hi => ⟨hP i (by omega), h2 _ (by omega)⟩) (fun j hj => (h1 j hj).1)
  have nm2 := fun (k : Nat) (hk : k ≤ l) => nam_2 (c := c) q k (R := sR s2 7) h127 (fun i hi => hC _ (by omega))
  obtain ⟨d1, d2, d3, d4, d5⟩ := od_4 c (q + l) l
  have oc := ord_C n (B := pR nd_st0 0 (sR s2 7)) (q := q) (l := l) (by omega) h127 (by omega) (fun i hi => hC _ (by omega))
  have len : ∀ k : Nat, fN (opA q k (sR s2 7)) 0 128 < 128 → ks_n (ko_w (fN (opA q k (sR s2 7)) 0 128)) = k := fun k hk => by
    have := (fN_le (opA q k (sR s2 7)) 128 0).2.2.1 (by omega)
    exact (opA_t.mp this).1
  by_cases y0 : fN (opA q l (sR s2 7)) 0 128 < 128
  · refine Or.inl ⟨fN (opA q l (sR s2 7)) 0 128, 0, y0, Or.inl rfl, fun u => absurd rfl u, fun s1 => ?_, ⟨l, Nat.le_refl l, len l y0⟩, fun S c1 c2 c3 c4 => ?_⟩
    · unfold df_X1_statementNamed df_X1_statementNamed_0 df_X1_statementNamed_130
      rw [if_pos (show (-1 : Int32) < 0 by decide), nb_let, o8', cn l (Nat.le_refl l), nb_b2, st0, nb_let, if_pos y0, nb_mS, nb_mS]
    · have sg := (nm2 l (Nat.le_refl l)).1 y0
      have sl := sgm_l y0
      unfold hdR
      rw [suf_R n h127 (by omega) c3 c4 (fun i hi => c2 _ (by omega)), nb_b2, c3, c4, rn l S (Nat.le_refl l) c1 c2, nb_b2, sg, if_pos sl, if_pos (show (0 : Int32) ≤ nI (sgm _) from zle (a := 0) (Nat.zero_le _) (by omega))]
  · have r0 := (nm2 l (Nat.le_refl l)).2 y0
    -- the class: no such name, its end
    have cl0 : ∀ s1 : St, df_X1_statementNamed n (nI q) (nI l) (-1) (s1, s2) = (if odO c (q + l) l = 100663296 then df_X1_statementNamed_65 n (nI q) (nI l) 5 (pI s1 5 (odO c (q + l) l), s2) else df_X1_statementNamed_65 n (nI q) (nI l) 3 (pI s1 5 (odO c (q + l) l), s2)) := fun s1 => by
      unfold df_X1_statementNamed df_X1_statementNamed_0
      rw [if_pos (show (-1 : Int32) < 0 by decide), nb_let, o8', cn l (Nat.le_refl l), nb_b2, st0, nb_let, if_neg y0, nb_mN, o8', oc, nb_b2, st0, nb_let, nm_ii, nb_let]
      rfl
    have z65 : ∀ (s1 : St) (e : Int32), df_X1_statementNamed_65 n (nI q) (nI l) e (pI s1 5 0, s2) = df_X1_statementNamed_93 n none (pI s1 5 0, s2) := fun s1 e => by
      unfold df_X1_statementNamed_65
      rw [if_pos (show sI (pI s1 5 0, s2).1 5 = 0 from rfl)]
    have z93 : ∀ s1 : St, sI s1 2 = 0 → df_X1_statementNamed_93 n none (s1, s2) = some (none, (pI s1 2 2, s2)) := fun s1 h => by
      unfold df_X1_statementNamed_93 df_X1_statementNamed_122 df_X1_statementNamed_130
      rw [nb_mN, bl_X1 2 h, nb_b1, nb_mN]
    rcases d5 with s | s
    · have o0 := d2.mpr s
      refine Or.inr ⟨fun s1 h => ⟨0, ?_⟩, fun S c1 c2 c3 c4 => ⟨0, ?_⟩⟩
      · rw [cl0, o0, if_neg (by decide), z65, z93 (pI s1 5 0) h]
      · unfold hdR
        rw [suf_R n h127 (by omega) c3 c4 (fun i hi => c2 _ (by omega)), nb_b2, c3, c4, rn l S (Nat.le_refl l) c1 c2, nb_b2, r0, if_neg (Nat.lt_irrefl 128), if_neg (show ¬ (0 : Int32) ≤ -1 by decide), s, if_pos (show nI 0 ≤ (0 : Int32) by decide)]
    · obtain ⟨t, ht1, ht2, ht3⟩ : ∃ t : Nat, sfO c (q + l) l = t ∧ (t = 3 ∨ t = 5) ∧ t < l := ⟨sfO c (q + l) l, rfl, by omega, by omega⟩
      have on : ¬ odO c (q + l) l = 0 := fun u => by have := d2.mp u; omega
      have cl1 : ∀ s1 : St, df_X1_statementNamed n (nI q) (nI l) (-1) (s1, s2) = nd_m (if fN (opA q (l - t) (sR s2 7)) 0 128 < 128 then some (fN (opA q (l - t) (sR s2 7)) 0 128) else none) (df_X1_statementNamed_93 n none (pI s1 5 (odO c (q + l) l), s2)) (fun (j22 : Nat) => df_X1_statementNamed_93 n (some j22) (pI s1 5 (odO c (q + l) l), s2)) := fun s1 => by
        have k65 : ∀ e : Nat, e = t → df_X1_statementNamed_65 n (nI q) (nI l) (nI e) (pI s1 5 (odO c (q + l) l), s2) = nd_m (if fN (opA q (l - t) (sR s2 7)) 0 128 < 128 then some (fN (opA q (l - t) (sR s2 7)) 0 128) else none) (df_X1_statementNamed_93 n none (pI s1 5 (odO c (q + l) l), s2)) (fun (j22 : Nat) => df_X1_statementNamed_93 n (some j22) (pI s1 5 (odO c (q + l) l), s2)) := fun e he => by
          subst he
          unfold df_X1_statementNamed_65
          rw [if_neg (show ¬ sI (pI s1 5 (odO c (q + l) l), s2).1 5 = 0 from on), o8', pk_sub (by omega), cn (l - e) (by omega), nb_b2, st0, nb_let]
        rw [cl0]
        rcases s with s | s
        · have o3 := d4 s.1
          rw [if_neg (by rw [o3]; split <;> decide)]
          exact k65 3 (by omega)
        · rw [if_pos (d3 s.1)]
          exact k65 5 (by omega)
      have rf : ∀ S : St, cstS S → (∀ i : Nat, i < L → sR S 2 i = nI (c i)) → sI S 9 = nI q → sI S 10 = nI (q + l) → hdR n S = df_X13_statement_102 n (if fN (opB (pkO c q (l - t))) 0 128 < 128 then nI (fN (opB (pkO c q (l - t))) 0 128) else -1) (odO c (q + l) l) S := fun S c1 c2 c3 c4 => by
        unfold hdR
        rw [suf_R n h127 (by omega) c3 c4 (fun i hi => c2 _ (by omega)), nb_b2, c3, c4, rn l S (Nat.le_refl l) c1 c2, nb_b2, r0, if_neg (Nat.lt_irrefl 128), if_neg (show ¬ (0 : Int32) ≤ -1 by decide), ht1, if_neg (show ¬ nI t ≤ (0 : Int32) from znle (b := 0) (by omega) (by omega)), c3, c4, show nI (q + l) - nI t = nI (q + (l - t)) from (pk_sub (by omega)).trans (congrArg nI (by omega)), rn (l - t) S (by omega) c1 c2, nb_b2]
        rcases s with s | s
        · have h1 := h127 (q + (l - 1))
          rw [if_neg (show ¬ nI t = (5 : Int32) from zne (b := 5) (by omega) (by omega) (by omega)), c4, show nI (q + l) - (1 : Int32) = nI (q + (l - 1)) from (pk_sub (b := 1) (by omega)).trans (congrArg nI (by omega)), nm_ck (by omega) (by omega), nI_clamp (by omega), c2 _ (by omega), d4 s.1, show q + l - 1 = q + (l - 1) by omega]
          by_cases w : c (q + (l - 1)) = 113
          · rw [if_pos (show nI (c (q + (l - 1))) = (113 : Int32) from congrArg nI w), if_pos w]
          · rw [if_neg (show ¬ nI (c (q + (l - 1))) = (113 : Int32) from zne (b := 113) w (by omega) (by omega)), if_neg w]
        · rw [if_pos (show nI t = (5 : Int32) from congrArg nI (show t = 5 by omega)), d3 s.1]
      by_cases y1 : fN (opA q (l - t) (sR s2 7)) 0 128 < 128
      · have sg := (nm2 (l - t) (by omega)).1 y1
        have sl := sgm_l y1
        have le1 := len (l - t) y1
        generalize hy : fN (opA q (l - t) (sR s2 7)) 0 128 = y at *
        have am := atm ⟨y, y1⟩
        have am : (ko_b y &&& 127 = 47 ∧ ko_s y = 1) ↔ (shT (sgm y) = 9 ∨ shT (sgm y) = 10) := am
        have r102 : ∀ S : St, cstS S → df_X13_statement_102 n (nI (sgm y)) (odO c (q + l) l) S = if shT (sgm y) = 9 ∨ shT (sgm y) = 10 then df_X13_statement_136 n (nI (sgm y)) (odO c (q + l) l) S else df_X13_statement_136 n (-1) (odO c (q + l) l) S := fun S c1 => by
          unfold df_X13_statement_102
          rw [if_neg (show ¬ nI (sgm y) < (0 : Int32) from znl (b := 0) (Nat.zero_le _) (by omega)), nm_ck (by omega) (by omega), nm_ck (by omega) (by omega), nI_clamp (by omega), (c1 _ sl).2.1]
          by_cases u1 : shT (sgm y) = 9
          · rw [if_pos u1, if_pos (Or.inl u1)]
          · rw [if_neg u1]
            by_cases u2 : shT (sgm y) = 10
            · rw [if_pos u2, if_pos (Or.inr u2)]
            · rw [if_neg u2, if_neg (fun z => by rcases z with z | z; exact u1 z; exact u2 z)]
        by_cases ua : shT (sgm y) = 9 ∨ shT (sgm y) = 10
        · obtain ⟨u1, u2⟩ := am.mpr ua
          refine Or.inl ⟨y, odO c (q + l) l, y1, d1, fun _ => ua, fun s1 => ?_, ⟨l - t, by omega, le1⟩, fun S c1 c2 c3 c4 => ?_⟩
          · rw [cl1, if_pos y1, nb_mS]
            unfold df_X1_statementNamed_93 df_X1_statementNamed_130
            rw [nb_mS, lt_y y1, if_pos u1, lt_y y1, if_pos u2, nb_mS]
          · rw [rf S c1 c2 c3 c4, sg, if_pos sl, r102 S c1, if_pos ua]
        · refine Or.inr ⟨fun s1 h => ⟨odO c (q + l) l, ?_⟩, fun S c1 c2 c3 c4 => ⟨odO c (q + l) l, ?_⟩⟩
          · rw [cl1, if_pos y1, nb_mS]
            unfold df_X1_statementNamed_93 df_X1_statementNamed_122 df_X1_statementNamed_130
            rw [nb_mS, lt_y y1, lt_y y1, bl_X1 2 (show sI (pI s1 5 (odO c (q + l) l)) 2 = 0 from h), nb_b1, nb_mN]
            by_cases u1 : ko_b y &&& 127 = 47
            · rw [if_pos u1, if_neg (fun u2 => ua (am.mp ⟨u1, u2⟩))]
            · rw [if_neg u1]
          · rw [rf S c1 c2 c3 c4, sg, if_pos sl, r102 S c1, if_neg ua]
      · have sg := (nm2 (l - t) (by omega)).2 y1
        refine Or.inr ⟨fun s1 h => ⟨odO c (q + l) l, ?_⟩, fun S c1 c2 c3 c4 => ⟨odO c (q + l) l, ?_⟩⟩
        · rw [cl1, if_neg y1, nb_mN, z93 (pI s1 5 (odO c (q + l) l)) h]
        · rw [rf S c1 c2 c3 c4, sg, if_neg (Nat.lt_irrefl 128)]
          unfold df_X13_statement_102
          rw [if_pos (show (-1 : Int32) < 0 by decide)]

/-- which method of the reference reads a statement -/
theorem dsp_1 {n : Nat} {S : St} (hc : cstS S) (k : Nat) (hk : k < 128) (hs : shT k = 1) (od : Int32) : df_X13_statement_136 n (nI k) od S = nd_b1 (df_X13_longs n 1 (ptT k ||| od) S) (fun (s : St) => df_X13_statement_326 n s) := by
  unfold df_X13_statement_136
  rw [if_pos (show (0 : Int32) ≤ nI k from zle (a := 0) (Nat.zero_le _) (by omega)), nm_ck (by omega) (by omega), nI_clamp (by omega), (hc k hk).2.1, hs, nb_let, nm_ck (by omega) (by omega), (hc k hk).2.2, nb_let, if_pos (show (1 : Int32) ≤ 39 by decide), if_neg (show ¬ (1 : Int32) = 12 by decide), if_neg (show ¬ (1 : Int32) = 16 by decide), if_neg (show ¬ (1 : Int32) = 8 by decide), if_neg (show ¬ (1 : Int32) = 34 by decide), if_neg (show ¬ (1 : Int32) = 7 by decide), if_pos (show (1 : Int32) ≤ 34 by decide)]
  unfold df_X13_statement_275
  rw [if_pos (show (1 : Int32) < 12 by decide)]
  unfold df_X13_statement_289
  rfl
theorem dsp_2 {n : Nat} {S : St} (hc : cstS S) (k : Nat) (hk : k < 128) (hs : shT k = 2) (od : Int32) : df_X13_statement_136 n (nI k) od S = nd_b1 (df_X13_longs n 2 (ptT k ||| od) S) (fun (s : St) => df_X13_statement_326 n s) := by
  unfold df_X13_statement_136
  rw [if_pos (show (0 : Int32) ≤ nI k from zle (a := 0) (Nat.zero_le _) (by omega)), nm_ck (by omega) (by omega), nI_clamp (by omega), (hc k hk).2.1, hs, nb_let, nm_ck (by omega) (by omega), (hc k hk).2.2, nb_let, if_pos (show (2 : Int32) ≤ 39 by decide), if_neg (show ¬ (2 : Int32) = 12 by decide), if_neg (show ¬ (2 : Int32) = 16 by decide), if_neg (show ¬ (2 : Int32) = 8 by decide), if_neg (show ¬ (2 : Int32) = 34 by decide), if_neg (show ¬ (2 : Int32) = 7 by decide), if_pos (show (2 : Int32) ≤ 34 by decide)]
  unfold df_X13_statement_275
  rw [if_pos (show (2 : Int32) < 12 by decide)]
  unfold df_X13_statement_289
  rfl
theorem dsp_3 {n : Nat} {S : St} (hc : cstS S) (k : Nat) (hk : k < 128) (hs : shT k = 3) (od : Int32) : df_X13_statement_136 n (nI k) od S = nd_b1 (df_X13_longs n 3 (ptT k ||| od) S) (fun (s : St) => df_X13_statement_326 n s) := by
  unfold df_X13_statement_136
  rw [if_pos (show (0 : Int32) ≤ nI k from zle (a := 0) (Nat.zero_le _) (by omega)), nm_ck (by omega) (by omega), nI_clamp (by omega), (hc k hk).2.1, hs, nb_let, nm_ck (by omega) (by omega), (hc k hk).2.2, nb_let, if_pos (show (3 : Int32) ≤ 39 by decide), if_neg (show ¬ (3 : Int32) = 12 by decide), if_neg (show ¬ (3 : Int32) = 16 by decide), if_neg (show ¬ (3 : Int32) = 8 by decide), if_neg (show ¬ (3 : Int32) = 34 by decide), if_neg (show ¬ (3 : Int32) = 7 by decide), if_pos (show (3 : Int32) ≤ 34 by decide)]
  unfold df_X13_statement_275
  rw [if_pos (show (3 : Int32) < 12 by decide)]
  unfold df_X13_statement_289
  rfl
theorem dsp_4 {n : Nat} {S : St} (hc : cstS S) (k : Nat) (hk : k < 128) (hs : shT k = 4) (od : Int32) : df_X13_statement_136 n (nI k) od S = nd_b1 (df_X13_longs n 4 (ptT k ||| od) S) (fun (s : St) => df_X13_statement_326 n s) := by
  unfold df_X13_statement_136
  rw [if_pos (show (0 : Int32) ≤ nI k from zle (a := 0) (Nat.zero_le _) (by omega)), nm_ck (by omega) (by omega), nI_clamp (by omega), (hc k hk).2.1, hs, nb_let, nm_ck (by omega) (by omega), (hc k hk).2.2, nb_let, if_pos (show (4 : Int32) ≤ 39 by decide), if_neg (show ¬ (4 : Int32) = 12 by decide), if_neg (show ¬ (4 : Int32) = 16 by decide), if_neg (show ¬ (4 : Int32) = 8 by decide), if_neg (show ¬ (4 : Int32) = 34 by decide), if_neg (show ¬ (4 : Int32) = 7 by decide), if_pos (show (4 : Int32) ≤ 34 by decide)]
  unfold df_X13_statement_275
  rw [if_pos (show (4 : Int32) < 12 by decide)]
  unfold df_X13_statement_289
  rfl
theorem dsp_5 {n : Nat} {S : St} (hc : cstS S) (k : Nat) (hk : k < 128) (hs : shT k = 5) (od : Int32) : df_X13_statement_136 n (nI k) od S = nd_b1 (df_X13_longs n 5 (ptT k ||| od) S) (fun (s : St) => df_X13_statement_326 n s) := by
  unfold df_X13_statement_136
  rw [if_pos (show (0 : Int32) ≤ nI k from zle (a := 0) (Nat.zero_le _) (by omega)), nm_ck (by omega) (by omega), nI_clamp (by omega), (hc k hk).2.1, hs, nb_let, nm_ck (by omega) (by omega), (hc k hk).2.2, nb_let, if_pos (show (5 : Int32) ≤ 39 by decide), if_neg (show ¬ (5 : Int32) = 12 by decide), if_neg (show ¬ (5 : Int32) = 16 by decide), if_neg (show ¬ (5 : Int32) = 8 by decide), if_neg (show ¬ (5 : Int32) = 34 by decide), if_neg (show ¬ (5 : Int32) = 7 by decide), if_pos (show (5 : Int32) ≤ 34 by decide)]
  unfold df_X13_statement_275
  rw [if_pos (show (5 : Int32) < 12 by decide)]
  unfold df_X13_statement_289
  rfl
theorem dsp_6 {n : Nat} {S : St} (hc : cstS S) (k : Nat) (hk : k < 128) (hs : shT k = 6) (od : Int32) : df_X13_statement_136 n (nI k) od S = nd_b1 (df_X13_longs n 6 (ptT k ||| od) S) (fun (s : St) => df_X13_statement_326 n s) := by
  unfold df_X13_statement_136
  rw [if_pos (show (0 : Int32) ≤ nI k from zle (a := 0) (Nat.zero_le _) (by omega)), nm_ck (by omega) (by omega), nI_clamp (by omega), (hc k hk).2.1, hs, nb_let, nm_ck (by omega) (by omega), (hc k hk).2.2, nb_let, if_pos (show (6 : Int32) ≤ 39 by decide), if_neg (show ¬ (6 : Int32) = 12 by decide), if_neg (show ¬ (6 : Int32) = 16 by decide), if_neg (show ¬ (6 : Int32) = 8 by decide), if_neg (show ¬ (6 : Int32) = 34 by decide), if_neg (show ¬ (6 : Int32) = 7 by decide), if_pos (show (6 : Int32) ≤ 34 by decide)]
  unfold df_X13_statement_275
  rw [if_pos (show (6 : Int32) < 12 by decide)]
  unfold df_X13_statement_289
  rfl
theorem dsp_7 {n : Nat} {S : St} (hc : cstS S) (k : Nat) (hk : k < 128) (hs : shT k = 7) (od : Int32) : df_X13_statement_136 n (nI k) od S = nd_b1 (df_X13_branches n 7 (ptT k ||| od) S) (fun (s : St) => df_X13_statement_326 n s) := by
  unfold df_X13_statement_136
  rw [if_pos (show (0 : Int32) ≤ nI k from zle (a := 0) (Nat.zero_le _) (by omega)), nm_ck (by omega) (by omega), nI_clamp (by omega), (hc k hk).2.1, hs, nb_let, nm_ck (by omega) (by omega), (hc k hk).2.2, nb_let, if_pos (show (7 : Int32) ≤ 39 by decide), if_neg (show ¬ (7 : Int32) = 12 by decide), if_neg (show ¬ (7 : Int32) = 16 by decide), if_neg (show ¬ (7 : Int32) = 8 by decide), if_neg (show ¬ (7 : Int32) = 34 by decide), if_pos (show (7 : Int32) = 7 from rfl)]
  unfold df_X13_statement_264
  rfl
theorem dsp_8 {n : Nat} {S : St} (hc : cstS S) (k : Nat) (hk : k < 128) (hs : shT k = 8) (od : Int32) : df_X13_statement_136 n (nI k) od S = nd_b1 (df_X13_jumps n 8 (ptT k ||| od) S) (fun (s : St) => df_X13_statement_326 n s) := by
  unfold df_X13_statement_136
  rw [if_pos (show (0 : Int32) ≤ nI k from zle (a := 0) (Nat.zero_le _) (by omega)), nm_ck (by omega) (by omega), nI_clamp (by omega), (hc k hk).2.1, hs, nb_let, nm_ck (by omega) (by omega), (hc k hk).2.2, nb_let, if_pos (show (8 : Int32) ≤ 39 by decide), if_neg (show ¬ (8 : Int32) = 12 by decide), if_neg (show ¬ (8 : Int32) = 16 by decide), if_pos (show (8 : Int32) = 8 from rfl)]
  unfold df_X13_statement_232
  rfl
theorem dsp_9 {n : Nat} {S : St} (hc : cstS S) (k : Nat) (hk : k < 128) (hs : shT k = 9) (od : Int32) : df_X13_statement_136 n (nI k) od S = nd_b1 (df_X13_longs n 9 (ptT k ||| od) S) (fun (s : St) => df_X13_statement_326 n s) := by
  unfold df_X13_statement_136
  rw [if_pos (show (0 : Int32) ≤ nI k from zle (a := 0) (Nat.zero_le _) (by omega)), nm_ck (by omega) (by omega), nI_clamp (by omega), (hc k hk).2.1, hs, nb_let, nm_ck (by omega) (by omega), (hc k hk).2.2, nb_let, if_pos (show (9 : Int32) ≤ 39 by decide), if_neg (show ¬ (9 : Int32) = 12 by decide), if_neg (show ¬ (9 : Int32) = 16 by decide), if_neg (show ¬ (9 : Int32) = 8 by decide), if_neg (show ¬ (9 : Int32) = 34 by decide), if_neg (show ¬ (9 : Int32) = 7 by decide), if_pos (show (9 : Int32) ≤ 34 by decide)]
  unfold df_X13_statement_275
  rw [if_pos (show (9 : Int32) < 12 by decide)]
  unfold df_X13_statement_289
  rfl
theorem dsp_10 {n : Nat} {S : St} (hc : cstS S) (k : Nat) (hk : k < 128) (hs : shT k = 10) (od : Int32) : df_X13_statement_136 n (nI k) od S = nd_b1 (df_X13_longs n 10 (ptT k ||| od) S) (fun (s : St) => df_X13_statement_326 n s) := by
  unfold df_X13_statement_136
  rw [if_pos (show (0 : Int32) ≤ nI k from zle (a := 0) (Nat.zero_le _) (by omega)), nm_ck (by omega) (by omega), nI_clamp (by omega), (hc k hk).2.1, hs, nb_let, nm_ck (by omega) (by omega), (hc k hk).2.2, nb_let, if_pos (show (10 : Int32) ≤ 39 by decide), if_neg (show ¬ (10 : Int32) = 12 by decide), if_neg (show ¬ (10 : Int32) = 16 by decide), if_neg (show ¬ (10 : Int32) = 8 by decide), if_neg (show ¬ (10 : Int32) = 34 by decide), if_neg (show ¬ (10 : Int32) = 7 by decide), if_pos (show (10 : Int32) ≤ 34 by decide)]
  unfold df_X13_statement_275
  rw [if_pos (show (10 : Int32) < 12 by decide)]
  unfold df_X13_statement_289
  rfl
theorem dsp_11 {n : Nat} {S : St} (hc : cstS S) (k : Nat) (hk : k < 128) (hs : shT k = 11) (od : Int32) : df_X13_statement_136 n (nI k) od S = nd_b1 (df_X13_longs n 11 (ptT k ||| od) S) (fun (s : St) => df_X13_statement_326 n s) := by
  unfold df_X13_statement_136
  rw [if_pos (show (0 : Int32) ≤ nI k from zle (a := 0) (Nat.zero_le _) (by omega)), nm_ck (by omega) (by omega), nI_clamp (by omega), (hc k hk).2.1, hs, nb_let, nm_ck (by omega) (by omega), (hc k hk).2.2, nb_let, if_pos (show (11 : Int32) ≤ 39 by decide), if_neg (show ¬ (11 : Int32) = 12 by decide), if_neg (show ¬ (11 : Int32) = 16 by decide), if_neg (show ¬ (11 : Int32) = 8 by decide), if_neg (show ¬ (11 : Int32) = 34 by decide), if_neg (show ¬ (11 : Int32) = 7 by decide), if_pos (show (11 : Int32) ≤ 34 by decide)]
  unfold df_X13_statement_275
  rw [if_pos (show (11 : Int32) < 12 by decide)]
  unfold df_X13_statement_289
  rfl
theorem dsp_12 {n : Nat} {S : St} (hc : cstS S) (k : Nat) (hk : k < 128) (hs : shT k = 12) (od : Int32) : df_X13_statement_136 n (nI k) od S = nd_b1 (df_X13_word n (ptT k ||| od) S) (fun (s : St) => df_X13_statement_326 n s) := by
  unfold df_X13_statement_136
  rw [if_pos (show (0 : Int32) ≤ nI k from zle (a := 0) (Nat.zero_le _) (by omega)), nm_ck (by omega) (by omega), nI_clamp (by omega), (hc k hk).2.1, hs, nb_let, nm_ck (by omega) (by omega), (hc k hk).2.2, nb_let, if_pos (show (12 : Int32) ≤ 39 by decide), if_pos (show (12 : Int32) = 12 from rfl)]
theorem dsp_13 {n : Nat} {S : St} (hc : cstS S) (k : Nat) (hk : k < 128) (hs : shT k = 13) (od : Int32) : df_X13_statement_136 n (nI k) od S = nd_b1 (df_X13_shorts n 13 (ptT k ||| od) S) (fun (s : St) => df_X13_statement_326 n s) := by
  unfold df_X13_statement_136
  rw [if_pos (show (0 : Int32) ≤ nI k from zle (a := 0) (Nat.zero_le _) (by omega)), nm_ck (by omega) (by omega), nI_clamp (by omega), (hc k hk).2.1, hs, nb_let, nm_ck (by omega) (by omega), (hc k hk).2.2, nb_let, if_pos (show (13 : Int32) ≤ 39 by decide), if_neg (show ¬ (13 : Int32) = 12 by decide), if_neg (show ¬ (13 : Int32) = 16 by decide), if_neg (show ¬ (13 : Int32) = 8 by decide), if_neg (show ¬ (13 : Int32) = 34 by decide), if_neg (show ¬ (13 : Int32) = 7 by decide), if_pos (show (13 : Int32) ≤ 34 by decide)]
  unfold df_X13_statement_275
  rw [if_neg (show ¬ (13 : Int32) < 12 by decide), if_neg (show ¬ (13 : Int32) = 30 by decide), if_neg (show ¬ (30 : Int32) ≤ 13 by decide)]
theorem dsp_14 {n : Nat} {S : St} (hc : cstS S) (k : Nat) (hk : k < 128) (hs : shT k = 14) (od : Int32) : df_X13_statement_136 n (nI k) od S = nd_b1 (df_X13_shorts n 14 (ptT k ||| od) S) (fun (s : St) => df_X13_statement_326 n s) := by
  unfold df_X13_statement_136
  rw [if_pos (show (0 : Int32) ≤ nI k from zle (a := 0) (Nat.zero_le _) (by omega)), nm_ck (by omega) (by omega), nI_clamp (by omega), (hc k hk).2.1, hs, nb_let, nm_ck (by omega) (by omega), (hc k hk).2.2, nb_let, if_pos (show (14 : Int32) ≤ 39 by decide), if_neg (show ¬ (14 : Int32) = 12 by decide), if_neg (show ¬ (14 : Int32) = 16 by decide), if_neg (show ¬ (14 : Int32) = 8 by decide), if_neg (show ¬ (14 : Int32) = 34 by decide), if_neg (show ¬ (14 : Int32) = 7 by decide), if_pos (show (14 : Int32) ≤ 34 by decide)]
  unfold df_X13_statement_275
  rw [if_neg (show ¬ (14 : Int32) < 12 by decide), if_neg (show ¬ (14 : Int32) = 30 by decide), if_neg (show ¬ (30 : Int32) ≤ 14 by decide)]
theorem dsp_16 {n : Nat} {S : St} (hc : cstS S) (k : Nat) (hk : k < 128) (hs : shT k = 16) (od : Int32) : df_X13_statement_136 n (nI k) od S = nd_b1 (df_X13_half n (ptT k ||| od) S) (fun (s : St) => df_X13_statement_326 n s) := by
  unfold df_X13_statement_136
  rw [if_pos (show (0 : Int32) ≤ nI k from zle (a := 0) (Nat.zero_le _) (by omega)), nm_ck (by omega) (by omega), nI_clamp (by omega), (hc k hk).2.1, hs, nb_let, nm_ck (by omega) (by omega), (hc k hk).2.2, nb_let, if_pos (show (16 : Int32) ≤ 39 by decide), if_neg (show ¬ (16 : Int32) = 12 by decide), if_pos (show (16 : Int32) = 16 from rfl)]
theorem dsp_17 {n : Nat} {S : St} (hc : cstS S) (k : Nat) (hk : k < 128) (hs : shT k = 17) (od : Int32) : df_X13_statement_136 n (nI k) od S = nd_b1 (df_X13_shorts n 17 (ptT k ||| od) S) (fun (s : St) => df_X13_statement_326 n s) := by
  unfold df_X13_statement_136
  rw [if_pos (show (0 : Int32) ≤ nI k from zle (a := 0) (Nat.zero_le _) (by omega)), nm_ck (by omega) (by omega), nI_clamp (by omega), (hc k hk).2.1, hs, nb_let, nm_ck (by omega) (by omega), (hc k hk).2.2, nb_let, if_pos (show (17 : Int32) ≤ 39 by decide), if_neg (show ¬ (17 : Int32) = 12 by decide), if_neg (show ¬ (17 : Int32) = 16 by decide), if_neg (show ¬ (17 : Int32) = 8 by decide), if_neg (show ¬ (17 : Int32) = 34 by decide), if_neg (show ¬ (17 : Int32) = 7 by decide), if_pos (show (17 : Int32) ≤ 34 by decide)]
  unfold df_X13_statement_275
  rw [if_neg (show ¬ (17 : Int32) < 12 by decide), if_neg (show ¬ (17 : Int32) = 30 by decide), if_neg (show ¬ (30 : Int32) ≤ 17 by decide)]
theorem dsp_18 {n : Nat} {S : St} (hc : cstS S) (k : Nat) (hk : k < 128) (hs : shT k = 18) (od : Int32) : df_X13_statement_136 n (nI k) od S = nd_b1 (df_X13_shorts n 18 (ptT k ||| od) S) (fun (s : St) => df_X13_statement_326 n s) := by
  unfold df_X13_statement_136
  rw [if_pos (show (0 : Int32) ≤ nI k from zle (a := 0) (Nat.zero_le _) (by omega)), nm_ck (by omega) (by omega), nI_clamp (by omega), (hc k hk).2.1, hs, nb_let, nm_ck (by omega) (by omega), (hc k hk).2.2, nb_let, if_pos (show (18 : Int32) ≤ 39 by decide), if_neg (show ¬ (18 : Int32) = 12 by decide), if_neg (show ¬ (18 : Int32) = 16 by decide), if_neg (show ¬ (18 : Int32) = 8 by decide), if_neg (show ¬ (18 : Int32) = 34 by decide), if_neg (show ¬ (18 : Int32) = 7 by decide), if_pos (show (18 : Int32) ≤ 34 by decide)]
  unfold df_X13_statement_275
  rw [if_neg (show ¬ (18 : Int32) < 12 by decide), if_neg (show ¬ (18 : Int32) = 30 by decide), if_neg (show ¬ (30 : Int32) ≤ 18 by decide)]
theorem dsp_19 {n : Nat} {S : St} (hc : cstS S) (k : Nat) (hk : k < 128) (hs : shT k = 19) (od : Int32) : df_X13_statement_136 n (nI k) od S = nd_b1 (df_X13_shorts n 19 (ptT k ||| od) S) (fun (s : St) => df_X13_statement_326 n s) := by
  unfold df_X13_statement_136
  rw [if_pos (show (0 : Int32) ≤ nI k from zle (a := 0) (Nat.zero_le _) (by omega)), nm_ck (by omega) (by omega), nI_clamp (by omega), (hc k hk).2.1, hs, nb_let, nm_ck (by omega) (by omega), (hc k hk).2.2, nb_let, if_pos (show (19 : Int32) ≤ 39 by decide), if_neg (show ¬ (19 : Int32) = 12 by decide), if_neg (show ¬ (19 : Int32) = 16 by decide), if_neg (show ¬ (19 : Int32) = 8 by decide), if_neg (show ¬ (19 : Int32) = 34 by decide), if_neg (show ¬ (19 : Int32) = 7 by decide), if_pos (show (19 : Int32) ≤ 34 by decide)]
  unfold df_X13_statement_275
  rw [if_neg (show ¬ (19 : Int32) < 12 by decide), if_neg (show ¬ (19 : Int32) = 30 by decide), if_neg (show ¬ (30 : Int32) ≤ 19 by decide)]
theorem dsp_20 {n : Nat} {S : St} (hc : cstS S) (k : Nat) (hk : k < 128) (hs : shT k = 20) (od : Int32) : df_X13_statement_136 n (nI k) od S = nd_b1 (df_X13_shorts n 20 (ptT k ||| od) S) (fun (s : St) => df_X13_statement_326 n s) := by
  unfold df_X13_statement_136
  rw [if_pos (show (0 : Int32) ≤ nI k from zle (a := 0) (Nat.zero_le _) (by omega)), nm_ck (by omega) (by omega), nI_clamp (by omega), (hc k hk).2.1, hs, nb_let, nm_ck (by omega) (by omega), (hc k hk).2.2, nb_let, if_pos (show (20 : Int32) ≤ 39 by decide), if_neg (show ¬ (20 : Int32) = 12 by decide), if_neg (show ¬ (20 : Int32) = 16 by decide), if_neg (show ¬ (20 : Int32) = 8 by decide), if_neg (show ¬ (20 : Int32) = 34 by decide), if_neg (show ¬ (20 : Int32) = 7 by decide), if_pos (show (20 : Int32) ≤ 34 by decide)]
  unfold df_X13_statement_275
  rw [if_neg (show ¬ (20 : Int32) < 12 by decide), if_neg (show ¬ (20 : Int32) = 30 by decide), if_neg (show ¬ (30 : Int32) ≤ 20 by decide)]
theorem dsp_21 {n : Nat} {S : St} (hc : cstS S) (k : Nat) (hk : k < 128) (hs : shT k = 21) (od : Int32) : df_X13_statement_136 n (nI k) od S = nd_b1 (df_X13_shorts n 21 (ptT k ||| od) S) (fun (s : St) => df_X13_statement_326 n s) := by
  unfold df_X13_statement_136
  rw [if_pos (show (0 : Int32) ≤ nI k from zle (a := 0) (Nat.zero_le _) (by omega)), nm_ck (by omega) (by omega), nI_clamp (by omega), (hc k hk).2.1, hs, nb_let, nm_ck (by omega) (by omega), (hc k hk).2.2, nb_let, if_pos (show (21 : Int32) ≤ 39 by decide), if_neg (show ¬ (21 : Int32) = 12 by decide), if_neg (show ¬ (21 : Int32) = 16 by decide), if_neg (show ¬ (21 : Int32) = 8 by decide), if_neg (show ¬ (21 : Int32) = 34 by decide), if_neg (show ¬ (21 : Int32) = 7 by decide), if_pos (show (21 : Int32) ≤ 34 by decide)]
  unfold df_X13_statement_275
  rw [if_neg (show ¬ (21 : Int32) < 12 by decide), if_neg (show ¬ (21 : Int32) = 30 by decide), if_neg (show ¬ (30 : Int32) ≤ 21 by decide)]
theorem dsp_22 {n : Nat} {S : St} (hc : cstS S) (k : Nat) (hk : k < 128) (hs : shT k = 22) (od : Int32) : df_X13_statement_136 n (nI k) od S = nd_b1 (df_X13_shorts n 22 (ptT k ||| od) S) (fun (s : St) => df_X13_statement_326 n s) := by
  unfold df_X13_statement_136
  rw [if_pos (show (0 : Int32) ≤ nI k from zle (a := 0) (Nat.zero_le _) (by omega)), nm_ck (by omega) (by omega), nI_clamp (by omega), (hc k hk).2.1, hs, nb_let, nm_ck (by omega) (by omega), (hc k hk).2.2, nb_let, if_pos (show (22 : Int32) ≤ 39 by decide), if_neg (show ¬ (22 : Int32) = 12 by decide), if_neg (show ¬ (22 : Int32) = 16 by decide), if_neg (show ¬ (22 : Int32) = 8 by decide), if_neg (show ¬ (22 : Int32) = 34 by decide), if_neg (show ¬ (22 : Int32) = 7 by decide), if_pos (show (22 : Int32) ≤ 34 by decide)]
  unfold df_X13_statement_275
  rw [if_neg (show ¬ (22 : Int32) < 12 by decide), if_neg (show ¬ (22 : Int32) = 30 by decide), if_neg (show ¬ (30 : Int32) ≤ 22 by decide)]
theorem dsp_23 {n : Nat} {S : St} (hc : cstS S) (k : Nat) (hk : k < 128) (hs : shT k = 23) (od : Int32) : df_X13_statement_136 n (nI k) od S = nd_b1 (df_X13_shorts n 23 (ptT k ||| od) S) (fun (s : St) => df_X13_statement_326 n s) := by
  unfold df_X13_statement_136
  rw [if_pos (show (0 : Int32) ≤ nI k from zle (a := 0) (Nat.zero_le _) (by omega)), nm_ck (by omega) (by omega), nI_clamp (by omega), (hc k hk).2.1, hs, nb_let, nm_ck (by omega) (by omega), (hc k hk).2.2, nb_let, if_pos (show (23 : Int32) ≤ 39 by decide), if_neg (show ¬ (23 : Int32) = 12 by decide), if_neg (show ¬ (23 : Int32) = 16 by decide), if_neg (show ¬ (23 : Int32) = 8 by decide), if_neg (show ¬ (23 : Int32) = 34 by decide), if_neg (show ¬ (23 : Int32) = 7 by decide), if_pos (show (23 : Int32) ≤ 34 by decide)]
  unfold df_X13_statement_275
  rw [if_neg (show ¬ (23 : Int32) < 12 by decide), if_neg (show ¬ (23 : Int32) = 30 by decide), if_neg (show ¬ (30 : Int32) ≤ 23 by decide)]
theorem dsp_24 {n : Nat} {S : St} (hc : cstS S) (k : Nat) (hk : k < 128) (hs : shT k = 24) (od : Int32) : df_X13_statement_136 n (nI k) od S = nd_b1 (df_X13_shorts n 24 (ptT k ||| od) S) (fun (s : St) => df_X13_statement_326 n s) := by
  unfold df_X13_statement_136
  rw [if_pos (show (0 : Int32) ≤ nI k from zle (a := 0) (Nat.zero_le _) (by omega)), nm_ck (by omega) (by omega), nI_clamp (by omega), (hc k hk).2.1, hs, nb_let, nm_ck (by omega) (by omega), (hc k hk).2.2, nb_let, if_pos (show (24 : Int32) ≤ 39 by decide), if_neg (show ¬ (24 : Int32) = 12 by decide), if_neg (show ¬ (24 : Int32) = 16 by decide), if_neg (show ¬ (24 : Int32) = 8 by decide), if_neg (show ¬ (24 : Int32) = 34 by decide), if_neg (show ¬ (24 : Int32) = 7 by decide), if_pos (show (24 : Int32) ≤ 34 by decide)]
  unfold df_X13_statement_275
  rw [if_neg (show ¬ (24 : Int32) < 12 by decide), if_neg (show ¬ (24 : Int32) = 30 by decide), if_neg (show ¬ (30 : Int32) ≤ 24 by decide)]
theorem dsp_25 {n : Nat} {S : St} (hc : cstS S) (k : Nat) (hk : k < 128) (hs : shT k = 25) (od : Int32) : df_X13_statement_136 n (nI k) od S = nd_b1 (df_X13_shorts n 25 (ptT k ||| od) S) (fun (s : St) => df_X13_statement_326 n s) := by
  unfold df_X13_statement_136
  rw [if_pos (show (0 : Int32) ≤ nI k from zle (a := 0) (Nat.zero_le _) (by omega)), nm_ck (by omega) (by omega), nI_clamp (by omega), (hc k hk).2.1, hs, nb_let, nm_ck (by omega) (by omega), (hc k hk).2.2, nb_let, if_pos (show (25 : Int32) ≤ 39 by decide), if_neg (show ¬ (25 : Int32) = 12 by decide), if_neg (show ¬ (25 : Int32) = 16 by decide), if_neg (show ¬ (25 : Int32) = 8 by decide), if_neg (show ¬ (25 : Int32) = 34 by decide), if_neg (show ¬ (25 : Int32) = 7 by decide), if_pos (show (25 : Int32) ≤ 34 by decide)]
  unfold df_X13_statement_275
  rw [if_neg (show ¬ (25 : Int32) < 12 by decide), if_neg (show ¬ (25 : Int32) = 30 by decide), if_neg (show ¬ (30 : Int32) ≤ 25 by decide)]
theorem dsp_26 {n : Nat} {S : St} (hc : cstS S) (k : Nat) (hk : k < 128) (hs : shT k = 26) (od : Int32) : df_X13_statement_136 n (nI k) od S = nd_b1 (df_X13_shorts n 26 (ptT k ||| od) S) (fun (s : St) => df_X13_statement_326 n s) := by
  unfold df_X13_statement_136
  rw [if_pos (show (0 : Int32) ≤ nI k from zle (a := 0) (Nat.zero_le _) (by omega)), nm_ck (by omega) (by omega), nI_clamp (by omega), (hc k hk).2.1, hs, nb_let, nm_ck (by omega) (by omega), (hc k hk).2.2, nb_let, if_pos (show (26 : Int32) ≤ 39 by decide), if_neg (show ¬ (26 : Int32) = 12 by decide), if_neg (show ¬ (26 : Int32) = 16 by decide), if_neg (show ¬ (26 : Int32) = 8 by decide), if_neg (show ¬ (26 : Int32) = 34 by decide), if_neg (show ¬ (26 : Int32) = 7 by decide), if_pos (show (26 : Int32) ≤ 34 by decide)]
  unfold df_X13_statement_275
  rw [if_neg (show ¬ (26 : Int32) < 12 by decide), if_neg (show ¬ (26 : Int32) = 30 by decide), if_neg (show ¬ (30 : Int32) ≤ 26 by decide)]
theorem dsp_27 {n : Nat} {S : St} (hc : cstS S) (k : Nat) (hk : k < 128) (hs : shT k = 27) (od : Int32) : df_X13_statement_136 n (nI k) od S = nd_b1 (df_X13_shorts n 27 (ptT k ||| od) S) (fun (s : St) => df_X13_statement_326 n s) := by
  unfold df_X13_statement_136
  rw [if_pos (show (0 : Int32) ≤ nI k from zle (a := 0) (Nat.zero_le _) (by omega)), nm_ck (by omega) (by omega), nI_clamp (by omega), (hc k hk).2.1, hs, nb_let, nm_ck (by omega) (by omega), (hc k hk).2.2, nb_let, if_pos (show (27 : Int32) ≤ 39 by decide), if_neg (show ¬ (27 : Int32) = 12 by decide), if_neg (show ¬ (27 : Int32) = 16 by decide), if_neg (show ¬ (27 : Int32) = 8 by decide), if_neg (show ¬ (27 : Int32) = 34 by decide), if_neg (show ¬ (27 : Int32) = 7 by decide), if_pos (show (27 : Int32) ≤ 34 by decide)]
  unfold df_X13_statement_275
  rw [if_neg (show ¬ (27 : Int32) < 12 by decide), if_neg (show ¬ (27 : Int32) = 30 by decide), if_neg (show ¬ (30 : Int32) ≤ 27 by decide)]
theorem dsp_28 {n : Nat} {S : St} (hc : cstS S) (k : Nat) (hk : k < 128) (hs : shT k = 28) (od : Int32) : df_X13_statement_136 n (nI k) od S = nd_b1 (df_X13_shorts n 28 (ptT k ||| od) S) (fun (s : St) => df_X13_statement_326 n s) := by
  unfold df_X13_statement_136
  rw [if_pos (show (0 : Int32) ≤ nI k from zle (a := 0) (Nat.zero_le _) (by omega)), nm_ck (by omega) (by omega), nI_clamp (by omega), (hc k hk).2.1, hs, nb_let, nm_ck (by omega) (by omega), (hc k hk).2.2, nb_let, if_pos (show (28 : Int32) ≤ 39 by decide), if_neg (show ¬ (28 : Int32) = 12 by decide), if_neg (show ¬ (28 : Int32) = 16 by decide), if_neg (show ¬ (28 : Int32) = 8 by decide), if_neg (show ¬ (28 : Int32) = 34 by decide), if_neg (show ¬ (28 : Int32) = 7 by decide), if_pos (show (28 : Int32) ≤ 34 by decide)]
  unfold df_X13_statement_275
  rw [if_neg (show ¬ (28 : Int32) < 12 by decide), if_neg (show ¬ (28 : Int32) = 30 by decide), if_neg (show ¬ (30 : Int32) ≤ 28 by decide)]
theorem dsp_29 {n : Nat} {S : St} (hc : cstS S) (k : Nat) (hk : k < 128) (hs : shT k = 29) (od : Int32) : df_X13_statement_136 n (nI k) od S = nd_b1 (df_X13_shorts n 29 (ptT k ||| od) S) (fun (s : St) => df_X13_statement_326 n s) := by
  unfold df_X13_statement_136
  rw [if_pos (show (0 : Int32) ≤ nI k from zle (a := 0) (Nat.zero_le _) (by omega)), nm_ck (by omega) (by omega), nI_clamp (by omega), (hc k hk).2.1, hs, nb_let, nm_ck (by omega) (by omega), (hc k hk).2.2, nb_let, if_pos (show (29 : Int32) ≤ 39 by decide), if_neg (show ¬ (29 : Int32) = 12 by decide), if_neg (show ¬ (29 : Int32) = 16 by decide), if_neg (show ¬ (29 : Int32) = 8 by decide), if_neg (show ¬ (29 : Int32) = 34 by decide), if_neg (show ¬ (29 : Int32) = 7 by decide), if_pos (show (29 : Int32) ≤ 34 by decide)]
  unfold df_X13_statement_275
  rw [if_neg (show ¬ (29 : Int32) < 12 by decide), if_neg (show ¬ (29 : Int32) = 30 by decide), if_neg (show ¬ (30 : Int32) ≤ 29 by decide)]
theorem dsp_30 {n : Nat} {S : St} (hc : cstS S) (k : Nat) (hk : k < 128) (hs : shT k = 30) (od : Int32) : df_X13_statement_136 n (nI k) od S = nd_b1 (df_X13_longs n 30 (ptT k ||| od) S) (fun (s : St) => df_X13_statement_326 n s) := by
  unfold df_X13_statement_136
  rw [if_pos (show (0 : Int32) ≤ nI k from zle (a := 0) (Nat.zero_le _) (by omega)), nm_ck (by omega) (by omega), nI_clamp (by omega), (hc k hk).2.1, hs, nb_let, nm_ck (by omega) (by omega), (hc k hk).2.2, nb_let, if_pos (show (30 : Int32) ≤ 39 by decide), if_neg (show ¬ (30 : Int32) = 12 by decide), if_neg (show ¬ (30 : Int32) = 16 by decide), if_neg (show ¬ (30 : Int32) = 8 by decide), if_neg (show ¬ (30 : Int32) = 34 by decide), if_neg (show ¬ (30 : Int32) = 7 by decide), if_pos (show (30 : Int32) ≤ 34 by decide)]
  unfold df_X13_statement_275
  rw [if_neg (show ¬ (30 : Int32) < 12 by decide), if_pos (show (30 : Int32) = 30 from rfl)]
  unfold df_X13_statement_289
  rfl
theorem dsp_31 {n : Nat} {S : St} (hc : cstS S) (k : Nat) (hk : k < 128) (hs : shT k = 31) (od : Int32) : df_X13_statement_136 n (nI k) od S = nd_b1 (df_X13_others n 31 (ptT k ||| od) S) (fun (s : St) => df_X13_statement_326 n s) := by
  unfold df_X13_statement_136
  rw [if_pos (show (0 : Int32) ≤ nI k from zle (a := 0) (Nat.zero_le _) (by omega)), nm_ck (by omega) (by omega), nI_clamp (by omega), (hc k hk).2.1, hs, nb_let, nm_ck (by omega) (by omega), (hc k hk).2.2, nb_let, if_pos (show (31 : Int32) ≤ 39 by decide), if_neg (show ¬ (31 : Int32) = 12 by decide), if_neg (show ¬ (31 : Int32) = 16 by decide), if_neg (show ¬ (31 : Int32) = 8 by decide), if_neg (show ¬ (31 : Int32) = 34 by decide), if_neg (show ¬ (31 : Int32) = 7 by decide), if_pos (show (31 : Int32) ≤ 34 by decide)]
  unfold df_X13_statement_275
  rw [if_neg (show ¬ (31 : Int32) < 12 by decide), if_neg (show ¬ (31 : Int32) = 30 by decide), if_pos (show (30 : Int32) ≤ 31 by decide)]
theorem dsp_32 {n : Nat} {S : St} (hc : cstS S) (k : Nat) (hk : k < 128) (hs : shT k = 32) (od : Int32) : df_X13_statement_136 n (nI k) od S = nd_b1 (df_X13_others n 32 (ptT k ||| od) S) (fun (s : St) => df_X13_statement_326 n s) := by
  unfold df_X13_statement_136
  rw [if_pos (show (0 : Int32) ≤ nI k from zle (a := 0) (Nat.zero_le _) (by omega)), nm_ck (by omega) (by omega), nI_clamp (by omega), (hc k hk).2.1, hs, nb_let, nm_ck (by omega) (by omega), (hc k hk).2.2, nb_let, if_pos (show (32 : Int32) ≤ 39 by decide), if_neg (show ¬ (32 : Int32) = 12 by decide), if_neg (show ¬ (32 : Int32) = 16 by decide), if_neg (show ¬ (32 : Int32) = 8 by decide), if_neg (show ¬ (32 : Int32) = 34 by decide), if_neg (show ¬ (32 : Int32) = 7 by decide), if_pos (show (32 : Int32) ≤ 34 by decide)]
  unfold df_X13_statement_275
  rw [if_neg (show ¬ (32 : Int32) < 12 by decide), if_neg (show ¬ (32 : Int32) = 30 by decide), if_pos (show (30 : Int32) ≤ 32 by decide)]
theorem dsp_33 {n : Nat} {S : St} (hc : cstS S) (k : Nat) (hk : k < 128) (hs : shT k = 33) (od : Int32) : df_X13_statement_136 n (nI k) od S = nd_b1 (df_X13_others n 33 (ptT k ||| od) S) (fun (s : St) => df_X13_statement_326 n s) := by
  unfold df_X13_statement_136
  rw [if_pos (show (0 : Int32) ≤ nI k from zle (a := 0) (Nat.zero_le _) (by omega)), nm_ck (by omega) (by omega), nI_clamp (by omega), (hc k hk).2.1, hs, nb_let, nm_ck (by omega) (by omega), (hc k hk).2.2, nb_let, if_pos (show (33 : Int32) ≤ 39 by decide), if_neg (show ¬ (33 : Int32) = 12 by decide), if_neg (show ¬ (33 : Int32) = 16 by decide), if_neg (show ¬ (33 : Int32) = 8 by decide), if_neg (show ¬ (33 : Int32) = 34 by decide), if_neg (show ¬ (33 : Int32) = 7 by decide), if_pos (show (33 : Int32) ≤ 34 by decide)]
  unfold df_X13_statement_275
  rw [if_neg (show ¬ (33 : Int32) < 12 by decide), if_neg (show ¬ (33 : Int32) = 30 by decide), if_pos (show (30 : Int32) ≤ 33 by decide)]
theorem dsp_34 {n : Nat} {S : St} (hc : cstS S) (k : Nat) (hk : k < 128) (hs : shT k = 34) (od : Int32) : df_X13_statement_136 n (nI k) od S = nd_b1 (df_X13_jumps n 34 (ptT k ||| od) S) (fun (s : St) => df_X13_statement_326 n s) := by
  unfold df_X13_statement_136
  rw [if_pos (show (0 : Int32) ≤ nI k from zle (a := 0) (Nat.zero_le _) (by omega)), nm_ck (by omega) (by omega), nI_clamp (by omega), (hc k hk).2.1, hs, nb_let, nm_ck (by omega) (by omega), (hc k hk).2.2, nb_let, if_pos (show (34 : Int32) ≤ 39 by decide), if_neg (show ¬ (34 : Int32) = 12 by decide), if_neg (show ¬ (34 : Int32) = 16 by decide), if_neg (show ¬ (34 : Int32) = 8 by decide), if_pos (show (34 : Int32) = 34 from rfl)]
  unfold df_X13_statement_232
  rfl
theorem dsp_35 {n : Nat} {S : St} (hc : cstS S) (k : Nat) (hk : k < 128) (hs : shT k = 35) (od : Int32) : df_X13_statement_136 n (nI k) od S = nd_b1 (df_X13_branches n 35 (ptT k ||| od) S) (fun (s : St) => df_X13_statement_326 n s) := by
  unfold df_X13_statement_136
  rw [if_pos (show (0 : Int32) ≤ nI k from zle (a := 0) (Nat.zero_le _) (by omega)), nm_ck (by omega) (by omega), nI_clamp (by omega), (hc k hk).2.1, hs, nb_let, nm_ck (by omega) (by omega), (hc k hk).2.2, nb_let, if_pos (show (35 : Int32) ≤ 39 by decide), if_neg (show ¬ (35 : Int32) = 12 by decide), if_neg (show ¬ (35 : Int32) = 16 by decide), if_neg (show ¬ (35 : Int32) = 8 by decide), if_neg (show ¬ (35 : Int32) = 34 by decide), if_neg (show ¬ (35 : Int32) = 7 by decide), if_neg (show ¬ (35 : Int32) ≤ 34 by decide), if_neg (show ¬ (38 : Int32) ≤ 35 by decide)]
  unfold df_X13_statement_264
  rfl
theorem dsp_36 {n : Nat} {S : St} (hc : cstS S) (k : Nat) (hk : k < 128) (hs : shT k = 36) (od : Int32) : df_X13_statement_136 n (nI k) od S = nd_b1 (df_X13_branches n 36 (ptT k ||| od) S) (fun (s : St) => df_X13_statement_326 n s) := by
  unfold df_X13_statement_136
  rw [if_pos (show (0 : Int32) ≤ nI k from zle (a := 0) (Nat.zero_le _) (by omega)), nm_ck (by omega) (by omega), nI_clamp (by omega), (hc k hk).2.1, hs, nb_let, nm_ck (by omega) (by omega), (hc k hk).2.2, nb_let, if_pos (show (36 : Int32) ≤ 39 by decide), if_neg (show ¬ (36 : Int32) = 12 by decide), if_neg (show ¬ (36 : Int32) = 16 by decide), if_neg (show ¬ (36 : Int32) = 8 by decide), if_neg (show ¬ (36 : Int32) = 34 by decide), if_neg (show ¬ (36 : Int32) = 7 by decide), if_neg (show ¬ (36 : Int32) ≤ 34 by decide), if_neg (show ¬ (38 : Int32) ≤ 36 by decide)]
  unfold df_X13_statement_264
  rfl
theorem dsp_37 {n : Nat} {S : St} (hc : cstS S) (k : Nat) (hk : k < 128) (hs : shT k = 37) (od : Int32) : df_X13_statement_136 n (nI k) od S = nd_b1 (df_X13_branches n 37 (ptT k ||| od) S) (fun (s : St) => df_X13_statement_326 n s) := by
  unfold df_X13_statement_136
  rw [if_pos (show (0 : Int32) ≤ nI k from zle (a := 0) (Nat.zero_le _) (by omega)), nm_ck (by omega) (by omega), nI_clamp (by omega), (hc k hk).2.1, hs, nb_let, nm_ck (by omega) (by omega), (hc k hk).2.2, nb_let, if_pos (show (37 : Int32) ≤ 39 by decide), if_neg (show ¬ (37 : Int32) = 12 by decide), if_neg (show ¬ (37 : Int32) = 16 by decide), if_neg (show ¬ (37 : Int32) = 8 by decide), if_neg (show ¬ (37 : Int32) = 34 by decide), if_neg (show ¬ (37 : Int32) = 7 by decide), if_neg (show ¬ (37 : Int32) ≤ 34 by decide), if_neg (show ¬ (38 : Int32) ≤ 37 by decide)]
  unfold df_X13_statement_264
  rfl
theorem dsp_38 {n : Nat} {S : St} (hc : cstS S) (k : Nat) (hk : k < 128) (hs : shT k = 38) (od : Int32) : df_X13_statement_136 n (nI k) od S = nd_b1 (df_X13_others n 38 (ptT k ||| od) S) (fun (s : St) => df_X13_statement_326 n s) := by
  unfold df_X13_statement_136
  rw [if_pos (show (0 : Int32) ≤ nI k from zle (a := 0) (Nat.zero_le _) (by omega)), nm_ck (by omega) (by omega), nI_clamp (by omega), (hc k hk).2.1, hs, nb_let, nm_ck (by omega) (by omega), (hc k hk).2.2, nb_let, if_pos (show (38 : Int32) ≤ 39 by decide), if_neg (show ¬ (38 : Int32) = 12 by decide), if_neg (show ¬ (38 : Int32) = 16 by decide), if_neg (show ¬ (38 : Int32) = 8 by decide), if_neg (show ¬ (38 : Int32) = 34 by decide), if_neg (show ¬ (38 : Int32) = 7 by decide), if_neg (show ¬ (38 : Int32) ≤ 34 by decide), if_pos (show (38 : Int32) ≤ 38 by decide)]
  unfold df_X13_statement_275
  rw [if_neg (show ¬ (38 : Int32) < 12 by decide), if_neg (show ¬ (38 : Int32) = 30 by decide), if_pos (show (30 : Int32) ≤ 38 by decide)]
theorem dsp_39 {n : Nat} {S : St} (hc : cstS S) (k : Nat) (hk : k < 128) (hs : shT k = 39) (od : Int32) : df_X13_statement_136 n (nI k) od S = nd_b1 (df_X13_others n 39 (ptT k ||| od) S) (fun (s : St) => df_X13_statement_326 n s) := by
  unfold df_X13_statement_136
  rw [if_pos (show (0 : Int32) ≤ nI k from zle (a := 0) (Nat.zero_le _) (by omega)), nm_ck (by omega) (by omega), nI_clamp (by omega), (hc k hk).2.1, hs, nb_let, nm_ck (by omega) (by omega), (hc k hk).2.2, nb_let, if_pos (show (39 : Int32) ≤ 39 by decide), if_neg (show ¬ (39 : Int32) = 12 by decide), if_neg (show ¬ (39 : Int32) = 16 by decide), if_neg (show ¬ (39 : Int32) = 8 by decide), if_neg (show ¬ (39 : Int32) = 34 by decide), if_neg (show ¬ (39 : Int32) = 7 by decide), if_neg (show ¬ (39 : Int32) ≤ 34 by decide), if_pos (show (38 : Int32) ≤ 39 by decide)]
  unfold df_X13_statement_275
  rw [if_neg (show ¬ (39 : Int32) < 12 by decide), if_neg (show ¬ (39 : Int32) = 30 by decide), if_pos (show (30 : Int32) ≤ 39 by decide)]
theorem frs_1 : ∀ y : Fin 128, shT (sgm y.1) = 1 → FRM y.1 = [100, 44, 97, 44, 98] ∧ ptT (sgm y.1) = ko_b y.1 ∧ ko_b y.1 &&& 3 = 3 := by decide +kernel
theorem frs_2 : ∀ y : Fin 128, shT (sgm y.1) = 2 → FRM y.1 = [100, 44, 97, 44, 73] ∧ ptT (sgm y.1) = ko_b y.1 ∧ ko_b y.1 &&& 3 = 3 := by decide +kernel
theorem frs_3 : ∀ y : Fin 128, shT (sgm y.1) = 3 → FRM y.1 = [100, 44, 97, 44, 72] ∧ ptT (sgm y.1) = ko_b y.1 ∧ ko_b y.1 &&& 3 = 3 := by decide +kernel
theorem frs_4 : ∀ y : Fin 128, shT (sgm y.1) = 4 → FRM y.1 = [100, 44, 73, 40, 97, 41] ∧ ptT (sgm y.1) = ko_b y.1 ∧ ko_b y.1 &&& 3 = 3 := by decide +kernel
theorem frs_5 : ∀ y : Fin 128, shT (sgm y.1) = 5 → FRM y.1 = [98, 44, 83, 40, 97, 41] ∧ ptT (sgm y.1) = ko_b y.1 ∧ ko_b y.1 &&& 3 = 3 := by decide +kernel
theorem frs_6 : ∀ y : Fin 128, shT (sgm y.1) = 6 → FRM y.1 = [100, 44, 85] ∧ ptT (sgm y.1) = ko_b y.1 ∧ ko_b y.1 &&& 3 = 3 := by decide +kernel
theorem frs_9 : ∀ y : Fin 128, shT (sgm y.1) = 9 → FRM y.1 = [100, 44, 98, 44, 40, 97, 41] ∧ ptT (sgm y.1) = ko_b y.1 ∧ ko_b y.1 &&& 3 = 3 := by decide +kernel
theorem frs_10 : ∀ y : Fin 128, shT (sgm y.1) = 10 → FRM y.1 = [100, 44, 40, 97, 41] ∧ ptT (sgm y.1) = ko_b y.1 ∧ ko_b y.1 &&& 3 = 3 := by decide +kernel
theorem frs_11 : ∀ y : Fin 128, shT (sgm y.1) = 11 → FRM y.1 = [100] ∧ ptT (sgm y.1) = ko_b y.1 ∧ ko_b y.1 &&& 3 = 3 := by decide +kernel
theorem frs_12 : ∀ y : Fin 128, shT (sgm y.1) = 12 → FRM y.1 = [] ∧ ptT (sgm y.1) = ko_b y.1 ∧ ko_b y.1 &&& 3 = 3 := by decide +kernel
theorem frs_13 : ∀ y : Fin 128, shT (sgm y.1) = 13 → FRM y.1 = [112, 44, 88] ∧ ptT (sgm y.1) = ko_b y.1 ∧ ¬ ko_b y.1 &&& 3 = 3 := by decide +kernel
theorem frs_14 : ∀ y : Fin 128, shT (sgm y.1) = 14 → FRM y.1 = [112, 44, 87, 40, 113, 41] ∧ ptT (sgm y.1) = ko_b y.1 ∧ ¬ ko_b y.1 &&& 3 = 3 := by decide +kernel
theorem frs_16 : ∀ y : Fin 128, shT (sgm y.1) = 16 → FRM y.1 = [] ∧ ptT (sgm y.1) = ko_b y.1 ∧ ¬ ko_b y.1 &&& 3 = 3 := by decide +kernel
theorem frs_17 : ∀ y : Fin 128, shT (sgm y.1) = 17 → FRM y.1 = [100, 44, 78] ∧ ptT (sgm y.1) = ko_b y.1 ∧ ¬ ko_b y.1 &&& 3 = 3 := by decide +kernel
theorem frs_18 : ∀ y : Fin 128, shT (sgm y.1) = 18 → FRM y.1 = [109, 44, 77] ∧ ptT (sgm y.1) = ko_b y.1 ∧ ¬ ko_b y.1 &&& 3 = 3 := by decide +kernel
theorem frs_19 : ∀ y : Fin 128, shT (sgm y.1) = 19 → FRM y.1 = [75] ∧ ptT (sgm y.1) = ko_b y.1 ∧ ¬ ko_b y.1 &&& 3 = 3 := by decide +kernel
theorem frs_20 : ∀ y : Fin 128, shT (sgm y.1) = 20 → FRM y.1 = [89] ∧ ptT (sgm y.1) = ko_b y.1 ∧ ¬ ko_b y.1 &&& 3 = 3 := by decide +kernel
theorem frs_21 : ∀ y : Fin 128, shT (sgm y.1) = 21 → FRM y.1 = [113, 44, 86] ∧ ptT (sgm y.1) = ko_b y.1 ∧ ¬ ko_b y.1 &&& 3 = 3 := by decide +kernel
theorem frs_22 : ∀ y : Fin 128, shT (sgm y.1) = 22 → FRM y.1 = [113, 44, 78] ∧ ptT (sgm y.1) = ko_b y.1 ∧ ¬ ko_b y.1 &&& 3 = 3 := by decide +kernel
theorem frs_23 : ∀ y : Fin 128, shT (sgm y.1) = 23 → FRM y.1 = [113, 44, 112] ∧ ptT (sgm y.1) = ko_b y.1 ∧ ¬ ko_b y.1 &&& 3 = 3 := by decide +kernel
theorem frs_24 : ∀ y : Fin 128, shT (sgm y.1) = 24 → FRM y.1 = [113, 44, 76] ∧ ptT (sgm y.1) = ko_b y.1 ∧ ¬ ko_b y.1 &&& 3 = 3 := by decide +kernel
theorem frs_25 : ∀ y : Fin 128, shT (sgm y.1) = 25 → FRM y.1 = [100, 44, 86] ∧ ptT (sgm y.1) = ko_b y.1 ∧ ¬ ko_b y.1 &&& 3 = 3 := by decide +kernel
theorem frs_26 : ∀ y : Fin 128, shT (sgm y.1) = 26 → FRM y.1 = [110, 44, 80] ∧ ptT (sgm y.1) = ko_b y.1 ∧ ¬ ko_b y.1 &&& 3 = 3 := by decide +kernel
theorem frs_27 : ∀ y : Fin 128, shT (sgm y.1) = 27 → FRM y.1 = [110] ∧ ptT (sgm y.1) = ko_b y.1 ∧ ¬ ko_b y.1 &&& 3 = 3 := by decide +kernel
theorem frs_28 : ∀ y : Fin 128, shT (sgm y.1) = 28 → FRM y.1 = [100, 44, 122] ∧ ptT (sgm y.1) = ko_b y.1 ∧ ¬ ko_b y.1 &&& 3 = 3 := by decide +kernel
theorem frs_29 : ∀ y : Fin 128, shT (sgm y.1) = 29 → FRM y.1 = [115, 44, 81] ∧ ptT (sgm y.1) = ko_b y.1 ∧ ¬ ko_b y.1 &&& 3 = 3 := by decide +kernel
theorem frs_31 : ∀ y : Fin 128, shT (sgm y.1) = 31 → FRM y.1 = [100, 44, 97] ∧ ptT (sgm y.1) = ko_b y.1 ∧ ko_b y.1 &&& 3 = 3 := by decide +kernel
theorem frs_32 : ∀ y : Fin 128, shT (sgm y.1) = 32 → FRM y.1 = [100, 44, 98] ∧ ptT (sgm y.1) = ko_b y.1 ∧ ko_b y.1 &&& 3 = 3 := by decide +kernel
theorem frs_33 : ∀ y : Fin 128, shT (sgm y.1) = 33 → FRM y.1 = [97] ∧ ptT (sgm y.1) = ko_b y.1 ∧ ko_b y.1 &&& 3 = 3 := by decide +kernel
def isPl (y : Nat) : Prop := shT (sgm y) = 1 ∨ shT (sgm y) = 2 ∨ shT (sgm y) = 3 ∨ shT (sgm y) = 4 ∨ shT (sgm y) = 5 ∨ shT (sgm y) = 6 ∨ shT (sgm y) = 9 ∨ shT (sgm y) = 10 ∨ shT (sgm y) = 11 ∨ shT (sgm y) = 12 ∨ shT (sgm y) = 13 ∨ shT (sgm y) = 14 ∨ shT (sgm y) = 16 ∨ shT (sgm y) = 17 ∨ shT (sgm y) = 18 ∨ shT (sgm y) = 19 ∨ shT (sgm y) = 20 ∨ shT (sgm y) = 21 ∨ shT (sgm y) = 22 ∨ shT (sgm y) = 23 ∨ shT (sgm y) = 24 ∨ shT (sgm y) = 25 ∨ shT (sgm y) = 26 ∨ shT (sgm y) = 27 ∨ shT (sgm y) = 28 ∨ shT (sgm y) = 29 ∨ shT (sgm y) = 31 ∨ shT (sgm y) = 32 ∨ shT (sgm y) = 33
def byY (y : Nat) (v : Int32) : List Int32 := if ko_b y &&& 3 = 3 then by4 v else by2 v
/-- what such a statement leaves -/
def plnP (e : Nat) (B : St) (ct : Nat) (gr : Bool) (PA BY OU : Nat → Int32) (p2 : Nat) (V : Tp → Int32 × Bool) (P : Nat → Tp) (m l : Nat) (bs : Int32 → List Int32) (w : Int32) (S : St) : Prop := (l = 0 → PLO e B ct gr PA BY OU p2 0 (bs w) S) ∧ (¬ l = 0 → ∃ (z : Int32) (ms dv : Bool), rnF V P m = ([z], ms, dv) ∧ PLO e B ct gr PA BY OU p2 (wiF B ms dv (lfO l (vtO l (sI B 17) z))) (bs (w ||| lbO l (vtO l (sI B 17) z))) S)
theorem pln_R {y : Nat} {n L e : Nat} {c : Nat → Nat} {BC B : St} {X : Nat → Nat} {nL st cu : Nat} (hV : RV n L e c BC B X nL cu) {ct : Nat} {gr : Bool} {PA BY OU : Nat → Int32} (hY : PY PA cu st) {p : Nat} {S : St} (h : SR B ct gr PA BY OU 0 p S) (hw : OKW B (ct + if ko_b y &&& 3 = 3 then 4 else 2)) {f p2 : Nat} {rs : List Nat} {m : Nat} {P : Nat → Tp} (h0 : ¬ f = 0 → sI B 15 = 0) (hc : cstS S) (hy : y < 128) (od : Int32) (hp : isPl y) (hTr : Tr n L e c BC (FRM y) p f p2 rs m P) : ∃ S' : St, df_X13_statement_136 n (nI (sgm y)) od S = df_X13_statement_326 n S' ∧ (¬ f = 0 → FL e B (nI f + 16 * sI B 13) S') ∧ (f = 0 → plnP e B ct gr PA BY OU p2 (VW c X e nL st B) P m (eL (FRM y)) (byY y) (ko_b y ||| od ||| RGB (FRM y) rs) S') := by
  rcases hp with hs | hs | hs | hs | hs | hs | hs | hs | hs | hs | hs | hs | hs | hs | hs | hs | hs | hs | hs | hs | hs | hs | hs | hs | hs | hs | hs | hs | hs
  · obtain ⟨f1, f2, f3⟩ := frs_1 ⟨y, hy⟩ hs
    have f1 : FRM y = [100, 44, 97, 44, 98] := f1
    have f2 : ptT (sgm y) = ko_b y := f2
    have bY : byY y = by4 := funext fun v => if_pos f3
    have hw : OKW B (ct + 4) := by rw [if_pos f3] at hw; exact hw
    rw [f1] at hTr ⊢
    rw [bY]
    obtain ⟨S', e1, e2, e3⟩ := shp_1 hV hY h hw (ko_b y ||| od) h0 hTr
    refine ⟨S', ?_, e2, fun u => ?_⟩
    · rw [dsp_1 hc (sgm y) (sgm_l hy) hs od, f2, e1, nb_b1]
    · exact ⟨fun _ => e3 u, fun z => absurd rfl z⟩
  · obtain ⟨f1, f2, f3⟩ := frs_2 ⟨y, hy⟩ hs
    have f1 : FRM y = [100, 44, 97, 44, 73] := f1
    have f2 : ptT (sgm y) = ko_b y := f2
    have bY : byY y = by4 := funext fun v => if_pos f3
    have hw : OKW B (ct + 4) := by rw [if_pos f3] at hw; exact hw
    rw [f1] at hTr ⊢
    rw [bY]
    obtain ⟨S', e1, e2, e3⟩ := shp_2 hV hY h hw (ko_b y ||| od) h0 hTr
    refine ⟨S', ?_, e2, fun u => ?_⟩
    · rw [dsp_2 hc (sgm y) (sgm_l hy) hs od, f2, e1, nb_b1]
    · exact ⟨fun z => absurd z (by decide), fun _ => e3 u⟩
  · obtain ⟨f1, f2, f3⟩ := frs_3 ⟨y, hy⟩ hs
    have f1 : FRM y = [100, 44, 97, 44, 72] := f1
    have f2 : ptT (sgm y) = ko_b y := f2
    have bY : byY y = by4 := funext fun v => if_pos f3
    have hw : OKW B (ct + 4) := by rw [if_pos f3] at hw; exact hw
    rw [f1] at hTr ⊢
    rw [bY]
    obtain ⟨S', e1, e2, e3⟩ := shp_3 hV hY h hw (ko_b y ||| od) h0 hTr
    refine ⟨S', ?_, e2, fun u => ?_⟩
    · rw [dsp_3 hc (sgm y) (sgm_l hy) hs od, f2, e1, nb_b1]
    · exact ⟨fun z => absurd z (by decide), fun _ => e3 u⟩
  · obtain ⟨f1, f2, f3⟩ := frs_4 ⟨y, hy⟩ hs
    have f1 : FRM y = [100, 44, 73, 40, 97, 41] := f1
    have f2 : ptT (sgm y) = ko_b y := f2
    have bY : byY y = by4 := funext fun v => if_pos f3
    have hw : OKW B (ct + 4) := by rw [if_pos f3] at hw; exact hw
    rw [f1] at hTr ⊢
    rw [bY]
    obtain ⟨S', e1, e2, e3⟩ := shp_4 hV hY h hw (ko_b y ||| od) h0 hTr
    refine ⟨S', ?_, e2, fun u => ?_⟩
    · rw [dsp_4 hc (sgm y) (sgm_l hy) hs od, f2, e1, nb_b1]
    · exact ⟨fun z => absurd z (by decide), fun _ => e3 u⟩
  · obtain ⟨f1, f2, f3⟩ := frs_5 ⟨y, hy⟩ hs
    have f1 : FRM y = [98, 44, 83, 40, 97, 41] := f1
    have f2 : ptT (sgm y) = ko_b y := f2
    have bY : byY y = by4 := funext fun v => if_pos f3
    have hw : OKW B (ct + 4) := by rw [if_pos f3] at hw; exact hw
    rw [f1] at hTr ⊢
    rw [bY]
    obtain ⟨S', e1, e2, e3⟩ := shp_5 hV hY h hw (ko_b y ||| od) h0 hTr
    refine ⟨S', ?_, e2, fun u => ?_⟩
    · rw [dsp_5 hc (sgm y) (sgm_l hy) hs od, f2, e1, nb_b1]
    · exact ⟨fun z => absurd z (by decide), fun _ => e3 u⟩
  · obtain ⟨f1, f2, f3⟩ := frs_6 ⟨y, hy⟩ hs
    have f1 : FRM y = [100, 44, 85] := f1
    have f2 : ptT (sgm y) = ko_b y := f2
    have bY : byY y = by4 := funext fun v => if_pos f3
    have hw : OKW B (ct + 4) := by rw [if_pos f3] at hw; exact hw
    rw [f1] at hTr ⊢
    rw [bY]
    obtain ⟨S', e1, e2, e3⟩ := shp_6 hV hY h hw (ko_b y ||| od) h0 hTr
    refine ⟨S', ?_, e2, fun u => ?_⟩
    · rw [dsp_6 hc (sgm y) (sgm_l hy) hs od, f2, e1, nb_b1]
    · exact ⟨fun z => absurd z (by decide), fun _ => e3 u⟩
  · obtain ⟨f1, f2, f3⟩ := frs_9 ⟨y, hy⟩ hs
    have f1 : FRM y = [100, 44, 98, 44, 40, 97, 41] := f1
    have f2 : ptT (sgm y) = ko_b y := f2
    have bY : byY y = by4 := funext fun v => if_pos f3
    have hw : OKW B (ct + 4) := by rw [if_pos f3] at hw; exact hw
    rw [f1] at hTr ⊢
    rw [bY]
    obtain ⟨S', e1, e2, e3⟩ := shp_9 hV hY h hw (ko_b y ||| od) h0 hTr
    refine ⟨S', ?_, e2, fun u => ?_⟩
    · rw [dsp_9 hc (sgm y) (sgm_l hy) hs od, f2, e1, nb_b1]
    · exact ⟨fun _ => e3 u, fun z => absurd rfl z⟩
  · obtain ⟨f1, f2, f3⟩ := frs_10 ⟨y, hy⟩ hs
    have f1 : FRM y = [100, 44, 40, 97, 41] := f1
    have f2 : ptT (sgm y) = ko_b y := f2
    have bY : byY y = by4 := funext fun v => if_pos f3
    have hw : OKW B (ct + 4) := by rw [if_pos f3] at hw; exact hw
    rw [f1] at hTr ⊢
    rw [bY]
    obtain ⟨S', e1, e2, e3⟩ := shp_10 hV hY h hw (ko_b y ||| od) h0 hTr
    refine ⟨S', ?_, e2, fun u => ?_⟩
    · rw [dsp_10 hc (sgm y) (sgm_l hy) hs od, f2, e1, nb_b1]
    · exact ⟨fun _ => e3 u, fun z => absurd rfl z⟩
  · obtain ⟨f1, f2, f3⟩ := frs_11 ⟨y, hy⟩ hs
    have f1 : FRM y = [100] := f1
    have f2 : ptT (sgm y) = ko_b y := f2
    have bY : byY y = by4 := funext fun v => if_pos f3
    have hw : OKW B (ct + 4) := by rw [if_pos f3] at hw; exact hw
    rw [f1] at hTr ⊢
    rw [bY]
    obtain ⟨S', e1, e2, e3⟩ := shp_11 hV hY h hw (ko_b y ||| od) h0 hTr
    refine ⟨S', ?_, e2, fun u => ?_⟩
    · rw [dsp_11 hc (sgm y) (sgm_l hy) hs od, f2, e1, nb_b1]
    · exact ⟨fun _ => e3 u, fun z => absurd rfl z⟩
  · obtain ⟨f1, f2, f3⟩ := frs_12 ⟨y, hy⟩ hs
    have f1 : FRM y = [] := f1
    have f2 : ptT (sgm y) = ko_b y := f2
    have bY : byY y = by4 := funext fun v => if_pos f3
    have hw : OKW B (ct + 4) := by rw [if_pos f3] at hw; exact hw
    rw [f1] at hTr ⊢
    rw [bY]
    obtain ⟨rfl, rfl, rfl⟩ := hTr
    obtain ⟨S', e1, e2⟩ := wor_S (n := n) h (OKW_m hw (by omega)) (ko_b y ||| od)
    refine ⟨S', ?_, fun u => absurd rfl u, fun _ => ⟨fun _ => plo4 rfl e2 (or_0 _).symm, fun z => absurd rfl z⟩⟩
    rw [dsp_12 hc (sgm y) (sgm_l hy) hs od, f2, e1, nb_b1]
  · obtain ⟨f1, f2, f3⟩ := frs_13 ⟨y, hy⟩ hs
    have f1 : FRM y = [112, 44, 88] := f1
    have f2 : ptT (sgm y) = ko_b y := f2
    have bY : byY y = by2 := funext fun v => if_neg f3
    have hw : OKW B (ct + 2) := by rw [if_neg f3] at hw; exact hw
    rw [f1] at hTr ⊢
    rw [bY]
    obtain ⟨S', e1, e2, e3⟩ := shp_13 hV hY h hw (ko_b y ||| od) h0 hTr
    refine ⟨S', ?_, e2, fun u => ?_⟩
    · rw [dsp_13 hc (sgm y) (sgm_l hy) hs od, f2, e1, nb_b1]
    · exact ⟨fun z => absurd z (by decide), fun _ => e3 u⟩
  · obtain ⟨f1, f2, f3⟩ := frs_14 ⟨y, hy⟩ hs
    have f1 : FRM y = [112, 44, 87, 40, 113, 41] := f1
    have f2 : ptT (sgm y) = ko_b y := f2
    have bY : byY y = by2 := funext fun v => if_neg f3
    have hw : OKW B (ct + 2) := by rw [if_neg f3] at hw; exact hw
    rw [f1] at hTr ⊢
    rw [bY]
    obtain ⟨S', e1, e2, e3⟩ := shp_14 hV hY h hw (ko_b y ||| od) h0 hTr
    refine ⟨S', ?_, e2, fun u => ?_⟩
    · rw [dsp_14 hc (sgm y) (sgm_l hy) hs od, f2, e1, nb_b1]
    · exact ⟨fun z => absurd z (by decide), fun _ => e3 u⟩
  · obtain ⟨f1, f2, f3⟩ := frs_16 ⟨y, hy⟩ hs
    have f1 : FRM y = [] := f1
    have f2 : ptT (sgm y) = ko_b y := f2
    have bY : byY y = by2 := funext fun v => if_neg f3
    have hw : OKW B (ct + 2) := by rw [if_neg f3] at hw; exact hw
    rw [f1] at hTr ⊢
    rw [bY]
    obtain ⟨rfl, rfl, rfl⟩ := hTr
    obtain ⟨S', e1, e2⟩ := hal_S (n := n) h (OKW_m hw (by omega)) (ko_b y ||| od)
    refine ⟨S', ?_, fun u => absurd rfl u, fun _ => ⟨fun _ => plo2 rfl e2 (or_0 _).symm, fun z => absurd rfl z⟩⟩
    rw [dsp_16 hc (sgm y) (sgm_l hy) hs od, f2, e1, nb_b1]
  · obtain ⟨f1, f2, f3⟩ := frs_17 ⟨y, hy⟩ hs
    have f1 : FRM y = [100, 44, 78] := f1
    have f2 : ptT (sgm y) = ko_b y := f2
    have bY : byY y = by2 := funext fun v => if_neg f3
    have hw : OKW B (ct + 2) := by rw [if_neg f3] at hw; exact hw
    rw [f1] at hTr ⊢
    rw [bY]
    obtain ⟨S', e1, e2, e3⟩ := shp_17 hV hY h hw (ko_b y ||| od) h0 hTr
    refine ⟨S', ?_, e2, fun u => ?_⟩
    · rw [dsp_17 hc (sgm y) (sgm_l hy) hs od, f2, e1, nb_b1]
    · exact ⟨fun z => absurd z (by decide), fun _ => e3 u⟩
  · obtain ⟨f1, f2, f3⟩ := frs_18 ⟨y, hy⟩ hs
    have f1 : FRM y = [109, 44, 77] := f1
    have f2 : ptT (sgm y) = ko_b y := f2
    have bY : byY y = by2 := funext fun v => if_neg f3
    have hw : OKW B (ct + 2) := by rw [if_neg f3] at hw; exact hw
    rw [f1] at hTr ⊢
    rw [bY]
    obtain ⟨S', e1, e2, e3⟩ := shp_18 hV hY h hw (ko_b y ||| od) h0 hTr
    refine ⟨S', ?_, e2, fun u => ?_⟩
    · rw [dsp_18 hc (sgm y) (sgm_l hy) hs od, f2, e1, nb_b1]
    · exact ⟨fun z => absurd z (by decide), fun _ => e3 u⟩
  · obtain ⟨f1, f2, f3⟩ := frs_19 ⟨y, hy⟩ hs
    have f1 : FRM y = [75] := f1
    have f2 : ptT (sgm y) = ko_b y := f2
    have bY : byY y = by2 := funext fun v => if_neg f3
    have hw : OKW B (ct + 2) := by rw [if_neg f3] at hw; exact hw
    rw [f1] at hTr ⊢
    rw [bY]
    obtain ⟨S', e1, e2, e3⟩ := shp_19 hV hY h hw (ko_b y ||| od) h0 hTr
    refine ⟨S', ?_, e2, fun u => ?_⟩
    · rw [dsp_19 hc (sgm y) (sgm_l hy) hs od, f2, e1, nb_b1]
    · exact ⟨fun z => absurd z (by decide), fun _ => e3 u⟩
  · obtain ⟨f1, f2, f3⟩ := frs_20 ⟨y, hy⟩ hs
    have f1 : FRM y = [89] := f1
    have f2 : ptT (sgm y) = ko_b y := f2
    have bY : byY y = by2 := funext fun v => if_neg f3
    have hw : OKW B (ct + 2) := by rw [if_neg f3] at hw; exact hw
    rw [f1] at hTr ⊢
    rw [bY]
    obtain ⟨S', e1, e2, e3⟩ := shp_20 hV hY h hw (ko_b y ||| od) h0 hTr
    refine ⟨S', ?_, e2, fun u => ?_⟩
    · rw [dsp_20 hc (sgm y) (sgm_l hy) hs od, f2, e1, nb_b1]
    · exact ⟨fun z => absurd z (by decide), fun _ => e3 u⟩
  · obtain ⟨f1, f2, f3⟩ := frs_21 ⟨y, hy⟩ hs
    have f1 : FRM y = [113, 44, 86] := f1
    have f2 : ptT (sgm y) = ko_b y := f2
    have bY : byY y = by2 := funext fun v => if_neg f3
    have hw : OKW B (ct + 2) := by rw [if_neg f3] at hw; exact hw
    rw [f1] at hTr ⊢
    rw [bY]
    obtain ⟨S', e1, e2, e3⟩ := shp_21 hV hY h hw (ko_b y ||| od) h0 hTr
    refine ⟨S', ?_, e2, fun u => ?_⟩
    · rw [dsp_21 hc (sgm y) (sgm_l hy) hs od, f2, e1, nb_b1]
    · exact ⟨fun z => absurd z (by decide), fun _ => e3 u⟩
  · obtain ⟨f1, f2, f3⟩ := frs_22 ⟨y, hy⟩ hs
    have f1 : FRM y = [113, 44, 78] := f1
    have f2 : ptT (sgm y) = ko_b y := f2
    have bY : byY y = by2 := funext fun v => if_neg f3
    have hw : OKW B (ct + 2) := by rw [if_neg f3] at hw; exact hw
    rw [f1] at hTr ⊢
    rw [bY]
    obtain ⟨S', e1, e2, e3⟩ := shp_22 hV hY h hw (ko_b y ||| od) h0 hTr
    refine ⟨S', ?_, e2, fun u => ?_⟩
    · rw [dsp_22 hc (sgm y) (sgm_l hy) hs od, f2, e1, nb_b1]
    · exact ⟨fun z => absurd z (by decide), fun _ => e3 u⟩
  · obtain ⟨f1, f2, f3⟩ := frs_23 ⟨y, hy⟩ hs
    have f1 : FRM y = [113, 44, 112] := f1
    have f2 : ptT (sgm y) = ko_b y := f2
    have bY : byY y = by2 := funext fun v => if_neg f3
    have hw : OKW B (ct + 2) := by rw [if_neg f3] at hw; exact hw
    rw [f1] at hTr ⊢
    rw [bY]
    obtain ⟨S', e1, e2, e3⟩ := shp_23 hV hY h hw (ko_b y ||| od) h0 hTr
    refine ⟨S', ?_, e2, fun u => ?_⟩
    · rw [dsp_23 hc (sgm y) (sgm_l hy) hs od, f2, e1, nb_b1]
    · exact ⟨fun _ => e3 u, fun z => absurd rfl z⟩
  · obtain ⟨f1, f2, f3⟩ := frs_24 ⟨y, hy⟩ hs
    have f1 : FRM y = [113, 44, 76] := f1
    have f2 : ptT (sgm y) = ko_b y := f2
    have bY : byY y = by2 := funext fun v => if_neg f3
    have hw : OKW B (ct + 2) := by rw [if_neg f3] at hw; exact hw
    rw [f1] at hTr ⊢
    rw [bY]
    obtain ⟨S', e1, e2, e3⟩ := shp_24 hV hY h hw (ko_b y ||| od) h0 hTr
    refine ⟨S', ?_, e2, fun u => ?_⟩
    · rw [dsp_24 hc (sgm y) (sgm_l hy) hs od, f2, e1, nb_b1]
    · exact ⟨fun z => absurd z (by decide), fun _ => e3 u⟩
  · obtain ⟨f1, f2, f3⟩ := frs_25 ⟨y, hy⟩ hs
    have f1 : FRM y = [100, 44, 86] := f1
    have f2 : ptT (sgm y) = ko_b y := f2
    have bY : byY y = by2 := funext fun v => if_neg f3
    have hw : OKW B (ct + 2) := by rw [if_neg f3] at hw; exact hw
    rw [f1] at hTr ⊢
    rw [bY]
    obtain ⟨S', e1, e2, e3⟩ := shp_25 hV hY h hw (ko_b y ||| od) h0 hTr
    refine ⟨S', ?_, e2, fun u => ?_⟩
    · rw [dsp_25 hc (sgm y) (sgm_l hy) hs od, f2, e1, nb_b1]
    · exact ⟨fun z => absurd z (by decide), fun _ => e3 u⟩
  · obtain ⟨f1, f2, f3⟩ := frs_26 ⟨y, hy⟩ hs
    have f1 : FRM y = [110, 44, 80] := f1
    have f2 : ptT (sgm y) = ko_b y := f2
    have bY : byY y = by2 := funext fun v => if_neg f3
    have hw : OKW B (ct + 2) := by rw [if_neg f3] at hw; exact hw
    rw [f1] at hTr ⊢
    rw [bY]
    obtain ⟨S', e1, e2, e3⟩ := shp_26 hV hY h hw (ko_b y ||| od) h0 hTr
    refine ⟨S', ?_, e2, fun u => ?_⟩
    · rw [dsp_26 hc (sgm y) (sgm_l hy) hs od, f2, e1, nb_b1]
    · exact ⟨fun z => absurd z (by decide), fun _ => e3 u⟩
  · obtain ⟨f1, f2, f3⟩ := frs_27 ⟨y, hy⟩ hs
    have f1 : FRM y = [110] := f1
    have f2 : ptT (sgm y) = ko_b y := f2
    have bY : byY y = by2 := funext fun v => if_neg f3
    have hw : OKW B (ct + 2) := by rw [if_neg f3] at hw; exact hw
    rw [f1] at hTr ⊢
    rw [bY]
    obtain ⟨S', e1, e2, e3⟩ := shp_27 hV hY h hw (ko_b y ||| od) h0 hTr
    refine ⟨S', ?_, e2, fun u => ?_⟩
    · rw [dsp_27 hc (sgm y) (sgm_l hy) hs od, f2, e1, nb_b1]
    · exact ⟨fun _ => e3 u, fun z => absurd rfl z⟩
  · obtain ⟨f1, f2, f3⟩ := frs_28 ⟨y, hy⟩ hs
    have f1 : FRM y = [100, 44, 122] := f1
    have f2 : ptT (sgm y) = ko_b y := f2
    have bY : byY y = by2 := funext fun v => if_neg f3
    have hw : OKW B (ct + 2) := by rw [if_neg f3] at hw; exact hw
    rw [f1] at hTr ⊢
    rw [bY]
    obtain ⟨S', e1, e2, e3⟩ := shp_28 hV hY h hw (ko_b y ||| od) h0 hTr
    refine ⟨S', ?_, e2, fun u => ?_⟩
    · rw [dsp_28 hc (sgm y) (sgm_l hy) hs od, f2, e1, nb_b1]
    · exact ⟨fun _ => e3 u, fun z => absurd rfl z⟩
  · obtain ⟨f1, f2, f3⟩ := frs_29 ⟨y, hy⟩ hs
    have f1 : FRM y = [115, 44, 81] := f1
    have f2 : ptT (sgm y) = ko_b y := f2
    have bY : byY y = by2 := funext fun v => if_neg f3
    have hw : OKW B (ct + 2) := by rw [if_neg f3] at hw; exact hw
    rw [f1] at hTr ⊢
    rw [bY]
    obtain ⟨S', e1, e2, e3⟩ := shp_29 hV hY h hw (ko_b y ||| od) h0 hTr
    refine ⟨S', ?_, e2, fun u => ?_⟩
    · rw [dsp_29 hc (sgm y) (sgm_l hy) hs od, f2, e1, nb_b1]
    · exact ⟨fun z => absurd z (by decide), fun _ => e3 u⟩
  · obtain ⟨f1, f2, f3⟩ := frs_31 ⟨y, hy⟩ hs
    have f1 : FRM y = [100, 44, 97] := f1
    have f2 : ptT (sgm y) = ko_b y := f2
    have bY : byY y = by4 := funext fun v => if_pos f3
    have hw : OKW B (ct + 4) := by rw [if_pos f3] at hw; exact hw
    rw [f1] at hTr ⊢
    rw [bY]
    obtain ⟨S', e1, e2, e3⟩ := shp_31 hV hY h hw (ko_b y ||| od) h0 hTr
    refine ⟨S', ?_, e2, fun u => ?_⟩
    · rw [dsp_31 hc (sgm y) (sgm_l hy) hs od, f2, e1, nb_b1]
    · exact ⟨fun _ => e3 u, fun z => absurd rfl z⟩
  · obtain ⟨f1, f2, f3⟩ := frs_32 ⟨y, hy⟩ hs
    have f1 : FRM y = [100, 44, 98] := f1
    have f2 : ptT (sgm y) = ko_b y := f2
    have bY : byY y = by4 := funext fun v => if_pos f3
    have hw : OKW B (ct + 4) := by rw [if_pos f3] at hw; exact hw
    rw [f1] at hTr ⊢
    rw [bY]
    obtain ⟨S', e1, e2, e3⟩ := shp_32 hV hY h hw (ko_b y ||| od) h0 hTr
    refine ⟨S', ?_, e2, fun u => ?_⟩
    · rw [dsp_32 hc (sgm y) (sgm_l hy) hs od, f2, e1, nb_b1]
    · exact ⟨fun _ => e3 u, fun z => absurd rfl z⟩
  · obtain ⟨f1, f2, f3⟩ := frs_33 ⟨y, hy⟩ hs
    have f1 : FRM y = [97] := f1
    have f2 : ptT (sgm y) = ko_b y := f2
    have bY : byY y = by4 := funext fun v => if_pos f3
    have hw : OKW B (ct + 4) := by rw [if_pos f3] at hw; exact hw
    rw [f1] at hTr ⊢
    rw [bY]
    obtain ⟨S', e1, e2, e3⟩ := shp_33 hV hY h hw (ko_b y ||| od) h0 hTr
    refine ⟨S', ?_, e2, fun u => ?_⟩
    · rw [dsp_33 hc (sgm y) (sgm_l hy) hs od, f2, e1, nb_b1]
    · exact ⟨fun _ => e3 u, fun z => absurd rfl z⟩

/-- the class's assembler as one term -/
def qC (B : St) (sn : Nat) (lu : Nat) (ft : Int32) (ln : Nat) (se : Nat) (od : Int32) (co : Nat) (SW LW : Nat → Int32) : St := (fun j => if j = 0 then nI sn else if j = 1 then nI lu else if j = 2 then ft else if j = 3 then nI ln else if j = 4 then nI se else if j = 5 then od else if j = 6 then nI co else B.1 j, B.2.1, fun j => if j = 0 then SW else if j = 1 then LW else B.2.2.1 j, B.2.2.2)
theorem qC_i0 {B : St} {sn : Nat} {lu : Nat} {ft : Int32} {ln : Nat} {se : Nat} {od : Int32} {co : Nat} {SW LW : Nat → Int32} : sI (qC B sn lu ft ln se od co SW LW) 0 = nI sn := rfl
theorem qC_i1 {B : St} {sn : Nat} {lu : Nat} {ft : Int32} {ln : Nat} {se : Nat} {od : Int32} {co : Nat} {SW LW : Nat → Int32} : sI (qC B sn lu ft ln se od co SW LW) 1 = nI lu := rfl
theorem qC_i2 {B : St} {sn : Nat} {lu : Nat} {ft : Int32} {ln : Nat} {se : Nat} {od : Int32} {co : Nat} {SW LW : Nat → Int32} : sI (qC B sn lu ft ln se od co SW LW) 2 = ft := rfl
theorem qC_i3 {B : St} {sn : Nat} {lu : Nat} {ft : Int32} {ln : Nat} {se : Nat} {od : Int32} {co : Nat} {SW LW : Nat → Int32} : sI (qC B sn lu ft ln se od co SW LW) 3 = nI ln := rfl
theorem qC_i4 {B : St} {sn : Nat} {lu : Nat} {ft : Int32} {ln : Nat} {se : Nat} {od : Int32} {co : Nat} {SW LW : Nat → Int32} : sI (qC B sn lu ft ln se od co SW LW) 4 = nI se := rfl
theorem qC_i5 {B : St} {sn : Nat} {lu : Nat} {ft : Int32} {ln : Nat} {se : Nat} {od : Int32} {co : Nat} {SW LW : Nat → Int32} : sI (qC B sn lu ft ln se od co SW LW) 5 = od := rfl
theorem qC_i6 {B : St} {sn : Nat} {lu : Nat} {ft : Int32} {ln : Nat} {se : Nat} {od : Int32} {co : Nat} {SW LW : Nat → Int32} : sI (qC B sn lu ft ln se od co SW LW) 6 = nI co := rfl
theorem qC_r0 {B : St} {sn : Nat} {lu : Nat} {ft : Int32} {ln : Nat} {se : Nat} {od : Int32} {co : Nat} {SW LW : Nat → Int32} : sR (qC B sn lu ft ln se od co SW LW) 0 = SW := rfl
theorem qC_r1 {B : St} {sn : Nat} {lu : Nat} {ft : Int32} {ln : Nat} {se : Nat} {od : Int32} {co : Nat} {SW LW : Nat → Int32} : sR (qC B sn lu ft ln se od co SW LW) 1 = LW := rfl
theorem qC_w0 {B : St} {sn : Nat} {lu : Nat} {ft : Int32} {ln : Nat} {se : Nat} {od : Int32} {co : Nat} {SW LW : Nat → Int32} {v : Nat} : pI (qC B sn lu ft ln se od co SW LW) 0 (nI v) = qC B v lu ft ln se od co SW LW := Prod.ext (funext fun j => by
  show (if j = 0 then nI v else _) = _
  by_cases h : j = 0
  · subst h; rfl
  · unfold qC
    simp only [if_neg h]) rfl
theorem qC_w1 {B : St} {sn : Nat} {lu : Nat} {ft : Int32} {ln : Nat} {se : Nat} {od : Int32} {co : Nat} {SW LW : Nat → Int32} {v : Nat} : pI (qC B sn lu ft ln se od co SW LW) 1 (nI v) = qC B sn v ft ln se od co SW LW := Prod.ext (funext fun j => by
  show (if j = 1 then nI v else _) = _
  by_cases h : j = 1
  · subst h; rfl
  · unfold qC
    simp only [if_neg h]) rfl
theorem qC_w2 {B : St} {sn : Nat} {lu : Nat} {ft : Int32} {ln : Nat} {se : Nat} {od : Int32} {co : Nat} {SW LW : Nat → Int32} {v : Int32} : pI (qC B sn lu ft ln se od co SW LW) 2 (v) = qC B sn lu v ln se od co SW LW := Prod.ext (funext fun j => by
  show (if j = 2 then v else _) = _
  by_cases h : j = 2
  · subst h; rfl
  · unfold qC
    simp only [if_neg h]) rfl
theorem qC_w3 {B : St} {sn : Nat} {lu : Nat} {ft : Int32} {ln : Nat} {se : Nat} {od : Int32} {co : Nat} {SW LW : Nat → Int32} {v : Nat} : pI (qC B sn lu ft ln se od co SW LW) 3 (nI v) = qC B sn lu ft v se od co SW LW := Prod.ext (funext fun j => by
  show (if j = 3 then nI v else _) = _
  by_cases h : j = 3
  · subst h; rfl
  · unfold qC
    simp only [if_neg h]) rfl
theorem qC_w4 {B : St} {sn : Nat} {lu : Nat} {ft : Int32} {ln : Nat} {se : Nat} {od : Int32} {co : Nat} {SW LW : Nat → Int32} {v : Nat} : pI (qC B sn lu ft ln se od co SW LW) 4 (nI v) = qC B sn lu ft ln v od co SW LW := Prod.ext (funext fun j => by
  show (if j = 4 then nI v else _) = _
  by_cases h : j = 4
  · subst h; rfl
  · unfold qC
    simp only [if_neg h]) rfl
theorem qC_w5 {B : St} {sn : Nat} {lu : Nat} {ft : Int32} {ln : Nat} {se : Nat} {od : Int32} {co : Nat} {SW LW : Nat → Int32} {v : Int32} : pI (qC B sn lu ft ln se od co SW LW) 5 (v) = qC B sn lu ft ln se v co SW LW := Prod.ext (funext fun j => by
  show (if j = 5 then v else _) = _
  by_cases h : j = 5
  · subst h; rfl
  · unfold qC
    simp only [if_neg h]) rfl
theorem qC_w6 {B : St} {sn : Nat} {lu : Nat} {ft : Int32} {ln : Nat} {se : Nat} {od : Int32} {co : Nat} {SW LW : Nat → Int32} {v : Nat} : pI (qC B sn lu ft ln se od co SW LW) 6 (nI v) = qC B sn lu ft ln se od v SW LW := Prod.ext (funext fun j => by
  show (if j = 6 then nI v else _) = _
  by_cases h : j = 6
  · subst h; rfl
  · unfold qC
    simp only [if_neg h]) rfl
theorem qC_y0 {B : St} {sn : Nat} {lu : Nat} {ft : Int32} {ln : Nat} {se : Nat} {od : Int32} {co : Nat} {SW LW : Nat → Int32} {v : Nat → Int32} : pR (qC B sn lu ft ln se od co SW LW) 0 v = qC B sn lu ft ln se od co v LW := Prod.ext rfl (Prod.ext rfl (Prod.ext (funext fun j => by
  show (if j = 0 then v else _) = _
  by_cases h : j = 0
  · subst h; rfl
  · unfold qC
    simp only [if_neg h]) rfl))
theorem qC_y1 {B : St} {sn : Nat} {lu : Nat} {ft : Int32} {ln : Nat} {se : Nat} {od : Int32} {co : Nat} {SW LW : Nat → Int32} {v : Nat → Int32} : pR (qC B sn lu ft ln se od co SW LW) 1 v = qC B sn lu ft ln se od co SW v := Prod.ext rfl (Prod.ext rfl (Prod.ext (funext fun j => by
  show (if j = 1 then v else _) = _
  by_cases h : j = 1
  · subst h; rfl
  · unfold qC
    simp only [if_neg h]) rfl))
def bC (B : St) (e nl : Nat) (NR LB : Nat → Int32) : St := (fun j => if j = 1 then nI e else if j = 9 then nI nl else B.1 j, B.2.1, fun j => if j = 5 then NR else if j = 6 then LB else B.2.2.1 j, B.2.2.2)
theorem bC_u1 {B : St} {e nl : Nat} {NR LB : Nat → Int32} {cs tp st ns : Nat} {fx : Bool} {C A S NM BK : Nat → Int32} {ap kd fr : Nat} {nm : Int32} : sI (uC (xC (bC B e nl NR LB) cs tp st ns fx C A S NM BK) ap kd fr nm) 1 = nI e := rfl
theorem bC_u9 {B : St} {e nl : Nat} {NR LB : Nat → Int32} {cs tp st ns : Nat} {fx : Bool} {C A S NM BK : Nat → Int32} {ap kd fr : Nat} {nm : Int32} : sI (uC (xC (bC B e nl NR LB) cs tp st ns fx C A S NM BK) ap kd fr nm) 9 = nI nl := rfl
theorem bC_r5 {B : St} {e nl : Nat} {NR LB : Nat → Int32} {cs tp st ns : Nat} {fx : Bool} {C A S NM BK : Nat → Int32} {ap kd fr : Nat} {nm : Int32} : sR (uC (xC (bC B e nl NR LB) cs tp st ns fx C A S NM BK) ap kd fr nm) 5 = NR := rfl
theorem bC_r6 {B : St} {e nl : Nat} {NR LB : Nat → Int32} {cs tp st ns : Nat} {fx : Bool} {C A S NM BK : Nat → Int32} {ap kd fr : Nat} {nm : Int32} : sR (uC (xC (bC B e nl NR LB) cs tp st ns fx C A S NM BK) ap kd fr nm) 6 = LB := rfl
theorem bC_r7 {B : St} {e nl : Nat} {NR LB : Nat → Int32} {cs tp st ns : Nat} {fx : Bool} {C A S NM BK : Nat → Int32} {ap kd fr : Nat} {nm : Int32} : sR (uC (xC (bC B e nl NR LB) cs tp st ns fx C A S NM BK) ap kd fr nm) 7 = sR B 7 := rfl
theorem bC_o {B : St} {e nl : Nat} {NR LB : Nat → Int32} {cs tp st ns : Nat} {fx : Bool} {C A S NM BK : Nat → Int32} {ap kd fr : Nat} {nm : Int32} {j : Nat} : sO (uC (xC (bC B e nl NR LB) cs tp st ns fx C A S NM BK) ap kd fr nm) j = sO B j := rfl
theorem bC_w1 {B : St} {e nl : Nat} {NR LB : Nat → Int32} {cs tp st ns : Nat} {fx : Bool} {C A S NM BK : Nat → Int32} {ap kd fr : Nat} {nm : Int32} {v : Nat} : pI (uC (xC (bC B e nl NR LB) cs tp st ns fx C A S NM BK) ap kd fr nm) 1 (nI v) = uC (xC (bC B v nl NR LB) cs tp st ns fx C A S NM BK) ap kd fr nm := Prod.ext (funext fun j => by
  show (if j = 1 then nI v else _) = _
  by_cases h : j = 1
  · subst h; rfl
  · unfold uC xC bC
    simp only [if_neg h]) rfl
theorem bC_w9 {B : St} {e nl : Nat} {NR LB : Nat → Int32} {cs tp st ns : Nat} {fx : Bool} {C A S NM BK : Nat → Int32} {ap kd fr : Nat} {nm : Int32} {v : Nat} : pI (uC (xC (bC B e nl NR LB) cs tp st ns fx C A S NM BK) ap kd fr nm) 9 (nI v) = uC (xC (bC B e v NR LB) cs tp st ns fx C A S NM BK) ap kd fr nm := Prod.ext (funext fun j => by
  show (if j = 9 then nI v else _) = _
  by_cases h : j = 9
  · subst h; rfl
  · unfold uC xC bC
    simp only [if_neg h]) rfl
theorem bC_y5 {B : St} {e nl : Nat} {NR LB : Nat → Int32} {cs tp st ns : Nat} {fx : Bool} {C A S NM BK : Nat → Int32} {ap kd fr : Nat} {nm : Int32} {v : Nat → Int32} : pR (uC (xC (bC B e nl NR LB) cs tp st ns fx C A S NM BK) ap kd fr nm) 5 v = uC (xC (bC B e nl v LB) cs tp st ns fx C A S NM BK) ap kd fr nm := Prod.ext rfl (Prod.ext rfl (Prod.ext (funext fun j => by
  show (if j = 5 then v else _) = _
  by_cases h : j = 5
  · subst h; rfl
  · unfold uC xC bC
    simp only [if_neg h]) rfl))
theorem bC_y6 {B : St} {e nl : Nat} {NR LB : Nat → Int32} {cs tp st ns : Nat} {fx : Bool} {C A S NM BK : Nat → Int32} {ap kd fr : Nat} {nm : Int32} {v : Nat → Int32} : pR (uC (xC (bC B e nl NR LB) cs tp st ns fx C A S NM BK) ap kd fr nm) 6 v = uC (xC (bC B e nl NR v) cs tp st ns fx C A S NM BK) ap kd fr nm := Prod.ext rfl (Prod.ext rfl (Prod.ext (funext fun j => by
  show (if j = 6 then v else _) = _
  by_cases h : j = 6
  · subst h; rfl
  · unfold uC xC bC
    simp only [if_neg h]) rfl))
/-- a statement's row -/
def rowU (R : Nat → Int32) (j ln se : Nat) (le kd b cd lt : Int32) : Nat → Int32 := upd (upd (upd (upd (upd (upd (upd (upd R (j * 8) (nI ln)) (j * 8 + 1) (nI se)) (j * 8 + 2) (nI 0)) (j * 8 + 3) le) (j * 8 + 4) kd) (j * 8 + 5) b) (j * 8 + 6) cd) (j * 8 + 7) lt
theorem up_2 {f : Nat → Int32} {k : Nat} {x y : Int32} : upd (upd f k x) k y = upd f k y := funext fun i => by
  unfold upd
  by_cases h : i = k
  · rw [if_pos h, if_pos h]
  · rw [if_neg h, if_neg h, if_neg h]
theorem rowU_o {R : Nat → Int32} {j ln se : Nat} {le kd b cd lt : Int32} {i : Nat} (h : i < j * 8 ∨ j * 8 + 8 ≤ i) : rowU R j ln se le kd b cd lt i = R i := by
  unfold rowU
  rw [up_n (by omega), up_n (by omega), up_n (by omega), up_n (by omega), up_n (by omega), up_n (by omega), up_n (by omega), up_n (by omega)]
theorem rowU_i {R : Nat → Int32} {j ln se : Nat} {le kd b cd lt : Int32} : rowU R j ln se le kd b cd lt (j * 8) = nI ln ∧ rowU R j ln se le kd b cd lt (j * 8 + 1) = nI se ∧ rowU R j ln se le kd b cd lt (j * 8 + 2) = nI 0 ∧ rowU R j ln se le kd b cd lt (j * 8 + 3) = le ∧ rowU R j ln se le kd b cd lt (j * 8 + 4) = kd ∧ rowU R j ln se le kd b cd lt (j * 8 + 5) = b ∧ rowU R j ln se le kd b cd lt (j * 8 + 6) = cd ∧ rowU R j ln se le kd b cd lt (j * 8 + 7) = lt := by
  unfold rowU
  refine ⟨?_, ?_, ?_, ?_, ?_, ?_, ?_, up_e⟩
  · rw [up_n (by omega), up_n (by omega), up_n (by omega), up_n (by omega), up_n (by omega), up_n (by omega), up_n (by omega), up_e]
  · rw [up_n (by omega), up_n (by omega), up_n (by omega), up_n (by omega), up_n (by omega), up_n (by omega), up_e]
  · rw [up_n (by omega), up_n (by omega), up_n (by omega), up_n (by omega), up_n (by omega), up_e]
  · rw [up_n (by omega), up_n (by omega), up_n (by omega), up_n (by omega), up_e]
  · rw [up_n (by omega), up_n (by omega), up_n (by omega), up_e]
  · rw [up_n (by omega), up_n (by omega), up_e]
  · rw [up_n (by omega), up_e]
theorem add_C {n : Nat} {B : St} {sn lu ln se co : Nat} {od : Int32} {SW LW : Nat → Int32} (s2 : St) (h : sn < 8194) (kd le b cd : Int32) : df_X1_add n kd le b cd (qC B sn lu 0 ln se od co SW LW, s2) = some (qC B (sn + 1) lu 0 ln se od co (rowU SW sn ln se le kd b cd (nI 0)) LW, s2) := by
  have h8 : sn * 8 + 7 < 65552 := by omega
  simp (disch := (first | assumption | decide | omega)) only [df_X1_add_17, df_X1_add_0, df_X1_add, qC_i0, qC_i1, qC_i2, qC_i3, qC_i4, qC_i5, qC_i6, qC_r0, qC_r1, qC_w0, qC_w1, qC_w2, qC_w3, qC_w4, qC_w5, qC_w6, qC_y0, qC_y1, eq_self, Nat.reduceEqDiff, Nat.reduceLeDiff, nl_0, nl_1, nl_2, nl_3, nl_4, nl_5, nl_6, nl_7, nl_8, nl_8194, nl_65552, no_1, no_1024, pk_mul, nI_add, nm_ck, nI_clamp, nI_ltI, nI_leI, nI_eq, nb_b2, nb_b1, ↓nb_let, nm_z0, nm_z1, nb_II, nb_IR, nb_RI, nb_RR, nm_IL, nm_IQ, nm_RL, nm_RQ, nm_LI, nm_LR, nm_LL, nm_LQ, nm_QI, nm_QR, nm_QL, nm_QQ, nm_rr, nm_ii, nm_eqm, not_false_eq_true, pk_sub, nm_div, nm_shl, nm_shr, nm_ush, nm_or8, nm_or64, nm_or256, nm_m1, nm_m3, nm_m7, nm_m15, nm_m31, nm_m63, nm_m255, nm_m511, nm_m1023, nm_m2047, nm_m65535, Nat.reduceMod, Nat.reducePow, Nat.reduceAdd, Nat.reduceSub, Nat.reduceMul, nm_bo, nm_bi, nm_rc, nm_ic, nm_ri, nm_rl, nm_rq, nm_ql, nm_qi, nm_li, nm_us, nm_uu, nm_cp, nm_sa31, nm_sa7, nm_m127, nm_m2, nm_nz, nm_nzk, nm_eq32, nm_nzf, if_true, if_false, ↓reduceIte, if_pos, if_neg]
  rfl
theorem add_F {n : Nat} {B : St} {sn lu ln se co : Nat} {ft od : Int32} {SW LW : Nat → Int32} (s2 : St) (h : ¬ ft = 0) (kd le b cd : Int32) : df_X1_add n kd le b cd (qC B sn lu ft ln se od co SW LW, s2) = some (qC B sn lu ft ln se od co SW LW, s2) := by
  unfold df_X1_add df_X1_add_0 df_X1_add_17
  rw [if_neg (show ¬ sI (qC B sn lu ft ln se od co SW LW, s2).1 2 = 0 from h)]
theorem stl_C {n : Nat} {B : St} {sn lu ln se co : Nat} {od : Int32} {SW LW : Nat → Int32} {lnn see : Nat} {le kd b cd : Int32} (s2 : St) (h : sn < 8194) (lt : Int32) : df_X1_setLetter n lt (qC B (sn + 1) lu 0 ln se od co (rowU SW sn lnn see le kd b cd (nI 0)) LW, s2) = some (qC B (sn + 1) lu 0 ln se od co (rowU SW sn lnn see le kd b cd lt) LW, s2) := by
  have h8 : sn * 8 + 7 < 65552 := by omega
  have u2 : upd (rowU SW sn lnn see le kd b cd (nI 0)) (sn * 8 + 7) lt = rowU SW sn lnn see le kd b cd lt := up_2
  have s1 : sn + 1 - 1 = sn := by omega
  simp (disch := (first | assumption | decide | omega)) only [df_X1_setLetter_32, df_X1_setLetter_0, df_X1_setLetter, qC_i0, qC_i1, qC_i2, qC_i3, qC_i4, qC_i5, qC_i6, qC_r0, qC_r1, qC_w0, qC_w1, qC_w2, qC_w3, qC_w4, qC_w5, qC_w6, qC_y0, qC_y1, s1, u2, Nat.not_succ_le_zero, eq_self, Nat.reduceEqDiff, Nat.reduceLeDiff, nl_0, nl_1, nl_2, nl_7, nl_8, nl_65552, no_1, no_1024, pk_mul, nI_add, nm_ck, nI_clamp, nI_ltI, nI_leI, nI_eq, nb_b2, nb_b1, ↓nb_let, nm_z0, nm_z1, nb_II, nb_IR, nb_RI, nb_RR, nm_IL, nm_IQ, nm_RL, nm_RQ, nm_LI, nm_LR, nm_LL, nm_LQ, nm_QI, nm_QR, nm_QL, nm_QQ, nm_rr, nm_ii, nm_eqm, not_false_eq_true, pk_sub, nm_div, nm_shl, nm_shr, nm_ush, nm_or8, nm_or64, nm_or256, nm_m1, nm_m3, nm_m7, nm_m15, nm_m31, nm_m63, nm_m255, nm_m511, nm_m1023, nm_m2047, nm_m65535, Nat.reduceMod, Nat.reducePow, Nat.reduceAdd, Nat.reduceSub, Nat.reduceMul, nm_bo, nm_bi, nm_rc, nm_ic, nm_ri, nm_rl, nm_rq, nm_ql, nm_qi, nm_li, nm_us, nm_uu, nm_cp, nm_sa31, nm_sa7, nm_m127, nm_m2, nm_nz, nm_nzk, nm_eq32, nm_nzf, if_true, if_false, ↓reduceIte, if_pos, if_neg]
theorem stl_F {n : Nat} {B : St} {sn lu ln se co : Nat} {ft od : Int32} {SW LW : Nat → Int32} (s2 : St) (h : ¬ ft = 0) (lt : Int32) : df_X1_setLetter n lt (qC B sn lu ft ln se od co SW LW, s2) = some (qC B sn lu ft ln se od co SW LW, s2) := by
  unfold df_X1_setLetter df_X1_setLetter_0 df_X1_setLetter_32
  rw [if_neg (show ¬ sI (qC B sn lu ft ln se od co SW LW, s2).1 2 = 0 from h)]
theorem blm_C {n : Nat} {B : St} {sn lu ln se co : Nat} {od : Int32} {SW LW : Nat → Int32} (s2 : St) (v : Int32) : df_X1_blame n v (qC B sn lu 0 ln se od co SW LW, s2) = some (qC B sn lu v ln se od co SW LW, s2) := (bl_X1 v qC_i2).trans (by rw [qC_w2])
/-- the tokens don't care for labels -/
theorem at_b {n L e : Nat} {c : Nat → Nat} {B BR : St} {nl nl' : Nat} {NR LB NR' LB' : Nat → Int32} (h : atx n L e c (bC B e nl NR LB) BR) : atx n L e c (bC B e nl' NR' LB') BR := h
theorem RT_b {n L e : Nat} {c : Nat → Nat} {B : St} {nl nl' : Nat} {NR LB NR' LB' : Nat → Int32} {p q p' τ v : Nat} (h : RT n L e c (bC B e nl NR LB) p q p' τ v) : RT n L e c (bC B e nl' NR' LB') p q p' τ v := h
theorem TS_b {n L e : Nat} {c : Nat → Nat} {B : St} {nl nl' : Nat} {NR LB NR' LB' : Nat → Int32} {p q p' κ τ v : Nat} {x : Int32} (h : TS n L e c (bC B e nl NR LB) p q p' κ τ v x) : TS n L e c (bC B e nl' NR' LB') p q p' κ τ v x := h
theorem RX_b {n L e : Nat} {c : Nat → Nat} {B : St} {nl nl' : Nat} {NR LB NR' LB' : Nat → Int32} {p : Nat} {ok : Bool} {p2 m : Nat} {P : Nat → Tp} (h : RX n L e c (bC B e nl NR LB) p ok p2 m P) : RX n L e c (bC B e nl' NR' LB') p ok p2 m P := h

/-- kind and length of an instruction's row -/
def aKd (y : Nat) : Nat := if ¬ ko_s y &&& 8 = 0 then 1 else if ¬ ko_s y &&& 2 = 0 then 2 else if ¬ ko_s y &&& 16 = 0 then 3 else 0
def aLn (y : Nat) (b : Int32) : Int32 := if ¬ ko_s y &&& 8 = 0 then 2 else if ¬ ko_s y &&& 2 = 0 then (if ¬ ko_s y &&& 4 = 0 ∧ ¬ (b >>> ((15 : Int32) &&& 31)) &&& 31 < 8 ∧ ¬ 15 < (b >>> ((15 : Int32) &&& 31)) &&& 31 then 2 else 4) else if ¬ ko_s y &&& 16 = 0 then 8 else if b &&& 3 = 3 then 4 else 2
theorem adi_C {n : Nat} {B : St} {sn lu ln se co : Nat} {od : Int32} {SW LW : Nat → Int32} (s2 : St) (h : sn < 8194) (y : Nat) (hy : y < 128) (b cd lt : Int32) : df_X1_addInstruction n y b cd lt (qC B sn lu 0 ln se od co SW LW, s2) = some (qC B (sn + 1) lu 0 ln se od co (rowU SW sn ln se (aLn y b) (nI (aKd y)) b cd (if aKd y = 0 then lt else nI 0)) LW, s2) := by
  unfold df_X1_addInstruction df_X1_addInstruction_0 df_X1_addInstruction_113 df_X1_addInstruction_124 df_X1_addInstruction_68 df_X1_addInstruction_69 aLn aKd
  rw [lt_y hy, lt_y hy, lt_y hy]
  by_cases j8 : ko_s y &&& 8 = 0
  · rw [if_pos j8, if_neg (show ¬ ¬ ko_s y &&& 8 = 0 from fun z => z j8), if_neg (show ¬ ¬ ko_s y &&& 8 = 0 from fun z => z j8)]
    by_cases j2 : ko_s y &&& 2 = 0
    · rw [if_pos j2, if_neg (show ¬ ¬ ko_s y &&& 2 = 0 from fun z => z j2), if_neg (show ¬ ¬ ko_s y &&& 2 = 0 from fun z => z j2)]
      by_cases j16 : ko_s y &&& 16 = 0
      · rw [if_pos j16, if_neg (show ¬ ¬ ko_s y &&& 16 = 0 from fun z => z j16), if_neg (show ¬ ¬ ko_s y &&& 16 = 0 from fun z => z j16), if_pos rfl]
        by_cases j3 : b &&& 3 = 3
        · rw [if_pos j3, if_pos j3, add_C s2 h, nb_b1, stl_C s2 h, nb_b1]; rfl
        · rw [if_neg j3, if_neg j3, add_C s2 h, nb_b1, stl_C s2 h, nb_b1]; rfl
      · rw [if_neg j16, if_pos (show ¬ ko_s y &&& 16 = 0 from j16), if_pos (show ¬ ko_s y &&& 16 = 0 from j16), add_C s2 h, nb_b1, if_neg (by decide)]; rfl
    · rw [if_neg j2, if_pos (show ¬ ko_s y &&& 2 = 0 from j2), if_pos (show ¬ ko_s y &&& 2 = 0 from j2), if_neg (show ¬ (2 : Nat) = 0 by decide), nb_let, lt_y hy]
      by_cases j4 : ko_s y &&& 4 = 0
      · rw [if_pos j4, add_C s2 h, nb_b1, if_neg (show ¬ (¬ ko_s y &&& 4 = 0 ∧ _) from fun z => z.1 j4)]; rfl
      · rw [if_neg j4]
        by_cases k1 : (b >>> ((15 : Int32) &&& 31)) &&& 31 < 8
        · rw [if_pos k1, add_C s2 h, nb_b1, if_neg (show ¬ (_ ∧ ¬ _ ∧ _) from fun z => z.2.1 k1)]; rfl
        · rw [if_neg k1]
          by_cases k2 : 15 < (b >>> ((15 : Int32) &&& 31)) &&& 31
          · rw [if_pos k2, add_C s2 h, nb_b1, if_neg (show ¬ (_ ∧ _ ∧ ¬ _) from fun z => z.2.2 k2)]; rfl
          · rw [if_neg k2, add_C s2 h, nb_b1, if_pos ⟨j4, k1, k2⟩]; rfl
  · rw [if_neg j8, if_pos (show ¬ ko_s y &&& 8 = 0 from j8), if_pos (show ¬ ko_s y &&& 8 = 0 from j8), add_C s2 h, nb_b1, if_neg (by decide)]; rfl
/-- an instruction that isn't li -/
theorem rdi_C {n L e : Nat} {c : Nat → Nat} {BC BR0 : St} (hT0 : atx n L e c BC BR0) (y : Nat) (hy : y < 128) (hli : ko_s y &&& 32 = 0) {B : St} {sn lu ln se co : Nat} {od : Int32} {SW LW : Nat → Int32} (hsn : sn < 8194) (cs tp st ns : Nat) (fx : Bool) (C A S NM BK : Nat → Int32) (bs ws : Nat → Nat) (p q p' κ τ v : Nat) (x : Int32) (hT : TS n L e c BC p q p' κ τ v x) (hH : HT L c ns NM BK bs ws) (hp0 : 0 < p) (hcs : cs ≤ p) (hns : 2 * ns ≤ p) : ∃ (f p2 : Nat) (rs : List Nat) (m : Nat) (P : Nat → Tp) (cs' tp' st' ns' : Nat) (fx' : Bool) (C' A' S' NM' BK' : Nat → Int32) (bs' ws' : Nat → Nat) (q2 p2' κ2 τ2 v2 : Nat) (x2 : Int32), Tr n L e c BC (FRM y) p f p2 rs m P ∧ (f = 0 ∨ f = 1 ∨ f = 3) ∧ (¬ f = 0 → df_X1_readInstruction n y (qC B sn lu 0 ln se od co SW LW, uC (xC BC cs tp st ns fx C A S NM BK) p' κ q x) = some (qC B sn lu (nI f) ln se od co SW LW, uC (xC BC cs' tp' st' ns' fx' C' A' S' NM' BK') p2' κ2 q2 x2)) ∧ (f = 0 → df_X1_readInstruction n y (qC B sn lu 0 ln se od co SW LW, uC (xC BC cs tp st ns fx C A S NM BK) p' κ q x) = some (qC B (sn + 1) lu 0 ln se od co (rowU SW sn ln se (aLn y (ko_b y ||| od ||| RGB (FRM y) rs)) (nI (aKd y)) (ko_b y ||| od ||| RGB (FRM y) rs) (if eL (FRM y) = 0 then -1 else nI cs) (if aKd y = 0 then nI (eL (FRM y)) else nI 0)) LW, uC (xC BC cs' tp' st' ns' fx' C' A' S' NM' BK') p2' κ2 q2 x2) ∧ TS n L e c BC p2 q2 p2' κ2 τ2 v2 x2 ∧ p ≤ p2 ∧ PS ns NM bs ws ns' NM' bs' ws' ∧ HT L c ns' NM' BK' bs' ws' ∧ cs' ≤ p2 + 1 ∧ 2 * ns' ≤ p2 + 1 ∧ (eL (FRM y) = 0 → cs' = cs ∧ ns' = ns ∧ C' = C ∧ A' = A ∧ NM' = NM ∧ BK' = BK ∧ bs' = bs ∧ ws' = ws) ∧ (¬ eL (FRM y) = 0 → cs' = cs + m + 1 ∧ CR (sR BC 5) c e C A cs ns' bs' ws' m P C' A' ∧ C' (cs + m) = 21 ∧ 0 < m)) := by
  have hn : 70000 < n := hT0.1
  have fl := (fo_l ⟨y, hy⟩).1
  have fl : ks_n (ko_f y) ≤ 8 := fl
  have d0 : (FRM y).drop 0 = FRM y := rfl
  have ll : (FRM y).length = ks_n (ko_f y) := by unfold FRM; rw [List.length_map, List.length_range]
  obtain ⟨f, p2, rs, m, P, b', k', l', cs', tp', st', ns', fx', C', A', S', NM', BK', bs', ws', q2, p2', κ2, τ2, v2, x2, r1, r2, r3, r4⟩ := rin_C hT0 y hy (FRM y) 0 n (ko_b y ||| od) (-1) (nI 0) (qC B sn lu 0 ln se od co SW LW) cs tp st ns fx C A S NM BK bs ws p q p' κ τ v x (frm_k ⟨y, hy⟩) d0 (by omega) (by omega) rfl hT hH hp0 (by omega) (by omega) (fun _ => ⟨hcs, hns⟩)
  have hd : df_X1_readInstruction n y (qC B sn lu 0 ln se od co SW LW, uC (xC BC cs tp st ns fx C A S NM BK) p' κ q x) = df_X1_readInstruction_110 n y b' k' l' (if f = 0 then qC B sn lu 0 ln se od co SW LW else pI (qC B sn lu 0 ln se od co SW LW) 2 (nI f), uC (xC BC cs' tp' st' ns' fx' C' A' S' NM' BK') p2' κ2 q2 x2) := by
    rw [← r3]
    unfold df_X1_readInstruction df_X1_readInstruction_0
    rw [lt_y hy, nb_let]
    rfl
  refine ⟨f, p2, rs, m, P, cs', tp', st', ns', fx', C', A', S', NM', BK', bs', ws', q2, p2', κ2, τ2, v2, x2, r1, r2, fun u => ?_, fun u => ?_⟩
  · rw [hd, if_neg u, qC_w2]
    unfold df_X1_readInstruction_110 df_X1_readInstruction_159
    rw [lt_y hy, if_pos hli, if_neg (show ¬ sI (qC B sn lu (nI f) ln se od co SW LW, uC (xC BC cs' tp' st' ns' fx' C' A' S' NM' BK') p2' κ2 q2 x2).1 2 = 0 from zne (b := 0) u (by omega) (by omega))]
  · obtain ⟨a1, a2, a3, a4, a5, a6, a7, a8, a9⟩ := r4 u
    refine ⟨?_, a1, a2, a4, a5, a6, a7, fun w => ?_, fun w => ?_⟩
    · rw [hd, if_pos u]
      unfold df_X1_readInstruction_110 df_X1_readInstruction_159
      rw [lt_y hy, if_pos hli, if_pos (show sI (qC B sn lu 0 ln se od co SW LW, uC (xC BC cs' tp' st' ns' fx' C' A' S' NM' BK') p2' κ2 q2 x2).1 2 = 0 from rfl), adi_C _ hsn y hy, nb_b1, a3]
      by_cases w : eL (FRM y) = 0
      · obtain ⟨b1, b2, _⟩ := a8 w
        rw [if_pos w, b1, b2, w]
      · obtain ⟨b1, b2, _⟩ := a9 w
        rw [if_neg w, b1, b2]
    · obtain ⟨b1, b2, b3, b4, b5, b6, b7, b8, b9, b10, b11⟩ := a8 w
      exact ⟨b3, b4, b6, b7, b8, b9, b10, b11⟩
    · obtain ⟨b1, b2, b3, b4, b5, b6, b7⟩ := a9 w
      exact ⟨b3, b4, b5, b6⟩

/-- a statement of the reference from its start: its name -/
theorem SR_p15 {B : St} {ct : Nat} {gr : Bool} {PA BY OU : Nat → Int32} {ft : Int32} {ap : Nat} {S : St} (h : SR B ct gr PA BY OU ft ap S) (v : Int32) : SR (pI B 15 v) ct gr PA BY OU ft ap (pI S 15 v) := by
  obtain ⟨ms, dv, ls, sg, vl, PL, tk, fr, to, nm, rfl⟩ := h
  refine ⟨ms, dv, ls, sg, vl, PL, tk, fr, to, nm, Prod.ext (funext fun j => ?_) rfl⟩
  show (if j = 15 then v else _) = _
  by_cases h : j = 15
  · subst h; rfl
  · unfold uR xR yR pI
    simp only [if_neg h]
theorem cst_S {B : St} {ct : Nat} {gr : Bool} {PA BY OU : Nat → Int32} {ft : Int32} {ap : Nat} {S : St} (h : SR B ct gr PA BY OU ft ap S) (hc : cstS B) : cstS S := by
  obtain ⟨ms, dv, ls, sg, vl, PL, tk, fr, to, nm, rfl⟩ := h
  exact hc
theorem RV_p15 {n L e : Nat} {c : Nat → Nat} {BC B : St} {X : Nat → Nat} {nL cu : Nat} (h : RV n L e c BC B X nL cu) (v : Int32) : RV n L e c BC (pI B 15 v) X nL cu := h
/-- what the name of a statement is, in the reference: y the class's number of it -/
def NAr (n L : Nat) (c : Nat → Nat) (q l y : Nat) (od : Int32) : Prop := ∀ S : St, cstS S → (∀ i : Nat, i < L → sR S 2 i = nI (c i)) → sI S 9 = nI q → sI S 10 = nI (q + l) → hdR n S = df_X13_statement_136 n (nI (sgm y)) od S
theorem stm_1 {n L e : Nat} {c : Nat → Nat} {BC B : St} (hT : atx n L e c BC B) (hc : cstS B) {ct : Nat} {gr : Bool} {PA BY OU : Nat → Int32} {ap : Nat} {S : St} (h : SR B ct gr PA BY OU 0 ap S) (v : Int32) {q p1 κ v1 : Nat} {x : Int32} (T : TS n L e c BC q q p1 κ 1 v1 x) : ∃ S1 : St, df_X13_statement n (nI q) v S = hdR n S1 ∧ SR (pI B 15 v) 0 gr PA BY OU 0 p1 S1 ∧ sI S1 9 = nI q ∧ sI S1 10 = nI p1 ∧ cstS S1 ∧ ∀ i : Nat, i < L → sR S1 2 i = nI (c i) := by
  have h1 := SR_w18 (SR_w7 (SR_p15 h v) q) 0
  obtain ⟨S1, p2, e1, e2, e3, e4, e5, e6, e7, e8⟩ := scn_S (B := pI B 15 v) hT h1 T
  have := e8 (by omega)
  subst this
  refine ⟨S1, ?_, e2, e4, e5, cst_S e2 hc, fun i hi => ?_⟩
  · rw [stm_0]
    rw [show df_X13_scan n (pI (pI (pI S 15 v) 7 (nI q)) 18 0) = some S1 from e1, nb_b1]
  · rw [SR_r2 e2]
    exact hT.2.2.2.2.2.2.2.2.2.2.1 i hi
/-- the same with the class's number of the statement -/
theorem stm_2 {n L e : Nat} {c : Nat → Nat} {BC B : St} (hT : atx n L e c BC B) (hc : cstS B) {ct : Nat} {gr : Bool} {PA BY OU : Nat → Int32} {ap : Nat} {S : St} (h : SR B ct gr PA BY OU 0 ap S) (v : Int32) {q p1 κ v1 : Nat} {x : Int32} (T : TS n L e c BC q q p1 κ 1 v1 x) {y : Nat} {od : Int32} (hN : NAr n L c q (p1 - q) y od) : ∃ S1 : St, df_X13_statement n (nI q) v S = df_X13_statement_136 n (nI (sgm y)) od S1 ∧ SR (pI B 15 v) 0 gr PA BY OU 0 p1 S1 ∧ cstS S1 := by
  obtain ⟨S1, e1, e2, e3, e4, e5, e6⟩ := stm_1 hT hc h v T
  have := T.2.2.2.1
  exact ⟨S1, e1.trans (hN S1 e5 e6 e3 (by rw [e4]; congr 1; omega)), e2, e5⟩
/-- values of an expression's row -/
def zV (V : Tp → Int32 × Bool) (P : Nat → Tp) (m : Nat) : Int32 := (rnF V P m).1.headD 0
def mV (V : Tp → Int32 × Bool) (P : Nat → Tp) (m : Nat) : Bool := (rnF V P m).2.1
def dV (V : Tp → Int32 × Bool) (P : Nat → Tp) (m : Nat) : Bool := (rnF V P m).2.2
theorem zmd {V : Tp → Int32 × Bool} {P : Nat → Tp} {m : Nat} {z : Int32} {ms dv : Bool} (h : rnF V P m = ([z], ms, dv)) : z = zV V P m ∧ ms = mV V P m ∧ dv = dV V P m := by
  unfold zV mV dV
  rw [h]
  exact ⟨rfl, rfl, rfl⟩
def vF (ms dv ok : Bool) : Nat := if ms = true then 8 else if dv = true then 9 else if ok = true then 0 else 10
theorem vF_w {B : St} {ms dv ok : Bool} : wiF B ms dv ok = if sI B 15 = 2 then (if vF ms dv ok = 0 then 0 else nI (vF ms dv ok) + 16 * sI B 13) else 0 := by
  unfold wiF vF
  by_cases y : sI B 15 = 2
  · rw [if_pos y, if_pos y]
    cases ms with
    | true => rfl
    | false =>
      cases dv with
      | true => rfl
      | false => cases ok <;> rfl
  · rw [if_neg y, if_neg y]
/-- what a statement is: kind, bits, letter, the rows of its expressions, its own bytes -/
abbrev Dt : Type := Nat × Int32 × Nat × List (Nat × (Nat → Tp)) × List Int32
def dQ (D : Dt) : Nat → Tp := match D.2.2.2.1 with | x :: _ => x.2 | [] => fun _ => (0, 0, 0)
def dN (D : Dt) : Nat := match D.2.2.2.1 with | x :: _ => x.1 | [] => 0
def hiO (v : Int32) : Int32 := ((v + 2048).toUInt32 >>> ((12 : Int32).toUInt32 &&& Int32.toUInt32 31)).toInt32
def loO (v : Int32) : Int32 := (v <<< ((20 : Int32) &&& 31)) >>> ((20 : Int32) &&& 31)
def byZ (b v : Int32) : List Int32 := if b &&& 3 = 3 then by4 v else by2 v
def byK (v : Int32) : Nat → Nat → List Int32
  | 0, _ => []
  | k + 1, i => (v >>> ((8 * nI i) &&& 31)) :: byK v k (i + 1)
def liF (V : Tp → Int32 × Bool) : List (Nat × (Nat → Tp)) → Nat
  | [] => 0
  | x :: xs => if vF (mV V x.2 x.1) (dV V x.2 x.1) true = 0 then liF V xs else vF (mV V x.2 x.1) (dV V x.2 x.1) true
def liB (V : Tp → Int32 × Bool) (k : Nat) : List (Nat × (Nat → Tp)) → List Int32
  | [] => []
  | x :: xs => byK (zV V x.2 x.1) k 0 ++ liB V k xs
/-- the fault that a statement has when it is put, whether it grows, its bytes; l its level -/
def sF (D : Dt) (V : Tp → Int32 × Bool) (ad : Int32) (l : Nat) : Nat := if D.1 = 0 then (if D.2.2.1 = 0 then 0 else vF (mV V (dQ D) (dN D)) (dV V (dQ D) (dN D)) (lfO D.2.2.1 (vtO D.2.2.1 ad (zV V (dQ D) (dN D))))) else if D.1 = 1 then vF (mV V (dQ D) (dN D)) (dV V (dQ D) (dN D)) (lfO (hpO true l) (zV V (dQ D) (dN D) - ad)) else if D.1 = 2 then vF (mV V (dQ D) (dN D)) (dV V (dQ D) (dN D)) (lfO (hpO false l) (offO l (zV V (dQ D) (dN D) - ad))) else if D.1 = 3 then vF (mV V (dQ D) (dN D)) (dV V (dQ D) (dN D)) true else if D.1 = 5 then liF V D.2.2.2.1 else 0
def sG (D : Dt) (V : Tp → Int32 × Bool) (ad : Int32) (l : Nat) : Bool := !mV V (dQ D) (dN D) && (!dV V (dQ D) (dN D) && (decide (l < if D.1 = 1 then 1 else 2) && !lfO (hpO (decide (D.1 = 1)) l) (offO l (zV V (dQ D) (dN D) - ad))))
def brnC (l : Nat) (b v : Int32) : List Int32 := if l = 0 then by2 ((49153 ||| (b &&& 4096) <<< ((1 : Int32) &&& 31)) ||| (((b >>> ((15 : Int32) &&& 31)) &&& 31) &&& 7) <<< ((7 : Int32) &&& 31) ||| plL v) else if l = 1 then by4 (b ||| plT v) else by4 ((b ^^^ 4096) ||| plT 8) ++ by4 (111 ||| plJ (v - 4))
def numB (d v : Int32) : List Int32 := if fzO (-32) 31 1 v = true ∧ ¬ d = 0 then by2 ((16385 ||| d <<< ((7 : Int32) &&& 31)) ||| plN v) else if fzO (-2048) 2047 1 v = true then by4 ((19 ||| d <<< ((7 : Int32) &&& 31)) ||| v <<< ((20 : Int32) &&& 31)) else by4 ((55 ||| d <<< ((7 : Int32) &&& 31)) ||| hiO v <<< ((12 : Int32) &&& 31)) ++ (if loO v = 0 then [] else by4 ((19 ||| d <<< ((7 : Int32) &&& 31)) ||| d <<< ((15 : Int32) &&& 31) ||| loO v <<< ((20 : Int32) &&& 31)))
def sB (D : Dt) (V : Tp → Int32 × Bool) (ad : Int32) (l : Nat) : List Int32 := if D.1 = 0 then (if D.2.2.1 = 0 then byZ D.2.1 D.2.1 else byZ D.2.1 (D.2.1 ||| lbO D.2.2.1 (vtO D.2.2.1 ad (zV V (dQ D) (dN D))))) else if D.1 = 1 then hopL l ((D.2.1 >>> ((7 : Int32) &&& 31)) &&& 31) (zV V (dQ D) (dN D) - ad) else if D.1 = 2 then brnC l D.2.1 (zV V (dQ D) (dN D) - ad) else if D.1 = 3 then by4 (D.2.1 ||| hiO (zV V (dQ D) (dN D) - ad) <<< ((12 : Int32) &&& 31)) ++ by4 ((19 ||| ((D.2.1 >>> ((7 : Int32) &&& 31)) &&& 31) <<< ((7 : Int32) &&& 31)) ||| ((D.2.1 >>> ((7 : Int32) &&& 31)) &&& 31) <<< ((15 : Int32) &&& 31) ||| loO (zV V (dQ D) (dN D) - ad) <<< ((20 : Int32) &&& 31)) else if D.1 = 5 then liB V D.2.2.1 D.2.2.2.1 else D.2.2.2.2
/-- how many bytes a statement has at a level, .space and .align left out -/
def sZ (D : Dt) (l : Nat) : Nat := if D.1 = 0 then (if D.2.1 &&& 3 = 3 then 4 else 2) else if D.1 = 1 then (if l = 0 then 2 else 4) else if D.1 = 2 then (if l = 0 then 2 else if l = 1 then 4 else 8) else if D.1 = 3 then 8 else if D.1 = 5 then D.2.2.1 * D.2.2.2.1.length else D.2.2.2.2.length
/-- a table that has grown: what was a constant is the same -/
def tbE (X0 : Nat → Nat) (W0 : Nat → Int32) (n0 : Nat) (X : Nat → Nat) (nL : Nat) (B : St) : Prop := n0 ≤ nL ∧ (∀ k : Nat, k < n0 → X k = X0 k) ∧ ∀ k : Nat, k < n0 → X0 k / 131072 = 2 → sR B 7 k = W0 k
/-- the reference's statement in a later round, from any state: this is all that is said of it -/
def RFB (n L e : Nat) (c : Nat → Nat) (BC : St) (q se lw lv sz : Nat) (ba : Option Int32) (X0 : Nat → Nat) (W0 : Nat → Int32) (n0 : Nat) (D : Dt) : Prop := ∀ (B : St) (X : Nat → Nat) (nL cu A ct ap μ : Nat) (gr : Bool) (PA BY OU : Nat → Int32) (S : St), RV n L e c BC B X nL cu → cstS B → tbE X0 W0 n0 X nL B → sI B 14 = nI se → PA cu = nI (A * 2 ^ 17 + q) → A < 64 → lw ≤ A % 4 → A % 4 ≤ lv → (∀ v : Int32, ba = some v → BY cu = v) → SR B ct gr PA BY OU 0 ap S → (μ = 1 ∨ μ = 2 ∨ μ = 3) → OKW (pI B 15 (nI μ)) (sZ D (A % 4)) → ∃ S' : St, df_X13_statement n (nI q) (nI μ) S = some S' ∧ (μ = 2 → ¬ sF D (VW c X e nL q B) (sI B 17) (A % 4) = 0 → FL e (pI B 15 (nI μ)) (nI (sF D (VW c X e nL q B) (sI B 17) (A % 4)) + 16 * sI B 13) S') ∧ ((μ = 2 → sF D (VW c X e nL q B) (sI B 17) (A % 4) = 0) → ∃ (ct' p' : Nat) (gr' : Bool), p' ≤ e ∧ (D.1 = 1 ∨ D.1 = 2 → gr' = (decide (μ = 1) && sG D (VW c X e nL q B) (sI B 17) (A % 4))) ∧ SR (pI B 15 (nI μ)) ct' gr' PA BY (if μ = 3 then wrL OU (sI B 19).toNatClampNeg (sB D (VW c X e nL q B) (sI B 17) (A % 4)) else OU) 0 p' S')
/-- with the mode that is looked at -/
theorem md_n {B : St} {μ : Nat} (h : μ = 1 ∨ μ = 2 ∨ μ = 3) : sI (pI B 15 (nI μ)) 15 = nI μ ∧ ¬ nI μ = 0 ∧ (nI μ = (2 : Int32) ↔ μ = 2) ∧ (nI μ = (3 : Int32) ↔ μ = 3) ∧ (nI μ = (1 : Int32) ↔ μ = 1) := by
  refine ⟨rfl, ?_, ?_, ?_, ?_⟩ <;> rcases h with h | h | h <;> subst h <;> decide
theorem s326 {n : Nat} {S : St} (h : ¬ sI S 15 = 0) : df_X13_statement_326 n S = some S := by
  unfold df_X13_statement_326 df_X13_statement_346
  rw [if_neg h]
theorem pt_3 {B : St} {μ : Nat} (h : μ = 1 ∨ μ = 2 ∨ μ = 3) {OU : Nat → Int32} {bs : List Int32} : pt (pI B 15 (nI μ)) 0 OU bs = if μ = 3 then wrL OU (sI B 19).toNatClampNeg bs else OU := by
  obtain ⟨m1, m2, m3, m4, m5⟩ := md_n (B := B) h
  unfold pt
  rw [m1]
  by_cases y : μ = 3
  · rw [if_pos (m4.mpr y), if_pos y]; rfl
  · rw [if_neg (fun z => y (m4.mp z)), if_neg y]
/-- what PLO says, with the faults of a later round -/
theorem plo_l {e : Nat} {B : St} {μ : Nat} (hμ : μ = 1 ∨ μ = 2 ∨ μ = 3) (hl : ∃ ln : Nat, sI B 13 = nI ln ∧ ln ≤ 40000) {gr : Bool} {PA BY OU : Nat → Int32} {p2 : Nat} {bs : List Int32} {S : St} {ms dv ok : Bool} (h : PLO e (pI B 15 (nI μ)) 0 gr PA BY OU p2 (wiF (pI B 15 (nI μ)) ms dv ok) bs S) : (μ = 2 → ¬ vF ms dv ok = 0 → FL e (pI B 15 (nI μ)) (nI (vF ms dv ok) + 16 * sI B 13) S) ∧ ((μ = 2 → vF ms dv ok = 0) → SR (pI B 15 (nI μ)) bs.length gr PA BY (if μ = 3 then wrL OU (sI B 19).toNatClampNeg bs else OU) 0 p2 S) := by
  obtain ⟨m1, m2, m3, m4, m5⟩ := md_n (B := B) hμ
  have v13 : vF ms dv ok ≤ 10 := by unfold vF; cases ms <;> cases dv <;> cases ok <;> decide
  have e0 : sI (pI B 15 (nI μ)) 13 = sI B 13 := rfl
  rw [vF_w, m1, e0] at h
  refine ⟨fun u w => ?_, fun u => ?_⟩
  · rw [if_pos (m3.mpr u), if_neg w] at h
    exact h.2 (flt_n hl _ (by omega))
  · have z : (if nI μ = (2 : Int32) then (if vF ms dv ok = 0 then (0 : Int32) else nI (vF ms dv ok) + 16 * sI B 13) else 0) = 0 := by
      by_cases y : μ = 2
      · rw [if_pos (m3.mpr y), if_pos (u y)]
      · rw [if_neg (fun z => y (m3.mp z))]
    have := h.1 z
    rw [pt_3 hμ, Nat.zero_add] at this
    exact this

/-- the lowest two bits of an instruction are its name's -/
theorem b3_1 (x y : Int32) : (x ||| y) &&& nI 3 = (x &&& nI 3) ||| (y &&& nI 3) := by (apply gb_ext; apply all32; simp (disch := decide) only [gb_or, gb_and, gb_xor, gb_shl, gb_shr, gb_ush, gb_n, gb_m, gb_hi, Nat.reduceAdd, Nat.reduceSub, Nat.reduceLT, Nat.reduceLeDiff, Nat.testBit, Nat.reduceShiftRight, Nat.reduceBNe, Nat.reduceAnd, Nat.one_and_eq_mod_two, Nat.reduceMod, decide_true, decide_false, Bool.and_true, Bool.true_and, Bool.and_false, Bool.false_and, Bool.or_false, Bool.false_or, Bool.or_true, Bool.true_or, Bool.not_true, Bool.not_false, Bool.xor_true, Bool.xor_false, Bool.true_xor, Bool.false_xor, if_true, if_false, ↓reduceIte, and_self, bne_self_eq_false, Bool.or_self, Bool.and_self, Bool.not_not])
theorem b3_s (v : Int32) (k : Nat) (hk : k = 2 ∨ k = 7 ∨ k = 15 ∨ k = 20) : (v <<< nI k) &&& nI 3 = nI 0 := by
  rcases hk with h | h | h | h <;> subst h <;> (apply gb_ext; apply all32; simp (disch := decide) only [gb_or, gb_and, gb_xor, gb_shl, gb_shr, gb_ush, gb_n, gb_m, gb_hi, Nat.reduceAdd, Nat.reduceSub, Nat.reduceLT, Nat.reduceLeDiff, Nat.testBit, Nat.reduceShiftRight, Nat.reduceBNe, Nat.reduceAnd, Nat.one_and_eq_mod_two, Nat.reduceMod, decide_true, decide_false, Bool.and_true, Bool.true_and, Bool.and_false, Bool.false_and, Bool.or_false, Bool.false_or, Bool.or_true, Bool.true_or, Bool.not_true, Bool.not_false, Bool.xor_true, Bool.xor_false, Bool.true_xor, Bool.false_xor, if_true, if_false, ↓reduceIte, and_self, bne_self_eq_false, Bool.or_self, Bool.and_self, Bool.not_not])
theorem rgb_3 (l r : Nat) : rgb l r &&& nI 3 = nI 0 := by
  unfold rgb
  split
  · exact b3_s _ 15 (by omega)
  · split
    · exact b3_s _ 20 (by omega)
    · split
      · exact b3_s _ 2 (by omega)
      · split
        · exact b3_s _ 2 (by omega)
        · split
          · exact b3_s _ 7 (by omega)
          · exact b3_s _ 7 (by omega)
theorem RGB_3 : ∀ (F rs : List Nat), RGB F rs &&& nI 3 = nI 0 := fun F => by
  induction F with
  | nil => intro rs; show (0 : Int32) &&& nI 3 = nI 0; decide
  | cons l F ih =>
    intro rs
    by_cases y : 97 ≤ l
    · cases rs with
      | nil =>
        rw [show RGB (l :: F) [] = 0 from if_pos y]
        decide
      | cons r rs =>
        rw [show RGB (l :: F) (r :: rs) = rgb l r ||| RGB F rs from if_pos y, b3_1, rgb_3, ih]
        decide
    · rw [show RGB (l :: F) rs = RGB F rs from if_neg y]
      exact ih rs
theorem od_3 {od : Int32} (h : odK od) : od &&& nI 3 = nI 0 := by
  rcases h with h | h | h | h <;> subst h <;> decide
theorem b3_b {k od : Int32} (ho : odK od) (F rs : List Nat) : (k ||| od ||| RGB F rs) &&& 3 = k &&& 3 := by
  show (k ||| od ||| RGB F rs) &&& nI 3 = k &&& nI 3
  rw [b3_1, b3_1, RGB_3, od_3 ho]
  rw [show nI 0 = (0 : Int32) from rfl, or_0, or_0]
theorem byY_Z {y : Nat} {od : Int32} (ho : odK od) (F rs : List Nat) (v : Int32) : byZ (ko_b y ||| od ||| RGB F rs) v = byY y v := by
  unfold byZ byY
  rw [b3_b ho]
theorem byY_l (y : Nat) (v : Int32) : (byY y v).length = if ko_b y &&& 3 = 3 then 4 else 2 := by
  unfold byY
  split <;> rfl
theorem fin_l {n e : Nat} {B : St} {μ : Nat} (hμ : μ = 1 ∨ μ = 2 ∨ μ = 3) {gr : Bool} {PA BY OU : Nat → Int32} {p2 : Nat} {bs : List Int32} {S : St} {ft : Int32} (h : PLO e (pI B 15 (nI μ)) 0 gr PA BY OU p2 ft bs S) : df_X13_statement_326 n S = some S := by
  obtain ⟨m1, m2, m3, m4, m5⟩ := md_n (B := B) hμ
  refine s326 ?_
  by_cases u : ft = 0
  · rw [SR_15 (h.1 u)]; exact m2
  · rw [(FL_f (h.2 u)).2.1]; exact m2
/-- what the reference makes of a plain statement behind its name, from any state -/
def PLR (n L e : Nat) (c : Nat → Nat) (BC : St) (p1 y : Nat) (od : Int32) (f p2 m : Nat) (P : Nat → Tp) (l : Nat) (b : Int32) : Prop := ∀ (B : St) (X : Nat → Nat) (nL cu st ct : Nat) (gr : Bool) (PA BY OU : Nat → Int32) (S : St), RV n L e c BC B X nL cu → PY PA cu st → SR B ct gr PA BY OU 0 p1 S → OKW B (ct + if b &&& 3 = 3 then 4 else 2) → cstS S → (¬ f = 0 → sI B 15 = 0) → ∃ S' : St, df_X13_statement_136 n (nI (sgm y)) od S = df_X13_statement_326 n S' ∧ (¬ f = 0 → FL e B (nI f + 16 * sI B 13) S') ∧ (f = 0 → plnP e B ct gr PA BY OU p2 (VW c X e nL st B) P m l (byZ b) b S')
theorem PLR_P {n L e : Nat} {c : Nat → Nat} {BC : St} {p1 y : Nat} {od : Int32} (hy : y < 128) (ho : odK od) (hp : isPl y) {f p2 : Nat} {rs : List Nat} {m : Nat} {P : Nat → Tp} (hTr : Tr n L e c BC (FRM y) p1 f p2 rs m P) : PLR n L e c BC p1 y od f p2 m P (eL (FRM y)) (ko_b y ||| od ||| RGB (FRM y) rs) := by
  intro B X nL cu st ct gr PA BY OU S hV hY h hw hc h0
  rw [b3_b ho] at hw
  obtain ⟨S2, r1, r2, r3⟩ := pln_R hV hY h hw h0 hc hy od hp hTr
  refine ⟨S2, r1, r2, fun u => ?_⟩
  have := r3 u
  rw [show byZ (ko_b y ||| od ||| RGB (FRM y) rs) = byY y from funext fun v => byY_Z ho _ _ v]
  exact this
/-- plain ones in a later round -/
theorem rfb_P {n L e : Nat} {c : Nat → Nat} {BC BR0 : St} (hT0 : atx n L e c BC BR0) {q p1 κ v1 : Nat} {x : Int32} (T : TS n L e c BC q q p1 κ 1 v1 x) {y : Nat} {od : Int32} (hN : NAr n L c q (p1 - q) y od) {p2 m : Nat} {P : Nat → Tp} {l : Nat} {b : Int32} (hR : PLR n L e c BC p1 y od 0 p2 m P l b) (hp2 : p2 ≤ e) {se : Nat} {X0 : Nat → Nat} {W0 : Nat → Int32} {n0 : Nat} : RFB n L e c BC q se 0 3 4 none X0 W0 n0 (0, b, l, [(m, P)], []) := by
  intro B X nL cu A ct ap μ gr PA BY OU S hV hc hE h14 hP hA hlw hl hb h hμ hw
  have qe : q ≤ e := T.1
  have eL' : e ≤ L := hT0.2.2.1
  have L' : L ≤ 32768 := hT0.2.1
  obtain ⟨m1, m2, m3, m4, m5⟩ := md_n (B := B) hμ
  have hln := hV.2.2.2.2.2.2.2
  obtain ⟨S1, e1, e2, e3⟩ := stm_2 hV.1 hc h (nI μ) T hN
  obtain ⟨S2, r1, r2, r3⟩ := hR _ X nL cu q 0 gr PA BY OU S1 (RV_p15 hV (nI μ)) (⟨A * 2 ^ 17 + q, hP, by omega, by omega⟩ : PY PA cu q) e2 (by rw [Nat.zero_add]; exact hw) e3 (fun u => absurd rfl u)
  obtain ⟨k1, k2⟩ := r3 rfl
  have key : ∀ (a : Int32) (ms dv ok : Bool), PLO e (pI B 15 (nI μ)) 0 gr PA BY OU p2 (wiF (pI B 15 (nI μ)) ms dv ok) (byZ b a) S2 → ∃ S' : St, df_X13_statement n (nI q) (nI μ) S = some S' ∧ (μ = 2 → ¬ vF ms dv ok = 0 → FL e (pI B 15 (nI μ)) (nI (vF ms dv ok) + 16 * sI B 13) S') ∧ ((μ = 2 → vF ms dv ok = 0) → ∃ (ct' p' : Nat) (gr' : Bool), p' ≤ e ∧ ((0 : Nat) = 1 ∨ (0 : Nat) = 2 → gr' = (decide (μ = 1) && sG (0, b, l, [(m, P)], []) (VW c X e nL q B) (sI B 17) (A % 4))) ∧ SR (pI B 15 (nI μ)) ct' gr' PA BY (if μ = 3 then wrL OU (sI B 19).toNatClampNeg (byZ b a) else OU) 0 p' S') := fun a ms dv ok hh => by
    obtain ⟨g1, g2⟩ := plo_l hμ hln hh
    refine ⟨S2, ?_, g1, fun u => ⟨_, p2, gr, hp2, fun z => by omega, g2 u⟩⟩
    rw [e1, r1]
    exact fin_l hμ hh
  by_cases w : l = 0
  · have := k1 w
    have e0 : wiF (pI B 15 (nI μ)) false false true = 0 := by unfold wiF; split <;> rfl
    rw [← e0] at this
    obtain ⟨S', t1, t2, t3⟩ := key _ false false true this
    refine ⟨S', t1, fun u z => absurd ?_ z, fun u => ?_⟩
    · unfold sF
      rw [if_pos rfl, if_pos w]
    · have t3 := t3 (fun _ => rfl)
      rw [show sB (0, b, l, [(m, P)], []) (VW c X e nL q B) (sI B 17) (A % 4) = byZ b b by unfold sB; rw [if_pos rfl, if_pos w]]
      exact t3
  · obtain ⟨z, ms, dv, w1, w2⟩ := k2 w
    obtain ⟨z1, z2, z3⟩ := zmd w1
    obtain ⟨S', t1, t2, t3⟩ := key _ ms dv _ w2
    have eF : sF (0, b, l, [(m, P)], []) (VW c X e nL q B) (sI B 17) (A % 4) = vF ms dv (lfO l (vtO l (sI B 17) z)) := by
      unfold sF
      rw [if_pos rfl, if_neg w, z1, z2, z3]
      rfl
    refine ⟨S', t1, fun u zz => ?_, fun u => ?_⟩
    · rw [eF] at zz ⊢
      exact t2 u zz
    · rw [eF] at u
      have t3 := t3 u
      rw [show sB (0, b, l, [(m, P)], []) (VW c X e nL q B) (sI B 17) (A % 4) = byZ b (b ||| lbO l (vtO l (sI B 17) z)) by unfold sB; rw [if_pos rfl, if_neg w, z1]; rfl]
      exact t3
theorem byZ_l (b v : Int32) : (byZ b v).length = if b &&& 3 = 3 then 4 else 2 := by
  unfold byZ
  split <;> rfl
/-- plain ones as they are read: the reference -/
theorem rdr_P {n L e : Nat} {c : Nat → Nat} {BC B : St} {X : Nat → Nat} {nL cu : Nat} (hV : RV n L e c BC B X nL cu) (hc : cstS B) {ct : Nat} {gr : Bool} {PA BY OU : Nat → Int32} {ap : Nat} {S : St} (h : SR B ct gr PA BY OU 0 ap S) {q p1 κ v1 : Nat} {x : Int32} (T : TS n L e c BC q q p1 κ 1 v1 x) (hY : PY PA cu q) {y : Nat} {od : Int32} (hN : NAr n L c q (p1 - q) y od) {f p2 m : Nat} {P : Nat → Tp} {l : Nat} {b : Int32} (hR : PLR n L e c BC p1 y od f p2 m P l b) : ∃ S' : St, df_X13_statement n (nI q) 0 S = df_X13_statement_326 n S' ∧ (¬ f = 0 → FL e (pI B 15 0) (nI f + 16 * sI B 13) S') ∧ (f = 0 → SR (pI B 15 0) (if b &&& 3 = 3 then 4 else 2) gr PA BY OU 0 p2 S') := by
  obtain ⟨S1, e1, e2, e3⟩ := stm_2 hV.1 hc h 0 T hN
  have ok0 : ∀ k : Nat, OKW (pI B 15 0) k := fun k u => absurd (show (0 : Int32) = 3 from u) (by decide)
  obtain ⟨S2, r1, r2, r3⟩ := hR _ X nL cu q 0 gr PA BY OU S1 (RV_p15 hV 0) hY e2 (ok0 _) e3 (fun _ => rfl)
  refine ⟨S2, e1.trans r1, r2, fun u => ?_⟩
  obtain ⟨k1, k2⟩ := r3 u
  have pt0 : ∀ bs : List Int32, pt (pI B 15 0) 0 OU bs = OU := fun bs => if_neg (show ¬ (0 : Int32) = 3 by decide)
  have w0 : ∀ (ms dv ok : Bool), wiF (pI B 15 0) ms dv ok = 0 := fun ms dv ok => if_neg (show ¬ (0 : Int32) = 2 by decide)
  by_cases w : l = 0
  · have := (k1 w).1 rfl
    rw [pt0, Nat.zero_add, byZ_l] at this
    exact this
  · obtain ⟨z, ms, dv, w1, w2⟩ := k2 w
    have := w2.1 (w0 _ _ _)
    rw [pt0, Nat.zero_add, byZ_l] at this
    exact this
/-- the end of a statement, in both -/
theorem end_R {n L e : Nat} {c : Nat → Nat} {BC B : St} (hT : atx n L e c BC B) (hm : sI B 15 = 0) {ct : Nat} {gr : Bool} {PA BY OU : Nat → Int32} {p : Nat} {S : St} (h : SR B ct gr PA BY OU 0 p S) {q p' κ τ v : Nat} {x : Int32} (T : TS n L e c BC p q p' κ τ v x) : (τ = 0 → ∃ S' : St, df_X13_statement_326 n S = some S' ∧ SR B ct gr PA BY OU 0 p' S') ∧ (¬ τ = 0 → ∃ S' : St, df_X13_statement_326 n S = some S' ∧ FL e B (nI 1 + 16 * sI B 13) S') := by
  have s15 : sI S 15 = 0 := (SR_15 h).trans hm
  refine ⟨fun z => ?_, fun z => ?_⟩
  · obtain ⟨S', e1, e2, _⟩ := ned_y hT h T 0 (by omega) (by omega) z
    refine ⟨S', ?_, e2⟩
    unfold df_X13_statement_326 df_X13_statement_346
    rw [if_pos s15, if_pos (SR_12 h), show df_X13_needs n 0 S = some (1, S') from e1, nb_b2]
  · obtain ⟨S', e1, e2⟩ := ned_n hT h T 0 (by omega) z
    refine ⟨S', ?_, FN_L e2⟩
    unfold df_X13_statement_326 df_X13_statement_346
    rw [if_pos s15, if_pos (SR_12 h), show df_X13_needs n 0 S = some (0, S') from e1, nb_b2]
theorem end_F {n e : Nat} {B : St} {ft : Int32} {S : St} (h : FL e B ft S) (hf : ¬ ft = 0) : df_X13_statement_326 n S = some S := by
  unfold df_X13_statement_326 df_X13_statement_346
  rw [(FL_f h).1, if_neg hf]
  split <;> rfl
theorem ts_0 {n L e : Nat} {c : Nat → Nat} {BC : St} {p q p' κ τ v : Nat} {x : Int32} (T : TS n L e c BC p q p' κ τ v x) : (κ = 0 ↔ τ = 0) ∧ κ ≤ 6 ∧ (κ = 1 ↔ τ = 1) ∧ (τ = 0 → p' = q ∧ (q = e ∨ c q = 35)) := by
  obtain ⟨t1, t2, t3, t4, t5, t6, t7, t8, t9⟩ := T
  by_cases y : κ = 5
  · subst y
    have := tk_5 t7
    omega
  · have h := tk_n t7 y
    unfold tkK at t7
    refine ⟨by omega, by omega, by omega, fun z => ?_⟩
    rcases t7 with w | w | w | w | w | w | w
    · exact ⟨w.2.2.1, w.2.2.2⟩
    all_goals omega
theorem end_C {n : Nat} {B : St} {sn lu ln se co : Nat} {od : Int32} {SW LW : Nat → Int32} {BC : St} {cs tp st ns : Nat} {fx : Bool} {C A S NM BK : Nat → Int32} {p' κ q : Nat} {x : Int32} (hk : κ ≤ 6) : df_X1_readStatement_206 n (qC B sn lu 0 ln se od co SW LW, uC (xC BC cs tp st ns fx C A S NM BK) p' κ q x) = some (qC B sn lu (if κ = 0 then 0 else nI 1) ln se od co SW LW, uC (xC BC cs tp st ns fx C A S NM BK) p' κ q x) := by
  unfold df_X1_readStatement_206 df_X1_readStatement_228
  rw [if_pos (show sI (qC B sn lu 0 ln se od co SW LW, uC (xC BC cs tp st ns fx C A S NM BK) p' κ q x).1 2 = 0 from rfl), blm_C, nb_b1]
  by_cases z : κ = 0
  · rw [if_pos (show sI (qC B sn lu 0 ln se od co SW LW, uC (xC BC cs tp st ns fx C A S NM BK) p' κ q x).2 2 = 0 from congrArg nI z), if_pos z]
  · rw [if_neg (show ¬ sI (qC B sn lu 0 ln se od co SW LW, uC (xC BC cs tp st ns fx C A S NM BK) p' κ q x).2 2 = 0 from zne (b := 0) z (by omega) (by omega)), if_neg z]
    rfl
theorem end_CF {n : Nat} {B : St} {sn lu ln se co : Nat} {ft od : Int32} {SW LW : Nat → Int32} {s2 : St} (h : ¬ ft = 0) : df_X1_readStatement_206 n (qC B sn lu ft ln se od co SW LW, s2) = some (qC B sn lu ft ln se od co SW LW, s2) := by
  unfold df_X1_readStatement_206 df_X1_readStatement_228
  rw [if_neg (show ¬ sI (qC B sn lu ft ln se od co SW LW, s2).1 2 = 0 from h)]
/-- which of the class's methods reads a statement -/
theorem drs_1 (n y : Nat) (hy : y < 128) (s : St × St) (h : tb_0 y = 0) : df_X1_readStatement n y s = nd_b1 (df_X1_readInstruction n y s) (fun (t : St × St) => df_X1_readStatement_206 n t) := by
  unfold df_X1_readStatement df_X1_readStatement_0 df_Jx29ce0_ordinal_8abf5 df_Jx29ce0_ordinal_8abf5_0
  rw [lt_y hy, lt_y hy, nb_b2, show Int32.ofNat y = nI y from rfl, nm_ck hy (by omega), nI_clamp (by omega), h]
  rfl

/-- behind(): a comma and a register -/
theorem bhd_y {n L e : Nat} {c : Nat → Nat} {BC B : St} (hT : atx n L e c BC B) {ct : Nat} {gr : Bool} {PA BY OU : Nat → Int32} {p : Nat} {S : St} (h : SR B ct gr PA BY OU 0 p S) {q p' κ τ v : Nat} {x : Int32} (T : TS n L e c BC p q p' κ τ v x) (ht : τ = 44) {q1 p1 κ1 τ1 v1 : Nat} {x1 : Int32} (T1 : TS n L e c BC p' q1 p1 κ1 τ1 v1 x1) (hg : tkG c τ1 q1 p1 < 32) : ∃ S' : St, df_X13_behind n S = some (nI (tkG c τ1 q1 p1), S') ∧ SR B ct gr PA BY OU 0 p1 S' := by
  obtain ⟨S1, e1, g1, _⟩ := ned_y hT h T 44 (by omega) (by omega) ht
  obtain ⟨S2, e2, g2⟩ := tak_y hT g1 T1 hg
  refine ⟨S2, ?_, g2⟩
  unfold df_X13_behind df_X13_behind_0 df_X13_behind_17
  rw [show (44 : Int32) = nI 44 from rfl, e1, nb_b2, if_neg (by decide), e2, nb_b2]
theorem bhd_1 {n L e : Nat} {c : Nat → Nat} {BC B : St} (hT : atx n L e c BC B) {ct : Nat} {gr : Bool} {PA BY OU : Nat → Int32} {p : Nat} {S : St} (h : SR B ct gr PA BY OU 0 p S) {q p' κ τ v : Nat} {x : Int32} (T : TS n L e c BC p q p' κ τ v x) (ht : ¬ τ = 44) : ∃ (r : Int32) (S' : St), df_X13_behind n S = some (r, S') ∧ FN c e B (nI 1 + 16 * sI B 13) S' := by
  obtain ⟨S1, e1, g1⟩ := ned_n hT h T 44 (by omega) ht
  refine ⟨0, S1, ?_, g1⟩
  unfold df_X13_behind df_X13_behind_0 df_X13_behind_17
  rw [show (44 : Int32) = nI 44 from rfl, e1, nb_b2, if_pos rfl]
theorem bhd_2 {n L e : Nat} {c : Nat → Nat} {BC B : St} (hT : atx n L e c BC B) {ct : Nat} {gr : Bool} {PA BY OU : Nat → Int32} {p : Nat} {S : St} (h : SR B ct gr PA BY OU 0 p S) {q p' κ τ v : Nat} {x : Int32} (T : TS n L e c BC p q p' κ τ v x) (ht : τ = 44) {q1 p1 κ1 τ1 v1 : Nat} {x1 : Int32} (T1 : TS n L e c BC p' q1 p1 κ1 τ1 v1 x1) (hg : ¬ tkG c τ1 q1 p1 < 32) : ∃ (r : Int32) (S' : St), df_X13_behind n S = some (r, S') ∧ FN c e B ((if tkG c τ1 q1 p1 = 33 then 1 else 3) + 16 * sI B 13) S' := by
  obtain ⟨S1, e1, g1, _⟩ := ned_y hT h T 44 (by omega) (by omega) ht
  obtain ⟨S2, e2, g2⟩ := tak_n hT g1 T1 hg
  refine ⟨0, S2, ?_, g2⟩
  unfold df_X13_behind df_X13_behind_0 df_X13_behind_17
  rw [show (44 : Int32) = nI 44 from rfl, e1, nb_b2, if_neg (by decide), e2, nb_b2]
theorem bhd_F {n L e : Nat} {c : Nat → Nat} {BC B : St} (hT : atx n L e c BC B) {ft : Int32} {S : St} (h : FN c e B ft S) (hf : ¬ ft = 0) : ∃ (r : Int32) (S' : St), df_X13_behind n S = some (r, S') ∧ FN c e B ft S' := by
  obtain ⟨b, S1, e1, g1⟩ := ned_F hT h hf 44 (by omega)
  have e1 : df_X13_needs n 44 S = some (bI b, S1) := e1
  unfold df_X13_behind df_X13_behind_0 df_X13_behind_17
  rw [e1, nb_b2]
  cases b with
  | false => rw [if_pos (show bI false = 0 from rfl)]; exact ⟨_, S1, rfl, g1⟩
  | true =>
    obtain ⟨r, S2, e2, g2⟩ := tak_F hT g1 hf
    rw [if_neg (show ¬ bI true = 0 by decide), e2, nb_b2]
    exact ⟨_, S2, rfl, g2⟩
/-- whether a branch is a test of one register -/
def teO (s : Nat) (w : Int32) (r : Nat) : Bool := decide (s = 35) && (!decide (2 ≤ (w >>> ((12 : Int32) &&& 31)) &&& 7) && decide (8 ≤ r ∧ r ≤ 15))
def brX (s : Nat) (r1 r2 : Nat) : Int32 × Int32 := if s = 7 ∨ s = 35 then (nI r1, nI r2) else (nI r2, nI r1)
theorem br_25 {n L e : Nat} {c : Nat → Nat} {BC B : St} (hT : atx n L e c BC B) {ct : Nat} {gr : Bool} {PA BY OU : Nat → Int32} {p : Nat} {S : St} (h : SR B ct gr PA BY OU 0 p S) {q p' κ τ v : Nat} {x : Int32} (T : TS n L e c BC p q p' κ τ v x) (ht : τ = 44) (s : Nat) (hs : s = 7 ∨ s = 35 ∨ s = 36 ∨ s = 37) (w : Int32) (r1 r2 : Nat) (h1 : r1 < 32) : ∃ Sk : St, SR B ct gr PA BY OU 0 p' Sk ∧ df_X13_branches_25 n (nI s) w (nI r1) (nI r2) S = nd_b1 (df_X13_branch n w (brX s r1 r2).1 (brX s r1 r2).2 (bI (teO s w r1)) Sk) (fun (s : St) => some s) := by
  obtain ⟨Sk, e1, e2⟩ := com_y hT h T ht
  refine ⟨Sk, e2, ?_⟩
  unfold df_X13_branches_25 df_X13_branches_68 df_X13_branches_69 df_X13_branches_83 df_X13_branches_105 teO brX
  rw [e1, nb_b2, if_neg (show ¬ (1 : Int32) = 0 by decide)]
  rcases hs with hs | hs | hs | hs <;> subst hs
  · rw [if_neg (show ¬ nI 7 = (35 : Int32) by decide), if_pos (show nI 7 = (7 : Int32) from rfl)]; rfl
  · rw [if_pos (show nI 35 = (35 : Int32) from rfl), if_neg (show ¬ nI 35 = (7 : Int32) by decide), if_pos (show nI 35 = (35 : Int32) from rfl), if_neg (show ¬ nI 35 = (7 : Int32) by decide), if_pos (show nI 35 = (35 : Int32) from rfl)]
    by_cases y : 2 ≤ (w >>> ((12 : Int32) &&& 31)) &&& 7
    · rw [if_pos y, decide_eq_true y]; rfl
    · rw [if_neg y, decide_eq_false y]
      by_cases k1 : r1 ≤ 7
      · rw [if_pos (show nI r1 ≤ (7 : Int32) from zle (b := 7) k1 (by omega)), decide_eq_false (show ¬ (8 ≤ r1 ∧ r1 ≤ 15) by omega)]; rfl
      · rw [if_neg (show ¬ nI r1 ≤ (7 : Int32) from znle (b := 7) (by omega) (by omega))]
        by_cases k2 : 16 ≤ r1
        · rw [if_pos (show (16 : Int32) ≤ nI r1 from zle (a := 16) k2 (by omega)), decide_eq_false (show ¬ (8 ≤ r1 ∧ r1 ≤ 15) by omega)]; rfl
        · rw [if_neg (show ¬ (16 : Int32) ≤ nI r1 from znle (a := 16) (by omega) (by omega)), decide_eq_true (show 8 ≤ r1 ∧ r1 ≤ 15 by omega)]; rfl
  · rw [if_neg (show ¬ nI 36 = (35 : Int32) by decide), if_neg (show ¬ nI 36 = (7 : Int32) by decide), if_neg (show ¬ nI 36 = (35 : Int32) by decide)]; rfl
  · rw [if_neg (show ¬ nI 37 = (35 : Int32) by decide), if_neg (show ¬ nI 37 = (7 : Int32) by decide), if_neg (show ¬ nI 37 = (35 : Int32) by decide)]; rfl
theorem br_25F {n e : Nat} {B : St} {ft : Int32} {S : St} (h : FL e B ft S) (hf : ¬ ft = 0) (s w x y : Int32) : df_X13_branches_25 n s w x y S = some S := by
  unfold df_X13_branches_25
  rw [com_F h hf, nb_b2, if_pos rfl]
theorem br_25n {n L e : Nat} {c : Nat → Nat} {BC B : St} (hT : atx n L e c BC B) {ct : Nat} {gr : Bool} {PA BY OU : Nat → Int32} {p : Nat} {S : St} (h : SR B ct gr PA BY OU 0 p S) {q p' κ τ v : Nat} {x : Int32} (T : TS n L e c BC p q p' κ τ v x) (ht : ¬ τ = 44) (s w x1 x2 : Int32) : ∃ S' : St, df_X13_branches_25 n s w x1 x2 S = some S' ∧ FL e B (nI 1 + 16 * sI B 13) S' := by
  obtain ⟨S1, e1, g1⟩ := com_n hT h T ht
  refine ⟨S1, ?_, FN_L g1⟩
  unfold df_X13_branches_25
  rw [e1, nb_b2, if_pos rfl]
/-- the registers of a branch, one or two, and where its target begins -/
theorem brs_1 {n L e : Nat} {c : Nat → Nat} {BC B : St} {X : Nat → Nat} {nL st cu : Nat} (hV : RV n L e c BC B X nL cu) {ct : Nat} {gr : Bool} {PA BY OU : Nat → Int32} (hY : PY PA cu st) {p : Nat} {S : St} (h : SR B ct gr PA BY OU 0 p S) (w : Int32) {f p2 : Nat} {rs : List Nat} {m : Nat} {P : Nat → Tp} (h0 : ¬ f = 0 → sI B 15 = 0) (s l : Nat) (hs : s = 35 ∨ s = 36) (hl1 : l = 97 ∨ l = 98) (hTr : Tr n L e c BC [l, 44, 84] p f p2 rs m P) : (¬ f = 0 → ∃ S' : St, df_X13_branches n (nI s) w S = some S' ∧ FL e B (nI f + 16 * sI B 13) S') ∧ (f = 0 → ∃ (r : Nat) (Sk : St) (px : Nat), rs = [r] ∧ r < 32 ∧ SR B ct gr PA BY OU 0 px Sk ∧ RX n L e c BC px true p2 m P ∧ p2 ≤ e ∧ df_X13_branches n (nI s) w S = nd_b1 (df_X13_branch n w (brX s r 0).1 (brX s r 0).2 (bI (teO s w r)) Sk) (fun (s : St) => some s)) := by
  have hT := hV.1
  have hl := hV.2.2.2.2.2.2.2
  have rt : ∀ r : Nat, rfit l r = true := fun r => by rcases hl1 with q | q <;> subst q <;> rfl
  have hd : ∀ (r : Int32) (S1 : St), df_X13_taken n S = some (r, S1) → df_X13_branches n (nI s) w S = df_X13_branches_25 n (nI s) w r 0 S1 := fun r S1 e1 => by
    unfold df_X13_branches df_X13_branches_0
    rw [e1, nb_b2, if_neg (show ¬ nI s = (7 : Int32) from zne (b := 7) (by omega) (by omega) (by omega)), if_neg (show ¬ nI s = (37 : Int32) from zne (b := 37) (by omega) (by omega) (by omega))]
  obtain ⟨q1, p1, κ1, τ1, v1, x1, T1, hTr⟩ := hTr
  rw [if_neg (by omega), if_pos (by omega)] at hTr
  rcases hTr with ⟨g1, r1, rs1, rfl, hTr⟩ | hF
  rotate_left
  · have hF2 : (tkG c τ1 q1 p1 = 33 ∧ f = 1) ∨ (tkG c τ1 q1 p1 = 32 ∧ f = 3) := by
      rcases hF with hF | ⟨hF | hF, hF2⟩
      · exact Or.inl hF
      · exact Or.inr ⟨hF, hF2⟩
      · rw [rt] at hF; exact absurd hF.2 (by decide)
    obtain ⟨S1, e1, g1⟩ := tak_n hT h T1 (by omega)
    have ne := f13 hl (g := tkG c τ1 q1 p1)
    rw [f13e hF2] at g1 ne
    refine ⟨fun _ => ⟨S1, ?_, FN_L g1⟩, fun u => by omega⟩
    rw [hd _ _ e1, br_25F (FN_L g1) ne]
  obtain ⟨S1, e1, h1⟩ := tak_y hT h T1 g1
  obtain ⟨q2, p3, κ2, τ2, v2, x2, T2, hTr⟩ := hTr
  rw [if_pos (by decide)] at hTr
  rcases hTr with ⟨g2, hTr⟩ | hF
  rotate_left
  · obtain ⟨S', f1, f2⟩ := br_25n (n := n) hT h1 T2 hF.1 (nI s) w (nI (tkG c τ1 q1 p1)) 0
    rw [← hd _ _ e1] at f1
    rw [hF.2]
    exact ⟨fun _ => ⟨S', f1, f2⟩, fun u => absurd u (by decide)⟩
  obtain ⟨Sk, h2, e2⟩ := br_25 (n := n) hT h1 T2 g2 s (by omega) w (tkG c τ1 q1 p1) 0 g1
  obtain ⟨q3, p4, κ3, τ3, v3, x3, T3, hTr⟩ := hTr
  rw [if_neg (by decide), if_neg (by decide)] at hTr
  obtain ⟨ok, px, R, hTr⟩ := hTr
  rcases hTr with ⟨rfl, z1, z2, hTr⟩ | ⟨rfl, hF⟩
  · obtain ⟨rfl, rfl, rfl⟩ := hTr
    exact ⟨fun u => absurd rfl u, fun _ => ⟨_, Sk, _, rfl, g1, h2, R, z2, (hd _ _ e1).trans e2⟩⟩
  · have m0 := h0 (by omega)
    obtain ⟨S', f1, f2⟩ := brn_f hV h2 hY m0 R w (brX s (tkG c τ1 q1 p1) 0).1 (brX s (tkG c τ1 q1 p1) 0).2 (bI (teO s w (tkG c τ1 q1 p1)))
    rw [hF]
    refine ⟨fun _ => ⟨S', ?_, f2⟩, fun u => absurd u (by decide)⟩
    rw [hd _ _ e1]
    refine e2.trans ?_
    rw [f1, nb_b1]
theorem brs_2 {n L e : Nat} {c : Nat → Nat} {BC B : St} {X : Nat → Nat} {nL st cu : Nat} (hV : RV n L e c BC B X nL cu) {ct : Nat} {gr : Bool} {PA BY OU : Nat → Int32} (hY : PY PA cu st) {p : Nat} {S : St} (h : SR B ct gr PA BY OU 0 p S) (w : Int32) {f p2 : Nat} {rs : List Nat} {m : Nat} {P : Nat → Tp} (h0 : ¬ f = 0 → sI B 15 = 0) (s l l' : Nat) (hs : s = 7 ∨ s = 37) (hl1 : l = 97 ∨ l = 98) (hl2 : l' = 97 ∨ l' = 98) (hTr : Tr n L e c BC [l, 44, l', 44, 84] p f p2 rs m P) : (¬ f = 0 → ∃ S' : St, df_X13_branches n (nI s) w S = some S' ∧ FL e B (nI f + 16 * sI B 13) S') ∧ (f = 0 → ∃ (r r' : Nat) (Sk : St) (px : Nat), rs = [r, r'] ∧ r < 32 ∧ r' < 32 ∧ SR B ct gr PA BY OU 0 px Sk ∧ RX n L e c BC px true p2 m P ∧ p2 ≤ e ∧ df_X13_branches n (nI s) w S = nd_b1 (df_X13_branch n w (brX s r r').1 (brX s r r').2 (bI (teO s w r)) Sk) (fun (s : St) => some s)) := by
  have hT := hV.1
  have hl := hV.2.2.2.2.2.2.2
  have rt : ∀ r : Nat, rfit l r = true := fun r => by rcases hl1 with q | q <;> subst q <;> rfl
  have rt' : ∀ r : Nat, rfit l' r = true := fun r => by rcases hl2 with q | q <;> subst q <;> rfl
  have hd : ∀ (r : Int32) (S1 : St), df_X13_taken n S = some (r, S1) → df_X13_branches n (nI s) w S = nd_b2 (df_X13_behind n S1) (fun (q5 : Int32) (s6 : St) => df_X13_branches_25 n (nI s) w r q5 s6) := fun r S1 e1 => by
    unfold df_X13_branches df_X13_branches_0 df_X13_branches_17
    rw [e1, nb_b2]
    rcases hs with q | q <;> subst q
    · rw [if_pos (show nI 7 = (7 : Int32) from rfl)]
    · rw [if_neg (show ¬ nI 37 = (7 : Int32) by decide), if_pos (show nI 37 = (37 : Int32) from rfl)]
  obtain ⟨q1, p1, κ1, τ1, v1, x1, T1, hTr⟩ := hTr
  rw [if_neg (by omega), if_pos (by omega)] at hTr
  rcases hTr with ⟨g1, r1, rs1, rfl, hTr⟩ | hF
  rotate_left
  · have hF2 : (tkG c τ1 q1 p1 = 33 ∧ f = 1) ∨ (tkG c τ1 q1 p1 = 32 ∧ f = 3) := by
      rcases hF with hF | ⟨hF | hF, hF2⟩
      · exact Or.inl hF
      · exact Or.inr ⟨hF, hF2⟩
      · rw [rt] at hF; exact absurd hF.2 (by decide)
    obtain ⟨S1, e1, g1⟩ := tak_n hT h T1 (by omega)
    have ne := f13 hl (g := tkG c τ1 q1 p1)
    rw [f13e hF2] at g1 ne
    obtain ⟨r, S2, e2, g2⟩ := bhd_F hT g1 ne
    refine ⟨fun _ => ⟨S2, ?_, FN_L g2⟩, fun u => by omega⟩
    rw [hd _ _ e1, e2, nb_b2, br_25F (FN_L g2) ne]
  obtain ⟨S1, e1, h1⟩ := tak_y hT h T1 g1
  obtain ⟨q2, p3, κ2, τ2, v2, x2, T2, hTr⟩ := hTr
  rw [if_pos (by decide)] at hTr
  rcases hTr with ⟨g2, hTr⟩ | hF
  rotate_left
  · obtain ⟨r, S2, e2, g2⟩ := bhd_1 hT h1 T2 hF.1
    have ne : ¬ nI 1 + 16 * sI B 13 = 0 := flt_n hl 1 (by omega)
    rw [hF.2]
    refine ⟨fun _ => ⟨S2, ?_, FN_L g2⟩, fun u => absurd u (by decide)⟩
    rw [hd _ _ e1, e2, nb_b2, br_25F (FN_L g2) ne]
  obtain ⟨q3, p4, κ3, τ3, v3, x3, T3, hTr⟩ := hTr
  rw [if_neg (by omega), if_pos (by omega)] at hTr
  rcases hTr with ⟨g3, r3, rs3, rfl, hTr⟩ | hF
  rotate_left
  · have hF2 : (tkG c τ3 q3 p4 = 33 ∧ f = 1) ∨ (tkG c τ3 q3 p4 = 32 ∧ f = 3) := by
      rcases hF with hF | ⟨hF | hF, hF2⟩
      · exact Or.inl hF
      · exact Or.inr ⟨hF, hF2⟩
      · rw [rt'] at hF; exact absurd hF.2 (by decide)
    obtain ⟨r, S2, e2, g2'⟩ := bhd_2 hT h1 T2 g2 T3 (by omega)
    have ne := f13 hl (g := tkG c τ3 q3 p4)
    rw [f13e hF2] at g2' ne
    refine ⟨fun _ => ⟨S2, ?_, FN_L g2'⟩, fun u => by omega⟩
    rw [hd _ _ e1, e2, nb_b2, br_25F (FN_L g2') ne]
  obtain ⟨S2, e2, h2⟩ := bhd_y hT h1 T2 g2 T3 g3
  obtain ⟨q4, p5, κ4, τ4, v4, x4, T4, hTr⟩ := hTr
  rw [if_pos (by decide)] at hTr
  rcases hTr with ⟨g4, hTr⟩ | hF
  rotate_left
  · obtain ⟨S', f1, f2⟩ := br_25n (n := n) hT h2 T4 hF.1 (nI s) w (nI (tkG c τ1 q1 p1)) (nI (tkG c τ3 q3 p4))
    rw [hF.2]
    refine ⟨fun _ => ⟨S', ?_, f2⟩, fun u => absurd u (by decide)⟩
    rw [hd _ _ e1, e2, nb_b2, f1]
  obtain ⟨Sk, h3, e3⟩ := br_25 (n := n) hT h2 T4 g4 s (by omega) w (tkG c τ1 q1 p1) (tkG c τ3 q3 p4) g1
  have hh : df_X13_branches n (nI s) w S = nd_b1 (df_X13_branch n w (brX s (tkG c τ1 q1 p1) (tkG c τ3 q3 p4)).1 (brX s (tkG c τ1 q1 p1) (tkG c τ3 q3 p4)).2 (bI (teO s w (tkG c τ1 q1 p1))) Sk) (fun (s : St) => some s) := by
    rw [hd _ _ e1, e2, nb_b2]
    exact e3
  obtain ⟨q6, p7, κ6, τ6, v6, x6, T6, hTr⟩ := hTr
  rw [if_neg (by decide), if_neg (by decide)] at hTr
  obtain ⟨ok, px, R, hTr⟩ := hTr
  rcases hTr with ⟨rfl, z1, z2, hTr⟩ | ⟨rfl, hF⟩
  · obtain ⟨rfl, rfl, rfl⟩ := hTr
    exact ⟨fun u => absurd rfl u, fun _ => ⟨_, _, Sk, _, rfl, g1, g3, h3, R, z2, hh⟩⟩
  · have m0 := h0 (by omega)
    obtain ⟨S', f1, f2⟩ := brn_f hV h3 hY m0 R w (brX s (tkG c τ1 q1 p1) (tkG c τ3 q3 p4)).1 (brX s (tkG c τ1 q1 p1) (tkG c τ3 q3 p4)).2 (bI (teO s w (tkG c τ1 q1 p1)))
    rw [hF]
    refine ⟨fun _ => ⟨S', ?_, f2⟩, fun u => absurd u (by decide)⟩
    rw [hh, f1, nb_b1]
/-- jumps(): the look ahead -/
theorem jms_1 {n L e : Nat} {c : Nat → Nat} {BC B : St} (hT : atx n L e c BC B) {ct : Nat} {gr : Bool} {PA BY OU : Nat → Int32} {p : Nat} {S : St} (h : SR B ct gr PA BY OU 0 p S) {q p' κ τ v : Nat} {x : Int32} (T : TS n L e c BC p q p' κ τ v x) (s w : Int32) : ∃ S1 : St, SR B ct gr PA BY OU 0 p (pI S1 7 (nI p)) ∧ df_X13_jumps n s w S = df_X13_jumps_37 n s w (nI p) (bI (decide (tkG c τ q p' < 32))) S1 := by
  obtain ⟨hn, hL, heL, h127, hend, hce, hO, hst, htC, h0', htR, hch⟩ := id hT
  have t3 := ts_300 T
  have tw := ts_w T
  obtain ⟨S1, p2, e1, e2, e3, e4, e5, e6, e7, e8⟩ := scn_S hT h T
  refine ⟨S1, SR_w7 e2 p, ?_⟩
  unfold df_X13_jumps df_X13_jumps_0 df_X13_jumps_36
  rw [SR_7 h, nb_let, e1, nb_b1, e3]
  by_cases y : τ = 1
  · obtain ⟨w1, w2, w3, w4, w5, w6⟩ := tw y
    have p2e := e8 (by omega)
    subst p2e
    have ee := (eT_1 c (show q ≤ e by omega)).1
    have re := re_1 n (S := S1) (c := c) q (p2 - q) (by omega) h127 (by omega) (fun i hi => ⟨(eT_1 c (show q ≤ e by omega)).2.2.2 _ (by omega) (by omega), by rw [SR_r2 e2]; exact htR _ (by omega)⟩)
    rw [show q + (p2 - q) = p2 by omega] at re
    have g : tkG c τ q p2 = reS (p2 - q) (c q) (c (q + 1)) (c (q + 2)) (c (q + 3)) := by unfold tkG; rw [if_neg (by omega), if_pos y]
    rw [if_pos (show nI τ = (1 : Int32) from congrArg nI y), e4, e5, re, nb_b2, g]
    generalize reS (p2 - q) (c q) (c (q + 1)) (c (q + 2)) (c (q + 3)) = r
    by_cases z : r < 32
    · rw [show rI r = nI r from if_pos z, if_neg (show ¬ nI r < (0 : Int32) from znl (b := 0) (Nat.zero_le _) (by omega)), decide_eq_true z]; rfl
    · rw [show rI r = -1 from if_neg z, if_pos (show (-1 : Int32) < 0 by decide), decide_eq_false z]; rfl
  · have g : ¬ tkG c τ q p' < 32 := by
      unfold tkG
      by_cases z : τ = 0 ∨ τ = 5
      · rw [if_pos z]; omega
      · rw [if_neg z, if_neg y]; omega
    rw [if_neg (show ¬ nI τ = (1 : Int32) from zne (b := 1) y (by omega) (by omega)), decide_eq_false g]; rfl
theorem jms_h {n L e : Nat} {c : Nat → Nat} {BC B : St} (hT : atx n L e c BC B) {ct : Nat} {gr : Bool} {PA BY OU : Nat → Int32} {p : Nat} {S : St} (h : SR B ct gr PA BY OU 0 p S) {q p' κ τ v : Nat} {x : Int32} (T : TS n L e c BC p q p' κ τ v x) (s w : Int32) (hs : s = 34 ∨ ¬ tkG c τ q p' < 32) : ∃ S2 : St, SR B ct gr PA BY OU 0 p S2 ∧ df_X13_jumps n s w S = nd_b1 (df_X13_jump n (if s = 34 then w else 1) S2) (fun (s : St) => some s) := by
  obtain ⟨S1, e1, e2⟩ := jms_1 hT h T s w
  refine ⟨_, e1, ?_⟩
  rw [e2]
  unfold df_X13_jumps_37 df_X13_jumps_55 df_X13_jumps_67
  rw [nb_let]
  by_cases y : s = 34
  · rw [if_pos y, if_pos y, if_pos y]
  · rcases hs with hs | hs
    · exact absurd hs y
    · rw [if_neg y, decide_eq_false hs, if_pos (show bI false = 0 from rfl), if_neg y, if_neg y]
theorem jms_r {n L e : Nat} {c : Nat → Nat} {BC B : St} (hT : atx n L e c BC B) {ct : Nat} {gr : Bool} {PA BY OU : Nat → Int32} {p : Nat} {S : St} (h : SR B ct gr PA BY OU 0 p S) {q p' κ τ v : Nat} {x : Int32} (T : TS n L e c BC p q p' κ τ v x) (w : Int32) (hs : tkG c τ q p' < 32) : ∃ S1 : St, SR B ct gr PA BY OU 0 p (pI S1 7 (nI p)) ∧ df_X13_jumps n 8 w S = df_X13_jumps_37 n 8 w (nI p) 1 S1 := by
  obtain ⟨S1, e1, e2⟩ := jms_1 hT h T 8 w
  rw [decide_eq_true hs] at e2
  exact ⟨S1, e1, e2⟩

/-- jumps and branches in a later round -/
theorem gr_m {B : St} {μ : Nat} (hμ : μ = 1 ∨ μ = 2 ∨ μ = 3) {hop : Bool} {l : Nat} {ms dv : Bool} {off : Int32} : grO (pI B 15 (nI μ)) hop l ms dv off = (decide (μ = 1) && (!ms && (!dv && (decide (l < if hop = true then 1 else 2) && !lfO (hpO hop l) off)))) := by
  obtain ⟨m1, m2, m3, m4, m5⟩ := md_n (B := B) hμ
  unfold grO
  rw [m1, decide_eq_decide.mpr m5]
theorem rfb_H {n L e : Nat} {c : Nat → Nat} {BC BR0 : St} (hT0 : atx n L e c BC BR0) {q p1 κ v1 : Nat} {x : Int32} (T : TS n L e c BC q q p1 κ 1 v1 x) {y : Nat} {od : Int32} (hy : y < 128) (hN : NAr n L c q (p1 - q) y od) {q1 p1' κ1 τ1 w1 : Nat} {x1 : Int32} (T1 : TS n L e c BC p1 q1 p1' κ1 τ1 w1 x1) (hk : shT (sgm y) = 34 ∨ (shT (sgm y) = 8 ∧ ¬ tkG c τ1 q1 p1' < 32)) {p2 m : Nat} {P : Nat → Tp} (R : RX n L e c BC p1 true p2 m P) (hp2 : p2 ≤ e) (b : Int32) (hd : (b >>> ((7 : Int32) &&& 31)) &&& 31 = if shT (sgm y) = 34 then ptT (sgm y) ||| od else 1) {se : Nat} {X0 : Nat → Nat} {W0 : Nat → Int32} {n0 : Nat} : RFB n L e c BC q se 0 1 4 none X0 W0 n0 (1, b, 0, [(m, P)], []) := by
  intro B X nL cu A ct ap μ gr PA BY OU S hV hc hE h14 hP hA hlw hl hb h hμ hw
  have qe : q ≤ e := T.1
  have eL' : e ≤ L := hT0.2.2.1
  have L' : L ≤ 32768 := hT0.2.1
  obtain ⟨m1, m2, m3, m4, m5⟩ := md_n (B := B) hμ
  have hln := hV.2.2.2.2.2.2.2
  obtain ⟨S1, e1, e2, e3⟩ := stm_2 hV.1 hc h (nI μ) T hN
  have go : ∀ (s w : Int32), (s = 34 ∨ ¬ tkG c τ1 q1 p1' < 32) → (b >>> ((7 : Int32) &&& 31)) &&& 31 = (if s = 34 then w else 1) → df_X13_statement_136 n (nI (sgm y)) od S1 = nd_b1 (df_X13_jumps n s w S1) (fun (s : St) => df_X13_statement_326 n s) → ∃ (z : Int32) (ms dv : Bool) (S' : St), df_X13_statement n (nI q) (nI μ) S = some S' ∧ rnF (VW c X e nL q B) P m = ([z], ms, dv) ∧ PLO e (pI B 15 (nI μ)) 0 (grO (pI B 15 (nI μ)) true (A % 4) ms dv (z - sI B 17)) PA BY OU p2 (wiF (pI B 15 (nI μ)) ms dv (lfO (hpO true (A % 4)) (z - sI B 17))) (hopL (A % 4) ((b >>> ((7 : Int32) &&& 31)) &&& 31) (z - sI B 17)) S' := fun s w h1 h2 h3 => by
    obtain ⟨S2, f1, f2⟩ := jms_h (B := pI B 15 (nI μ)) hV.1 e2 T1 s w h1
    obtain ⟨z, ms, dv, S3, g1, g2, g3⟩ := jmp_m (RV_p15 hV (nI μ)) f1 hP hA (by omega) (by rw [m1]; exact m2) (by omega) R (by rw [Nat.zero_add]; exact hw) (if s = 34 then w else 1)
    refine ⟨z, ms, dv, S3, ?_, g2, ?_⟩
    · rw [e1, h3, f2, g1, nb_b1, nb_b1]
      exact fin_l hμ g3
    · rw [h2]
      exact g3
  have key : ∃ (z : Int32) (ms dv : Bool) (S' : St), df_X13_statement n (nI q) (nI μ) S = some S' ∧ rnF (VW c X e nL q B) P m = ([z], ms, dv) ∧ PLO e (pI B 15 (nI μ)) 0 (grO (pI B 15 (nI μ)) true (A % 4) ms dv (z - sI B 17)) PA BY OU p2 (wiF (pI B 15 (nI μ)) ms dv (lfO (hpO true (A % 4)) (z - sI B 17))) (hopL (A % 4) ((b >>> ((7 : Int32) &&& 31)) &&& 31) (z - sI B 17)) S' := by
    rcases hk with hk | hk
    · rw [if_pos hk] at hd
      exact go 34 _ (Or.inl rfl) (by rw [if_pos rfl]; exact hd) (dsp_34 e3 (sgm y) (sgm_l hy) hk od)
    · rw [if_neg (by rw [hk.1]; decide)] at hd
      exact go 8 _ (Or.inr hk.2) (by rw [if_neg (by decide)]; exact hd) (dsp_8 e3 (sgm y) (sgm_l hy) hk.1 od)
  obtain ⟨z, ms, dv, S', k1, k2, k3⟩ := key
  obtain ⟨z1, z2, z3⟩ := zmd k2
  obtain ⟨t1, t2⟩ := plo_l hμ hln k3
  have eF : sF (1, b, 0, [(m, P)], []) (VW c X e nL q B) (sI B 17) (A % 4) = vF ms dv (lfO (hpO true (A % 4)) (z - sI B 17)) := by
    rw [z1, z2, z3]
    rfl
  have eB : sB (1, b, 0, [(m, P)], []) (VW c X e nL q B) (sI B 17) (A % 4) = hopL (A % 4) ((b >>> ((7 : Int32) &&& 31)) &&& 31) (z - sI B 17) := by
    rw [z1]
    rfl
  have grE : grO (pI B 15 (nI μ)) true (A % 4) ms dv (z - sI B 17) = (decide (μ = 1) && sG (1, b, 0, [(m, P)], []) (VW c X e nL q B) (sI B 17) (A % 4)) := by
    rw [gr_m hμ]
    unfold sG
    rw [z1, z2, z3, show offO (A % 4) (zV (VW c X e nL q B) (dQ (1, b, 0, [(m, P)], [])) (dN (1, b, 0, [(m, P)], [])) - sI B 17) = zV (VW c X e nL q B) P m - sI B 17 from if_neg (by omega)]
    rfl
  refine ⟨S', k1, fun u w => ?_, fun u => ?_⟩
  · rw [eF] at w ⊢
    exact t1 u w
  · rw [eF] at u
    rw [eB]
    exact ⟨_, p2, _, hp2, fun _ => grE, t2 u⟩
theorem bx_2 (w x y : Int32) : (w ^^^ nI 4096) ||| (x <<< nI 15 ||| y <<< nI 20) = (w ||| (x <<< nI 15 ||| y <<< nI 20)) ^^^ nI 4096 := by (apply gb_ext; apply all32; simp (disch := decide) only [gb_or, gb_and, gb_xor, gb_shl, gb_shr, gb_ush, gb_n, gb_m, gb_hi, Nat.reduceAdd, Nat.reduceSub, Nat.reduceLT, Nat.reduceLeDiff, Nat.testBit, Nat.reduceShiftRight, Nat.reduceBNe, Nat.reduceAnd, Nat.one_and_eq_mod_two, Nat.reduceMod, decide_true, decide_false, Bool.and_true, Bool.true_and, Bool.and_false, Bool.false_and, Bool.or_false, Bool.false_or, Bool.or_true, Bool.true_or, Bool.not_true, Bool.not_false, Bool.xor_true, Bool.xor_false, Bool.true_xor, Bool.false_xor, if_true, if_false, ↓reduceIte, and_self, bne_self_eq_false, Bool.or_self, Bool.and_self, Bool.not_not])
theorem bx_0 : ∀ r : Fin 16, 8 ≤ r.1 → ∀ f : Fin 2, (1 ||| (if ((nI (99 + 4096 * f.1)) >>> ((12 : Int32) &&& 31)) &&& 7 = 0 then (6 : Int32) else 7) <<< ((13 : Int32) &&& 31)) ||| ((nI r.1 - 8) &&& 7) <<< ((7 : Int32) &&& 31) = (49153 ||| ((nI (99 + 4096 * f.1) ||| (nI r.1 <<< ((15 : Int32) &&& 31) ||| nI 0 <<< ((20 : Int32) &&& 31))) &&& 4096) <<< ((1 : Int32) &&& 31)) ||| ((((nI (99 + 4096 * f.1) ||| (nI r.1 <<< ((15 : Int32) &&& 31) ||| nI 0 <<< ((20 : Int32) &&& 31))) >>> ((15 : Int32) &&& 31)) &&& 31) &&& 7) <<< ((7 : Int32) &&& 31) := by decide +kernel
/-- the branches: shape, form, bits -/
theorem bt_1 : ∀ y : Fin 128, (shT (sgm y.1) = 7 ∨ shT (sgm y.1) = 35 ∨ shT (sgm y.1) = 36 ∨ shT (sgm y.1) = 37) → ptT (sgm y.1) = ko_b y.1 ∧ ko_s y.1 &&& 8 = 0 ∧ ¬ ko_s y.1 &&& 2 = 0 ∧ ko_s y.1 &&& 32 = 0 ∧ tb_0 y.1 = 0 := by decide +kernel
theorem bt_2 : ∀ y : Fin 128, (shT (sgm y.1) = 7 → FRM y.1 = [97, 44, 98, 44, 84]) ∧ (shT (sgm y.1) = 37 → FRM y.1 = [98, 44, 97, 44, 84]) ∧ (shT (sgm y.1) = 35 → FRM y.1 = [97, 44, 84]) ∧ (shT (sgm y.1) = 36 → FRM y.1 = [98, 44, 84]) := by decide +kernel
theorem bt_3 : ∀ y : Fin 128, (¬ ko_s y.1 &&& 4 = 0 ↔ (shT (sgm y.1) = 35 ∧ ¬ 2 ≤ (ko_b y.1 >>> ((12 : Int32) &&& 31)) &&& 7)) := by decide +kernel
theorem bt_4 : ∀ y : Fin 128, (shT (sgm y.1) = 35 ∧ ¬ 2 ≤ (ko_b y.1 >>> ((12 : Int32) &&& 31)) &&& 7) → (ko_b y.1 = nI 99 ∨ ko_b y.1 = nI 4195) := by decide +kernel
theorem brn_e {w : Int32} {s r r' : Nat} {l : Nat} (v : Int32) (h0 : l = 0 → s = 35 ∧ 8 ≤ r ∧ r ≤ 15 ∧ (w = nI 99 ∨ w = nI 4195) ∧ r' = 0) : brnL l w (brX s r r').1 (brX s r r').2 v = brnC l (w ||| ((brX s r r').1 <<< ((15 : Int32) &&& 31) ||| (brX s r r').2 <<< ((20 : Int32) &&& 31))) v := by
  unfold brnL brnC
  by_cases y : l = 0
  · obtain ⟨a1, a2, a3, a4, a5⟩ := h0 y
    subst a1 a5
    rw [if_pos y, if_pos y, show brX 35 r 0 = (nI r, nI 0) from rfl]
    have k := bx_0 ⟨r, by omega⟩ a2
    congr 2
    rcases a4 with w1 | w1 <;> subst w1
    · exact k 0
    · exact k 1
  · rw [if_neg y, if_neg y]
    by_cases z : l = 1
    · rw [if_pos z, if_pos z]
    · rw [if_neg z, if_neg z]
      congr 2
      congr 1
      exact bx_2 w _ _
/-- both registers of a branch in its bits -/
theorem rgb_br {s r r' : Nat} : ((s = 7 → RGB [97, 44, 98, 44, 84] [r, r'] = (brX s r r').1 <<< ((15 : Int32) &&& 31) ||| (brX s r r').2 <<< ((20 : Int32) &&& 31)) ∧ (s = 37 → RGB [98, 44, 97, 44, 84] [r, r'] = (brX s r r').1 <<< ((15 : Int32) &&& 31) ||| (brX s r r').2 <<< ((20 : Int32) &&& 31)) ∧ (s = 35 → RGB [97, 44, 84] [r] = (brX s r 0).1 <<< ((15 : Int32) &&& 31) ||| (brX s r 0).2 <<< ((20 : Int32) &&& 31)) ∧ (s = 36 → RGB [98, 44, 84] [r] = (brX s r 0).1 <<< ((15 : Int32) &&& 31) ||| (brX s r 0).2 <<< ((20 : Int32) &&& 31))) := by
  refine ⟨fun h => ?_, fun h => ?_, fun h => ?_, fun h => ?_⟩ <;> subst h
  · show nI r <<< ((15 : Int32) &&& 31) ||| (nI r' <<< ((20 : Int32) &&& 31) ||| 0) = nI r <<< ((15 : Int32) &&& 31) ||| nI r' <<< ((20 : Int32) &&& 31)
    rw [or_0]
  · show nI r <<< ((20 : Int32) &&& 31) ||| (nI r' <<< ((15 : Int32) &&& 31) ||| 0) = nI r' <<< ((15 : Int32) &&& 31) ||| nI r <<< ((20 : Int32) &&& 31)
    rw [or_0, Int32.or_comm]
  · show nI r <<< ((15 : Int32) &&& 31) ||| 0 = nI r <<< ((15 : Int32) &&& 31) ||| nI 0 <<< ((20 : Int32) &&& 31)
    rw [show nI 0 <<< ((20 : Int32) &&& 31) = (0 : Int32) by decide]
  · show nI r <<< ((20 : Int32) &&& 31) ||| 0 = nI 0 <<< ((15 : Int32) &&& 31) ||| nI r <<< ((20 : Int32) &&& 31)
    rw [show nI 0 <<< ((15 : Int32) &&& 31) = (0 : Int32) by decide, or_0, Int32.or_comm, or_0]
/-- all branches at once: what branches() does with a form that was read -/
def brS (y : Nat) : Nat := (shT (sgm y)).toNatClampNeg
theorem brA_1 {n L e : Nat} {c : Nat → Nat} {BC B : St} {X : Nat → Nat} {nL st cu : Nat} (hV : RV n L e c BC B X nL cu) {ct : Nat} {gr : Bool} {PA BY OU : Nat → Int32} (hY : PY PA cu st) {p : Nat} {S : St} (h : SR B ct gr PA BY OU 0 p S) (hc : cstS S) {f p2 : Nat} {rs : List Nat} {m : Nat} {P : Nat → Tp} (h0 : ¬ f = 0 → sI B 15 = 0) (y : Nat) (hy : y < 128) (hs : shT (sgm y) = 7 ∨ shT (sgm y) = 35 ∨ shT (sgm y) = 36 ∨ shT (sgm y) = 37) (hTr : Tr n L e c BC (FRM y) p f p2 rs m P) : (¬ f = 0 → ∃ S' : St, df_X13_statement_136 n (nI (sgm y)) 0 S = df_X13_statement_326 n S' ∧ FL e B (nI f + 16 * sI B 13) S') ∧ (f = 0 → ∃ (s r r' : Nat) (Sk : St) (px : Nat), shT (sgm y) = nI s ∧ (s = 7 ∨ s = 35 ∨ s = 36 ∨ s = 37) ∧ r < 32 ∧ rs.headD 0 = r ∧ (s = 35 → r' = 0) ∧ RGB (FRM y) rs = (brX s r r').1 <<< ((15 : Int32) &&& 31) ||| (brX s r r').2 <<< ((20 : Int32) &&& 31) ∧ SR B ct gr PA BY OU 0 px Sk ∧ RX n L e c BC px true p2 m P ∧ p2 ≤ e ∧ df_X13_statement_136 n (nI (sgm y)) 0 S = nd_b1 (df_X13_branch n (ko_b y) (brX s r r').1 (brX s r r').2 (bI (teO s (ko_b y) r)) Sk) (fun (s : St) => df_X13_statement_326 n s)) := by
  have b1 := (bt_1 ⟨y, hy⟩ hs).1
  obtain ⟨b3, b4, b5, b6⟩ := bt_2 ⟨y, hy⟩
  have b1 : ptT (sgm y) = ko_b y := b1
  have o0 : ko_b y ||| 0 = ko_b y := or_0 _
  have run : ∀ s : Nat, df_X13_statement_136 n (nI (sgm y)) 0 S = nd_b1 (df_X13_branches n (nI s) (ko_b y) S) (fun (s : St) => df_X13_statement_326 n s) → (¬ f = 0 → ∃ S' : St, df_X13_branches n (nI s) (ko_b y) S = some S' ∧ FL e B (nI f + 16 * sI B 13) S') → (¬ f = 0 → ∃ S' : St, df_X13_statement_136 n (nI (sgm y)) 0 S = df_X13_statement_326 n S' ∧ FL e B (nI f + 16 * sI B 13) S') := fun s d r u => by
    obtain ⟨S', k1, k2⟩ := r u
    exact ⟨S', by rw [d, k1, nb_b1], k2⟩
  rcases hs with hs | hs | hs | hs
  · have d := dsp_7 (n := n) hc (sgm y) (sgm_l hy) hs 0
    rw [b1, o0] at d
    have F : FRM y = [97, 44, 98, 44, 84] := b3 hs
    rw [F] at hTr ⊢
    obtain ⟨r1, r2⟩ := brs_2 hV hY h (ko_b y) h0 7 97 98 (Or.inl rfl) (Or.inl rfl) (Or.inr rfl) hTr
    refine ⟨run 7 d r1, fun u => ?_⟩
    obtain ⟨r, r', Sk, px, k1, k2, k3, k4, k5, k6, k7⟩ := r2 u
    refine ⟨7, r, r', Sk, px, hs, Or.inl rfl, k2, by rw [k1]; rfl, fun z => absurd z (by decide), by rw [k1]; exact rgb_br.1 rfl, k4, k5, k6, ?_⟩
    rw [d, show df_X13_branches n 7 (ko_b y) S = _ from k7]
    cases df_X13_branch n (ko_b y) (brX 7 r r').1 (brX 7 r r').2 (bI (teO 7 (ko_b y) r)) Sk <;> rfl
  · have d := dsp_35 (n := n) hc (sgm y) (sgm_l hy) hs 0
    rw [b1, o0] at d
    have F : FRM y = [97, 44, 84] := b5 hs
    rw [F] at hTr ⊢
    obtain ⟨r1, r2⟩ := brs_1 hV hY h (ko_b y) h0 35 97 (Or.inl rfl) (Or.inl rfl) hTr
    refine ⟨run 35 d r1, fun u => ?_⟩
    obtain ⟨r, Sk, px, k1, k2, k4, k5, k6, k7⟩ := r2 u
    refine ⟨35, r, 0, Sk, px, hs, Or.inr (Or.inl rfl), k2, by rw [k1]; rfl, fun z => rfl, by rw [k1]; exact (rgb_br (s := 35) (r := r) (r' := 0)).2.2.1 rfl, k4, k5, k6, ?_⟩
    rw [d, show df_X13_branches n 35 (ko_b y) S = _ from k7]
    cases df_X13_branch n (ko_b y) (brX 35 r 0).1 (brX 35 r 0).2 (bI (teO 35 (ko_b y) r)) Sk <;> rfl
  · have d := dsp_36 (n := n) hc (sgm y) (sgm_l hy) hs 0
    rw [b1, o0] at d
    have F : FRM y = [98, 44, 84] := b6 hs
    rw [F] at hTr ⊢
    obtain ⟨r1, r2⟩ := brs_1 hV hY h (ko_b y) h0 36 98 (Or.inr rfl) (Or.inr rfl) hTr
    refine ⟨run 36 d r1, fun u => ?_⟩
    obtain ⟨r, Sk, px, k1, k2, k4, k5, k6, k7⟩ := r2 u
    refine ⟨36, r, 0, Sk, px, hs, Or.inr (Or.inr (Or.inl rfl)), k2, by rw [k1]; rfl, fun z => absurd z (by decide), by rw [k1]; exact (rgb_br (s := 36) (r := r) (r' := 0)).2.2.2 rfl, k4, k5, k6, ?_⟩
    rw [d, show df_X13_branches n 36 (ko_b y) S = _ from k7]
    cases df_X13_branch n (ko_b y) (brX 36 r 0).1 (brX 36 r 0).2 (bI (teO 36 (ko_b y) r)) Sk <;> rfl
  · have d := dsp_37 (n := n) hc (sgm y) (sgm_l hy) hs 0
    rw [b1, o0] at d
    have F : FRM y = [98, 44, 97, 44, 84] := b4 hs
    rw [F] at hTr ⊢
    obtain ⟨r1, r2⟩ := brs_2 hV hY h (ko_b y) h0 37 98 97 (Or.inr rfl) (Or.inr rfl) (Or.inl rfl) hTr
    refine ⟨run 37 d r1, fun u => ?_⟩
    obtain ⟨r, r', Sk, px, k1, k2, k3, k4, k5, k6, k7⟩ := r2 u
    refine ⟨37, r, r', Sk, px, hs, Or.inr (Or.inr (Or.inr rfl)), k2, by rw [k1]; rfl, fun z => absurd z (by decide), by rw [k1]; exact rgb_br.2.1 rfl, k4, k5, k6, ?_⟩
    rw [d, show df_X13_branches n 37 (ko_b y) S = _ from k7]
    cases df_X13_branch n (ko_b y) (brX 37 r r').1 (brX 37 r r').2 (bI (teO 37 (ko_b y) r)) Sk <;> rfl
/-- whether a branch begins short -/
def teY (y : Nat) (rs : List Nat) : Bool := teO (brS y) (ko_b y) (rs.headD 0)
theorem rfb_B {n L e : Nat} {c : Nat → Nat} {BC BR0 : St} (hT0 : atx n L e c BC BR0) {q p1 κ v1 : Nat} {x : Int32} (T : TS n L e c BC q q p1 κ 1 v1 x) {y : Nat} (hy : y < 128) (hN : NAr n L c q (p1 - q) y 0) (hs : shT (sgm y) = 7 ∨ shT (sgm y) = 35 ∨ shT (sgm y) = 36 ∨ shT (sgm y) = 37) {p2 : Nat} {rs : List Nat} {m : Nat} {P : Nat → Tp} (hTr : Tr n L e c BC (FRM y) p1 0 p2 rs m P) {se : Nat} {X0 : Nat → Nat} {W0 : Nat → Int32} {n0 : Nat} : RFB n L e c BC q se (if teY y rs = true then 0 else 1) 2 8 none X0 W0 n0 (2, ko_b y ||| RGB (FRM y) rs, 0, [(m, P)], []) := by
  intro B X nL cu A ct ap μ gr PA BY OU S hV hc hE h14 hP hA hlw hl hb h hμ hw
  have qe : q ≤ e := T.1
  have eL' : e ≤ L := hT0.2.2.1
  have L' : L ≤ 32768 := hT0.2.1
  obtain ⟨m1, m2, m3, m4, m5⟩ := md_n (B := B) hμ
  have hln := hV.2.2.2.2.2.2.2
  obtain ⟨S1, e1, e2, e3⟩ := stm_2 hV.1 hc h (nI μ) T hN
  obtain ⟨_, r2⟩ := brA_1 (RV_p15 hV (nI μ)) (⟨A * 2 ^ 17 + q, hP, by omega, by omega⟩ : PY PA cu q) e2 e3 (fun u => absurd rfl u) y hy hs hTr
  obtain ⟨s, r, r', Sk, px, k1, k2, k3, k4, k5, k6, k7, k8, k9, k10⟩ := r2 rfl
  obtain ⟨z, ms, dv, S3, g1, g2, g3⟩ := brn_m (RV_p15 hV (nI μ)) k7 hP hA (by omega) (by rw [m1]; exact m2) hl k8 (by rw [Nat.zero_add]; exact hw) (ko_b y) (brX s r r').1 (brX s r r').2 (bI (teO s (ko_b y) r))
  have bs : brS y = s := by unfold brS; rw [k1, nI_clamp (by omega)]
  have t0 : A % 4 = 0 → s = 35 ∧ 8 ≤ r ∧ r ≤ 15 ∧ (ko_b y = nI 99 ∨ ko_b y = nI 4195) ∧ r' = 0 := fun u => by
    have te : teY y rs = true := Classical.byContradiction fun v => by rw [if_neg v] at hlw; omega
    unfold teY teO at te
    rw [bs, k4, Bool.and_eq_true, Bool.and_eq_true] at te
    have c1 := of_decide_eq_true te.1
    have c2 : ¬ 2 ≤ (ko_b y >>> ((12 : Int32) &&& 31)) &&& 7 := by
      have := te.2.1
      rw [Bool.not_eq_true', decide_eq_false_iff_not] at this
      exact this
    have c3 := of_decide_eq_true te.2.2
    refine ⟨c1, c3.1, c3.2, bt_4 ⟨y, hy⟩ ⟨?_, c2⟩, k5 c1⟩
    show shT (sgm y) = 35
    rw [k1, c1]
    rfl
  have ew := brn_e (w := ko_b y) (s := s) (r := r) (r' := r') (l := A % 4) (z - sI B 17) t0
  have g3 : PLO e (pI B 15 (nI μ)) 0 (grO (pI B 15 (nI μ)) false (A % 4) ms dv (offO (A % 4) (z - sI B 17))) PA BY OU p2 (wiF (pI B 15 (nI μ)) ms dv (lfO (hpO false (A % 4)) (offO (A % 4) (z - sI B 17)))) (brnL (A % 4) (ko_b y) (brX s r r').1 (brX s r r').2 (z - sI B 17)) S3 := g3
  obtain ⟨z1, z2, z3⟩ := zmd g2
  obtain ⟨t1, t2⟩ := plo_l hμ hln g3
  have eF : sF (2, ko_b y ||| RGB (FRM y) rs, 0, [(m, P)], []) (VW c X e nL q B) (sI B 17) (A % 4) = vF ms dv (lfO (hpO false (A % 4)) (offO (A % 4) (z - sI B 17))) := by
    rw [z1, z2, z3]
    rfl
  have eB : sB (2, ko_b y ||| RGB (FRM y) rs, 0, [(m, P)], []) (VW c X e nL q B) (sI B 17) (A % 4) = brnL (A % 4) (ko_b y) (brX s r r').1 (brX s r r').2 (z - sI B 17) := by
    rw [ew, ← k6, z1]
    rfl
  have grE : grO (pI B 15 (nI μ)) false (A % 4) ms dv (offO (A % 4) (z - sI B 17)) = (decide (μ = 1) && sG (2, ko_b y ||| RGB (FRM y) rs, 0, [(m, P)], []) (VW c X e nL q B) (sI B 17) (A % 4)) := by
    rw [gr_m hμ]
    unfold sG
    rw [z1, z2, z3]
    rfl
  refine ⟨S3, ?_, fun u w => ?_, fun u => ?_⟩
  · rw [e1, k10, g1, nb_b1]
    exact fin_l hμ g3
  · rw [eF] at w ⊢
    exact t1 u w
  · rw [eF] at u
    rw [eB]
    exact ⟨_, p2, _, k9, fun _ => grE, t2 u⟩

