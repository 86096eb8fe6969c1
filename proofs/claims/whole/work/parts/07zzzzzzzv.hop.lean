/-- a jump's bytes, a branch's -/
def hopL (l : Nat) (d v : Int32) : List Int32 := if l = 0 then by2 ((1 ||| (if d = 1 then (1 : Int32) else 5) <<< ((13 : Int32) &&& 31)) ||| plK v) else by4 ((111 ||| d <<< ((7 : Int32) &&& 31)) ||| plJ v)
def brnL (l : Nat) (w x y v : Int32) : List Int32 := if l = 0 then by2 (((1 ||| (if (w >>> ((12 : Int32) &&& 31)) &&& 7 = 0 then (6 : Int32) else 7) <<< ((13 : Int32) &&& 31)) ||| ((x - 8) &&& 7) <<< ((7 : Int32) &&& 31)) ||| plL v) else if l = 1 then by4 ((w ||| (x <<< ((15 : Int32) &&& 31) ||| y <<< ((20 : Int32) &&& 31))) ||| plT v) else by4 (((w ^^^ 4096) ||| (x <<< ((15 : Int32) &&& 31) ||| y <<< ((20 : Int32) &&& 31))) ||| plT 8) ++ by4 (111 ||| plJ (v - 4))
theorem SR_FL {e : Nat} {B : St} {ct : Nat} {gr : Bool} {PA BY OU : Nat → Int32} {ft : Int32} {ap : Nat} {S : St} (h : SR B ct gr PA BY OU ft ap S) (hp : ap ≤ e) : FL e B ft S := ⟨_, _, _, _, _, _, hp, h⟩
theorem FL_lev {n e : Nat} {B : St} {ft : Int32} {S : St} (h : FL e B ft S) {cu : Nat} (h16 : sI B 16 = nI cu) (hcu : cu < 11000) : ∃ x : Int32, df_X13_level n S = some (x, S) := by
  unfold df_X13_level df_X13_level_0
  rw [(FL_f h).2.2.2.2, h16, nm_ck hcu (by omega)]
  exact ⟨_, rfl⟩
/-- jump() in a later round -/
theorem jmp_m {n L e : Nat} {c : Nat → Nat} {BC B : St} {X : Nat → Nat} {nL st cu : Nat} (hV : RV n L e c BC B X nL cu) {ct : Nat} {gr : Bool} {PA BY OU : Nat → Int32} {p : Nat} {S : St} (h : SR B ct gr PA BY OU 0 p S) {A : Nat} (hP : PA cu = nI (A * 2 ^ 17 + st)) (hA : A < 64) (hs : st < 2 ^ 17) (hm : ¬ sI B 15 = 0) (h4 : A % 4 ≤ 1) {p2 m : Nat} {P : Nat → Tp} (R : RX n L e c BC p true p2 m P) (hw : OKW B (ct + if A % 4 = 0 then 2 else 4)) (d : Int32) : ∃ (z : Int32) (ms dv : Bool) (S' : St), df_X13_jump n d S = some S' ∧ rnF (VW c X e nL st B) P m = ([z], ms, dv) ∧ PLO e B ct (grO B true (A % 4) ms dv (z - sI B 17)) PA BY OU p2 (wiF B ms dv (lfO (hpO true (A % 4)) (z - sI B 17))) (hopL (A % 4) d (z - sI B 17)) S' := by
  obtain ⟨z, S1, ms, dv, e1, e2, e3, e4⟩ := tgt_m hV h hP hA hs hm R 1 true (Or.inl ⟨rfl, rfl⟩) (by omega) 0
  have e1 : df_X13_target n 1 0 S = some (z - sI B 17, S1) := e1
  have of : offO (A % 4) (z - sI B 17) = z - sI B 17 := if_neg (by omega)
  rw [of] at e3
  have lv := lev_S (n := n) e3 hV.2.2.2.2.2.1 hV.2.2.2.2.2.2.1 hP hA hs
  refine ⟨z, ms, dv, ?_⟩
  unfold df_X13_jump df_X13_jump_0 df_X13_jump_26 df_X13_jump_57
  rw [e1, nb_b2, lv, nb_b2]
  by_cases zz : wiF B ms dv (lfO (hpO true (A % 4)) (z - sI B 17)) = 0
  · rw [zz] at e3 ⊢
    by_cases y : A % 4 = 0
    · rw [if_pos (show nI (A % 4) = (0 : Int32) from congrArg nI y)]
      obtain ⟨W, w1, w2⟩ := hal_H (n := n) e3 (by rw [if_pos y] at hw; exact hw)
      simp only [sJ_R, nb_b2, nb_b1, w1]
      have hL : ∀ x : Int32, hopL (A % 4) d x = by2 ((1 ||| (if d = 1 then (1 : Int32) else 5) <<< ((13 : Int32) &&& 31)) ||| plK x) := fun x => if_pos y
      by_cases d1 : d = 1
      · rw [if_pos d1]
        refine ⟨_, rfl, e2, ?_⟩
        rw [hL, if_pos d1]
        exact plo2 rfl (w2 _) rfl
      · rw [if_neg d1]
        refine ⟨_, rfl, e2, ?_⟩
        rw [hL, if_neg d1]
        exact plo2 rfl (w2 _) rfl
    · rw [if_neg (show ¬ nI (A % 4) = (0 : Int32) from zne (b := 0) y (by omega) (by omega))]
      obtain ⟨W, w1, w2⟩ := wor_H (n := n) e3 (by rw [if_neg y] at hw; exact hw)
      simp only [jB_R, nb_b2, nb_b1, w1]
      refine ⟨_, rfl, e2, ?_⟩
      rw [show hopL (A % 4) d (z - sI B 17) = by4 ((111 ||| d <<< ((7 : Int32) &&& 31)) ||| plJ (z - sI B 17)) from if_neg y]
      exact plo4 rfl (w2 _) rfl
  · have fl := SR_FL e3 e4
    have m3 := m2_3 (wi_2 zz)
    obtain ⟨W, w1, w2⟩ := hal_G (n := n) fl m3
    obtain ⟨W', w3, w4⟩ := wor_G (n := n) fl m3
    simp only [sJ_R, jB_R, nb_b2, nb_b1, w1, w3]
    split
    · split
      · exact ⟨_, rfl, e2, fun u => absurd u zz, fun _ => w2 _⟩
      · exact ⟨_, rfl, e2, fun u => absurd u zz, fun _ => w2 _⟩
    · exact ⟨_, rfl, e2, fun u => absurd u zz, fun _ => w4 _⟩
/-- jump() as it is read -/
theorem jmp_0 {n L e : Nat} {c : Nat → Nat} {BC B : St} {X : Nat → Nat} {nL st cu : Nat} (hV : RV n L e c BC B X nL cu) {ct : Nat} {gr : Bool} {PA BY OU : Nat → Int32} {p : Nat} {S : St} (h : SR B ct gr PA BY OU 0 p S) {se : Nat} (hP : PA cu = nI ((4 * se) * 2 ^ 17 + st)) (hA : se < 2) (hs : st < 2 ^ 17) (hm : sI B 15 = 0) {p2 m : Nat} {P : Nat → Tp} (R : RX n L e c BC p true p2 m P) (d : Int32) : ∃ S' : St, df_X13_jump n d S = some S' ∧ SR B (ct + 2) false (upd PA cu (nI ((4 * se + 8) * 2 ^ 17 + st))) BY OU 0 p2 S' := by
  obtain ⟨z, S1, e1, e3, e4⟩ := tgt_0 hV h hP (by omega) hs hm R 1 true (Or.inl ⟨rfl, rfl⟩) 0 (by omega)
  have e1 : df_X13_target n 1 0 S = some (z, S1) := e1
  have ao : (4 * se ||| (8 * 1 + 0)) = 4 * se + 8 := by rcases (show se = 0 ∨ se = 1 by omega) with q | q <;> subst q <;> rfl
  rw [ao] at e3
  have lv := lev_S (n := n) e3 hV.2.2.2.2.2.1 hV.2.2.2.2.2.2.1 (A := 4 * se + 8) (st := st) up_e (by omega) hs
  obtain ⟨W, w1, w2⟩ := hal_H (n := n) e3 (fun u => absurd (hm.symm.trans u) (by decide))
  have pt0 : ∀ bs : List Int32, pt B ct OU bs = OU := fun bs => if_neg (by rw [hm]; decide)
  unfold df_X13_jump df_X13_jump_0 df_X13_jump_26 df_X13_jump_57
  rw [e1, nb_b2, lv, nb_b2, if_pos (show nI ((4 * se + 8) % 4) = (0 : Int32) from congrArg nI (show (4 * se + 8) % 4 = 0 by omega))]
  simp only [sJ_R, nb_b2, nb_b1, w1]
  have w2 : ∀ v : Int32, SR B (ct + 2) false (upd PA cu (nI ((4 * se + 8) * 2 ^ 17 + st))) BY OU 0 p2 (W v) := fun v => by
    have := w2 v
    rw [pt0] at this
    exact this
  split
  · exact ⟨_, rfl, w2 _⟩
  · exact ⟨_, rfl, w2 _⟩
/-- with a fault -/
theorem tg_119F {n e : Nat} {B : St} {ft : Int32} {S : St} (h : FL e B ft S) (hf : ¬ ft = 0) (h1 : ¬ sI B 15 = 1) (x1 x3 x4 x5 y0 : Int32) : ∃ S' : St, df_X13_target_119 n x1 x3 x4 x5 y0 S = some (x3, S') ∧ FL e B ft S' := by
  obtain ⟨ct, gr, PA, BY, OU, ap, h2, h3⟩ := id h
  refine ⟨_, ?_, SR_FL (SR_w20 h3 false) h2⟩
  unfold df_X13_target_119
  rw [fit_F h hf _ _ _ _ (by decide), nb_b1, if_neg (by rw [SR_15 h3]; exact h1)]
  unfold df_X13_target_201 df_X13_target_202
  exact f20 (n := n) false
theorem tg_53F {n e : Nat} {B : St} {ft : Int32} {S : St} (h : FL e B ft S) (hf : ¬ ft = 0) (h1 : ¬ sI B 15 = 1) (x1 x3 y : Int32) : ∃ S' : St, df_X13_target_53 n x1 x3 y S = some (x3, S') ∧ FL e B ft S' := by
  have g := fun a b c d => tg_119F (n := n) h hf h1 a x3 b c d
  unfold df_X13_target_53 df_X13_target_68 df_X13_target_87 df_X13_target_93
  (repeat' split) <;> exact g _ _ _ _
theorem tgt_f {n L e : Nat} {c : Nat → Nat} {BC B : St} {X : Nat → Nat} {nL st cu : Nat} (hV : RV n L e c BC B X nL cu) {ct : Nat} {gr : Bool} {PA BY OU : Nat → Int32} {p : Nat} {S : St} (h : SR B ct gr PA BY OU 0 p S) (hY : PY PA cu st) (hm : sI B 15 = 0) {p2 m : Nat} {P : Nat → Tp} (R : RX n L e c BC p false p2 m P) (kd ls : Int32) : ∃ (z : Int32) (S' : St), df_X13_target n kd ls S = some (z, S') ∧ FL e B (nI 1 + 16 * sI B 13) S' := by
  obtain ⟨z, S1, e1, fl⟩ := exp_n hV hY h R
  have ne : ¬ nI 1 + 16 * sI B 13 = 0 := flt_n hV.2.2.2.2.2.2.2 1 (by omega)
  have fl : FL e B (nI 1 + 16 * sI B 13) S1 := fl
  obtain ⟨ct', gr', PA', BY', OU', ap, h2, h3⟩ := id fl
  have fl2 := fun v => SR_FL (SR_w3 h3 v) h2
  have m1 : ¬ sI B 15 = 1 := by rw [hm]; decide
  have h16 := hV.2.2.2.2.2.1
  have hcu := hV.2.2.2.2.2.2.1
  obtain ⟨S2, r1, r2⟩ := tg_53F (n := n) (fl2 (upd PA' cu (PA' cu ||| ((kd : Int32) <<< ((20 : Int32) &&& 31) ||| (ls : Int32) <<< ((17 : Int32) &&& 31))))) ne m1 kd (z - sI B 17) ls
  refine ⟨z - sI B 17, S2, ?_, r2⟩
  unfold df_X13_target df_X13_target_0 df_X13_target_38
  rw [e1, nb_b2, nb_let, SR_15 h3, if_pos hm, SR_16 h3, h16, nm_ck hcu (by omega), nm_ck hcu (by omega), nI_clamp (by omega), SR_r3 h3, nb_let, SR_15 (SR_w3 h3 _), if_pos hm, SR_17 h3]
  exact r1
theorem jmp_f {n L e : Nat} {c : Nat → Nat} {BC B : St} {X : Nat → Nat} {nL st cu : Nat} (hV : RV n L e c BC B X nL cu) {ct : Nat} {gr : Bool} {PA BY OU : Nat → Int32} {p : Nat} {S : St} (h : SR B ct gr PA BY OU 0 p S) (hY : PY PA cu st) (hm : sI B 15 = 0) {p2 m : Nat} {P : Nat → Tp} (R : RX n L e c BC p false p2 m P) (d : Int32) : ∃ S' : St, df_X13_jump n d S = some S' ∧ FL e B (nI 1 + 16 * sI B 13) S' := by
  obtain ⟨z, S1, e1, fl⟩ := tgt_f hV h hY hm R 1 0
  obtain ⟨x, lv⟩ := FL_lev (n := n) fl hV.2.2.2.2.2.1 hV.2.2.2.2.2.2.1
  have m3 := m0_3 hm
  obtain ⟨W, w1, w2⟩ := hal_G (n := n) fl m3
  obtain ⟨W', w3, w4⟩ := wor_G (n := n) fl m3
  unfold df_X13_jump df_X13_jump_0 df_X13_jump_26 df_X13_jump_57
  rw [e1, nb_b2, lv, nb_b2]
  simp only [sJ_R, jB_R, nb_b2, nb_b1, w1, w3]
  split
  · split
    · exact ⟨_, rfl, w2 _⟩
    · exact ⟨_, rfl, w2 _⟩
  · exact ⟨_, rfl, w4 _⟩
theorem br_91F {n e : Nat} {B : St} {ft : Int32} {S : St} (h : FL e B ft S) (m3 : ¬ sI B 15 = 3) (w v q pr : Int32) : ∃ S' : St, df_X13_branch_91 n w v q pr S = some S' ∧ FL e B ft S' := by
  have b111 : ∀ T : St, FL e B ft T → ∃ S' : St, df_X13_branch_111 n w v q pr T = some S' ∧ FL e B ft S' := fun T hT => by
    unfold df_X13_branch_111
    split
    · obtain ⟨S1, e1, f1⟩ := wor_F (n := n) hT m3 (((w ^^^ 4096) ||| pr) ||| plT 8)
      obtain ⟨S2, e2, f2⟩ := wor_F (n := n) f1 m3 (111 ||| plJ (v - 4))
      rw [tB_R, nb_b2, e1, nb_b1, jB_R, nb_b2, e2, nb_b1]
      exact ⟨S2, rfl, f2⟩
    · exact ⟨T, rfl, hT⟩
  unfold df_X13_branch_91
  split
  · obtain ⟨S1, e1, f1⟩ := wor_F (n := n) h m3 ((w ||| pr) ||| plT v)
    rw [tB_R, nb_b2, e1, nb_b1]
    exact b111 S1 f1
  · exact b111 S h
/-- branch(): kind and least level -/
theorem brn_m {n L e : Nat} {c : Nat → Nat} {BC B : St} {X : Nat → Nat} {nL st cu : Nat} (hV : RV n L e c BC B X nL cu) {ct : Nat} {gr : Bool} {PA BY OU : Nat → Int32} {p : Nat} {S : St} (h : SR B ct gr PA BY OU 0 p S) {A : Nat} (hP : PA cu = nI (A * 2 ^ 17 + st)) (hA : A < 64) (hs : st < 2 ^ 17) (hm : ¬ sI B 15 = 0) (h4 : A % 4 ≤ 2) {p2 m : Nat} {P : Nat → Tp} (R : RX n L e c BC p true p2 m P) (hw : OKW B (ct + if A % 4 = 0 then 2 else if A % 4 = 1 then 4 else 8)) (w x y v3 : Int32) : ∃ (z : Int32) (ms dv : Bool) (S' : St), df_X13_branch n w x y v3 S = some S' ∧ rnF (VW c X e nL st B) P m = ([z], ms, dv) ∧ PLO e B ct (grO B false (A % 4) ms dv (offO (A % 4) (z - sI B 17))) PA BY OU p2 (wiF B ms dv (lfO (hpO false (A % 4)) (offO (A % 4) (z - sI B 17)))) (brnL (A % 4) w x y (z - sI B 17)) S' := by
  have key : ∀ (kd : Nat) (ls : Int32), (kd = 2 ∨ kd = 3) → ∃ (z : Int32) (ms dv : Bool) (S' : St), df_X13_branch_21 n w x y (nI kd) ls S = some S' ∧ rnF (VW c X e nL st B) P m = ([z], ms, dv) ∧ PLO e B ct (grO B false (A % 4) ms dv (offO (A % 4) (z - sI B 17))) PA BY OU p2 (wiF B ms dv (lfO (hpO false (A % 4)) (offO (A % 4) (z - sI B 17)))) (brnL (A % 4) w x y (z - sI B 17)) S' := fun kd ls hk => by
    obtain ⟨z, S1, ms, dv, e1, e2, e3, e4⟩ := tgt_m hV h hP hA hs hm R kd false (Or.inr ⟨rfl, hk⟩) (by omega) ls
    have lv := lev_S (n := n) e3 hV.2.2.2.2.2.1 hV.2.2.2.2.2.2.1 hP hA hs
    refine ⟨z, ms, dv, ?_⟩
    unfold df_X13_branch_21 df_X13_branch_67
    rw [e1, nb_b2, lv, nb_b2, nb_let]
    by_cases zz : wiF B ms dv (lfO (hpO false (A % 4)) (offO (A % 4) (z - sI B 17))) = 0
    · rw [zz] at e3 ⊢
      rcases (show A % 4 = 0 ∨ A % 4 = 1 ∨ A % 4 = 2 by omega) with q | q | q
      · rw [q] at e3 ⊢
        rw [if_pos (show nI 0 = (0 : Int32) from rfl)]
        obtain ⟨W, w1, w2⟩ := hal_H (n := n) e3 (by rw [if_pos q] at hw; exact hw)
        simp only [sB_R, nb_b2, nb_b1, w1]
        unfold df_X13_branch_91 df_X13_branch_111
        rw [if_neg (show ¬ nI 0 = (1 : Int32) by decide), if_neg (show ¬ (2 : Int32) ≤ nI 0 by decide)]
        rw [if_neg (show ¬ nI 0 = (1 : Int32) by decide), if_neg (show ¬ (2 : Int32) ≤ nI 0 by decide)]
        by_cases u : (w >>> ((12 : Int32) &&& 31)) &&& 7 = 0
        · rw [if_pos u]
          refine ⟨_, rfl, e2, ?_⟩
          rw [show brnL 0 w x y (z - sI B 17) = by2 (((1 ||| (if (w >>> ((12 : Int32) &&& 31)) &&& 7 = 0 then (6 : Int32) else 7) <<< ((13 : Int32) &&& 31)) ||| ((x - 8) &&& 7) <<< ((7 : Int32) &&& 31)) ||| plL (z - sI B 17)) from rfl, if_pos u]
          exact plo2 rfl (w2 _) rfl
        · rw [if_neg u]
          refine ⟨_, rfl, e2, ?_⟩
          rw [show brnL 0 w x y (z - sI B 17) = by2 (((1 ||| (if (w >>> ((12 : Int32) &&& 31)) &&& 7 = 0 then (6 : Int32) else 7) <<< ((13 : Int32) &&& 31)) ||| ((x - 8) &&& 7) <<< ((7 : Int32) &&& 31)) ||| plL (z - sI B 17)) from rfl, if_neg u]
          exact plo2 rfl (w2 _) rfl
      · rw [q] at e3 ⊢
        rw [if_neg (show ¬ nI 1 = (0 : Int32) by decide)]
        obtain ⟨W, w1, w2⟩ := wor_H (n := n) e3 (by rw [if_neg (by omega), if_pos q] at hw; exact hw)
        unfold df_X13_branch_91 df_X13_branch_111
        rw [if_pos (show nI 1 = (1 : Int32) from rfl)]
        simp only [tB_R, nb_b2, nb_b1, w1, if_neg (show ¬ (2 : Int32) ≤ nI 1 by decide)]
        refine ⟨_, rfl, e2, ?_⟩
        exact plo4 rfl (w2 _) rfl
      · rw [q] at e3 ⊢
        rw [if_neg (show ¬ nI 2 = (0 : Int32) by decide)]
        obtain ⟨W, w1, w2⟩ := wor_H (n := n) e3 (by rw [if_neg (by omega), if_neg (by omega)] at hw; exact OKW_m hw (by omega))
        unfold df_X13_branch_91 df_X13_branch_111
        rw [if_neg (show ¬ nI 2 = (1 : Int32) by decide), if_pos (show (2 : Int32) ≤ nI 2 by decide)]
        rw [tB_R, nb_b2, w1, nb_b1, jB_R, nb_b2]
        obtain ⟨S2, f1, f2⟩ := wor_S (n := n) (w2 (w ^^^ 4096 ||| (x <<< ((15 : Int32) &&& 31) ||| y <<< ((20 : Int32) &&& 31)) ||| plT 8)) (by rw [if_neg (by omega), if_neg (by omega)] at hw; exact hw) (111 ||| plJ (z - sI B 17 - 4))
        rw [f1, nb_b1]
        refine ⟨_, rfl, e2, fun _ => ?_, fun u => absurd rfl u⟩
        rw [show pt B (ct + 4) (pt B ct OU (by4 (w ^^^ 4096 ||| (x <<< ((15 : Int32) &&& 31) ||| y <<< ((20 : Int32) &&& 31)) ||| plT 8))) (by4 (111 ||| plJ (z - sI B 17 - 4))) = pt B ct OU (brnL 2 w x y (z - sI B 17)) from pt_a (by4 _) _] at f2
        exact f2
    · have fl := SR_FL e3 e4
      have m3 := m2_3 (wi_2 zz)
      have fin : ∀ (q : Int32) (T : St), FL e B (wiF B ms dv (lfO (hpO false (A % 4)) (offO (A % 4) (z - sI B 17)))) T → ∃ S' : St, df_X13_branch_91 n w (z - sI B 17) q (x <<< ((15 : Int32) &&& 31) ||| y <<< ((20 : Int32) &&& 31)) T = some S' ∧ FL e B (wiF B ms dv (lfO (hpO false (A % 4)) (offO (A % 4) (z - sI B 17)))) S' := fun q T hT => br_91F hT m3 w _ q _
      rcases (show nI (A % 4) = (0 : Int32) ∨ ¬ nI (A % 4) = (0 : Int32) from Classical.em _) with q | q
      · rw [if_pos q]
        obtain ⟨W, w1, w2⟩ := hal_G (n := n) fl m3
        simp only [sB_R, nb_b2, nb_b1, w1]
        split
        · obtain ⟨S', r1, r2⟩ := fin (nI (A % 4)) _ (w2 (((1 ||| (6 : Int32) <<< ((13 : Int32) &&& 31)) ||| ((x - 8) &&& 7) <<< ((7 : Int32) &&& 31)) ||| plL (z - sI B 17)))
          exact ⟨S', r1, e2, fun u => absurd u zz, fun _ => r2⟩
        · obtain ⟨S', r1, r2⟩ := fin (nI (A % 4)) _ (w2 (((1 ||| (7 : Int32) <<< ((13 : Int32) &&& 31)) ||| ((x - 8) &&& 7) <<< ((7 : Int32) &&& 31)) ||| plL (z - sI B 17)))
          exact ⟨S', r1, e2, fun u => absurd u zz, fun _ => r2⟩
      · rw [if_neg q]
        obtain ⟨S', r1, r2⟩ := fin (nI (A % 4)) _ fl
        exact ⟨S', r1, e2, fun u => absurd u zz, fun _ => r2⟩
  unfold df_X13_branch df_X13_branch_0 df_X13_branch_11
  split
  · exact key 3 1 (by omega)
  · exact key 2 0 (by omega)
/-- branch() as it is read: kd 2, level 0 for a test, else 3, level 1 -/
theorem brn_0 {n L e : Nat} {c : Nat → Nat} {BC B : St} {X : Nat → Nat} {nL st cu : Nat} (hV : RV n L e c BC B X nL cu) {ct : Nat} {gr : Bool} {PA BY OU : Nat → Int32} {p : Nat} {S : St} (h : SR B ct gr PA BY OU 0 p S) {se : Nat} (hP : PA cu = nI ((4 * se) * 2 ^ 17 + st)) (hA : se < 2) (hs : st < 2 ^ 17) (hm : sI B 15 = 0) {p2 m : Nat} {P : Nat → Tp} (R : RX n L e c BC p true p2 m P) (w x y : Int32) (te : Bool) : ∃ S' : St, df_X13_branch n w x y (bI te) S = some S' ∧ SR B (ct + if te = true then 2 else 4) false (upd PA cu (nI ((4 * se + if te = true then 16 else 25) * 2 ^ 17 + st))) BY OU 0 p2 S' := by
  have pt0 : ∀ bs : List Int32, pt B ct OU bs = OU := fun bs => if_neg (by rw [hm]; decide)
  have ok0 : ∀ k : Nat, OKW B k := fun k u => absurd (hm.symm.trans u) (by decide)
  cases te with
  | true =>
    obtain ⟨z, S1, e1, e3, e4⟩ := tgt_0 hV h hP (by omega) hs hm R 2 false (Or.inr ⟨rfl, Or.inl rfl⟩) 0 (by omega)
    have e1 : df_X13_target n 2 0 S = some (z, S1) := e1
    have ao : (4 * se ||| (8 * 2 + 0)) = 4 * se + 16 := by rcases (show se = 0 ∨ se = 1 by omega) with q | q <;> subst q <;> rfl
    rw [ao] at e3
    have lv := lev_S (n := n) e3 hV.2.2.2.2.2.1 hV.2.2.2.2.2.2.1 (A := 4 * se + 16) (st := st) up_e (by omega) hs
    rw [show (4 * se + 16) % 4 = 0 by omega] at lv
    obtain ⟨W, w1, w2⟩ := hal_H (n := n) e3 (ok0 _)
    have w2 : ∀ v : Int32, SR B (ct + 2) false (upd PA cu (nI ((4 * se + 16) * 2 ^ 17 + st))) BY OU 0 p2 (W v) := fun v => by
      have := w2 v
      rw [pt0] at this
      exact this
    rw [if_pos rfl, if_pos rfl]
    unfold df_X13_branch df_X13_branch_0 df_X13_branch_11 df_X13_branch_21 df_X13_branch_67
    rw [if_neg (show ¬ bI true = (0 : Int32) by decide), if_neg (show ¬ bI true = (0 : Int32) by decide), e1, nb_b2, lv, nb_b2, nb_let, if_pos (show nI 0 = (0 : Int32) from rfl)]
    simp only [sB_R, nb_b2, nb_b1, w1]
    have fin : ∀ T : St, df_X13_branch_91 n w z (nI 0) (x <<< ((15 : Int32) &&& 31) ||| y <<< ((20 : Int32) &&& 31)) T = some T := fun T => by
      unfold df_X13_branch_91 df_X13_branch_111
      rw [if_neg (show ¬ nI 0 = (1 : Int32) by decide), if_neg (show ¬ (2 : Int32) ≤ nI 0 by decide)]
    rw [fin, fin]
    split
    · exact ⟨_, rfl, w2 _⟩
    · exact ⟨_, rfl, w2 _⟩
  | false =>
    obtain ⟨z, S1, e1, e3, e4⟩ := tgt_0 hV h hP (by omega) hs hm R 3 false (Or.inr ⟨rfl, Or.inr rfl⟩) 1 (by omega)
    have e1 : df_X13_target n 3 1 S = some (z, S1) := e1
    have ao : (4 * se ||| (8 * 3 + 1)) = 4 * se + 25 := by rcases (show se = 0 ∨ se = 1 by omega) with q | q <;> subst q <;> rfl
    rw [ao] at e3
    have lv := lev_S (n := n) e3 hV.2.2.2.2.2.1 hV.2.2.2.2.2.2.1 (A := 4 * se + 25) (st := st) up_e (by omega) hs
    rw [show (4 * se + 25) % 4 = 1 by omega] at lv
    obtain ⟨W, w1, w2⟩ := wor_H (n := n) e3 (ok0 _)
    have w2 : ∀ v : Int32, SR B (ct + 4) false (upd PA cu (nI ((4 * se + 25) * 2 ^ 17 + st))) BY OU 0 p2 (W v) := fun v => by
      have := w2 v
      rw [pt0] at this
      exact this
    rw [if_neg (by decide), if_neg (by decide)]
    unfold df_X13_branch df_X13_branch_0 df_X13_branch_11 df_X13_branch_21
    rw [if_pos (show bI false = (0 : Int32) from rfl), if_pos (show bI false = (0 : Int32) from rfl), e1, nb_b2, lv, nb_b2, nb_let, if_neg (show ¬ nI 1 = (0 : Int32) by decide)]
    unfold df_X13_branch_91 df_X13_branch_111
    rw [if_pos (show nI 1 = (1 : Int32) from rfl)]
    simp only [tB_R, nb_b2, nb_b1, w1, if_neg (show ¬ (2 : Int32) ≤ nI 1 by decide)]
    exact ⟨_, rfl, w2 _⟩
theorem brn_f {n L e : Nat} {c : Nat → Nat} {BC B : St} {X : Nat → Nat} {nL st cu : Nat} (hV : RV n L e c BC B X nL cu) {ct : Nat} {gr : Bool} {PA BY OU : Nat → Int32} {p : Nat} {S : St} (h : SR B ct gr PA BY OU 0 p S) (hY : PY PA cu st) (hm : sI B 15 = 0) {p2 m : Nat} {P : Nat → Tp} (R : RX n L e c BC p false p2 m P) (w x y v3 : Int32) : ∃ S' : St, df_X13_branch n w x y v3 S = some S' ∧ FL e B (nI 1 + 16 * sI B 13) S' := by
  have m3 := m0_3 hm
  have key : ∀ kd ls : Int32, ∃ S' : St, df_X13_branch_21 n w x y kd ls S = some S' ∧ FL e B (nI 1 + 16 * sI B 13) S' := fun kd ls => by
    obtain ⟨z, S1, e1, fl⟩ := tgt_f hV h hY hm R kd ls
    obtain ⟨q, lv⟩ := FL_lev (n := n) fl hV.2.2.2.2.2.1 hV.2.2.2.2.2.2.1
    unfold df_X13_branch_21 df_X13_branch_67
    rw [e1, nb_b2, lv, nb_b2, nb_let]
    split
    · obtain ⟨W, w1, w2⟩ := hal_G (n := n) fl m3
      simp only [sB_R, nb_b2, nb_b1, w1]
      split
      · exact br_91F (w2 _) m3 w z q _
      · exact br_91F (w2 _) m3 w z q _
    · exact br_91F fl m3 w z q _
  unfold df_X13_branch df_X13_branch_0 df_X13_branch_11
  (repeat' split) <;> exact key _ _
