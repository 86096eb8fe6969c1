/-- bits() of the reference at the places that occur -/
theorem bq_11_5_25 (n : Nat) (v : Int32) : df_X13_bits n v 11 5 25 () = some (ptO v 5 7 25, ()) := bi_1 n v 5 7 25 (by omega) (by omega) (by omega)
theorem bq_4_0_7 (n : Nat) (v : Int32) : df_X13_bits n v 4 0 7 () = some (ptO v 0 5 7, ()) := bi_1 n v 0 5 7 (by omega) (by omega) (by omega)
theorem bq_9_9_12 (n : Nat) (v : Int32) : df_X13_bits n v 9 9 12 () = some (ptO v 9 1 12, ()) := bi_1 n v 9 1 12 (by omega) (by omega) (by omega)
theorem bq_4_4_6 (n : Nat) (v : Int32) : df_X13_bits n v 4 4 6 () = some (ptO v 4 1 6, ()) := bi_1 n v 4 1 6 (by omega) (by omega) (by omega)
theorem bq_6_6_5 (n : Nat) (v : Int32) : df_X13_bits n v 6 6 5 () = some (ptO v 6 1 5, ()) := bi_1 n v 6 1 5 (by omega) (by omega) (by omega)
theorem bq_8_7_3 (n : Nat) (v : Int32) : df_X13_bits n v 8 7 3 () = some (ptO v 7 2 3, ()) := bi_1 n v 7 2 3 (by omega) (by omega) (by omega)
theorem bq_5_5_2 (n : Nat) (v : Int32) : df_X13_bits n v 5 5 2 () = some (ptO v 5 1 2, ()) := bi_1 n v 5 1 2 (by omega) (by omega) (by omega)
theorem bq_5_4_11 (n : Nat) (v : Int32) : df_X13_bits n v 5 4 11 () = some (ptO v 4 2 11, ()) := bi_1 n v 4 2 11 (by omega) (by omega) (by omega)
theorem bq_9_6_7 (n : Nat) (v : Int32) : df_X13_bits n v 9 6 7 () = some (ptO v 6 4 7, ()) := bi_1 n v 6 4 7 (by omega) (by omega) (by omega)
theorem bq_2_2_6 (n : Nat) (v : Int32) : df_X13_bits n v 2 2 6 () = some (ptO v 2 1 6, ()) := bi_1 n v 2 1 6 (by omega) (by omega) (by omega)
theorem bq_3_3_5 (n : Nat) (v : Int32) : df_X13_bits n v 3 3 5 () = some (ptO v 3 1 5, ()) := bi_1 n v 3 1 5 (by omega) (by omega) (by omega)
theorem bq_5_3_10 (n : Nat) (v : Int32) : df_X13_bits n v 5 3 10 () = some (ptO v 3 3 10, ()) := bi_1 n v 3 3 10 (by omega) (by omega) (by omega)
theorem bq_5_5_12 (n : Nat) (v : Int32) : df_X13_bits n v 5 5 12 () = some (ptO v 5 1 12, ()) := bi_1 n v 5 1 12 (by omega) (by omega) (by omega)
theorem bq_4_2_4 (n : Nat) (v : Int32) : df_X13_bits n v 4 2 4 () = some (ptO v 2 3 4, ()) := bi_1 n v 2 3 4 (by omega) (by omega) (by omega)
theorem bq_7_6_2 (n : Nat) (v : Int32) : df_X13_bits n v 7 6 2 () = some (ptO v 6 2 2, ()) := bi_1 n v 6 2 2 (by omega) (by omega) (by omega)
theorem bq_5_2_9 (n : Nat) (v : Int32) : df_X13_bits n v 5 2 9 () = some (ptO v 2 4 9, ()) := bi_1 n v 2 4 9 (by omega) (by omega) (by omega)
theorem bq_7_6_7 (n : Nat) (v : Int32) : df_X13_bits n v 7 6 7 () = some (ptO v 6 2 7, ()) := bi_1 n v 6 2 7 (by omega) (by omega) (by omega)
theorem wor_G {n : Nat} {e : Nat} {B : St} {ft : Int32} {S : St} (h : FL e B ft S) (h3 : ¬ sI B 15 = 3) : ∃ W : Int32 → St, (∀ v : Int32, df_X13_word n v S = some (W v)) ∧ ∀ v : Int32, FL e B ft (W v) := ⟨fun v => Classical.choose (wor_F (n := n) h h3 v), fun v => (Classical.choose_spec (wor_F (n := n) h h3 v)).1, fun v => (Classical.choose_spec (wor_F (n := n) h h3 v)).2⟩
theorem wor_H {n : Nat} {B : St} {ct : Nat} {gr : Bool} {PA BY OU : Nat → Int32} {ft : Int32} {ap : Nat} {S : St} (h : SR B ct gr PA BY OU ft ap S) (hw : OKW B (ct + 4)) : ∃ W : Int32 → St, (∀ v : Int32, df_X13_word n v S = some (W v)) ∧ ∀ v : Int32, SR B (ct + 4) gr PA BY (pt B ct OU (by4 v)) ft ap (W v) := ⟨fun v => Classical.choose (wor_S (n := n) h hw v), fun v => (Classical.choose_spec (wor_S (n := n) h hw v)).1, fun v => (Classical.choose_spec (wor_S (n := n) h hw v)).2⟩
theorem hal_G {n : Nat} {e : Nat} {B : St} {ft : Int32} {S : St} (h : FL e B ft S) (h3 : ¬ sI B 15 = 3) : ∃ W : Int32 → St, (∀ v : Int32, df_X13_half n v S = some (W v)) ∧ ∀ v : Int32, FL e B ft (W v) := ⟨fun v => Classical.choose (hal_F (n := n) h h3 v), fun v => (Classical.choose_spec (hal_F (n := n) h h3 v)).1, fun v => (Classical.choose_spec (hal_F (n := n) h h3 v)).2⟩
theorem hal_H {n : Nat} {B : St} {ct : Nat} {gr : Bool} {PA BY OU : Nat → Int32} {ft : Int32} {ap : Nat} {S : St} (h : SR B ct gr PA BY OU ft ap S) (hw : OKW B (ct + 2)) : ∃ W : Int32 → St, (∀ v : Int32, df_X13_half n v S = some (W v)) ∧ ∀ v : Int32, SR B (ct + 2) gr PA BY (pt B ct OU (by2 v)) ft ap (W v) := ⟨fun v => Classical.choose (hal_S (n := n) h hw v), fun v => (Classical.choose_spec (hal_S (n := n) h hw v)).1, fun v => (Classical.choose_spec (hal_S (n := n) h hw v)).2⟩
theorem RGB_s40 {F rs : List Nat} : RGB (40 :: F) rs = RGB F rs := if_neg (by decide)
theorem RGB_s41 {F rs : List Nat} : RGB (41 :: F) rs = RGB F rs := if_neg (by decide)
theorem RGB_s44 {F rs : List Nat} : RGB (44 :: F) rs = RGB F rs := if_neg (by decide)
theorem RGB_s72 {F rs : List Nat} : RGB (72 :: F) rs = RGB F rs := if_neg (by decide)
theorem RGB_s73 {F rs : List Nat} : RGB (73 :: F) rs = RGB F rs := if_neg (by decide)
theorem RGB_s74 {F rs : List Nat} : RGB (74 :: F) rs = RGB F rs := if_neg (by decide)
theorem RGB_s75 {F rs : List Nat} : RGB (75 :: F) rs = RGB F rs := if_neg (by decide)
theorem RGB_s76 {F rs : List Nat} : RGB (76 :: F) rs = RGB F rs := if_neg (by decide)
theorem RGB_s77 {F rs : List Nat} : RGB (77 :: F) rs = RGB F rs := if_neg (by decide)
theorem RGB_s78 {F rs : List Nat} : RGB (78 :: F) rs = RGB F rs := if_neg (by decide)
theorem RGB_s80 {F rs : List Nat} : RGB (80 :: F) rs = RGB F rs := if_neg (by decide)
theorem RGB_s81 {F rs : List Nat} : RGB (81 :: F) rs = RGB F rs := if_neg (by decide)
theorem RGB_s83 {F rs : List Nat} : RGB (83 :: F) rs = RGB F rs := if_neg (by decide)
theorem RGB_s84 {F rs : List Nat} : RGB (84 :: F) rs = RGB F rs := if_neg (by decide)
theorem RGB_s85 {F rs : List Nat} : RGB (85 :: F) rs = RGB F rs := if_neg (by decide)
theorem RGB_s86 {F rs : List Nat} : RGB (86 :: F) rs = RGB F rs := if_neg (by decide)
theorem RGB_s87 {F rs : List Nat} : RGB (87 :: F) rs = RGB F rs := if_neg (by decide)
theorem RGB_s88 {F rs : List Nat} : RGB (88 :: F) rs = RGB F rs := if_neg (by decide)
theorem RGB_s89 {F rs : List Nat} : RGB (89 :: F) rs = RGB F rs := if_neg (by decide)
theorem RGB_r100 {F rs : List Nat} {r : Nat} : RGB (100 :: F) (r :: rs) = rgb 100 r ||| RGB F rs := if_pos (by decide)
theorem RGB_r110 {F rs : List Nat} {r : Nat} : RGB (110 :: F) (r :: rs) = rgb 110 r ||| RGB F rs := if_pos (by decide)
theorem RGB_r109 {F rs : List Nat} {r : Nat} : RGB (109 :: F) (r :: rs) = rgb 109 r ||| RGB F rs := if_pos (by decide)
theorem RGB_r97 {F rs : List Nat} {r : Nat} : RGB (97 :: F) (r :: rs) = rgb 97 r ||| RGB F rs := if_pos (by decide)
theorem RGB_r98 {F rs : List Nat} {r : Nat} : RGB (98 :: F) (r :: rs) = rgb 98 r ||| RGB F rs := if_pos (by decide)
theorem RGB_r115 {F rs : List Nat} {r : Nat} : RGB (115 :: F) (r :: rs) = rgb 115 r ||| RGB F rs := if_pos (by decide)
theorem RGB_r122 {F rs : List Nat} {r : Nat} : RGB (122 :: F) (r :: rs) = rgb 122 r ||| RGB F rs := if_pos (by decide)
theorem RGB_r112 {F rs : List Nat} {r : Nat} : RGB (112 :: F) (r :: rs) = rgb 112 r ||| RGB F rs := if_pos (by decide)
theorem RGB_r113 {F rs : List Nat} {r : Nat} : RGB (113 :: F) (r :: rs) = rgb 113 r ||| RGB F rs := if_pos (by decide)
theorem rgb_100 {r : Nat} : rgb 100 r = nI r <<< ((7 : Int32) &&& 31) := rfl
theorem rgb_110 {r : Nat} : rgb 110 r = nI r <<< ((7 : Int32) &&& 31) := rfl
theorem rgb_109 {r : Nat} : rgb 109 r = nI r <<< ((7 : Int32) &&& 31) := rfl
theorem rgb_97 {r : Nat} : rgb 97 r = nI r <<< ((15 : Int32) &&& 31) := rfl
theorem rgb_98 {r : Nat} : rgb 98 r = nI r <<< ((20 : Int32) &&& 31) := rfl
theorem rgb_115 {r : Nat} : rgb 115 r = nI r <<< ((2 : Int32) &&& 31) := rfl
theorem rgb_122 {r : Nat} : rgb 122 r = nI r <<< ((2 : Int32) &&& 31) := rfl
theorem rgb_112 {r : Nat} : rgb 112 r = (nI r &&& 7) <<< ((2 : Int32) &&& 31) := rfl
theorem rgb_113 {r : Nat} : rgb 113 r = (nI r &&& 7) <<< ((7 : Int32) &&& 31) := rfl
theorem RGB_0 {rs : List Nat} : RGB [] rs = 0 := rfl
theorem lbo_73 {wv : Int32} : lbO 73 wv = wv <<< ((20 : Int32) &&& 31) := rfl
theorem vto_73 {x v : Int32} : vtO 73 x v = v := rfl
theorem lbo_83 {wv : Int32} : lbO 83 wv = ptO wv 5 7 25 ||| ptO wv 0 5 7 := rfl
theorem vto_83 {x v : Int32} : vtO 83 x v = v := rfl
theorem lbo_72 {wv : Int32} : lbO 72 wv = (wv &&& 31) <<< ((20 : Int32) &&& 31) := rfl
theorem vto_72 {x v : Int32} : vtO 72 x v = v := rfl
theorem lbo_86 {wv : Int32} : lbO 86 wv = plV wv := rfl
theorem vto_86 {x v : Int32} : vtO 86 x v = v := rfl
theorem lbo_85 {wv : Int32} : lbO 85 wv = wv <<< ((12 : Int32) &&& 31) := rfl
theorem vto_85 {x v : Int32} : vtO 85 x v = v := rfl
theorem lbo_75 {wv : Int32} : lbO 75 wv = plK wv := rfl
theorem vto_75 {x v : Int32} : vtO 75 x v = v - x := rfl
theorem lbo_76 {wv : Int32} : lbO 76 wv = plL wv := rfl
theorem vto_76 {x v : Int32} : vtO 76 x v = v - x := rfl
theorem lbo_74 {wv : Int32} : lbO 74 wv = plJ wv := rfl
theorem vto_74 {x v : Int32} : vtO 74 x v = v - x := rfl
theorem lbo_78 {wv : Int32} : lbO 78 wv = plN wv := rfl
theorem vto_78 {x v : Int32} : vtO 78 x v = v := rfl
theorem lbo_77 {wv : Int32} : lbO 77 wv = plN wv := rfl
theorem vto_77 {x v : Int32} : vtO 77 x v = v := rfl
theorem lbo_88 {wv : Int32} : lbO 88 wv = ptO wv 4 2 11 ||| ptO wv 6 4 7 ||| ptO wv 2 1 6 ||| ptO wv 3 1 5 := rfl
theorem vto_88 {x v : Int32} : vtO 88 x v = v := rfl
theorem lbo_87 {wv : Int32} : lbO 87 wv = ptO wv 3 3 10 ||| ptO wv 2 1 6 ||| ptO wv 6 1 5 := rfl
theorem vto_87 {x v : Int32} : vtO 87 x v = v := rfl
theorem lbo_89 {wv : Int32} : lbO 89 wv = ptO wv 9 1 12 ||| ptO wv 4 1 6 ||| ptO wv 6 1 5 ||| ptO wv 7 2 3 ||| ptO wv 5 1 2 := rfl
theorem vto_89 {x v : Int32} : vtO 89 x v = v := rfl
theorem lbo_80 {wv : Int32} : lbO 80 wv = ptO wv 5 1 12 ||| ptO wv 2 3 4 ||| ptO wv 6 2 2 := rfl
theorem vto_80 {x v : Int32} : vtO 80 x v = v := rfl
theorem lbo_81 {wv : Int32} : lbO 81 wv = ptO wv 2 4 9 ||| ptO wv 6 2 7 := rfl
theorem vto_81 {x v : Int32} : vtO 81 x v = v := rfl
theorem sJ_R (n : Nat) (v : Int32) : df_X13_shortJump n v () = some (plK v, ()) := (pl_K n v).2
theorem sB_R (n : Nat) (v : Int32) : df_X13_shortBranch n v () = some (plL v, ()) := (pl_L n v).2
theorem sX_R (n : Nat) (v : Int32) : df_X13_six n v () = some (plN v, ()) := (pl_N n v).2
theorem jB_R (n : Nat) (v : Int32) : df_X13_jumpBits n v () = some (plJ v, ()) := (pl_J n v).2
theorem tB_R (n : Nat) (v : Int32) : df_X13_branchBits n v () = some (plT v, ()) := (pl_T n v).2
theorem wi_2 {B : St} {ms dv ok : Bool} (h : ¬ wiF B ms dv ok = 0) : sI B 15 = 2 := Classical.byContradiction fun z => h (if_neg z)
theorem f13 {B : St} (h : ∃ ln : Nat, sI B 13 = nI ln ∧ ln ≤ 40000) {g : Nat} : ¬ (if g = 33 then (1 : Int32) else 3) + 16 * sI B 13 = 0 := by
  by_cases z : g = 33
  · rw [if_pos z]; exact flt_n h 1 (by omega)
  · rw [if_neg z]; exact flt_n h 3 (by omega)
theorem f13e {g f : Nat} (h : (g = 33 ∧ f = 1) ∨ (g = 32 ∧ f = 3)) : (if g = 33 then (1 : Int32) else 3) = nI f := by
  rcases h with h | h
  · rw [if_pos h.1, h.2]; rfl
  · rw [if_neg (by omega), h.2]; rfl
theorem or_lc (x y z : Int32) : x ||| (y ||| z) = y ||| (x ||| z) := by rw [← Int32.or_assoc, Int32.or_comm x y, Int32.or_assoc]
/-- what a statement leaves: its bytes, or a fault -/
def PLO (e : Nat) (B : St) (ct : Nat) (gr : Bool) (PA BY OU : Nat → Int32) (p2 : Nat) (ft : Int32) (bs : List Int32) (S : St) : Prop := (ft = 0 → SR B (ct + bs.length) gr PA BY (pt B ct OU bs) 0 p2 S) ∧ (¬ ft = 0 → FL e B ft S)
theorem plo4 {e : Nat} {B : St} {ct : Nat} {gr : Bool} {PA BY OU : Nat → Int32} {p2 : Nat} {ft : Int32} {x y : Int32} {S : St} (h0 : ft = 0) (h : SR B (ct + 4) gr PA BY (pt B ct OU (by4 x)) 0 p2 S) (hxy : x = y) : PLO e B ct gr PA BY OU p2 ft (by4 y) S := ⟨fun _ => hxy ▸ h, fun u => absurd h0 u⟩
theorem plo2 {e : Nat} {B : St} {ct : Nat} {gr : Bool} {PA BY OU : Nat → Int32} {p2 : Nat} {ft : Int32} {x y : Int32} {S : St} (h0 : ft = 0) (h : SR B (ct + 2) gr PA BY (pt B ct OU (by2 x)) 0 p2 S) (hxy : x = y) : PLO e B ct gr PA BY OU p2 ft (by2 y) S := ⟨fun _ => hxy ▸ h, fun u => absurd h0 u⟩
theorem m0_3 {B : St} (h : sI B 15 = 0) : ¬ sI B 15 = 3 := by rw [h]; decide
theorem m2_3 {B : St} (h : sI B 15 = 2) : ¬ sI B 15 = 3 := by rw [h]; decide
theorem f0_2 {B : St} {f : Nat} (h0 : ¬ f = 0 → sI B 15 = 0) (h : sI B 15 = 2) : f = 0 := Classical.byContradiction fun u => by
  have := h0 u
  rw [h] at this
  exact absurd this (by decide)
theorem nzR {n : Nat} {B : St} (hl : ∃ ln : Nat, sI B 13 = nI ln ∧ ln ≤ 40000) {ct : Nat} {gr : Bool} {PA BY OU : Nat → Int32} {px e : Nat} {S : St} {ms dv ok : Bool} (h : SR B ct gr PA BY OU (wiF B ms dv ok) px S) (hpx : px ≤ e) (v : Int32) : ∃ S' : St, df_X13_notZero n v S = some S' ∧ SR B ct gr PA BY OU (wiF B ms dv (ok && !decide (v = 0))) px S' := by
  by_cases z : wiF B ms dv ok = 0
  · by_cases y : sI B 15 = 2
    · have e0 : ms = false ∧ dv = false ∧ ok = true := by
        unfold wiF at z
        rw [if_pos y] at z
        cases ms with
        | true => rw [if_pos rfl] at z; exact absurd z (flt_n hl 8 (by omega))
        | false =>
          rw [if_neg (by decide)] at z
          cases dv with
          | true => rw [if_pos rfl] at z; exact absurd z (flt_n hl 9 (by omega))
          | false =>
            rw [if_neg (by decide)] at z
            cases ok with
            | true => exact ⟨rfl, rfl, rfl⟩
            | false => rw [if_neg (by decide)] at z; exact absurd z (flt_n hl 10 (by omega))
      obtain ⟨rfl, rfl, rfl⟩ := e0
      rw [z] at h
      unfold df_X13_notZero df_X13_notZero_0 df_X13_notZero_18
      rw [SR_15 h, if_pos y]
      by_cases q : v = 0
      · obtain ⟨S', b1, b2⟩ := blm_S (n := n) h 10
        rw [if_pos q, b1, nb_b1, decide_eq_true q]
        refine ⟨S', rfl, ?_⟩
        rw [show wiF B false false (true && !true) = 10 + 16 * sI B 13 from if_pos y]
        exact b2
      · rw [if_neg q, decide_eq_false q]
        refine ⟨S, rfl, ?_⟩
        rw [show wiF B false false (true && !false) = 0 from z]
        exact h
    · refine ⟨S, ?_, ?_⟩
      · unfold df_X13_notZero df_X13_notZero_0 df_X13_notZero_18
        rw [SR_15 h, if_neg y]
      · rw [show wiF B ms dv (ok && !decide (v = 0)) = wiF B ms dv ok from (if_neg y).trans (if_neg y).symm]
        exact h
  · refine ⟨S, nz_F (⟨_, _, _, _, _, _, hpx, h⟩ : FL e B _ S) z v, ?_⟩
    have y := wi_2 z
    have ee : wiF B ms dv (ok && !decide (v = 0)) = wiF B ms dv ok := by
      unfold wiF at z ⊢
      rw [if_pos y] at z
      rw [if_pos y, if_pos y]
      cases ms with
      | true => rfl
      | false =>
        cases dv with
        | true => rfl
        | false =>
          cases ok with
          | true => exact absurd (by rw [if_neg (by decide), if_neg (by decide), if_pos rfl]) z
          | false => rfl
    rw [ee]
    exact h
/-- shapes of one word -/
theorem shp_1 {n L e : Nat} {c : Nat → Nat} {BC B : St} {X : Nat → Nat} {nL st cu : Nat} (hV : RV n L e c BC B X nL cu) {ct : Nat} {gr : Bool} {PA BY OU : Nat → Int32} (hY : PY PA cu st) {p : Nat} {S : St} (h : SR B ct gr PA BY OU 0 p S) (hw : OKW B (ct + 4)) (w : Int32) {f p2 : Nat} {rs : List Nat} {m : Nat} {P : Nat → Tp} (h0 : ¬ f = 0 → sI B 15 = 0) (hTr : Tr n L e c BC [100, 44, 97, 44, 98] p f p2 rs m P) : ∃ S' : St, df_X13_longs n 1 w S = some S' ∧ (¬ f = 0 → FL e B (nI f + 16 * sI B 13) S') ∧ (f = 0 → PLO e B ct gr PA BY OU p2 0 (by4 (w ||| RGB [100, 44, 97, 44, 98] rs)) S') := by
  have hT := hV.1
  have hl := hV.2.2.2.2.2.2.2
  obtain ⟨q1, p1, κ1, τ1, v1, x1, T1, hTr⟩ := hTr
  rw [if_neg (by decide), if_pos (by decide)] at hTr
  rcases hTr with ⟨g1, r1, rs1, rfl, hTr⟩ | hF
  rotate_left
  · have nf : ¬ f = 0 := by rcases hF with hF | hF <;> omega
    have hF2 : (tkG c τ1 q1 p1 = 33 ∧ f = 1) ∨ (tkG c τ1 q1 p1 = 32 ∧ f = 3) := by
      rcases hF with hF | ⟨hF | hF, hF2⟩
      · exact Or.inl hF
      · exact Or.inr ⟨hF, hF2⟩
      · exact absurd hF.2 (by unfold rfit; simp)
    obtain ⟨S1, e1, g1⟩ := tak_n hT h T1 (by omega)
    have ne := f13 hl (g := tkG c τ1 q1 p1)
    rw [f13e hF2] at g1 ne
    have fl := FN_L g1
    have f12 := (FL_f fl).1
    have ec := com_F (n := n) fl ne
    simp only [df_X13_longs_384, df_X13_longs_171, df_X13_longs_109, df_X13_longs_81, df_X13_longs_40, df_X13_longs_0, df_X13_longs, nb_b2, nb_b1, nb_let, eq_self, if_true, if_false, ↓reduceIte, show ((1 : Int32) = 0) = False from eq_false (by decide), show ((1 : Int32) = 2) = False from eq_false (by decide), show ((1 : Int32) = 3) = False from eq_false (by decide), show ((1 : Int32) = 4) = False from eq_false (by decide), show ((1 : Int32) = 5) = False from eq_false (by decide), show ((1 : Int32) = 6) = False from eq_false (by decide), show ((1 : Int32) = 10) = False from eq_false (by decide), show ((1 : Int32) = 11) = False from eq_false (by decide), show ((1 : Int32) = 30) = False from eq_false (by decide), bq_11_5_25, bq_4_0_7, bq_9_9_12, bq_4_4_6, bq_6_6_5, bq_8_7_3, bq_5_5_2, bq_5_4_11, bq_9_6_7, bq_2_2_6, bq_3_3_5, bq_5_3_10, bq_5_5_12, bq_4_2_4, bq_7_6_2, bq_5_2_9, bq_7_6_7, sJ_R, sB_R, sX_R, jB_R, tB_R, e1, f12, eq_false ne, ec]
    exact ⟨_, rfl, fun _ => fl, fun u => absurd u nf⟩
  obtain ⟨S1, e1, h1⟩ := tak_y hT h T1 g1
  obtain ⟨q2, p2, κ2, τ2, v2, x2, T2, hTr⟩ := hTr
  rw [if_pos (by decide)] at hTr
  rcases hTr with ⟨g2, hTr⟩ | hF
  rotate_left
  · have nf : ¬ f = 0 := by omega
    obtain ⟨S2, e2, g2⟩ := com_n hT h1 T2 hF.1
    rw [hF.2] at nf h0 ⊢
    have fl : FL e B (nI 1 + 16 * sI B 13) S2 := FN_L g2
    have ne : ¬ nI 1 + 16 * sI B 13 = 0 := flt_n hl 1 (by omega)
    have f12 := (FL_f fl).1
    simp only [df_X13_longs_384, df_X13_longs_171, df_X13_longs_109, df_X13_longs_81, df_X13_longs_40, df_X13_longs_0, df_X13_longs, nb_b2, nb_b1, nb_let, eq_self, if_true, if_false, ↓reduceIte, show ((1 : Int32) = 0) = False from eq_false (by decide), show ((1 : Int32) = 2) = False from eq_false (by decide), show ((1 : Int32) = 3) = False from eq_false (by decide), show ((1 : Int32) = 4) = False from eq_false (by decide), show ((1 : Int32) = 5) = False from eq_false (by decide), show ((1 : Int32) = 6) = False from eq_false (by decide), show ((1 : Int32) = 10) = False from eq_false (by decide), show ((1 : Int32) = 11) = False from eq_false (by decide), show ((1 : Int32) = 30) = False from eq_false (by decide), bq_11_5_25, bq_4_0_7, bq_9_9_12, bq_4_4_6, bq_6_6_5, bq_8_7_3, bq_5_5_2, bq_5_4_11, bq_9_6_7, bq_2_2_6, bq_3_3_5, bq_5_3_10, bq_5_5_12, bq_4_2_4, bq_7_6_2, bq_5_2_9, bq_7_6_7, sJ_R, sB_R, sX_R, jB_R, tB_R, e1, SR_12 h1, e2, f12, eq_false ne]
    exact ⟨_, rfl, fun _ => fl, fun u => absurd u nf⟩
  obtain ⟨S2, e2, h2⟩ := com_y hT h1 T2 g2
  obtain ⟨q3, p3, κ3, τ3, v3, x3, T3, hTr⟩ := hTr
  rw [if_neg (by decide), if_pos (by decide)] at hTr
  rcases hTr with ⟨g3, r3, rs3, rfl, hTr⟩ | hF
  rotate_left
  · have nf : ¬ f = 0 := by rcases hF with hF | hF <;> omega
    have hF2 : (tkG c τ3 q3 p3 = 33 ∧ f = 1) ∨ (tkG c τ3 q3 p3 = 32 ∧ f = 3) := by
      rcases hF with hF | ⟨hF | hF, hF2⟩
      · exact Or.inl hF
      · exact Or.inr ⟨hF, hF2⟩
      · exact absurd hF.2 (by unfold rfit; simp)
    obtain ⟨S3, e3, g3⟩ := tak_n hT h2 T3 (by omega)
    have ne := f13 hl (g := tkG c τ3 q3 p3)
    rw [f13e hF2] at g3 ne
    have fl := FN_L g3
    have f12 := (FL_f fl).1
    have ec := com_F (n := n) fl ne
    simp only [df_X13_longs_384, df_X13_longs_171, df_X13_longs_109, df_X13_longs_81, df_X13_longs_40, df_X13_longs_0, df_X13_longs, nb_b2, nb_b1, nb_let, eq_self, if_true, if_false, ↓reduceIte, show ((1 : Int32) = 0) = False from eq_false (by decide), show ((1 : Int32) = 2) = False from eq_false (by decide), show ((1 : Int32) = 3) = False from eq_false (by decide), show ((1 : Int32) = 4) = False from eq_false (by decide), show ((1 : Int32) = 5) = False from eq_false (by decide), show ((1 : Int32) = 6) = False from eq_false (by decide), show ((1 : Int32) = 10) = False from eq_false (by decide), show ((1 : Int32) = 11) = False from eq_false (by decide), show ((1 : Int32) = 30) = False from eq_false (by decide), bq_11_5_25, bq_4_0_7, bq_9_9_12, bq_4_4_6, bq_6_6_5, bq_8_7_3, bq_5_5_2, bq_5_4_11, bq_9_6_7, bq_2_2_6, bq_3_3_5, bq_5_3_10, bq_5_5_12, bq_4_2_4, bq_7_6_2, bq_5_2_9, bq_7_6_7, sJ_R, sB_R, sX_R, jB_R, tB_R, e1, SR_12 h1, e2, SR_12 h2, e3, f12, eq_false ne, ec]
    exact ⟨_, rfl, fun _ => fl, fun u => absurd u nf⟩
  obtain ⟨S3, e3, h3⟩ := tak_y hT h2 T3 g3
  obtain ⟨q4, p4, κ4, τ4, v4, x4, T4, hTr⟩ := hTr
  rw [if_pos (by decide)] at hTr
  rcases hTr with ⟨g4, hTr⟩ | hF
  rotate_left
  · have nf : ¬ f = 0 := by omega
    obtain ⟨S4, e4, g4⟩ := com_n hT h3 T4 hF.1
    rw [hF.2] at nf h0 ⊢
    have fl : FL e B (nI 1 + 16 * sI B 13) S4 := FN_L g4
    have ne : ¬ nI 1 + 16 * sI B 13 = 0 := flt_n hl 1 (by omega)
    have f12 := (FL_f fl).1
    simp only [df_X13_longs_384, df_X13_longs_171, df_X13_longs_109, df_X13_longs_81, df_X13_longs_40, df_X13_longs_0, df_X13_longs, nb_b2, nb_b1, nb_let, eq_self, if_true, if_false, ↓reduceIte, show ((1 : Int32) = 0) = False from eq_false (by decide), show ((1 : Int32) = 2) = False from eq_false (by decide), show ((1 : Int32) = 3) = False from eq_false (by decide), show ((1 : Int32) = 4) = False from eq_false (by decide), show ((1 : Int32) = 5) = False from eq_false (by decide), show ((1 : Int32) = 6) = False from eq_false (by decide), show ((1 : Int32) = 10) = False from eq_false (by decide), show ((1 : Int32) = 11) = False from eq_false (by decide), show ((1 : Int32) = 30) = False from eq_false (by decide), bq_11_5_25, bq_4_0_7, bq_9_9_12, bq_4_4_6, bq_6_6_5, bq_8_7_3, bq_5_5_2, bq_5_4_11, bq_9_6_7, bq_2_2_6, bq_3_3_5, bq_5_3_10, bq_5_5_12, bq_4_2_4, bq_7_6_2, bq_5_2_9, bq_7_6_7, sJ_R, sB_R, sX_R, jB_R, tB_R, e1, SR_12 h1, e2, SR_12 h2, e3, SR_12 h3, e4, f12, eq_false ne]
    exact ⟨_, rfl, fun _ => fl, fun u => absurd u nf⟩
  obtain ⟨S4, e4, h4⟩ := com_y hT h3 T4 g4
  obtain ⟨q5, p5, κ5, τ5, v5, x5, T5, hTr⟩ := hTr
  rw [if_neg (by decide), if_pos (by decide)] at hTr
  rcases hTr with ⟨g5, r5, rs5, rfl, hTr⟩ | hF
  rotate_left
  · have nf : ¬ f = 0 := by rcases hF with hF | hF <;> omega
    have hF2 : (tkG c τ5 q5 p5 = 33 ∧ f = 1) ∨ (tkG c τ5 q5 p5 = 32 ∧ f = 3) := by
      rcases hF with hF | ⟨hF | hF, hF2⟩
      · exact Or.inl hF
      · exact Or.inr ⟨hF, hF2⟩
      · exact absurd hF.2 (by unfold rfit; simp)
    obtain ⟨S5, e5, g5⟩ := tak_n hT h4 T5 (by omega)
    have ne := f13 hl (g := tkG c τ5 q5 p5)
    rw [f13e hF2] at g5 ne
    have fl := FN_L g5
    have f12 := (FL_f fl).1
    obtain ⟨W, w1, w2⟩ := wor_G (n := n) fl (m0_3 (h0 nf))
    simp only [df_X13_longs_384, df_X13_longs_171, df_X13_longs_109, df_X13_longs_81, df_X13_longs_40, df_X13_longs_0, df_X13_longs, nb_b2, nb_b1, nb_let, eq_self, if_true, if_false, ↓reduceIte, show ((1 : Int32) = 0) = False from eq_false (by decide), show ((1 : Int32) = 2) = False from eq_false (by decide), show ((1 : Int32) = 3) = False from eq_false (by decide), show ((1 : Int32) = 4) = False from eq_false (by decide), show ((1 : Int32) = 5) = False from eq_false (by decide), show ((1 : Int32) = 6) = False from eq_false (by decide), show ((1 : Int32) = 10) = False from eq_false (by decide), show ((1 : Int32) = 11) = False from eq_false (by decide), show ((1 : Int32) = 30) = False from eq_false (by decide), bq_11_5_25, bq_4_0_7, bq_9_9_12, bq_4_4_6, bq_6_6_5, bq_8_7_3, bq_5_5_2, bq_5_4_11, bq_9_6_7, bq_2_2_6, bq_3_3_5, bq_5_3_10, bq_5_5_12, bq_4_2_4, bq_7_6_2, bq_5_2_9, bq_7_6_7, sJ_R, sB_R, sX_R, jB_R, tB_R, e1, SR_12 h1, e2, SR_12 h2, e3, SR_12 h3, e4, SR_12 h4, e5, f12, eq_false ne, w1]
    exact ⟨_, rfl, fun _ => w2 _, fun u => absurd u nf⟩
  obtain ⟨S5, e5, h5⟩ := tak_y hT h4 T5 g5
  obtain ⟨rfl, rfl, rfl⟩ := hTr
  obtain ⟨W, w1, w2⟩ := wor_H (n := n) h5 (OKW_m hw (by omega))
  simp only [df_X13_longs_384, df_X13_longs_171, df_X13_longs_109, df_X13_longs_81, df_X13_longs_40, df_X13_longs_0, df_X13_longs, nb_b2, nb_b1, nb_let, eq_self, if_true, if_false, ↓reduceIte, show ((1 : Int32) = 0) = False from eq_false (by decide), show ((1 : Int32) = 2) = False from eq_false (by decide), show ((1 : Int32) = 3) = False from eq_false (by decide), show ((1 : Int32) = 4) = False from eq_false (by decide), show ((1 : Int32) = 5) = False from eq_false (by decide), show ((1 : Int32) = 6) = False from eq_false (by decide), show ((1 : Int32) = 10) = False from eq_false (by decide), show ((1 : Int32) = 11) = False from eq_false (by decide), show ((1 : Int32) = 30) = False from eq_false (by decide), bq_11_5_25, bq_4_0_7, bq_9_9_12, bq_4_4_6, bq_6_6_5, bq_8_7_3, bq_5_5_2, bq_5_4_11, bq_9_6_7, bq_2_2_6, bq_3_3_5, bq_5_3_10, bq_5_5_12, bq_4_2_4, bq_7_6_2, bq_5_2_9, bq_7_6_7, sJ_R, sB_R, sX_R, jB_R, tB_R, e1, SR_12 h1, e2, SR_12 h2, e3, SR_12 h3, e4, SR_12 h4, e5, SR_12 h5, w1]
  refine ⟨_, rfl, fun u => absurd trivial u, fun _ => plo4 rfl (w2 _) ?_⟩
  simp only [RGB_0, or_0, RGB_s44, RGB_r97, RGB_r98, RGB_r100, rgb_97, rgb_98, rgb_100]
  try simp only [Int32.or_assoc]
  try simp only [Int32.or_comm, or_lc]
  try simp only [Int32.or_assoc, Int32.or_comm, or_lc]
theorem shp_2 {n L e : Nat} {c : Nat → Nat} {BC B : St} {X : Nat → Nat} {nL st cu : Nat} (hV : RV n L e c BC B X nL cu) {ct : Nat} {gr : Bool} {PA BY OU : Nat → Int32} (hY : PY PA cu st) {p : Nat} {S : St} (h : SR B ct gr PA BY OU 0 p S) (hw : OKW B (ct + 4)) (w : Int32) {f p2 : Nat} {rs : List Nat} {m : Nat} {P : Nat → Tp} (h0 : ¬ f = 0 → sI B 15 = 0) (hTr : Tr n L e c BC [100, 44, 97, 44, 73] p f p2 rs m P) : ∃ S' : St, df_X13_longs n 2 w S = some S' ∧ (¬ f = 0 → FL e B (nI f + 16 * sI B 13) S') ∧ (f = 0 → ∃ (z : Int32) (ms dv : Bool), rnF (VW c X e nL st B) P m = ([z], ms, dv) ∧ PLO e B ct gr PA BY OU p2 (wiF B ms dv (lfO 73 (vtO 73 (sI B 17) z))) (by4 (w ||| RGB [100, 44, 97, 44, 73] rs ||| lbO 73 (vtO 73 (sI B 17) z))) S') := by
  have hT := hV.1
  have hl := hV.2.2.2.2.2.2.2
  obtain ⟨q1, p1, κ1, τ1, v1, x1, T1, hTr⟩ := hTr
  rw [if_neg (by decide), if_pos (by decide)] at hTr
  rcases hTr with ⟨g1, r1, rs1, rfl, hTr⟩ | hF
  rotate_left
  · have nf : ¬ f = 0 := by rcases hF with hF | hF <;> omega
    have hF2 : (tkG c τ1 q1 p1 = 33 ∧ f = 1) ∨ (tkG c τ1 q1 p1 = 32 ∧ f = 3) := by
      rcases hF with hF | ⟨hF | hF, hF2⟩
      · exact Or.inl hF
      · exact Or.inr ⟨hF, hF2⟩
      · exact absurd hF.2 (by unfold rfit; simp)
    obtain ⟨S1, e1, g1⟩ := tak_n hT h T1 (by omega)
    have ne := f13 hl (g := tkG c τ1 q1 p1)
    rw [f13e hF2] at g1 ne
    have fl := FN_L g1
    have f12 := (FL_f fl).1
    have ec := com_F (n := n) fl ne
    simp only [df_X13_longs_384, df_X13_longs_171, df_X13_longs_109, df_X13_longs_81, df_X13_longs_40, df_X13_longs_0, df_X13_longs, nb_b2, nb_b1, nb_let, eq_self, if_true, if_false, ↓reduceIte, show ((1 : Int32) = 0) = False from eq_false (by decide), show ((2 : Int32) = 1) = False from eq_false (by decide), show ((2 : Int32) = 3) = False from eq_false (by decide), show ((2 : Int32) = 4) = False from eq_false (by decide), show ((2 : Int32) = 5) = False from eq_false (by decide), show ((2 : Int32) = 6) = False from eq_false (by decide), show ((2 : Int32) = 10) = False from eq_false (by decide), show ((2 : Int32) = 11) = False from eq_false (by decide), show ((2 : Int32) = 30) = False from eq_false (by decide), bq_11_5_25, bq_4_0_7, bq_9_9_12, bq_4_4_6, bq_6_6_5, bq_8_7_3, bq_5_5_2, bq_5_4_11, bq_9_6_7, bq_2_2_6, bq_3_3_5, bq_5_3_10, bq_5_5_12, bq_4_2_4, bq_7_6_2, bq_5_2_9, bq_7_6_7, sJ_R, sB_R, sX_R, jB_R, tB_R, e1, f12, eq_false ne, ec]
    exact ⟨_, rfl, fun _ => fl, fun u => absurd u nf⟩
  obtain ⟨S1, e1, h1⟩ := tak_y hT h T1 g1
  obtain ⟨q2, p2, κ2, τ2, v2, x2, T2, hTr⟩ := hTr
  rw [if_pos (by decide)] at hTr
  rcases hTr with ⟨g2, hTr⟩ | hF
  rotate_left
  · have nf : ¬ f = 0 := by omega
    obtain ⟨S2, e2, g2⟩ := com_n hT h1 T2 hF.1
    rw [hF.2] at nf h0 ⊢
    have fl : FL e B (nI 1 + 16 * sI B 13) S2 := FN_L g2
    have ne : ¬ nI 1 + 16 * sI B 13 = 0 := flt_n hl 1 (by omega)
    have f12 := (FL_f fl).1
    simp only [df_X13_longs_384, df_X13_longs_171, df_X13_longs_109, df_X13_longs_81, df_X13_longs_40, df_X13_longs_0, df_X13_longs, nb_b2, nb_b1, nb_let, eq_self, if_true, if_false, ↓reduceIte, show ((1 : Int32) = 0) = False from eq_false (by decide), show ((2 : Int32) = 1) = False from eq_false (by decide), show ((2 : Int32) = 3) = False from eq_false (by decide), show ((2 : Int32) = 4) = False from eq_false (by decide), show ((2 : Int32) = 5) = False from eq_false (by decide), show ((2 : Int32) = 6) = False from eq_false (by decide), show ((2 : Int32) = 10) = False from eq_false (by decide), show ((2 : Int32) = 11) = False from eq_false (by decide), show ((2 : Int32) = 30) = False from eq_false (by decide), bq_11_5_25, bq_4_0_7, bq_9_9_12, bq_4_4_6, bq_6_6_5, bq_8_7_3, bq_5_5_2, bq_5_4_11, bq_9_6_7, bq_2_2_6, bq_3_3_5, bq_5_3_10, bq_5_5_12, bq_4_2_4, bq_7_6_2, bq_5_2_9, bq_7_6_7, sJ_R, sB_R, sX_R, jB_R, tB_R, e1, SR_12 h1, e2, f12, eq_false ne]
    exact ⟨_, rfl, fun _ => fl, fun u => absurd u nf⟩
  obtain ⟨S2, e2, h2⟩ := com_y hT h1 T2 g2
  obtain ⟨q3, p3, κ3, τ3, v3, x3, T3, hTr⟩ := hTr
  rw [if_neg (by decide), if_pos (by decide)] at hTr
  rcases hTr with ⟨g3, r3, rs3, rfl, hTr⟩ | hF
  rotate_left
  · have nf : ¬ f = 0 := by rcases hF with hF | hF <;> omega
    have hF2 : (tkG c τ3 q3 p3 = 33 ∧ f = 1) ∨ (tkG c τ3 q3 p3 = 32 ∧ f = 3) := by
      rcases hF with hF | ⟨hF | hF, hF2⟩
      · exact Or.inl hF
      · exact Or.inr ⟨hF, hF2⟩
      · exact absurd hF.2 (by unfold rfit; simp)
    obtain ⟨S3, e3, g3⟩ := tak_n hT h2 T3 (by omega)
    have ne := f13 hl (g := tkG c τ3 q3 p3)
    rw [f13e hF2] at g3 ne
    have fl := FN_L g3
    have f12 := (FL_f fl).1
    have ec := com_F (n := n) fl ne
    simp only [df_X13_longs_384, df_X13_longs_171, df_X13_longs_109, df_X13_longs_81, df_X13_longs_40, df_X13_longs_0, df_X13_longs, nb_b2, nb_b1, nb_let, eq_self, if_true, if_false, ↓reduceIte, show ((1 : Int32) = 0) = False from eq_false (by decide), show ((2 : Int32) = 1) = False from eq_false (by decide), show ((2 : Int32) = 3) = False from eq_false (by decide), show ((2 : Int32) = 4) = False from eq_false (by decide), show ((2 : Int32) = 5) = False from eq_false (by decide), show ((2 : Int32) = 6) = False from eq_false (by decide), show ((2 : Int32) = 10) = False from eq_false (by decide), show ((2 : Int32) = 11) = False from eq_false (by decide), show ((2 : Int32) = 30) = False from eq_false (by decide), bq_11_5_25, bq_4_0_7, bq_9_9_12, bq_4_4_6, bq_6_6_5, bq_8_7_3, bq_5_5_2, bq_5_4_11, bq_9_6_7, bq_2_2_6, bq_3_3_5, bq_5_3_10, bq_5_5_12, bq_4_2_4, bq_7_6_2, bq_5_2_9, bq_7_6_7, sJ_R, sB_R, sX_R, jB_R, tB_R, e1, SR_12 h1, e2, SR_12 h2, e3, f12, eq_false ne, ec]
    exact ⟨_, rfl, fun _ => fl, fun u => absurd u nf⟩
  obtain ⟨S3, e3, h3⟩ := tak_y hT h2 T3 g3
  obtain ⟨q4, p4, κ4, τ4, v4, x4, T4, hTr⟩ := hTr
  rw [if_pos (by decide)] at hTr
  rcases hTr with ⟨g4, hTr⟩ | hF
  rotate_left
  · have nf : ¬ f = 0 := by omega
    obtain ⟨S4, e4, g4⟩ := com_n hT h3 T4 hF.1
    rw [hF.2] at nf h0 ⊢
    have fl : FL e B (nI 1 + 16 * sI B 13) S4 := FN_L g4
    have ne : ¬ nI 1 + 16 * sI B 13 = 0 := flt_n hl 1 (by omega)
    have f12 := (FL_f fl).1
    simp only [df_X13_longs_384, df_X13_longs_171, df_X13_longs_109, df_X13_longs_81, df_X13_longs_40, df_X13_longs_0, df_X13_longs, nb_b2, nb_b1, nb_let, eq_self, if_true, if_false, ↓reduceIte, show ((1 : Int32) = 0) = False from eq_false (by decide), show ((2 : Int32) = 1) = False from eq_false (by decide), show ((2 : Int32) = 3) = False from eq_false (by decide), show ((2 : Int32) = 4) = False from eq_false (by decide), show ((2 : Int32) = 5) = False from eq_false (by decide), show ((2 : Int32) = 6) = False from eq_false (by decide), show ((2 : Int32) = 10) = False from eq_false (by decide), show ((2 : Int32) = 11) = False from eq_false (by decide), show ((2 : Int32) = 30) = False from eq_false (by decide), bq_11_5_25, bq_4_0_7, bq_9_9_12, bq_4_4_6, bq_6_6_5, bq_8_7_3, bq_5_5_2, bq_5_4_11, bq_9_6_7, bq_2_2_6, bq_3_3_5, bq_5_3_10, bq_5_5_12, bq_4_2_4, bq_7_6_2, bq_5_2_9, bq_7_6_7, sJ_R, sB_R, sX_R, jB_R, tB_R, e1, SR_12 h1, e2, SR_12 h2, e3, SR_12 h3, e4, f12, eq_false ne]
    exact ⟨_, rfl, fun _ => fl, fun u => absurd u nf⟩
  obtain ⟨S4, e4, h4⟩ := com_y hT h3 T4 g4
  obtain ⟨q5, p5, κ5, τ5, v5, x5, T5, hTr⟩ := hTr
  rw [if_neg (by decide), if_neg (by decide)] at hTr
  obtain ⟨ok, px, R, hTr⟩ := hTr
  rcases hTr with ⟨rfl, z1, z2, hTr⟩ | ⟨rfl, hF⟩
  rotate_left
  · have nf : ¬ f = 0 := by omega
    have ne : ¬ nI 1 + 16 * sI B 13 = 0 := flt_n hl 1 (by omega)
    obtain ⟨wv, S5, e5, fl⟩ := wit_n hV hY h4 R (-2048) 2047 1 (by decide)
    have f12 : sI S5 12 = nI 1 + 16 * sI B 13 := (FL_f fl).1
    rw [hF] at nf h0 ⊢
    obtain ⟨W, w1, w2⟩ := wor_G (n := n) fl (m0_3 (h0 nf))
    simp only [df_X13_longs_384, df_X13_longs_171, df_X13_longs_109, df_X13_longs_81, df_X13_longs_40, df_X13_longs_0, df_X13_longs, nb_b2, nb_b1, nb_let, eq_self, if_true, if_false, ↓reduceIte, show ((1 : Int32) = 0) = False from eq_false (by decide), show ((2 : Int32) = 1) = False from eq_false (by decide), show ((2 : Int32) = 3) = False from eq_false (by decide), show ((2 : Int32) = 4) = False from eq_false (by decide), show ((2 : Int32) = 5) = False from eq_false (by decide), show ((2 : Int32) = 6) = False from eq_false (by decide), show ((2 : Int32) = 10) = False from eq_false (by decide), show ((2 : Int32) = 11) = False from eq_false (by decide), show ((2 : Int32) = 30) = False from eq_false (by decide), bq_11_5_25, bq_4_0_7, bq_9_9_12, bq_4_4_6, bq_6_6_5, bq_8_7_3, bq_5_5_2, bq_5_4_11, bq_9_6_7, bq_2_2_6, bq_3_3_5, bq_5_3_10, bq_5_5_12, bq_4_2_4, bq_7_6_2, bq_5_2_9, bq_7_6_7, sJ_R, sB_R, sX_R, jB_R, tB_R, e1, SR_12 h1, e2, SR_12 h2, e3, SR_12 h3, e4, SR_12 h4, e5, f12, eq_false ne, w1]
    exact ⟨_, rfl, fun _ => w2 _, fun u => absurd u nf⟩
  obtain ⟨wv, S5, ms, dv, e5, rn, h5, hpx⟩ := wit_y hV hY h4 R (-2048) 2047 (k := 1) (by decide)
  have e5 : df_X13_within n (-2048) 2047 1 S4 = some (wv, S5) := e5
  have h5 : SR B ct gr PA BY OU (wiF B ms dv (lfO 73 (vtO 73 (sI B 17) wv))) px S5 := h5
  by_cases zz : wiF B ms dv (lfO 73 (vtO 73 (sI B 17) wv)) = 0
  rotate_left
  · have fl : FL e B _ S5 := ⟨_, _, _, _, _, _, hpx, h5⟩
    have f12 := (FL_f fl).1
    have f0 := f0_2 h0 (wi_2 zz)
    obtain ⟨W, w1, w2⟩ := wor_G (n := n) fl (m2_3 (wi_2 zz))
    simp only [df_X13_longs_384, df_X13_longs_171, df_X13_longs_109, df_X13_longs_81, df_X13_longs_40, df_X13_longs_0, df_X13_longs, nb_b2, nb_b1, nb_let, eq_self, if_true, if_false, ↓reduceIte, show ((1 : Int32) = 0) = False from eq_false (by decide), show ((2 : Int32) = 1) = False from eq_false (by decide), show ((2 : Int32) = 3) = False from eq_false (by decide), show ((2 : Int32) = 4) = False from eq_false (by decide), show ((2 : Int32) = 5) = False from eq_false (by decide), show ((2 : Int32) = 6) = False from eq_false (by decide), show ((2 : Int32) = 10) = False from eq_false (by decide), show ((2 : Int32) = 11) = False from eq_false (by decide), show ((2 : Int32) = 30) = False from eq_false (by decide), bq_11_5_25, bq_4_0_7, bq_9_9_12, bq_4_4_6, bq_6_6_5, bq_8_7_3, bq_5_5_2, bq_5_4_11, bq_9_6_7, bq_2_2_6, bq_3_3_5, bq_5_3_10, bq_5_5_12, bq_4_2_4, bq_7_6_2, bq_5_2_9, bq_7_6_7, sJ_R, sB_R, sX_R, jB_R, tB_R, e1, SR_12 h1, e2, SR_12 h2, e3, SR_12 h3, e4, SR_12 h4, e5, f12, eq_false zz, w1]
    exact ⟨_, rfl, fun u => absurd f0 u, fun _ => ⟨wv, ms, dv, rn, fun u => absurd u zz, fun _ => w2 _⟩⟩
  have h5z := h5
  rw [zz] at h5z
  obtain ⟨rfl, rfl, rfl⟩ := hTr
  obtain ⟨W, w1, w2⟩ := wor_H (n := n) h5z (OKW_m hw (by omega))
  simp only [df_X13_longs_384, df_X13_longs_171, df_X13_longs_109, df_X13_longs_81, df_X13_longs_40, df_X13_longs_0, df_X13_longs, nb_b2, nb_b1, nb_let, eq_self, if_true, if_false, ↓reduceIte, show ((1 : Int32) = 0) = False from eq_false (by decide), show ((2 : Int32) = 1) = False from eq_false (by decide), show ((2 : Int32) = 3) = False from eq_false (by decide), show ((2 : Int32) = 4) = False from eq_false (by decide), show ((2 : Int32) = 5) = False from eq_false (by decide), show ((2 : Int32) = 6) = False from eq_false (by decide), show ((2 : Int32) = 10) = False from eq_false (by decide), show ((2 : Int32) = 11) = False from eq_false (by decide), show ((2 : Int32) = 30) = False from eq_false (by decide), bq_11_5_25, bq_4_0_7, bq_9_9_12, bq_4_4_6, bq_6_6_5, bq_8_7_3, bq_5_5_2, bq_5_4_11, bq_9_6_7, bq_2_2_6, bq_3_3_5, bq_5_3_10, bq_5_5_12, bq_4_2_4, bq_7_6_2, bq_5_2_9, bq_7_6_7, sJ_R, sB_R, sX_R, jB_R, tB_R, e1, SR_12 h1, e2, SR_12 h2, e3, SR_12 h3, e4, SR_12 h4, e5, SR_12 h5z, w1]
  refine ⟨_, rfl, fun u => absurd trivial u, fun _ => ⟨wv, ms, dv, rn, plo4 zz (w2 _) ?_⟩⟩
  simp only [RGB_0, or_0, RGB_s44, RGB_s73, RGB_r97, RGB_r100, rgb_97, rgb_100, lbo_73, vto_73]
  try simp only [Int32.or_assoc]
  try simp only [Int32.or_comm, or_lc]
  try simp only [Int32.or_assoc, Int32.or_comm, or_lc]
theorem shp_3 {n L e : Nat} {c : Nat → Nat} {BC B : St} {X : Nat → Nat} {nL st cu : Nat} (hV : RV n L e c BC B X nL cu) {ct : Nat} {gr : Bool} {PA BY OU : Nat → Int32} (hY : PY PA cu st) {p : Nat} {S : St} (h : SR B ct gr PA BY OU 0 p S) (hw : OKW B (ct + 4)) (w : Int32) {f p2 : Nat} {rs : List Nat} {m : Nat} {P : Nat → Tp} (h0 : ¬ f = 0 → sI B 15 = 0) (hTr : Tr n L e c BC [100, 44, 97, 44, 72] p f p2 rs m P) : ∃ S' : St, df_X13_longs n 3 w S = some S' ∧ (¬ f = 0 → FL e B (nI f + 16 * sI B 13) S') ∧ (f = 0 → ∃ (z : Int32) (ms dv : Bool), rnF (VW c X e nL st B) P m = ([z], ms, dv) ∧ PLO e B ct gr PA BY OU p2 (wiF B ms dv (lfO 72 (vtO 72 (sI B 17) z))) (by4 (w ||| RGB [100, 44, 97, 44, 72] rs ||| lbO 72 (vtO 72 (sI B 17) z))) S') := by
  have hT := hV.1
  have hl := hV.2.2.2.2.2.2.2
  obtain ⟨q1, p1, κ1, τ1, v1, x1, T1, hTr⟩ := hTr
  rw [if_neg (by decide), if_pos (by decide)] at hTr
  rcases hTr with ⟨g1, r1, rs1, rfl, hTr⟩ | hF
  rotate_left
  · have nf : ¬ f = 0 := by rcases hF with hF | hF <;> omega
    have hF2 : (tkG c τ1 q1 p1 = 33 ∧ f = 1) ∨ (tkG c τ1 q1 p1 = 32 ∧ f = 3) := by
      rcases hF with hF | ⟨hF | hF, hF2⟩
      · exact Or.inl hF
      · exact Or.inr ⟨hF, hF2⟩
      · exact absurd hF.2 (by unfold rfit; simp)
    obtain ⟨S1, e1, g1⟩ := tak_n hT h T1 (by omega)
    have ne := f13 hl (g := tkG c τ1 q1 p1)
    rw [f13e hF2] at g1 ne
    have fl := FN_L g1
    have f12 := (FL_f fl).1
    have ec := com_F (n := n) fl ne
    simp only [df_X13_longs_384, df_X13_longs_171, df_X13_longs_109, df_X13_longs_81, df_X13_longs_40, df_X13_longs_0, df_X13_longs, nb_b2, nb_b1, nb_let, eq_self, if_true, if_false, ↓reduceIte, show ((1 : Int32) = 0) = False from eq_false (by decide), show ((3 : Int32) = 1) = False from eq_false (by decide), show ((3 : Int32) = 2) = False from eq_false (by decide), show ((3 : Int32) = 4) = False from eq_false (by decide), show ((3 : Int32) = 5) = False from eq_false (by decide), show ((3 : Int32) = 6) = False from eq_false (by decide), show ((3 : Int32) = 10) = False from eq_false (by decide), show ((3 : Int32) = 11) = False from eq_false (by decide), show ((3 : Int32) = 30) = False from eq_false (by decide), bq_11_5_25, bq_4_0_7, bq_9_9_12, bq_4_4_6, bq_6_6_5, bq_8_7_3, bq_5_5_2, bq_5_4_11, bq_9_6_7, bq_2_2_6, bq_3_3_5, bq_5_3_10, bq_5_5_12, bq_4_2_4, bq_7_6_2, bq_5_2_9, bq_7_6_7, sJ_R, sB_R, sX_R, jB_R, tB_R, e1, f12, eq_false ne, ec]
    exact ⟨_, rfl, fun _ => fl, fun u => absurd u nf⟩
  obtain ⟨S1, e1, h1⟩ := tak_y hT h T1 g1
  obtain ⟨q2, p2, κ2, τ2, v2, x2, T2, hTr⟩ := hTr
  rw [if_pos (by decide)] at hTr
  rcases hTr with ⟨g2, hTr⟩ | hF
  rotate_left
  · have nf : ¬ f = 0 := by omega
    obtain ⟨S2, e2, g2⟩ := com_n hT h1 T2 hF.1
    rw [hF.2] at nf h0 ⊢
    have fl : FL e B (nI 1 + 16 * sI B 13) S2 := FN_L g2
    have ne : ¬ nI 1 + 16 * sI B 13 = 0 := flt_n hl 1 (by omega)
    have f12 := (FL_f fl).1
    simp only [df_X13_longs_384, df_X13_longs_171, df_X13_longs_109, df_X13_longs_81, df_X13_longs_40, df_X13_longs_0, df_X13_longs, nb_b2, nb_b1, nb_let, eq_self, if_true, if_false, ↓reduceIte, show ((1 : Int32) = 0) = False from eq_false (by decide), show ((3 : Int32) = 1) = False from eq_false (by decide), show ((3 : Int32) = 2) = False from eq_false (by decide), show ((3 : Int32) = 4) = False from eq_false (by decide), show ((3 : Int32) = 5) = False from eq_false (by decide), show ((3 : Int32) = 6) = False from eq_false (by decide), show ((3 : Int32) = 10) = False from eq_false (by decide), show ((3 : Int32) = 11) = False from eq_false (by decide), show ((3 : Int32) = 30) = False from eq_false (by decide), bq_11_5_25, bq_4_0_7, bq_9_9_12, bq_4_4_6, bq_6_6_5, bq_8_7_3, bq_5_5_2, bq_5_4_11, bq_9_6_7, bq_2_2_6, bq_3_3_5, bq_5_3_10, bq_5_5_12, bq_4_2_4, bq_7_6_2, bq_5_2_9, bq_7_6_7, sJ_R, sB_R, sX_R, jB_R, tB_R, e1, SR_12 h1, e2, f12, eq_false ne]
    exact ⟨_, rfl, fun _ => fl, fun u => absurd u nf⟩
  obtain ⟨S2, e2, h2⟩ := com_y hT h1 T2 g2
  obtain ⟨q3, p3, κ3, τ3, v3, x3, T3, hTr⟩ := hTr
  rw [if_neg (by decide), if_pos (by decide)] at hTr
  rcases hTr with ⟨g3, r3, rs3, rfl, hTr⟩ | hF
  rotate_left
  · have nf : ¬ f = 0 := by rcases hF with hF | hF <;> omega
    have hF2 : (tkG c τ3 q3 p3 = 33 ∧ f = 1) ∨ (tkG c τ3 q3 p3 = 32 ∧ f = 3) := by
      rcases hF with hF | ⟨hF | hF, hF2⟩
      · exact Or.inl hF
      · exact Or.inr ⟨hF, hF2⟩
      · exact absurd hF.2 (by unfold rfit; simp)
    obtain ⟨S3, e3, g3⟩ := tak_n hT h2 T3 (by omega)
    have ne := f13 hl (g := tkG c τ3 q3 p3)
    rw [f13e hF2] at g3 ne
    have fl := FN_L g3
    have f12 := (FL_f fl).1
    have ec := com_F (n := n) fl ne
    simp only [df_X13_longs_384, df_X13_longs_171, df_X13_longs_109, df_X13_longs_81, df_X13_longs_40, df_X13_longs_0, df_X13_longs, nb_b2, nb_b1, nb_let, eq_self, if_true, if_false, ↓reduceIte, show ((1 : Int32) = 0) = False from eq_false (by decide), show ((3 : Int32) = 1) = False from eq_false (by decide), show ((3 : Int32) = 2) = False from eq_false (by decide), show ((3 : Int32) = 4) = False from eq_false (by decide), show ((3 : Int32) = 5) = False from eq_false (by decide), show ((3 : Int32) = 6) = False from eq_false (by decide), show ((3 : Int32) = 10) = False from eq_false (by decide), show ((3 : Int32) = 11) = False from eq_false (by decide), show ((3 : Int32) = 30) = False from eq_false (by decide), bq_11_5_25, bq_4_0_7, bq_9_9_12, bq_4_4_6, bq_6_6_5, bq_8_7_3, bq_5_5_2, bq_5_4_11, bq_9_6_7, bq_2_2_6, bq_3_3_5, bq_5_3_10, bq_5_5_12, bq_4_2_4, bq_7_6_2, bq_5_2_9, bq_7_6_7, sJ_R, sB_R, sX_R, jB_R, tB_R, e1, SR_12 h1, e2, SR_12 h2, e3, f12, eq_false ne, ec]
    exact ⟨_, rfl, fun _ => fl, fun u => absurd u nf⟩
  obtain ⟨S3, e3, h3⟩ := tak_y hT h2 T3 g3
  obtain ⟨q4, p4, κ4, τ4, v4, x4, T4, hTr⟩ := hTr
  rw [if_pos (by decide)] at hTr
  rcases hTr with ⟨g4, hTr⟩ | hF
  rotate_left
  · have nf : ¬ f = 0 := by omega
    obtain ⟨S4, e4, g4⟩ := com_n hT h3 T4 hF.1
    rw [hF.2] at nf h0 ⊢
    have fl : FL e B (nI 1 + 16 * sI B 13) S4 := FN_L g4
    have ne : ¬ nI 1 + 16 * sI B 13 = 0 := flt_n hl 1 (by omega)
    have f12 := (FL_f fl).1
    simp only [df_X13_longs_384, df_X13_longs_171, df_X13_longs_109, df_X13_longs_81, df_X13_longs_40, df_X13_longs_0, df_X13_longs, nb_b2, nb_b1, nb_let, eq_self, if_true, if_false, ↓reduceIte, show ((1 : Int32) = 0) = False from eq_false (by decide), show ((3 : Int32) = 1) = False from eq_false (by decide), show ((3 : Int32) = 2) = False from eq_false (by decide), show ((3 : Int32) = 4) = False from eq_false (by decide), show ((3 : Int32) = 5) = False from eq_false (by decide), show ((3 : Int32) = 6) = False from eq_false (by decide), show ((3 : Int32) = 10) = False from eq_false (by decide), show ((3 : Int32) = 11) = False from eq_false (by decide), show ((3 : Int32) = 30) = False from eq_false (by decide), bq_11_5_25, bq_4_0_7, bq_9_9_12, bq_4_4_6, bq_6_6_5, bq_8_7_3, bq_5_5_2, bq_5_4_11, bq_9_6_7, bq_2_2_6, bq_3_3_5, bq_5_3_10, bq_5_5_12, bq_4_2_4, bq_7_6_2, bq_5_2_9, bq_7_6_7, sJ_R, sB_R, sX_R, jB_R, tB_R, e1, SR_12 h1, e2, SR_12 h2, e3, SR_12 h3, e4, f12, eq_false ne]
    exact ⟨_, rfl, fun _ => fl, fun u => absurd u nf⟩
  obtain ⟨S4, e4, h4⟩ := com_y hT h3 T4 g4
  obtain ⟨q5, p5, κ5, τ5, v5, x5, T5, hTr⟩ := hTr
  rw [if_neg (by decide), if_neg (by decide)] at hTr
  obtain ⟨ok, px, R, hTr⟩ := hTr
  rcases hTr with ⟨rfl, z1, z2, hTr⟩ | ⟨rfl, hF⟩
  rotate_left
  · have nf : ¬ f = 0 := by omega
    have ne : ¬ nI 1 + 16 * sI B 13 = 0 := flt_n hl 1 (by omega)
    obtain ⟨wv, S5, e5, fl⟩ := wit_n hV hY h4 R (0) 31 1 (by decide)
    have f12 : sI S5 12 = nI 1 + 16 * sI B 13 := (FL_f fl).1
    rw [hF] at nf h0 ⊢
    obtain ⟨W, w1, w2⟩ := wor_G (n := n) fl (m0_3 (h0 nf))
    simp only [df_X13_longs_384, df_X13_longs_171, df_X13_longs_109, df_X13_longs_81, df_X13_longs_40, df_X13_longs_0, df_X13_longs, nb_b2, nb_b1, nb_let, eq_self, if_true, if_false, ↓reduceIte, show ((1 : Int32) = 0) = False from eq_false (by decide), show ((3 : Int32) = 1) = False from eq_false (by decide), show ((3 : Int32) = 2) = False from eq_false (by decide), show ((3 : Int32) = 4) = False from eq_false (by decide), show ((3 : Int32) = 5) = False from eq_false (by decide), show ((3 : Int32) = 6) = False from eq_false (by decide), show ((3 : Int32) = 10) = False from eq_false (by decide), show ((3 : Int32) = 11) = False from eq_false (by decide), show ((3 : Int32) = 30) = False from eq_false (by decide), bq_11_5_25, bq_4_0_7, bq_9_9_12, bq_4_4_6, bq_6_6_5, bq_8_7_3, bq_5_5_2, bq_5_4_11, bq_9_6_7, bq_2_2_6, bq_3_3_5, bq_5_3_10, bq_5_5_12, bq_4_2_4, bq_7_6_2, bq_5_2_9, bq_7_6_7, sJ_R, sB_R, sX_R, jB_R, tB_R, e1, SR_12 h1, e2, SR_12 h2, e3, SR_12 h3, e4, SR_12 h4, e5, f12, eq_false ne, w1]
    exact ⟨_, rfl, fun _ => w2 _, fun u => absurd u nf⟩
  obtain ⟨wv, S5, ms, dv, e5, rn, h5, hpx⟩ := wit_y hV hY h4 R (0) 31 (k := 1) (by decide)
  have e5 : df_X13_within n (0) 31 1 S4 = some (wv, S5) := e5
  have h5 : SR B ct gr PA BY OU (wiF B ms dv (lfO 72 (vtO 72 (sI B 17) wv))) px S5 := h5
  by_cases zz : wiF B ms dv (lfO 72 (vtO 72 (sI B 17) wv)) = 0
  rotate_left
  · have fl : FL e B _ S5 := ⟨_, _, _, _, _, _, hpx, h5⟩
    have f12 := (FL_f fl).1
    have f0 := f0_2 h0 (wi_2 zz)
    obtain ⟨W, w1, w2⟩ := wor_G (n := n) fl (m2_3 (wi_2 zz))
    simp only [df_X13_longs_384, df_X13_longs_171, df_X13_longs_109, df_X13_longs_81, df_X13_longs_40, df_X13_longs_0, df_X13_longs, nb_b2, nb_b1, nb_let, eq_self, if_true, if_false, ↓reduceIte, show ((1 : Int32) = 0) = False from eq_false (by decide), show ((3 : Int32) = 1) = False from eq_false (by decide), show ((3 : Int32) = 2) = False from eq_false (by decide), show ((3 : Int32) = 4) = False from eq_false (by decide), show ((3 : Int32) = 5) = False from eq_false (by decide), show ((3 : Int32) = 6) = False from eq_false (by decide), show ((3 : Int32) = 10) = False from eq_false (by decide), show ((3 : Int32) = 11) = False from eq_false (by decide), show ((3 : Int32) = 30) = False from eq_false (by decide), bq_11_5_25, bq_4_0_7, bq_9_9_12, bq_4_4_6, bq_6_6_5, bq_8_7_3, bq_5_5_2, bq_5_4_11, bq_9_6_7, bq_2_2_6, bq_3_3_5, bq_5_3_10, bq_5_5_12, bq_4_2_4, bq_7_6_2, bq_5_2_9, bq_7_6_7, sJ_R, sB_R, sX_R, jB_R, tB_R, e1, SR_12 h1, e2, SR_12 h2, e3, SR_12 h3, e4, SR_12 h4, e5, f12, eq_false zz, w1]
    exact ⟨_, rfl, fun u => absurd f0 u, fun _ => ⟨wv, ms, dv, rn, fun u => absurd u zz, fun _ => w2 _⟩⟩
  have h5z := h5
  rw [zz] at h5z
  obtain ⟨rfl, rfl, rfl⟩ := hTr
  obtain ⟨W, w1, w2⟩ := wor_H (n := n) h5z (OKW_m hw (by omega))
  simp only [df_X13_longs_384, df_X13_longs_171, df_X13_longs_109, df_X13_longs_81, df_X13_longs_40, df_X13_longs_0, df_X13_longs, nb_b2, nb_b1, nb_let, eq_self, if_true, if_false, ↓reduceIte, show ((1 : Int32) = 0) = False from eq_false (by decide), show ((3 : Int32) = 1) = False from eq_false (by decide), show ((3 : Int32) = 2) = False from eq_false (by decide), show ((3 : Int32) = 4) = False from eq_false (by decide), show ((3 : Int32) = 5) = False from eq_false (by decide), show ((3 : Int32) = 6) = False from eq_false (by decide), show ((3 : Int32) = 10) = False from eq_false (by decide), show ((3 : Int32) = 11) = False from eq_false (by decide), show ((3 : Int32) = 30) = False from eq_false (by decide), bq_11_5_25, bq_4_0_7, bq_9_9_12, bq_4_4_6, bq_6_6_5, bq_8_7_3, bq_5_5_2, bq_5_4_11, bq_9_6_7, bq_2_2_6, bq_3_3_5, bq_5_3_10, bq_5_5_12, bq_4_2_4, bq_7_6_2, bq_5_2_9, bq_7_6_7, sJ_R, sB_R, sX_R, jB_R, tB_R, e1, SR_12 h1, e2, SR_12 h2, e3, SR_12 h3, e4, SR_12 h4, e5, SR_12 h5z, w1]
  refine ⟨_, rfl, fun u => absurd trivial u, fun _ => ⟨wv, ms, dv, rn, plo4 zz (w2 _) ?_⟩⟩
  simp only [RGB_0, or_0, RGB_s44, RGB_s72, RGB_r97, RGB_r100, rgb_97, rgb_100, lbo_72, vto_72]
  try simp only [Int32.or_assoc]
  try simp only [Int32.or_comm, or_lc]
  try simp only [Int32.or_assoc, Int32.or_comm, or_lc]
theorem shp_4 {n L e : Nat} {c : Nat → Nat} {BC B : St} {X : Nat → Nat} {nL st cu : Nat} (hV : RV n L e c BC B X nL cu) {ct : Nat} {gr : Bool} {PA BY OU : Nat → Int32} (hY : PY PA cu st) {p : Nat} {S : St} (h : SR B ct gr PA BY OU 0 p S) (hw : OKW B (ct + 4)) (w : Int32) {f p2 : Nat} {rs : List Nat} {m : Nat} {P : Nat → Tp} (h0 : ¬ f = 0 → sI B 15 = 0) (hTr : Tr n L e c BC [100, 44, 73, 40, 97, 41] p f p2 rs m P) : ∃ S' : St, df_X13_longs n 4 w S = some S' ∧ (¬ f = 0 → FL e B (nI f + 16 * sI B 13) S') ∧ (f = 0 → ∃ (z : Int32) (ms dv : Bool), rnF (VW c X e nL st B) P m = ([z], ms, dv) ∧ PLO e B ct gr PA BY OU p2 (wiF B ms dv (lfO 73 (vtO 73 (sI B 17) z))) (by4 (w ||| RGB [100, 44, 73, 40, 97, 41] rs ||| lbO 73 (vtO 73 (sI B 17) z))) S') := by
  have hT := hV.1
  have hl := hV.2.2.2.2.2.2.2
  obtain ⟨q1, p1, κ1, τ1, v1, x1, T1, hTr⟩ := hTr
  rw [if_neg (by decide), if_pos (by decide)] at hTr
  rcases hTr with ⟨g1, r1, rs1, rfl, hTr⟩ | hF
  rotate_left
  · have nf : ¬ f = 0 := by rcases hF with hF | hF <;> omega
    have hF2 : (tkG c τ1 q1 p1 = 33 ∧ f = 1) ∨ (tkG c τ1 q1 p1 = 32 ∧ f = 3) := by
      rcases hF with hF | ⟨hF | hF, hF2⟩
      · exact Or.inl hF
      · exact Or.inr ⟨hF, hF2⟩
      · exact absurd hF.2 (by unfold rfit; simp)
    obtain ⟨S1, e1, g1⟩ := tak_n hT h T1 (by omega)
    have ne := f13 hl (g := tkG c τ1 q1 p1)
    rw [f13e hF2] at g1 ne
    have fl := FN_L g1
    have f12 := (FL_f fl).1
    have ec := com_F (n := n) fl ne
    simp only [df_X13_longs_384, df_X13_longs_171, df_X13_longs_109, df_X13_longs_81, df_X13_longs_40, df_X13_longs_0, df_X13_longs, nb_b2, nb_b1, nb_let, eq_self, if_true, if_false, ↓reduceIte, show ((1 : Int32) = 0) = False from eq_false (by decide), show ((4 : Int32) = 1) = False from eq_false (by decide), show ((4 : Int32) = 2) = False from eq_false (by decide), show ((4 : Int32) = 3) = False from eq_false (by decide), show ((4 : Int32) = 5) = False from eq_false (by decide), show ((4 : Int32) = 6) = False from eq_false (by decide), show ((4 : Int32) = 10) = False from eq_false (by decide), show ((4 : Int32) = 11) = False from eq_false (by decide), show ((4 : Int32) = 30) = False from eq_false (by decide), bq_11_5_25, bq_4_0_7, bq_9_9_12, bq_4_4_6, bq_6_6_5, bq_8_7_3, bq_5_5_2, bq_5_4_11, bq_9_6_7, bq_2_2_6, bq_3_3_5, bq_5_3_10, bq_5_5_12, bq_4_2_4, bq_7_6_2, bq_5_2_9, bq_7_6_7, sJ_R, sB_R, sX_R, jB_R, tB_R, e1, f12, eq_false ne, ec]
    exact ⟨_, rfl, fun _ => fl, fun u => absurd u nf⟩
  obtain ⟨S1, e1, h1⟩ := tak_y hT h T1 g1
  obtain ⟨q2, p2, κ2, τ2, v2, x2, T2, hTr⟩ := hTr
  rw [if_pos (by decide)] at hTr
  rcases hTr with ⟨g2, hTr⟩ | hF
  rotate_left
  · have nf : ¬ f = 0 := by omega
    obtain ⟨S2, e2, g2⟩ := com_n hT h1 T2 hF.1
    rw [hF.2] at nf h0 ⊢
    have fl : FL e B (nI 1 + 16 * sI B 13) S2 := FN_L g2
    have ne : ¬ nI 1 + 16 * sI B 13 = 0 := flt_n hl 1 (by omega)
    have f12 := (FL_f fl).1
    simp only [df_X13_longs_384, df_X13_longs_171, df_X13_longs_109, df_X13_longs_81, df_X13_longs_40, df_X13_longs_0, df_X13_longs, nb_b2, nb_b1, nb_let, eq_self, if_true, if_false, ↓reduceIte, show ((1 : Int32) = 0) = False from eq_false (by decide), show ((4 : Int32) = 1) = False from eq_false (by decide), show ((4 : Int32) = 2) = False from eq_false (by decide), show ((4 : Int32) = 3) = False from eq_false (by decide), show ((4 : Int32) = 5) = False from eq_false (by decide), show ((4 : Int32) = 6) = False from eq_false (by decide), show ((4 : Int32) = 10) = False from eq_false (by decide), show ((4 : Int32) = 11) = False from eq_false (by decide), show ((4 : Int32) = 30) = False from eq_false (by decide), bq_11_5_25, bq_4_0_7, bq_9_9_12, bq_4_4_6, bq_6_6_5, bq_8_7_3, bq_5_5_2, bq_5_4_11, bq_9_6_7, bq_2_2_6, bq_3_3_5, bq_5_3_10, bq_5_5_12, bq_4_2_4, bq_7_6_2, bq_5_2_9, bq_7_6_7, sJ_R, sB_R, sX_R, jB_R, tB_R, e1, SR_12 h1, e2, f12, eq_false ne]
    exact ⟨_, rfl, fun _ => fl, fun u => absurd u nf⟩
  obtain ⟨S2, e2, h2⟩ := com_y hT h1 T2 g2
  obtain ⟨q3, p3, κ3, τ3, v3, x3, T3, hTr⟩ := hTr
  rw [if_neg (by decide), if_neg (by decide)] at hTr
  obtain ⟨ok, px, R, hTr⟩ := hTr
  rcases hTr with ⟨rfl, z1, z2, hTr⟩ | ⟨rfl, hF⟩
  rotate_left
  · have nf : ¬ f = 0 := by omega
    have ne : ¬ nI 1 + 16 * sI B 13 = 0 := flt_n hl 1 (by omega)
    obtain ⟨wv, S3, e3, fl⟩ := wit_n hV hY h2 R (-2048) 2047 1 (by decide)
    have f12 : sI S3 12 = nI 1 + 16 * sI B 13 := (FL_f fl).1
    rw [hF] at nf h0 ⊢
    obtain ⟨W, w1, w2⟩ := wor_G (n := n) fl (m0_3 (h0 nf))
    simp only [df_X13_longs_384, df_X13_longs_171, df_X13_longs_109, df_X13_longs_81, df_X13_longs_40, df_X13_longs_0, df_X13_longs, nb_b2, nb_b1, nb_let, eq_self, if_true, if_false, ↓reduceIte, show ((1 : Int32) = 0) = False from eq_false (by decide), show ((4 : Int32) = 1) = False from eq_false (by decide), show ((4 : Int32) = 2) = False from eq_false (by decide), show ((4 : Int32) = 3) = False from eq_false (by decide), show ((4 : Int32) = 5) = False from eq_false (by decide), show ((4 : Int32) = 6) = False from eq_false (by decide), show ((4 : Int32) = 10) = False from eq_false (by decide), show ((4 : Int32) = 11) = False from eq_false (by decide), show ((4 : Int32) = 30) = False from eq_false (by decide), bq_11_5_25, bq_4_0_7, bq_9_9_12, bq_4_4_6, bq_6_6_5, bq_8_7_3, bq_5_5_2, bq_5_4_11, bq_9_6_7, bq_2_2_6, bq_3_3_5, bq_5_3_10, bq_5_5_12, bq_4_2_4, bq_7_6_2, bq_5_2_9, bq_7_6_7, sJ_R, sB_R, sX_R, jB_R, tB_R, e1, SR_12 h1, e2, SR_12 h2, e3, f12, eq_false ne, w1]
    exact ⟨_, rfl, fun _ => w2 _, fun u => absurd u nf⟩
  obtain ⟨wv, S3, ms, dv, e3, rn, h3, hpx⟩ := wit_y hV hY h2 R (-2048) 2047 (k := 1) (by decide)
  have e3 : df_X13_within n (-2048) 2047 1 S2 = some (wv, S3) := e3
  have h3 : SR B ct gr PA BY OU (wiF B ms dv (lfO 73 (vtO 73 (sI B 17) wv))) px S3 := h3
  by_cases zz : wiF B ms dv (lfO 73 (vtO 73 (sI B 17) wv)) = 0
  rotate_left
  · have fl : FL e B _ S3 := ⟨_, _, _, _, _, _, hpx, h3⟩
    have f12 := (FL_f fl).1
    have f0 := f0_2 h0 (wi_2 zz)
    obtain ⟨W, w1, w2⟩ := wor_G (n := n) fl (m2_3 (wi_2 zz))
    simp only [df_X13_longs_384, df_X13_longs_171, df_X13_longs_109, df_X13_longs_81, df_X13_longs_40, df_X13_longs_0, df_X13_longs, nb_b2, nb_b1, nb_let, eq_self, if_true, if_false, ↓reduceIte, show ((1 : Int32) = 0) = False from eq_false (by decide), show ((4 : Int32) = 1) = False from eq_false (by decide), show ((4 : Int32) = 2) = False from eq_false (by decide), show ((4 : Int32) = 3) = False from eq_false (by decide), show ((4 : Int32) = 5) = False from eq_false (by decide), show ((4 : Int32) = 6) = False from eq_false (by decide), show ((4 : Int32) = 10) = False from eq_false (by decide), show ((4 : Int32) = 11) = False from eq_false (by decide), show ((4 : Int32) = 30) = False from eq_false (by decide), bq_11_5_25, bq_4_0_7, bq_9_9_12, bq_4_4_6, bq_6_6_5, bq_8_7_3, bq_5_5_2, bq_5_4_11, bq_9_6_7, bq_2_2_6, bq_3_3_5, bq_5_3_10, bq_5_5_12, bq_4_2_4, bq_7_6_2, bq_5_2_9, bq_7_6_7, sJ_R, sB_R, sX_R, jB_R, tB_R, e1, SR_12 h1, e2, SR_12 h2, e3, f12, eq_false zz, w1]
    exact ⟨_, rfl, fun u => absurd f0 u, fun _ => ⟨wv, ms, dv, rn, fun u => absurd u zz, fun _ => w2 _⟩⟩
  have h3z := h3
  rw [zz] at h3z
  obtain ⟨q4, p4, κ4, τ4, v4, x4, T4, hTr⟩ := hTr
  rw [if_pos (by decide)] at hTr
  rcases hTr with ⟨g4, hTr⟩ | hF
  rotate_left
  · have nf : ¬ f = 0 := by omega
    obtain ⟨r, S4, e4, fl⟩ := brk_1 hT h3z hl T4 hF.1
    rw [hF.2] at nf h0 ⊢
    obtain ⟨W, w1, w2⟩ := wor_G (n := n) fl (m0_3 (h0 nf))
    simp only [df_X13_longs_384, df_X13_longs_171, df_X13_longs_109, df_X13_longs_81, df_X13_longs_40, df_X13_longs_0, df_X13_longs, nb_b2, nb_b1, nb_let, eq_self, if_true, if_false, ↓reduceIte, show ((1 : Int32) = 0) = False from eq_false (by decide), show ((4 : Int32) = 1) = False from eq_false (by decide), show ((4 : Int32) = 2) = False from eq_false (by decide), show ((4 : Int32) = 3) = False from eq_false (by decide), show ((4 : Int32) = 5) = False from eq_false (by decide), show ((4 : Int32) = 6) = False from eq_false (by decide), show ((4 : Int32) = 10) = False from eq_false (by decide), show ((4 : Int32) = 11) = False from eq_false (by decide), show ((4 : Int32) = 30) = False from eq_false (by decide), bq_11_5_25, bq_4_0_7, bq_9_9_12, bq_4_4_6, bq_6_6_5, bq_8_7_3, bq_5_5_2, bq_5_4_11, bq_9_6_7, bq_2_2_6, bq_3_3_5, bq_5_3_10, bq_5_5_12, bq_4_2_4, bq_7_6_2, bq_5_2_9, bq_7_6_7, sJ_R, sB_R, sX_R, jB_R, tB_R, e1, SR_12 h1, e2, SR_12 h2, e3, SR_12 h3z, e4, w1]
    exact ⟨_, rfl, fun _ => w2 _, fun u => absurd u nf⟩
  obtain ⟨q5, p5, κ5, τ5, v5, x5, T5, hTr⟩ := hTr
  rw [if_neg (by decide), if_pos (by decide)] at hTr
  rcases hTr with ⟨g5, r5, rs5, rfl, hTr⟩ | hF
  rotate_left
  · have nf : ¬ f = 0 := by rcases hF with hF | hF <;> omega
    have hF2 : (tkG c τ5 q5 p5 = 33 ∧ f = 1) ∨ (tkG c τ5 q5 p5 = 32 ∧ f = 3) := by
      rcases hF with hF | ⟨hF | hF, hF2⟩
      · exact Or.inl hF
      · exact Or.inr ⟨hF, hF2⟩
      · exact absurd hF.2 (by unfold rfit; simp)
    obtain ⟨r, S5, e5, fl⟩ := brk_2 hT h3z hl T4 g4 T5 (by omega)
    rw [f13e hF2] at fl
    obtain ⟨W, w1, w2⟩ := wor_G (n := n) fl (m0_3 (h0 nf))
    simp only [df_X13_longs_384, df_X13_longs_171, df_X13_longs_109, df_X13_longs_81, df_X13_longs_40, df_X13_longs_0, df_X13_longs, nb_b2, nb_b1, nb_let, eq_self, if_true, if_false, ↓reduceIte, show ((1 : Int32) = 0) = False from eq_false (by decide), show ((4 : Int32) = 1) = False from eq_false (by decide), show ((4 : Int32) = 2) = False from eq_false (by decide), show ((4 : Int32) = 3) = False from eq_false (by decide), show ((4 : Int32) = 5) = False from eq_false (by decide), show ((4 : Int32) = 6) = False from eq_false (by decide), show ((4 : Int32) = 10) = False from eq_false (by decide), show ((4 : Int32) = 11) = False from eq_false (by decide), show ((4 : Int32) = 30) = False from eq_false (by decide), bq_11_5_25, bq_4_0_7, bq_9_9_12, bq_4_4_6, bq_6_6_5, bq_8_7_3, bq_5_5_2, bq_5_4_11, bq_9_6_7, bq_2_2_6, bq_3_3_5, bq_5_3_10, bq_5_5_12, bq_4_2_4, bq_7_6_2, bq_5_2_9, bq_7_6_7, sJ_R, sB_R, sX_R, jB_R, tB_R, e1, SR_12 h1, e2, SR_12 h2, e3, SR_12 h3z, e5, w1]
    exact ⟨_, rfl, fun _ => w2 _, fun u => absurd u nf⟩
  obtain ⟨q6, p6, κ6, τ6, v6, x6, T6, hTr⟩ := hTr
  rw [if_pos (by decide)] at hTr
  rcases hTr with ⟨g6, hTr⟩ | hF
  rotate_left
  · have nf : ¬ f = 0 := by omega
    obtain ⟨r, S6, e6, fl⟩ := brk_3 hT h3z hl T4 g4 T5 g5 T6 hF.1
    rw [hF.2] at nf h0 ⊢
    obtain ⟨W, w1, w2⟩ := wor_G (n := n) fl (m0_3 (h0 nf))
    simp only [df_X13_longs_384, df_X13_longs_171, df_X13_longs_109, df_X13_longs_81, df_X13_longs_40, df_X13_longs_0, df_X13_longs, nb_b2, nb_b1, nb_let, eq_self, if_true, if_false, ↓reduceIte, show ((1 : Int32) = 0) = False from eq_false (by decide), show ((4 : Int32) = 1) = False from eq_false (by decide), show ((4 : Int32) = 2) = False from eq_false (by decide), show ((4 : Int32) = 3) = False from eq_false (by decide), show ((4 : Int32) = 5) = False from eq_false (by decide), show ((4 : Int32) = 6) = False from eq_false (by decide), show ((4 : Int32) = 10) = False from eq_false (by decide), show ((4 : Int32) = 11) = False from eq_false (by decide), show ((4 : Int32) = 30) = False from eq_false (by decide), bq_11_5_25, bq_4_0_7, bq_9_9_12, bq_4_4_6, bq_6_6_5, bq_8_7_3, bq_5_5_2, bq_5_4_11, bq_9_6_7, bq_2_2_6, bq_3_3_5, bq_5_3_10, bq_5_5_12, bq_4_2_4, bq_7_6_2, bq_5_2_9, bq_7_6_7, sJ_R, sB_R, sX_R, jB_R, tB_R, e1, SR_12 h1, e2, SR_12 h2, e3, SR_12 h3z, e6, w1]
    exact ⟨_, rfl, fun _ => w2 _, fun u => absurd u nf⟩
  obtain ⟨S6, e6, h6⟩ := brk_y hT h3z T4 g4 T5 g5 T6 g6
  obtain ⟨rfl, rfl, rfl⟩ := hTr
  obtain ⟨W, w1, w2⟩ := wor_H (n := n) h6 (OKW_m hw (by omega))
  simp only [df_X13_longs_384, df_X13_longs_171, df_X13_longs_109, df_X13_longs_81, df_X13_longs_40, df_X13_longs_0, df_X13_longs, nb_b2, nb_b1, nb_let, eq_self, if_true, if_false, ↓reduceIte, show ((1 : Int32) = 0) = False from eq_false (by decide), show ((4 : Int32) = 1) = False from eq_false (by decide), show ((4 : Int32) = 2) = False from eq_false (by decide), show ((4 : Int32) = 3) = False from eq_false (by decide), show ((4 : Int32) = 5) = False from eq_false (by decide), show ((4 : Int32) = 6) = False from eq_false (by decide), show ((4 : Int32) = 10) = False from eq_false (by decide), show ((4 : Int32) = 11) = False from eq_false (by decide), show ((4 : Int32) = 30) = False from eq_false (by decide), bq_11_5_25, bq_4_0_7, bq_9_9_12, bq_4_4_6, bq_6_6_5, bq_8_7_3, bq_5_5_2, bq_5_4_11, bq_9_6_7, bq_2_2_6, bq_3_3_5, bq_5_3_10, bq_5_5_12, bq_4_2_4, bq_7_6_2, bq_5_2_9, bq_7_6_7, sJ_R, sB_R, sX_R, jB_R, tB_R, e1, SR_12 h1, e2, SR_12 h2, e3, SR_12 h3z, e6, SR_12 h6, w1]
  refine ⟨_, rfl, fun u => absurd trivial u, fun _ => ⟨wv, ms, dv, rn, plo4 zz (w2 _) ?_⟩⟩
  simp only [RGB_0, or_0, RGB_s40, RGB_s41, RGB_s44, RGB_s73, RGB_r97, RGB_r100, rgb_97, rgb_100, lbo_73, vto_73]
  try simp only [Int32.or_assoc]
  try simp only [Int32.or_comm, or_lc]
  try simp only [Int32.or_assoc, Int32.or_comm, or_lc]
theorem shp_5 {n L e : Nat} {c : Nat → Nat} {BC B : St} {X : Nat → Nat} {nL st cu : Nat} (hV : RV n L e c BC B X nL cu) {ct : Nat} {gr : Bool} {PA BY OU : Nat → Int32} (hY : PY PA cu st) {p : Nat} {S : St} (h : SR B ct gr PA BY OU 0 p S) (hw : OKW B (ct + 4)) (w : Int32) {f p2 : Nat} {rs : List Nat} {m : Nat} {P : Nat → Tp} (h0 : ¬ f = 0 → sI B 15 = 0) (hTr : Tr n L e c BC [98, 44, 83, 40, 97, 41] p f p2 rs m P) : ∃ S' : St, df_X13_longs n 5 w S = some S' ∧ (¬ f = 0 → FL e B (nI f + 16 * sI B 13) S') ∧ (f = 0 → ∃ (z : Int32) (ms dv : Bool), rnF (VW c X e nL st B) P m = ([z], ms, dv) ∧ PLO e B ct gr PA BY OU p2 (wiF B ms dv (lfO 83 (vtO 83 (sI B 17) z))) (by4 (w ||| RGB [98, 44, 83, 40, 97, 41] rs ||| lbO 83 (vtO 83 (sI B 17) z))) S') := by
  have hT := hV.1
  have hl := hV.2.2.2.2.2.2.2
  obtain ⟨q1, p1, κ1, τ1, v1, x1, T1, hTr⟩ := hTr
  rw [if_neg (by decide), if_pos (by decide)] at hTr
  rcases hTr with ⟨g1, r1, rs1, rfl, hTr⟩ | hF
  rotate_left
  · have nf : ¬ f = 0 := by rcases hF with hF | hF <;> omega
    have hF2 : (tkG c τ1 q1 p1 = 33 ∧ f = 1) ∨ (tkG c τ1 q1 p1 = 32 ∧ f = 3) := by
      rcases hF with hF | ⟨hF | hF, hF2⟩
      · exact Or.inl hF
      · exact Or.inr ⟨hF, hF2⟩
      · exact absurd hF.2 (by unfold rfit; simp)
    obtain ⟨S1, e1, g1⟩ := tak_n hT h T1 (by omega)
    have ne := f13 hl (g := tkG c τ1 q1 p1)
    rw [f13e hF2] at g1 ne
    have fl := FN_L g1
    have f12 := (FL_f fl).1
    have ec := com_F (n := n) fl ne
    simp only [df_X13_longs_384, df_X13_longs_171, df_X13_longs_109, df_X13_longs_81, df_X13_longs_40, df_X13_longs_0, df_X13_longs, nb_b2, nb_b1, nb_let, eq_self, if_true, if_false, ↓reduceIte, show ((1 : Int32) = 0) = False from eq_false (by decide), show ((5 : Int32) = 1) = False from eq_false (by decide), show ((5 : Int32) = 2) = False from eq_false (by decide), show ((5 : Int32) = 3) = False from eq_false (by decide), show ((5 : Int32) = 4) = False from eq_false (by decide), show ((5 : Int32) = 6) = False from eq_false (by decide), show ((5 : Int32) = 10) = False from eq_false (by decide), show ((5 : Int32) = 11) = False from eq_false (by decide), show ((5 : Int32) = 30) = False from eq_false (by decide), bq_11_5_25, bq_4_0_7, bq_9_9_12, bq_4_4_6, bq_6_6_5, bq_8_7_3, bq_5_5_2, bq_5_4_11, bq_9_6_7, bq_2_2_6, bq_3_3_5, bq_5_3_10, bq_5_5_12, bq_4_2_4, bq_7_6_2, bq_5_2_9, bq_7_6_7, sJ_R, sB_R, sX_R, jB_R, tB_R, e1, f12, eq_false ne, ec]
    exact ⟨_, rfl, fun _ => fl, fun u => absurd u nf⟩
  obtain ⟨S1, e1, h1⟩ := tak_y hT h T1 g1
  obtain ⟨q2, p2, κ2, τ2, v2, x2, T2, hTr⟩ := hTr
  rw [if_pos (by decide)] at hTr
  rcases hTr with ⟨g2, hTr⟩ | hF
  rotate_left
  · have nf : ¬ f = 0 := by omega
    obtain ⟨S2, e2, g2⟩ := com_n hT h1 T2 hF.1
    rw [hF.2] at nf h0 ⊢
    have fl : FL e B (nI 1 + 16 * sI B 13) S2 := FN_L g2
    have ne : ¬ nI 1 + 16 * sI B 13 = 0 := flt_n hl 1 (by omega)
    have f12 := (FL_f fl).1
    simp only [df_X13_longs_384, df_X13_longs_171, df_X13_longs_109, df_X13_longs_81, df_X13_longs_40, df_X13_longs_0, df_X13_longs, nb_b2, nb_b1, nb_let, eq_self, if_true, if_false, ↓reduceIte, show ((1 : Int32) = 0) = False from eq_false (by decide), show ((5 : Int32) = 1) = False from eq_false (by decide), show ((5 : Int32) = 2) = False from eq_false (by decide), show ((5 : Int32) = 3) = False from eq_false (by decide), show ((5 : Int32) = 4) = False from eq_false (by decide), show ((5 : Int32) = 6) = False from eq_false (by decide), show ((5 : Int32) = 10) = False from eq_false (by decide), show ((5 : Int32) = 11) = False from eq_false (by decide), show ((5 : Int32) = 30) = False from eq_false (by decide), bq_11_5_25, bq_4_0_7, bq_9_9_12, bq_4_4_6, bq_6_6_5, bq_8_7_3, bq_5_5_2, bq_5_4_11, bq_9_6_7, bq_2_2_6, bq_3_3_5, bq_5_3_10, bq_5_5_12, bq_4_2_4, bq_7_6_2, bq_5_2_9, bq_7_6_7, sJ_R, sB_R, sX_R, jB_R, tB_R, e1, SR_12 h1, e2, f12, eq_false ne]
    exact ⟨_, rfl, fun _ => fl, fun u => absurd u nf⟩
  obtain ⟨S2, e2, h2⟩ := com_y hT h1 T2 g2
  obtain ⟨q3, p3, κ3, τ3, v3, x3, T3, hTr⟩ := hTr
  rw [if_neg (by decide), if_neg (by decide)] at hTr
  obtain ⟨ok, px, R, hTr⟩ := hTr
  rcases hTr with ⟨rfl, z1, z2, hTr⟩ | ⟨rfl, hF⟩
  rotate_left
  · have nf : ¬ f = 0 := by omega
    have ne : ¬ nI 1 + 16 * sI B 13 = 0 := flt_n hl 1 (by omega)
    obtain ⟨wv, S3, e3, fl⟩ := wit_n hV hY h2 R (-2048) 2047 1 (by decide)
    have f12 : sI S3 12 = nI 1 + 16 * sI B 13 := (FL_f fl).1
    rw [hF] at nf h0 ⊢
    obtain ⟨W, w1, w2⟩ := wor_G (n := n) fl (m0_3 (h0 nf))
    simp only [df_X13_longs_384, df_X13_longs_171, df_X13_longs_109, df_X13_longs_81, df_X13_longs_40, df_X13_longs_0, df_X13_longs, nb_b2, nb_b1, nb_let, eq_self, if_true, if_false, ↓reduceIte, show ((1 : Int32) = 0) = False from eq_false (by decide), show ((5 : Int32) = 1) = False from eq_false (by decide), show ((5 : Int32) = 2) = False from eq_false (by decide), show ((5 : Int32) = 3) = False from eq_false (by decide), show ((5 : Int32) = 4) = False from eq_false (by decide), show ((5 : Int32) = 6) = False from eq_false (by decide), show ((5 : Int32) = 10) = False from eq_false (by decide), show ((5 : Int32) = 11) = False from eq_false (by decide), show ((5 : Int32) = 30) = False from eq_false (by decide), bq_11_5_25, bq_4_0_7, bq_9_9_12, bq_4_4_6, bq_6_6_5, bq_8_7_3, bq_5_5_2, bq_5_4_11, bq_9_6_7, bq_2_2_6, bq_3_3_5, bq_5_3_10, bq_5_5_12, bq_4_2_4, bq_7_6_2, bq_5_2_9, bq_7_6_7, sJ_R, sB_R, sX_R, jB_R, tB_R, e1, SR_12 h1, e2, SR_12 h2, e3, f12, eq_false ne, w1]
    exact ⟨_, rfl, fun _ => w2 _, fun u => absurd u nf⟩
  obtain ⟨wv, S3, ms, dv, e3, rn, h3, hpx⟩ := wit_y hV hY h2 R (-2048) 2047 (k := 1) (by decide)
  have e3 : df_X13_within n (-2048) 2047 1 S2 = some (wv, S3) := e3
  have h3 : SR B ct gr PA BY OU (wiF B ms dv (lfO 83 (vtO 83 (sI B 17) wv))) px S3 := h3
  by_cases zz : wiF B ms dv (lfO 83 (vtO 83 (sI B 17) wv)) = 0
  rotate_left
  · have fl : FL e B _ S3 := ⟨_, _, _, _, _, _, hpx, h3⟩
    have f12 := (FL_f fl).1
    have f0 := f0_2 h0 (wi_2 zz)
    obtain ⟨W, w1, w2⟩ := wor_G (n := n) fl (m2_3 (wi_2 zz))
    simp only [df_X13_longs_384, df_X13_longs_171, df_X13_longs_109, df_X13_longs_81, df_X13_longs_40, df_X13_longs_0, df_X13_longs, nb_b2, nb_b1, nb_let, eq_self, if_true, if_false, ↓reduceIte, show ((1 : Int32) = 0) = False from eq_false (by decide), show ((5 : Int32) = 1) = False from eq_false (by decide), show ((5 : Int32) = 2) = False from eq_false (by decide), show ((5 : Int32) = 3) = False from eq_false (by decide), show ((5 : Int32) = 4) = False from eq_false (by decide), show ((5 : Int32) = 6) = False from eq_false (by decide), show ((5 : Int32) = 10) = False from eq_false (by decide), show ((5 : Int32) = 11) = False from eq_false (by decide), show ((5 : Int32) = 30) = False from eq_false (by decide), bq_11_5_25, bq_4_0_7, bq_9_9_12, bq_4_4_6, bq_6_6_5, bq_8_7_3, bq_5_5_2, bq_5_4_11, bq_9_6_7, bq_2_2_6, bq_3_3_5, bq_5_3_10, bq_5_5_12, bq_4_2_4, bq_7_6_2, bq_5_2_9, bq_7_6_7, sJ_R, sB_R, sX_R, jB_R, tB_R, e1, SR_12 h1, e2, SR_12 h2, e3, f12, eq_false zz, w1]
    exact ⟨_, rfl, fun u => absurd f0 u, fun _ => ⟨wv, ms, dv, rn, fun u => absurd u zz, fun _ => w2 _⟩⟩
  have h3z := h3
  rw [zz] at h3z
  obtain ⟨q4, p4, κ4, τ4, v4, x4, T4, hTr⟩ := hTr
  rw [if_pos (by decide)] at hTr
  rcases hTr with ⟨g4, hTr⟩ | hF
  rotate_left
  · have nf : ¬ f = 0 := by omega
    obtain ⟨r, S4, e4, fl⟩ := brk_1 hT h3z hl T4 hF.1
    rw [hF.2] at nf h0 ⊢
    obtain ⟨W, w1, w2⟩ := wor_G (n := n) fl (m0_3 (h0 nf))
    simp only [df_X13_longs_384, df_X13_longs_171, df_X13_longs_109, df_X13_longs_81, df_X13_longs_40, df_X13_longs_0, df_X13_longs, nb_b2, nb_b1, nb_let, eq_self, if_true, if_false, ↓reduceIte, show ((1 : Int32) = 0) = False from eq_false (by decide), show ((5 : Int32) = 1) = False from eq_false (by decide), show ((5 : Int32) = 2) = False from eq_false (by decide), show ((5 : Int32) = 3) = False from eq_false (by decide), show ((5 : Int32) = 4) = False from eq_false (by decide), show ((5 : Int32) = 6) = False from eq_false (by decide), show ((5 : Int32) = 10) = False from eq_false (by decide), show ((5 : Int32) = 11) = False from eq_false (by decide), show ((5 : Int32) = 30) = False from eq_false (by decide), bq_11_5_25, bq_4_0_7, bq_9_9_12, bq_4_4_6, bq_6_6_5, bq_8_7_3, bq_5_5_2, bq_5_4_11, bq_9_6_7, bq_2_2_6, bq_3_3_5, bq_5_3_10, bq_5_5_12, bq_4_2_4, bq_7_6_2, bq_5_2_9, bq_7_6_7, sJ_R, sB_R, sX_R, jB_R, tB_R, e1, SR_12 h1, e2, SR_12 h2, e3, SR_12 h3z, e4, w1]
    exact ⟨_, rfl, fun _ => w2 _, fun u => absurd u nf⟩
  obtain ⟨q5, p5, κ5, τ5, v5, x5, T5, hTr⟩ := hTr
  rw [if_neg (by decide), if_pos (by decide)] at hTr
  rcases hTr with ⟨g5, r5, rs5, rfl, hTr⟩ | hF
  rotate_left
  · have nf : ¬ f = 0 := by rcases hF with hF | hF <;> omega
    have hF2 : (tkG c τ5 q5 p5 = 33 ∧ f = 1) ∨ (tkG c τ5 q5 p5 = 32 ∧ f = 3) := by
      rcases hF with hF | ⟨hF | hF, hF2⟩
      · exact Or.inl hF
      · exact Or.inr ⟨hF, hF2⟩
      · exact absurd hF.2 (by unfold rfit; simp)
    obtain ⟨r, S5, e5, fl⟩ := brk_2 hT h3z hl T4 g4 T5 (by omega)
    rw [f13e hF2] at fl
    obtain ⟨W, w1, w2⟩ := wor_G (n := n) fl (m0_3 (h0 nf))
    simp only [df_X13_longs_384, df_X13_longs_171, df_X13_longs_109, df_X13_longs_81, df_X13_longs_40, df_X13_longs_0, df_X13_longs, nb_b2, nb_b1, nb_let, eq_self, if_true, if_false, ↓reduceIte, show ((1 : Int32) = 0) = False from eq_false (by decide), show ((5 : Int32) = 1) = False from eq_false (by decide), show ((5 : Int32) = 2) = False from eq_false (by decide), show ((5 : Int32) = 3) = False from eq_false (by decide), show ((5 : Int32) = 4) = False from eq_false (by decide), show ((5 : Int32) = 6) = False from eq_false (by decide), show ((5 : Int32) = 10) = False from eq_false (by decide), show ((5 : Int32) = 11) = False from eq_false (by decide), show ((5 : Int32) = 30) = False from eq_false (by decide), bq_11_5_25, bq_4_0_7, bq_9_9_12, bq_4_4_6, bq_6_6_5, bq_8_7_3, bq_5_5_2, bq_5_4_11, bq_9_6_7, bq_2_2_6, bq_3_3_5, bq_5_3_10, bq_5_5_12, bq_4_2_4, bq_7_6_2, bq_5_2_9, bq_7_6_7, sJ_R, sB_R, sX_R, jB_R, tB_R, e1, SR_12 h1, e2, SR_12 h2, e3, SR_12 h3z, e5, w1]
    exact ⟨_, rfl, fun _ => w2 _, fun u => absurd u nf⟩
  obtain ⟨q6, p6, κ6, τ6, v6, x6, T6, hTr⟩ := hTr
  rw [if_pos (by decide)] at hTr
  rcases hTr with ⟨g6, hTr⟩ | hF
  rotate_left
  · have nf : ¬ f = 0 := by omega
    obtain ⟨r, S6, e6, fl⟩ := brk_3 hT h3z hl T4 g4 T5 g5 T6 hF.1
    rw [hF.2] at nf h0 ⊢
    obtain ⟨W, w1, w2⟩ := wor_G (n := n) fl (m0_3 (h0 nf))
    simp only [df_X13_longs_384, df_X13_longs_171, df_X13_longs_109, df_X13_longs_81, df_X13_longs_40, df_X13_longs_0, df_X13_longs, nb_b2, nb_b1, nb_let, eq_self, if_true, if_false, ↓reduceIte, show ((1 : Int32) = 0) = False from eq_false (by decide), show ((5 : Int32) = 1) = False from eq_false (by decide), show ((5 : Int32) = 2) = False from eq_false (by decide), show ((5 : Int32) = 3) = False from eq_false (by decide), show ((5 : Int32) = 4) = False from eq_false (by decide), show ((5 : Int32) = 6) = False from eq_false (by decide), show ((5 : Int32) = 10) = False from eq_false (by decide), show ((5 : Int32) = 11) = False from eq_false (by decide), show ((5 : Int32) = 30) = False from eq_false (by decide), bq_11_5_25, bq_4_0_7, bq_9_9_12, bq_4_4_6, bq_6_6_5, bq_8_7_3, bq_5_5_2, bq_5_4_11, bq_9_6_7, bq_2_2_6, bq_3_3_5, bq_5_3_10, bq_5_5_12, bq_4_2_4, bq_7_6_2, bq_5_2_9, bq_7_6_7, sJ_R, sB_R, sX_R, jB_R, tB_R, e1, SR_12 h1, e2, SR_12 h2, e3, SR_12 h3z, e6, w1]
    exact ⟨_, rfl, fun _ => w2 _, fun u => absurd u nf⟩
  obtain ⟨S6, e6, h6⟩ := brk_y hT h3z T4 g4 T5 g5 T6 g6
  obtain ⟨rfl, rfl, rfl⟩ := hTr
  obtain ⟨W, w1, w2⟩ := wor_H (n := n) h6 (OKW_m hw (by omega))
  simp only [df_X13_longs_384, df_X13_longs_171, df_X13_longs_109, df_X13_longs_81, df_X13_longs_40, df_X13_longs_0, df_X13_longs, nb_b2, nb_b1, nb_let, eq_self, if_true, if_false, ↓reduceIte, show ((1 : Int32) = 0) = False from eq_false (by decide), show ((5 : Int32) = 1) = False from eq_false (by decide), show ((5 : Int32) = 2) = False from eq_false (by decide), show ((5 : Int32) = 3) = False from eq_false (by decide), show ((5 : Int32) = 4) = False from eq_false (by decide), show ((5 : Int32) = 6) = False from eq_false (by decide), show ((5 : Int32) = 10) = False from eq_false (by decide), show ((5 : Int32) = 11) = False from eq_false (by decide), show ((5 : Int32) = 30) = False from eq_false (by decide), bq_11_5_25, bq_4_0_7, bq_9_9_12, bq_4_4_6, bq_6_6_5, bq_8_7_3, bq_5_5_2, bq_5_4_11, bq_9_6_7, bq_2_2_6, bq_3_3_5, bq_5_3_10, bq_5_5_12, bq_4_2_4, bq_7_6_2, bq_5_2_9, bq_7_6_7, sJ_R, sB_R, sX_R, jB_R, tB_R, e1, SR_12 h1, e2, SR_12 h2, e3, SR_12 h3z, e6, SR_12 h6, w1]
  refine ⟨_, rfl, fun u => absurd trivial u, fun _ => ⟨wv, ms, dv, rn, plo4 zz (w2 _) ?_⟩⟩
  simp only [RGB_0, or_0, RGB_s40, RGB_s41, RGB_s44, RGB_s83, RGB_r97, RGB_r98, rgb_97, rgb_98, lbo_83, vto_83]
  try simp only [Int32.or_assoc]
  try simp only [Int32.or_comm, or_lc]
  try simp only [Int32.or_assoc, Int32.or_comm, or_lc]
theorem shp_6 {n L e : Nat} {c : Nat → Nat} {BC B : St} {X : Nat → Nat} {nL st cu : Nat} (hV : RV n L e c BC B X nL cu) {ct : Nat} {gr : Bool} {PA BY OU : Nat → Int32} (hY : PY PA cu st) {p : Nat} {S : St} (h : SR B ct gr PA BY OU 0 p S) (hw : OKW B (ct + 4)) (w : Int32) {f p2 : Nat} {rs : List Nat} {m : Nat} {P : Nat → Tp} (h0 : ¬ f = 0 → sI B 15 = 0) (hTr : Tr n L e c BC [100, 44, 85] p f p2 rs m P) : ∃ S' : St, df_X13_longs n 6 w S = some S' ∧ (¬ f = 0 → FL e B (nI f + 16 * sI B 13) S') ∧ (f = 0 → ∃ (z : Int32) (ms dv : Bool), rnF (VW c X e nL st B) P m = ([z], ms, dv) ∧ PLO e B ct gr PA BY OU p2 (wiF B ms dv (lfO 85 (vtO 85 (sI B 17) z))) (by4 (w ||| RGB [100, 44, 85] rs ||| lbO 85 (vtO 85 (sI B 17) z))) S') := by
  have hT := hV.1
  have hl := hV.2.2.2.2.2.2.2
  obtain ⟨q1, p1, κ1, τ1, v1, x1, T1, hTr⟩ := hTr
  rw [if_neg (by decide), if_pos (by decide)] at hTr
  rcases hTr with ⟨g1, r1, rs1, rfl, hTr⟩ | hF
  rotate_left
  · have nf : ¬ f = 0 := by rcases hF with hF | hF <;> omega
    have hF2 : (tkG c τ1 q1 p1 = 33 ∧ f = 1) ∨ (tkG c τ1 q1 p1 = 32 ∧ f = 3) := by
      rcases hF with hF | ⟨hF | hF, hF2⟩
      · exact Or.inl hF
      · exact Or.inr ⟨hF, hF2⟩
      · exact absurd hF.2 (by unfold rfit; simp)
    obtain ⟨S1, e1, g1⟩ := tak_n hT h T1 (by omega)
    have ne := f13 hl (g := tkG c τ1 q1 p1)
    rw [f13e hF2] at g1 ne
    have fl := FN_L g1
    have f12 := (FL_f fl).1
    have ec := com_F (n := n) fl ne
    simp only [df_X13_longs_384, df_X13_longs_171, df_X13_longs_109, df_X13_longs_81, df_X13_longs_40, df_X13_longs_0, df_X13_longs, nb_b2, nb_b1, nb_let, eq_self, if_true, if_false, ↓reduceIte, show ((1 : Int32) = 0) = False from eq_false (by decide), show ((6 : Int32) = 1) = False from eq_false (by decide), show ((6 : Int32) = 2) = False from eq_false (by decide), show ((6 : Int32) = 3) = False from eq_false (by decide), show ((6 : Int32) = 4) = False from eq_false (by decide), show ((6 : Int32) = 5) = False from eq_false (by decide), show ((6 : Int32) = 10) = False from eq_false (by decide), show ((6 : Int32) = 11) = False from eq_false (by decide), show ((6 : Int32) = 30) = False from eq_false (by decide), bq_11_5_25, bq_4_0_7, bq_9_9_12, bq_4_4_6, bq_6_6_5, bq_8_7_3, bq_5_5_2, bq_5_4_11, bq_9_6_7, bq_2_2_6, bq_3_3_5, bq_5_3_10, bq_5_5_12, bq_4_2_4, bq_7_6_2, bq_5_2_9, bq_7_6_7, sJ_R, sB_R, sX_R, jB_R, tB_R, e1, f12, eq_false ne, ec]
    exact ⟨_, rfl, fun _ => fl, fun u => absurd u nf⟩
  obtain ⟨S1, e1, h1⟩ := tak_y hT h T1 g1
  obtain ⟨q2, p2, κ2, τ2, v2, x2, T2, hTr⟩ := hTr
  rw [if_pos (by decide)] at hTr
  rcases hTr with ⟨g2, hTr⟩ | hF
  rotate_left
  · have nf : ¬ f = 0 := by omega
    obtain ⟨S2, e2, g2⟩ := com_n hT h1 T2 hF.1
    rw [hF.2] at nf h0 ⊢
    have fl : FL e B (nI 1 + 16 * sI B 13) S2 := FN_L g2
    have ne : ¬ nI 1 + 16 * sI B 13 = 0 := flt_n hl 1 (by omega)
    have f12 := (FL_f fl).1
    simp only [df_X13_longs_384, df_X13_longs_171, df_X13_longs_109, df_X13_longs_81, df_X13_longs_40, df_X13_longs_0, df_X13_longs, nb_b2, nb_b1, nb_let, eq_self, if_true, if_false, ↓reduceIte, show ((1 : Int32) = 0) = False from eq_false (by decide), show ((6 : Int32) = 1) = False from eq_false (by decide), show ((6 : Int32) = 2) = False from eq_false (by decide), show ((6 : Int32) = 3) = False from eq_false (by decide), show ((6 : Int32) = 4) = False from eq_false (by decide), show ((6 : Int32) = 5) = False from eq_false (by decide), show ((6 : Int32) = 10) = False from eq_false (by decide), show ((6 : Int32) = 11) = False from eq_false (by decide), show ((6 : Int32) = 30) = False from eq_false (by decide), bq_11_5_25, bq_4_0_7, bq_9_9_12, bq_4_4_6, bq_6_6_5, bq_8_7_3, bq_5_5_2, bq_5_4_11, bq_9_6_7, bq_2_2_6, bq_3_3_5, bq_5_3_10, bq_5_5_12, bq_4_2_4, bq_7_6_2, bq_5_2_9, bq_7_6_7, sJ_R, sB_R, sX_R, jB_R, tB_R, e1, SR_12 h1, e2, f12, eq_false ne]
    exact ⟨_, rfl, fun _ => fl, fun u => absurd u nf⟩
  obtain ⟨S2, e2, h2⟩ := com_y hT h1 T2 g2
  obtain ⟨q3, p3, κ3, τ3, v3, x3, T3, hTr⟩ := hTr
  rw [if_neg (by decide), if_neg (by decide)] at hTr
  obtain ⟨ok, px, R, hTr⟩ := hTr
  rcases hTr with ⟨rfl, z1, z2, hTr⟩ | ⟨rfl, hF⟩
  rotate_left
  · have nf : ¬ f = 0 := by omega
    have ne : ¬ nI 1 + 16 * sI B 13 = 0 := flt_n hl 1 (by omega)
    obtain ⟨wv, S3, e3, fl⟩ := wit_n hV hY h2 R (0) 1048575 1 (by decide)
    have f12 : sI S3 12 = nI 1 + 16 * sI B 13 := (FL_f fl).1
    rw [hF] at nf h0 ⊢
    obtain ⟨W, w1, w2⟩ := wor_G (n := n) fl (m0_3 (h0 nf))
    simp only [df_X13_longs_384, df_X13_longs_171, df_X13_longs_109, df_X13_longs_81, df_X13_longs_40, df_X13_longs_0, df_X13_longs, nb_b2, nb_b1, nb_let, eq_self, if_true, if_false, ↓reduceIte, show ((1 : Int32) = 0) = False from eq_false (by decide), show ((6 : Int32) = 1) = False from eq_false (by decide), show ((6 : Int32) = 2) = False from eq_false (by decide), show ((6 : Int32) = 3) = False from eq_false (by decide), show ((6 : Int32) = 4) = False from eq_false (by decide), show ((6 : Int32) = 5) = False from eq_false (by decide), show ((6 : Int32) = 10) = False from eq_false (by decide), show ((6 : Int32) = 11) = False from eq_false (by decide), show ((6 : Int32) = 30) = False from eq_false (by decide), bq_11_5_25, bq_4_0_7, bq_9_9_12, bq_4_4_6, bq_6_6_5, bq_8_7_3, bq_5_5_2, bq_5_4_11, bq_9_6_7, bq_2_2_6, bq_3_3_5, bq_5_3_10, bq_5_5_12, bq_4_2_4, bq_7_6_2, bq_5_2_9, bq_7_6_7, sJ_R, sB_R, sX_R, jB_R, tB_R, e1, SR_12 h1, e2, SR_12 h2, e3, f12, eq_false ne, w1]
    exact ⟨_, rfl, fun _ => w2 _, fun u => absurd u nf⟩
  obtain ⟨wv, S3, ms, dv, e3, rn, h3, hpx⟩ := wit_y hV hY h2 R (0) 1048575 (k := 1) (by decide)
  have e3 : df_X13_within n (0) 1048575 1 S2 = some (wv, S3) := e3
  have h3 : SR B ct gr PA BY OU (wiF B ms dv (lfO 85 (vtO 85 (sI B 17) wv))) px S3 := h3
  by_cases zz : wiF B ms dv (lfO 85 (vtO 85 (sI B 17) wv)) = 0
  rotate_left
  · have fl : FL e B _ S3 := ⟨_, _, _, _, _, _, hpx, h3⟩
    have f12 := (FL_f fl).1
    have f0 := f0_2 h0 (wi_2 zz)
    obtain ⟨W, w1, w2⟩ := wor_G (n := n) fl (m2_3 (wi_2 zz))
    simp only [df_X13_longs_384, df_X13_longs_171, df_X13_longs_109, df_X13_longs_81, df_X13_longs_40, df_X13_longs_0, df_X13_longs, nb_b2, nb_b1, nb_let, eq_self, if_true, if_false, ↓reduceIte, show ((1 : Int32) = 0) = False from eq_false (by decide), show ((6 : Int32) = 1) = False from eq_false (by decide), show ((6 : Int32) = 2) = False from eq_false (by decide), show ((6 : Int32) = 3) = False from eq_false (by decide), show ((6 : Int32) = 4) = False from eq_false (by decide), show ((6 : Int32) = 5) = False from eq_false (by decide), show ((6 : Int32) = 10) = False from eq_false (by decide), show ((6 : Int32) = 11) = False from eq_false (by decide), show ((6 : Int32) = 30) = False from eq_false (by decide), bq_11_5_25, bq_4_0_7, bq_9_9_12, bq_4_4_6, bq_6_6_5, bq_8_7_3, bq_5_5_2, bq_5_4_11, bq_9_6_7, bq_2_2_6, bq_3_3_5, bq_5_3_10, bq_5_5_12, bq_4_2_4, bq_7_6_2, bq_5_2_9, bq_7_6_7, sJ_R, sB_R, sX_R, jB_R, tB_R, e1, SR_12 h1, e2, SR_12 h2, e3, f12, eq_false zz, w1]
    exact ⟨_, rfl, fun u => absurd f0 u, fun _ => ⟨wv, ms, dv, rn, fun u => absurd u zz, fun _ => w2 _⟩⟩
  have h3z := h3
  rw [zz] at h3z
  obtain ⟨rfl, rfl, rfl⟩ := hTr
  obtain ⟨W, w1, w2⟩ := wor_H (n := n) h3z (OKW_m hw (by omega))
  simp only [df_X13_longs_384, df_X13_longs_171, df_X13_longs_109, df_X13_longs_81, df_X13_longs_40, df_X13_longs_0, df_X13_longs, nb_b2, nb_b1, nb_let, eq_self, if_true, if_false, ↓reduceIte, show ((1 : Int32) = 0) = False from eq_false (by decide), show ((6 : Int32) = 1) = False from eq_false (by decide), show ((6 : Int32) = 2) = False from eq_false (by decide), show ((6 : Int32) = 3) = False from eq_false (by decide), show ((6 : Int32) = 4) = False from eq_false (by decide), show ((6 : Int32) = 5) = False from eq_false (by decide), show ((6 : Int32) = 10) = False from eq_false (by decide), show ((6 : Int32) = 11) = False from eq_false (by decide), show ((6 : Int32) = 30) = False from eq_false (by decide), bq_11_5_25, bq_4_0_7, bq_9_9_12, bq_4_4_6, bq_6_6_5, bq_8_7_3, bq_5_5_2, bq_5_4_11, bq_9_6_7, bq_2_2_6, bq_3_3_5, bq_5_3_10, bq_5_5_12, bq_4_2_4, bq_7_6_2, bq_5_2_9, bq_7_6_7, sJ_R, sB_R, sX_R, jB_R, tB_R, e1, SR_12 h1, e2, SR_12 h2, e3, SR_12 h3z, w1]
  refine ⟨_, rfl, fun u => absurd trivial u, fun _ => ⟨wv, ms, dv, rn, plo4 zz (w2 _) ?_⟩⟩
  simp only [RGB_0, or_0, RGB_s44, RGB_s85, RGB_r100, rgb_100, lbo_85, vto_85]
  try simp only [Int32.or_assoc]
  try simp only [Int32.or_comm, or_lc]
  try simp only [Int32.or_assoc, Int32.or_comm, or_lc]
theorem shp_9 {n L e : Nat} {c : Nat → Nat} {BC B : St} {X : Nat → Nat} {nL st cu : Nat} (hV : RV n L e c BC B X nL cu) {ct : Nat} {gr : Bool} {PA BY OU : Nat → Int32} (hY : PY PA cu st) {p : Nat} {S : St} (h : SR B ct gr PA BY OU 0 p S) (hw : OKW B (ct + 4)) (w : Int32) {f p2 : Nat} {rs : List Nat} {m : Nat} {P : Nat → Tp} (h0 : ¬ f = 0 → sI B 15 = 0) (hTr : Tr n L e c BC [100, 44, 98, 44, 40, 97, 41] p f p2 rs m P) : ∃ S' : St, df_X13_longs n 9 w S = some S' ∧ (¬ f = 0 → FL e B (nI f + 16 * sI B 13) S') ∧ (f = 0 → PLO e B ct gr PA BY OU p2 0 (by4 (w ||| RGB [100, 44, 98, 44, 40, 97, 41] rs)) S') := by
  have hT := hV.1
  have hl := hV.2.2.2.2.2.2.2
  obtain ⟨q1, p1, κ1, τ1, v1, x1, T1, hTr⟩ := hTr
  rw [if_neg (by decide), if_pos (by decide)] at hTr
  rcases hTr with ⟨g1, r1, rs1, rfl, hTr⟩ | hF
  rotate_left
  · have nf : ¬ f = 0 := by rcases hF with hF | hF <;> omega
    have hF2 : (tkG c τ1 q1 p1 = 33 ∧ f = 1) ∨ (tkG c τ1 q1 p1 = 32 ∧ f = 3) := by
      rcases hF with hF | ⟨hF | hF, hF2⟩
      · exact Or.inl hF
      · exact Or.inr ⟨hF, hF2⟩
      · exact absurd hF.2 (by unfold rfit; simp)
    obtain ⟨S1, e1, g1⟩ := tak_n hT h T1 (by omega)
    have ne := f13 hl (g := tkG c τ1 q1 p1)
    rw [f13e hF2] at g1 ne
    have fl := FN_L g1
    have f12 := (FL_f fl).1
    have ec := com_F (n := n) fl ne
    simp only [df_X13_longs_384, df_X13_longs_171, df_X13_longs_109, df_X13_longs_81, df_X13_longs_40, df_X13_longs_0, df_X13_longs, nb_b2, nb_b1, nb_let, eq_self, if_true, if_false, ↓reduceIte, show ((1 : Int32) = 0) = False from eq_false (by decide), show ((9 : Int32) = 1) = False from eq_false (by decide), show ((9 : Int32) = 2) = False from eq_false (by decide), show ((9 : Int32) = 3) = False from eq_false (by decide), show ((9 : Int32) = 4) = False from eq_false (by decide), show ((9 : Int32) = 5) = False from eq_false (by decide), show ((9 : Int32) = 6) = False from eq_false (by decide), show ((9 : Int32) = 10) = False from eq_false (by decide), show ((9 : Int32) = 11) = False from eq_false (by decide), show ((9 : Int32) = 30) = False from eq_false (by decide), bq_11_5_25, bq_4_0_7, bq_9_9_12, bq_4_4_6, bq_6_6_5, bq_8_7_3, bq_5_5_2, bq_5_4_11, bq_9_6_7, bq_2_2_6, bq_3_3_5, bq_5_3_10, bq_5_5_12, bq_4_2_4, bq_7_6_2, bq_5_2_9, bq_7_6_7, sJ_R, sB_R, sX_R, jB_R, tB_R, e1, f12, eq_false ne, ec]
    exact ⟨_, rfl, fun _ => fl, fun u => absurd u nf⟩
  obtain ⟨S1, e1, h1⟩ := tak_y hT h T1 g1
  obtain ⟨q2, p2, κ2, τ2, v2, x2, T2, hTr⟩ := hTr
  rw [if_pos (by decide)] at hTr
  rcases hTr with ⟨g2, hTr⟩ | hF
  rotate_left
  · have nf : ¬ f = 0 := by omega
    obtain ⟨S2, e2, g2⟩ := com_n hT h1 T2 hF.1
    rw [hF.2] at nf h0 ⊢
    have fl : FL e B (nI 1 + 16 * sI B 13) S2 := FN_L g2
    have ne : ¬ nI 1 + 16 * sI B 13 = 0 := flt_n hl 1 (by omega)
    have f12 := (FL_f fl).1
    simp only [df_X13_longs_384, df_X13_longs_171, df_X13_longs_109, df_X13_longs_81, df_X13_longs_40, df_X13_longs_0, df_X13_longs, nb_b2, nb_b1, nb_let, eq_self, if_true, if_false, ↓reduceIte, show ((1 : Int32) = 0) = False from eq_false (by decide), show ((9 : Int32) = 1) = False from eq_false (by decide), show ((9 : Int32) = 2) = False from eq_false (by decide), show ((9 : Int32) = 3) = False from eq_false (by decide), show ((9 : Int32) = 4) = False from eq_false (by decide), show ((9 : Int32) = 5) = False from eq_false (by decide), show ((9 : Int32) = 6) = False from eq_false (by decide), show ((9 : Int32) = 10) = False from eq_false (by decide), show ((9 : Int32) = 11) = False from eq_false (by decide), show ((9 : Int32) = 30) = False from eq_false (by decide), bq_11_5_25, bq_4_0_7, bq_9_9_12, bq_4_4_6, bq_6_6_5, bq_8_7_3, bq_5_5_2, bq_5_4_11, bq_9_6_7, bq_2_2_6, bq_3_3_5, bq_5_3_10, bq_5_5_12, bq_4_2_4, bq_7_6_2, bq_5_2_9, bq_7_6_7, sJ_R, sB_R, sX_R, jB_R, tB_R, e1, SR_12 h1, e2, f12, eq_false ne]
    exact ⟨_, rfl, fun _ => fl, fun u => absurd u nf⟩
  obtain ⟨S2, e2, h2⟩ := com_y hT h1 T2 g2
  obtain ⟨q3, p3, κ3, τ3, v3, x3, T3, hTr⟩ := hTr
  rw [if_neg (by decide), if_pos (by decide)] at hTr
  rcases hTr with ⟨g3, r3, rs3, rfl, hTr⟩ | hF
  rotate_left
  · have nf : ¬ f = 0 := by rcases hF with hF | hF <;> omega
    have hF2 : (tkG c τ3 q3 p3 = 33 ∧ f = 1) ∨ (tkG c τ3 q3 p3 = 32 ∧ f = 3) := by
      rcases hF with hF | ⟨hF | hF, hF2⟩
      · exact Or.inl hF
      · exact Or.inr ⟨hF, hF2⟩
      · exact absurd hF.2 (by unfold rfit; simp)
    obtain ⟨S3, e3, g3⟩ := tak_n hT h2 T3 (by omega)
    have ne := f13 hl (g := tkG c τ3 q3 p3)
    rw [f13e hF2] at g3 ne
    have fl := FN_L g3
    have f12 := (FL_f fl).1
    have ec := com_F (n := n) fl ne
    simp only [df_X13_longs_384, df_X13_longs_171, df_X13_longs_109, df_X13_longs_81, df_X13_longs_40, df_X13_longs_0, df_X13_longs, nb_b2, nb_b1, nb_let, eq_self, if_true, if_false, ↓reduceIte, show ((1 : Int32) = 0) = False from eq_false (by decide), show ((9 : Int32) = 1) = False from eq_false (by decide), show ((9 : Int32) = 2) = False from eq_false (by decide), show ((9 : Int32) = 3) = False from eq_false (by decide), show ((9 : Int32) = 4) = False from eq_false (by decide), show ((9 : Int32) = 5) = False from eq_false (by decide), show ((9 : Int32) = 6) = False from eq_false (by decide), show ((9 : Int32) = 10) = False from eq_false (by decide), show ((9 : Int32) = 11) = False from eq_false (by decide), show ((9 : Int32) = 30) = False from eq_false (by decide), bq_11_5_25, bq_4_0_7, bq_9_9_12, bq_4_4_6, bq_6_6_5, bq_8_7_3, bq_5_5_2, bq_5_4_11, bq_9_6_7, bq_2_2_6, bq_3_3_5, bq_5_3_10, bq_5_5_12, bq_4_2_4, bq_7_6_2, bq_5_2_9, bq_7_6_7, sJ_R, sB_R, sX_R, jB_R, tB_R, e1, SR_12 h1, e2, SR_12 h2, e3, f12, eq_false ne, ec]
    exact ⟨_, rfl, fun _ => fl, fun u => absurd u nf⟩
  obtain ⟨S3, e3, h3⟩ := tak_y hT h2 T3 g3
  obtain ⟨q4, p4, κ4, τ4, v4, x4, T4, hTr⟩ := hTr
  rw [if_pos (by decide)] at hTr
  rcases hTr with ⟨g4, hTr⟩ | hF
  rotate_left
  · have nf : ¬ f = 0 := by omega
    obtain ⟨S4, e4, g4⟩ := com_n hT h3 T4 hF.1
    rw [hF.2] at nf h0 ⊢
    have fl : FL e B (nI 1 + 16 * sI B 13) S4 := FN_L g4
    have ne : ¬ nI 1 + 16 * sI B 13 = 0 := flt_n hl 1 (by omega)
    have f12 := (FL_f fl).1
    simp only [df_X13_longs_384, df_X13_longs_171, df_X13_longs_109, df_X13_longs_81, df_X13_longs_40, df_X13_longs_0, df_X13_longs, nb_b2, nb_b1, nb_let, eq_self, if_true, if_false, ↓reduceIte, show ((1 : Int32) = 0) = False from eq_false (by decide), show ((9 : Int32) = 1) = False from eq_false (by decide), show ((9 : Int32) = 2) = False from eq_false (by decide), show ((9 : Int32) = 3) = False from eq_false (by decide), show ((9 : Int32) = 4) = False from eq_false (by decide), show ((9 : Int32) = 5) = False from eq_false (by decide), show ((9 : Int32) = 6) = False from eq_false (by decide), show ((9 : Int32) = 10) = False from eq_false (by decide), show ((9 : Int32) = 11) = False from eq_false (by decide), show ((9 : Int32) = 30) = False from eq_false (by decide), bq_11_5_25, bq_4_0_7, bq_9_9_12, bq_4_4_6, bq_6_6_5, bq_8_7_3, bq_5_5_2, bq_5_4_11, bq_9_6_7, bq_2_2_6, bq_3_3_5, bq_5_3_10, bq_5_5_12, bq_4_2_4, bq_7_6_2, bq_5_2_9, bq_7_6_7, sJ_R, sB_R, sX_R, jB_R, tB_R, e1, SR_12 h1, e2, SR_12 h2, e3, SR_12 h3, e4, f12, eq_false ne]
    exact ⟨_, rfl, fun _ => fl, fun u => absurd u nf⟩
  obtain ⟨S4, e4, h4⟩ := com_y hT h3 T4 g4
  obtain ⟨q5, p5, κ5, τ5, v5, x5, T5, hTr⟩ := hTr
  rw [if_pos (by decide)] at hTr
  rcases hTr with ⟨g5, hTr⟩ | hF
  rotate_left
  · have nf : ¬ f = 0 := by omega
    obtain ⟨r, S5, e5, fl⟩ := brk_1 hT h4 hl T5 hF.1
    rw [hF.2] at nf h0 ⊢
    obtain ⟨W, w1, w2⟩ := wor_G (n := n) fl (m0_3 (h0 nf))
    simp only [df_X13_longs_384, df_X13_longs_171, df_X13_longs_109, df_X13_longs_81, df_X13_longs_40, df_X13_longs_0, df_X13_longs, nb_b2, nb_b1, nb_let, eq_self, if_true, if_false, ↓reduceIte, show ((1 : Int32) = 0) = False from eq_false (by decide), show ((9 : Int32) = 1) = False from eq_false (by decide), show ((9 : Int32) = 2) = False from eq_false (by decide), show ((9 : Int32) = 3) = False from eq_false (by decide), show ((9 : Int32) = 4) = False from eq_false (by decide), show ((9 : Int32) = 5) = False from eq_false (by decide), show ((9 : Int32) = 6) = False from eq_false (by decide), show ((9 : Int32) = 10) = False from eq_false (by decide), show ((9 : Int32) = 11) = False from eq_false (by decide), show ((9 : Int32) = 30) = False from eq_false (by decide), bq_11_5_25, bq_4_0_7, bq_9_9_12, bq_4_4_6, bq_6_6_5, bq_8_7_3, bq_5_5_2, bq_5_4_11, bq_9_6_7, bq_2_2_6, bq_3_3_5, bq_5_3_10, bq_5_5_12, bq_4_2_4, bq_7_6_2, bq_5_2_9, bq_7_6_7, sJ_R, sB_R, sX_R, jB_R, tB_R, e1, SR_12 h1, e2, SR_12 h2, e3, SR_12 h3, e4, SR_12 h4, e5, w1]
    exact ⟨_, rfl, fun _ => w2 _, fun u => absurd u nf⟩
  obtain ⟨q6, p6, κ6, τ6, v6, x6, T6, hTr⟩ := hTr
  rw [if_neg (by decide), if_pos (by decide)] at hTr
  rcases hTr with ⟨g6, r6, rs6, rfl, hTr⟩ | hF
  rotate_left
  · have nf : ¬ f = 0 := by rcases hF with hF | hF <;> omega
    have hF2 : (tkG c τ6 q6 p6 = 33 ∧ f = 1) ∨ (tkG c τ6 q6 p6 = 32 ∧ f = 3) := by
      rcases hF with hF | ⟨hF | hF, hF2⟩
      · exact Or.inl hF
      · exact Or.inr ⟨hF, hF2⟩
      · exact absurd hF.2 (by unfold rfit; simp)
    obtain ⟨r, S6, e6, fl⟩ := brk_2 hT h4 hl T5 g5 T6 (by omega)
    rw [f13e hF2] at fl
    obtain ⟨W, w1, w2⟩ := wor_G (n := n) fl (m0_3 (h0 nf))
    simp only [df_X13_longs_384, df_X13_longs_171, df_X13_longs_109, df_X13_longs_81, df_X13_longs_40, df_X13_longs_0, df_X13_longs, nb_b2, nb_b1, nb_let, eq_self, if_true, if_false, ↓reduceIte, show ((1 : Int32) = 0) = False from eq_false (by decide), show ((9 : Int32) = 1) = False from eq_false (by decide), show ((9 : Int32) = 2) = False from eq_false (by decide), show ((9 : Int32) = 3) = False from eq_false (by decide), show ((9 : Int32) = 4) = False from eq_false (by decide), show ((9 : Int32) = 5) = False from eq_false (by decide), show ((9 : Int32) = 6) = False from eq_false (by decide), show ((9 : Int32) = 10) = False from eq_false (by decide), show ((9 : Int32) = 11) = False from eq_false (by decide), show ((9 : Int32) = 30) = False from eq_false (by decide), bq_11_5_25, bq_4_0_7, bq_9_9_12, bq_4_4_6, bq_6_6_5, bq_8_7_3, bq_5_5_2, bq_5_4_11, bq_9_6_7, bq_2_2_6, bq_3_3_5, bq_5_3_10, bq_5_5_12, bq_4_2_4, bq_7_6_2, bq_5_2_9, bq_7_6_7, sJ_R, sB_R, sX_R, jB_R, tB_R, e1, SR_12 h1, e2, SR_12 h2, e3, SR_12 h3, e4, SR_12 h4, e6, w1]
    exact ⟨_, rfl, fun _ => w2 _, fun u => absurd u nf⟩
  obtain ⟨q7, p7, κ7, τ7, v7, x7, T7, hTr⟩ := hTr
  rw [if_pos (by decide)] at hTr
  rcases hTr with ⟨g7, hTr⟩ | hF
  rotate_left
  · have nf : ¬ f = 0 := by omega
    obtain ⟨r, S7, e7, fl⟩ := brk_3 hT h4 hl T5 g5 T6 g6 T7 hF.1
    rw [hF.2] at nf h0 ⊢
    obtain ⟨W, w1, w2⟩ := wor_G (n := n) fl (m0_3 (h0 nf))
    simp only [df_X13_longs_384, df_X13_longs_171, df_X13_longs_109, df_X13_longs_81, df_X13_longs_40, df_X13_longs_0, df_X13_longs, nb_b2, nb_b1, nb_let, eq_self, if_true, if_false, ↓reduceIte, show ((1 : Int32) = 0) = False from eq_false (by decide), show ((9 : Int32) = 1) = False from eq_false (by decide), show ((9 : Int32) = 2) = False from eq_false (by decide), show ((9 : Int32) = 3) = False from eq_false (by decide), show ((9 : Int32) = 4) = False from eq_false (by decide), show ((9 : Int32) = 5) = False from eq_false (by decide), show ((9 : Int32) = 6) = False from eq_false (by decide), show ((9 : Int32) = 10) = False from eq_false (by decide), show ((9 : Int32) = 11) = False from eq_false (by decide), show ((9 : Int32) = 30) = False from eq_false (by decide), bq_11_5_25, bq_4_0_7, bq_9_9_12, bq_4_4_6, bq_6_6_5, bq_8_7_3, bq_5_5_2, bq_5_4_11, bq_9_6_7, bq_2_2_6, bq_3_3_5, bq_5_3_10, bq_5_5_12, bq_4_2_4, bq_7_6_2, bq_5_2_9, bq_7_6_7, sJ_R, sB_R, sX_R, jB_R, tB_R, e1, SR_12 h1, e2, SR_12 h2, e3, SR_12 h3, e4, SR_12 h4, e7, w1]
    exact ⟨_, rfl, fun _ => w2 _, fun u => absurd u nf⟩
  obtain ⟨S7, e7, h7⟩ := brk_y hT h4 T5 g5 T6 g6 T7 g7
  obtain ⟨rfl, rfl, rfl⟩ := hTr
  obtain ⟨W, w1, w2⟩ := wor_H (n := n) h7 (OKW_m hw (by omega))
  simp only [df_X13_longs_384, df_X13_longs_171, df_X13_longs_109, df_X13_longs_81, df_X13_longs_40, df_X13_longs_0, df_X13_longs, nb_b2, nb_b1, nb_let, eq_self, if_true, if_false, ↓reduceIte, show ((1 : Int32) = 0) = False from eq_false (by decide), show ((9 : Int32) = 1) = False from eq_false (by decide), show ((9 : Int32) = 2) = False from eq_false (by decide), show ((9 : Int32) = 3) = False from eq_false (by decide), show ((9 : Int32) = 4) = False from eq_false (by decide), show ((9 : Int32) = 5) = False from eq_false (by decide), show ((9 : Int32) = 6) = False from eq_false (by decide), show ((9 : Int32) = 10) = False from eq_false (by decide), show ((9 : Int32) = 11) = False from eq_false (by decide), show ((9 : Int32) = 30) = False from eq_false (by decide), bq_11_5_25, bq_4_0_7, bq_9_9_12, bq_4_4_6, bq_6_6_5, bq_8_7_3, bq_5_5_2, bq_5_4_11, bq_9_6_7, bq_2_2_6, bq_3_3_5, bq_5_3_10, bq_5_5_12, bq_4_2_4, bq_7_6_2, bq_5_2_9, bq_7_6_7, sJ_R, sB_R, sX_R, jB_R, tB_R, e1, SR_12 h1, e2, SR_12 h2, e3, SR_12 h3, e4, SR_12 h4, e7, SR_12 h7, w1]
  refine ⟨_, rfl, fun u => absurd trivial u, fun _ => plo4 rfl (w2 _) ?_⟩
  simp only [RGB_0, or_0, RGB_s40, RGB_s41, RGB_s44, RGB_r97, RGB_r98, RGB_r100, rgb_97, rgb_98, rgb_100]
  try simp only [Int32.or_assoc]
  try simp only [Int32.or_comm, or_lc]
  try simp only [Int32.or_assoc, Int32.or_comm, or_lc]
theorem shp_10 {n L e : Nat} {c : Nat → Nat} {BC B : St} {X : Nat → Nat} {nL st cu : Nat} (hV : RV n L e c BC B X nL cu) {ct : Nat} {gr : Bool} {PA BY OU : Nat → Int32} (hY : PY PA cu st) {p : Nat} {S : St} (h : SR B ct gr PA BY OU 0 p S) (hw : OKW B (ct + 4)) (w : Int32) {f p2 : Nat} {rs : List Nat} {m : Nat} {P : Nat → Tp} (h0 : ¬ f = 0 → sI B 15 = 0) (hTr : Tr n L e c BC [100, 44, 40, 97, 41] p f p2 rs m P) : ∃ S' : St, df_X13_longs n 10 w S = some S' ∧ (¬ f = 0 → FL e B (nI f + 16 * sI B 13) S') ∧ (f = 0 → PLO e B ct gr PA BY OU p2 0 (by4 (w ||| RGB [100, 44, 40, 97, 41] rs)) S') := by
  have hT := hV.1
  have hl := hV.2.2.2.2.2.2.2
  obtain ⟨q1, p1, κ1, τ1, v1, x1, T1, hTr⟩ := hTr
  rw [if_neg (by decide), if_pos (by decide)] at hTr
  rcases hTr with ⟨g1, r1, rs1, rfl, hTr⟩ | hF
  rotate_left
  · have nf : ¬ f = 0 := by rcases hF with hF | hF <;> omega
    have hF2 : (tkG c τ1 q1 p1 = 33 ∧ f = 1) ∨ (tkG c τ1 q1 p1 = 32 ∧ f = 3) := by
      rcases hF with hF | ⟨hF | hF, hF2⟩
      · exact Or.inl hF
      · exact Or.inr ⟨hF, hF2⟩
      · exact absurd hF.2 (by unfold rfit; simp)
    obtain ⟨S1, e1, g1⟩ := tak_n hT h T1 (by omega)
    have ne := f13 hl (g := tkG c τ1 q1 p1)
    rw [f13e hF2] at g1 ne
    have fl := FN_L g1
    have f12 := (FL_f fl).1
    have ec := com_F (n := n) fl ne
    simp only [df_X13_longs_384, df_X13_longs_171, df_X13_longs_109, df_X13_longs_81, df_X13_longs_40, df_X13_longs_0, df_X13_longs, nb_b2, nb_b1, nb_let, eq_self, if_true, if_false, ↓reduceIte, show ((1 : Int32) = 0) = False from eq_false (by decide), show ((10 : Int32) = 1) = False from eq_false (by decide), show ((10 : Int32) = 2) = False from eq_false (by decide), show ((10 : Int32) = 3) = False from eq_false (by decide), show ((10 : Int32) = 4) = False from eq_false (by decide), show ((10 : Int32) = 5) = False from eq_false (by decide), show ((10 : Int32) = 6) = False from eq_false (by decide), show ((10 : Int32) = 11) = False from eq_false (by decide), show ((10 : Int32) = 30) = False from eq_false (by decide), bq_11_5_25, bq_4_0_7, bq_9_9_12, bq_4_4_6, bq_6_6_5, bq_8_7_3, bq_5_5_2, bq_5_4_11, bq_9_6_7, bq_2_2_6, bq_3_3_5, bq_5_3_10, bq_5_5_12, bq_4_2_4, bq_7_6_2, bq_5_2_9, bq_7_6_7, sJ_R, sB_R, sX_R, jB_R, tB_R, e1, f12, eq_false ne, ec]
    exact ⟨_, rfl, fun _ => fl, fun u => absurd u nf⟩
  obtain ⟨S1, e1, h1⟩ := tak_y hT h T1 g1
  obtain ⟨q2, p2, κ2, τ2, v2, x2, T2, hTr⟩ := hTr
  rw [if_pos (by decide)] at hTr
  rcases hTr with ⟨g2, hTr⟩ | hF
  rotate_left
  · have nf : ¬ f = 0 := by omega
    obtain ⟨S2, e2, g2⟩ := com_n hT h1 T2 hF.1
    rw [hF.2] at nf h0 ⊢
    have fl : FL e B (nI 1 + 16 * sI B 13) S2 := FN_L g2
    have ne : ¬ nI 1 + 16 * sI B 13 = 0 := flt_n hl 1 (by omega)
    have f12 := (FL_f fl).1
    simp only [df_X13_longs_384, df_X13_longs_171, df_X13_longs_109, df_X13_longs_81, df_X13_longs_40, df_X13_longs_0, df_X13_longs, nb_b2, nb_b1, nb_let, eq_self, if_true, if_false, ↓reduceIte, show ((1 : Int32) = 0) = False from eq_false (by decide), show ((10 : Int32) = 1) = False from eq_false (by decide), show ((10 : Int32) = 2) = False from eq_false (by decide), show ((10 : Int32) = 3) = False from eq_false (by decide), show ((10 : Int32) = 4) = False from eq_false (by decide), show ((10 : Int32) = 5) = False from eq_false (by decide), show ((10 : Int32) = 6) = False from eq_false (by decide), show ((10 : Int32) = 11) = False from eq_false (by decide), show ((10 : Int32) = 30) = False from eq_false (by decide), bq_11_5_25, bq_4_0_7, bq_9_9_12, bq_4_4_6, bq_6_6_5, bq_8_7_3, bq_5_5_2, bq_5_4_11, bq_9_6_7, bq_2_2_6, bq_3_3_5, bq_5_3_10, bq_5_5_12, bq_4_2_4, bq_7_6_2, bq_5_2_9, bq_7_6_7, sJ_R, sB_R, sX_R, jB_R, tB_R, e1, SR_12 h1, e2, f12, eq_false ne]
    exact ⟨_, rfl, fun _ => fl, fun u => absurd u nf⟩
  obtain ⟨S2, e2, h2⟩ := com_y hT h1 T2 g2
  obtain ⟨q3, p3, κ3, τ3, v3, x3, T3, hTr⟩ := hTr
  rw [if_pos (by decide)] at hTr
  rcases hTr with ⟨g3, hTr⟩ | hF
  rotate_left
  · have nf : ¬ f = 0 := by omega
    obtain ⟨r, S3, e3, fl⟩ := brk_1 hT h2 hl T3 hF.1
    rw [hF.2] at nf h0 ⊢
    obtain ⟨W, w1, w2⟩ := wor_G (n := n) fl (m0_3 (h0 nf))
    simp only [df_X13_longs_384, df_X13_longs_171, df_X13_longs_109, df_X13_longs_81, df_X13_longs_40, df_X13_longs_0, df_X13_longs, nb_b2, nb_b1, nb_let, eq_self, if_true, if_false, ↓reduceIte, show ((1 : Int32) = 0) = False from eq_false (by decide), show ((10 : Int32) = 1) = False from eq_false (by decide), show ((10 : Int32) = 2) = False from eq_false (by decide), show ((10 : Int32) = 3) = False from eq_false (by decide), show ((10 : Int32) = 4) = False from eq_false (by decide), show ((10 : Int32) = 5) = False from eq_false (by decide), show ((10 : Int32) = 6) = False from eq_false (by decide), show ((10 : Int32) = 11) = False from eq_false (by decide), show ((10 : Int32) = 30) = False from eq_false (by decide), bq_11_5_25, bq_4_0_7, bq_9_9_12, bq_4_4_6, bq_6_6_5, bq_8_7_3, bq_5_5_2, bq_5_4_11, bq_9_6_7, bq_2_2_6, bq_3_3_5, bq_5_3_10, bq_5_5_12, bq_4_2_4, bq_7_6_2, bq_5_2_9, bq_7_6_7, sJ_R, sB_R, sX_R, jB_R, tB_R, e1, SR_12 h1, e2, SR_12 h2, e3, w1]
    exact ⟨_, rfl, fun _ => w2 _, fun u => absurd u nf⟩
  obtain ⟨q4, p4, κ4, τ4, v4, x4, T4, hTr⟩ := hTr
  rw [if_neg (by decide), if_pos (by decide)] at hTr
  rcases hTr with ⟨g4, r4, rs4, rfl, hTr⟩ | hF
  rotate_left
  · have nf : ¬ f = 0 := by rcases hF with hF | hF <;> omega
    have hF2 : (tkG c τ4 q4 p4 = 33 ∧ f = 1) ∨ (tkG c τ4 q4 p4 = 32 ∧ f = 3) := by
      rcases hF with hF | ⟨hF | hF, hF2⟩
      · exact Or.inl hF
      · exact Or.inr ⟨hF, hF2⟩
      · exact absurd hF.2 (by unfold rfit; simp)
    obtain ⟨r, S4, e4, fl⟩ := brk_2 hT h2 hl T3 g3 T4 (by omega)
    rw [f13e hF2] at fl
    obtain ⟨W, w1, w2⟩ := wor_G (n := n) fl (m0_3 (h0 nf))
    simp only [df_X13_longs_384, df_X13_longs_171, df_X13_longs_109, df_X13_longs_81, df_X13_longs_40, df_X13_longs_0, df_X13_longs, nb_b2, nb_b1, nb_let, eq_self, if_true, if_false, ↓reduceIte, show ((1 : Int32) = 0) = False from eq_false (by decide), show ((10 : Int32) = 1) = False from eq_false (by decide), show ((10 : Int32) = 2) = False from eq_false (by decide), show ((10 : Int32) = 3) = False from eq_false (by decide), show ((10 : Int32) = 4) = False from eq_false (by decide), show ((10 : Int32) = 5) = False from eq_false (by decide), show ((10 : Int32) = 6) = False from eq_false (by decide), show ((10 : Int32) = 11) = False from eq_false (by decide), show ((10 : Int32) = 30) = False from eq_false (by decide), bq_11_5_25, bq_4_0_7, bq_9_9_12, bq_4_4_6, bq_6_6_5, bq_8_7_3, bq_5_5_2, bq_5_4_11, bq_9_6_7, bq_2_2_6, bq_3_3_5, bq_5_3_10, bq_5_5_12, bq_4_2_4, bq_7_6_2, bq_5_2_9, bq_7_6_7, sJ_R, sB_R, sX_R, jB_R, tB_R, e1, SR_12 h1, e2, SR_12 h2, e4, w1]
    exact ⟨_, rfl, fun _ => w2 _, fun u => absurd u nf⟩
  obtain ⟨q5, p5, κ5, τ5, v5, x5, T5, hTr⟩ := hTr
  rw [if_pos (by decide)] at hTr
  rcases hTr with ⟨g5, hTr⟩ | hF
  rotate_left
  · have nf : ¬ f = 0 := by omega
    obtain ⟨r, S5, e5, fl⟩ := brk_3 hT h2 hl T3 g3 T4 g4 T5 hF.1
    rw [hF.2] at nf h0 ⊢
    obtain ⟨W, w1, w2⟩ := wor_G (n := n) fl (m0_3 (h0 nf))
    simp only [df_X13_longs_384, df_X13_longs_171, df_X13_longs_109, df_X13_longs_81, df_X13_longs_40, df_X13_longs_0, df_X13_longs, nb_b2, nb_b1, nb_let, eq_self, if_true, if_false, ↓reduceIte, show ((1 : Int32) = 0) = False from eq_false (by decide), show ((10 : Int32) = 1) = False from eq_false (by decide), show ((10 : Int32) = 2) = False from eq_false (by decide), show ((10 : Int32) = 3) = False from eq_false (by decide), show ((10 : Int32) = 4) = False from eq_false (by decide), show ((10 : Int32) = 5) = False from eq_false (by decide), show ((10 : Int32) = 6) = False from eq_false (by decide), show ((10 : Int32) = 11) = False from eq_false (by decide), show ((10 : Int32) = 30) = False from eq_false (by decide), bq_11_5_25, bq_4_0_7, bq_9_9_12, bq_4_4_6, bq_6_6_5, bq_8_7_3, bq_5_5_2, bq_5_4_11, bq_9_6_7, bq_2_2_6, bq_3_3_5, bq_5_3_10, bq_5_5_12, bq_4_2_4, bq_7_6_2, bq_5_2_9, bq_7_6_7, sJ_R, sB_R, sX_R, jB_R, tB_R, e1, SR_12 h1, e2, SR_12 h2, e5, w1]
    exact ⟨_, rfl, fun _ => w2 _, fun u => absurd u nf⟩
  obtain ⟨S5, e5, h5⟩ := brk_y hT h2 T3 g3 T4 g4 T5 g5
  obtain ⟨rfl, rfl, rfl⟩ := hTr
  obtain ⟨W, w1, w2⟩ := wor_H (n := n) h5 (OKW_m hw (by omega))
  simp only [df_X13_longs_384, df_X13_longs_171, df_X13_longs_109, df_X13_longs_81, df_X13_longs_40, df_X13_longs_0, df_X13_longs, nb_b2, nb_b1, nb_let, eq_self, if_true, if_false, ↓reduceIte, show ((1 : Int32) = 0) = False from eq_false (by decide), show ((10 : Int32) = 1) = False from eq_false (by decide), show ((10 : Int32) = 2) = False from eq_false (by decide), show ((10 : Int32) = 3) = False from eq_false (by decide), show ((10 : Int32) = 4) = False from eq_false (by decide), show ((10 : Int32) = 5) = False from eq_false (by decide), show ((10 : Int32) = 6) = False from eq_false (by decide), show ((10 : Int32) = 11) = False from eq_false (by decide), show ((10 : Int32) = 30) = False from eq_false (by decide), bq_11_5_25, bq_4_0_7, bq_9_9_12, bq_4_4_6, bq_6_6_5, bq_8_7_3, bq_5_5_2, bq_5_4_11, bq_9_6_7, bq_2_2_6, bq_3_3_5, bq_5_3_10, bq_5_5_12, bq_4_2_4, bq_7_6_2, bq_5_2_9, bq_7_6_7, sJ_R, sB_R, sX_R, jB_R, tB_R, e1, SR_12 h1, e2, SR_12 h2, e5, SR_12 h5, w1]
  refine ⟨_, rfl, fun u => absurd trivial u, fun _ => plo4 rfl (w2 _) ?_⟩
  simp only [RGB_0, or_0, RGB_s40, RGB_s41, RGB_s44, RGB_r97, RGB_r100, rgb_97, rgb_100]
  try simp only [Int32.or_assoc]
  try simp only [Int32.or_comm, or_lc]
  try simp only [Int32.or_assoc, Int32.or_comm, or_lc]
theorem shp_11 {n L e : Nat} {c : Nat → Nat} {BC B : St} {X : Nat → Nat} {nL st cu : Nat} (hV : RV n L e c BC B X nL cu) {ct : Nat} {gr : Bool} {PA BY OU : Nat → Int32} (hY : PY PA cu st) {p : Nat} {S : St} (h : SR B ct gr PA BY OU 0 p S) (hw : OKW B (ct + 4)) (w : Int32) {f p2 : Nat} {rs : List Nat} {m : Nat} {P : Nat → Tp} (h0 : ¬ f = 0 → sI B 15 = 0) (hTr : Tr n L e c BC [100] p f p2 rs m P) : ∃ S' : St, df_X13_longs n 11 w S = some S' ∧ (¬ f = 0 → FL e B (nI f + 16 * sI B 13) S') ∧ (f = 0 → PLO e B ct gr PA BY OU p2 0 (by4 (w ||| RGB [100] rs)) S') := by
  have hT := hV.1
  have hl := hV.2.2.2.2.2.2.2
  obtain ⟨q1, p1, κ1, τ1, v1, x1, T1, hTr⟩ := hTr
  rw [if_neg (by decide), if_pos (by decide)] at hTr
  rcases hTr with ⟨g1, r1, rs1, rfl, hTr⟩ | hF
  rotate_left
  · have nf : ¬ f = 0 := by rcases hF with hF | hF <;> omega
    have hF2 : (tkG c τ1 q1 p1 = 33 ∧ f = 1) ∨ (tkG c τ1 q1 p1 = 32 ∧ f = 3) := by
      rcases hF with hF | ⟨hF | hF, hF2⟩
      · exact Or.inl hF
      · exact Or.inr ⟨hF, hF2⟩
      · exact absurd hF.2 (by unfold rfit; simp)
    obtain ⟨S1, e1, g1⟩ := tak_n hT h T1 (by omega)
    have ne := f13 hl (g := tkG c τ1 q1 p1)
    rw [f13e hF2] at g1 ne
    have fl := FN_L g1
    have f12 := (FL_f fl).1
    obtain ⟨W, w1, w2⟩ := wor_G (n := n) fl (m0_3 (h0 nf))
    simp only [df_X13_longs_384, df_X13_longs_171, df_X13_longs_109, df_X13_longs_81, df_X13_longs_40, df_X13_longs_0, df_X13_longs, nb_b2, nb_b1, nb_let, eq_self, if_true, if_false, ↓reduceIte, show ((1 : Int32) = 0) = False from eq_false (by decide), show ((11 : Int32) = 1) = False from eq_false (by decide), show ((11 : Int32) = 2) = False from eq_false (by decide), show ((11 : Int32) = 3) = False from eq_false (by decide), show ((11 : Int32) = 4) = False from eq_false (by decide), show ((11 : Int32) = 5) = False from eq_false (by decide), show ((11 : Int32) = 6) = False from eq_false (by decide), show ((11 : Int32) = 10) = False from eq_false (by decide), show ((11 : Int32) = 30) = False from eq_false (by decide), bq_11_5_25, bq_4_0_7, bq_9_9_12, bq_4_4_6, bq_6_6_5, bq_8_7_3, bq_5_5_2, bq_5_4_11, bq_9_6_7, bq_2_2_6, bq_3_3_5, bq_5_3_10, bq_5_5_12, bq_4_2_4, bq_7_6_2, bq_5_2_9, bq_7_6_7, sJ_R, sB_R, sX_R, jB_R, tB_R, e1, f12, eq_false ne, w1]
    exact ⟨_, rfl, fun _ => w2 _, fun u => absurd u nf⟩
  obtain ⟨S1, e1, h1⟩ := tak_y hT h T1 g1
  obtain ⟨rfl, rfl, rfl⟩ := hTr
  obtain ⟨W, w1, w2⟩ := wor_H (n := n) h1 (OKW_m hw (by omega))
  simp only [df_X13_longs_384, df_X13_longs_171, df_X13_longs_109, df_X13_longs_81, df_X13_longs_40, df_X13_longs_0, df_X13_longs, nb_b2, nb_b1, nb_let, eq_self, if_true, if_false, ↓reduceIte, show ((1 : Int32) = 0) = False from eq_false (by decide), show ((11 : Int32) = 1) = False from eq_false (by decide), show ((11 : Int32) = 2) = False from eq_false (by decide), show ((11 : Int32) = 3) = False from eq_false (by decide), show ((11 : Int32) = 4) = False from eq_false (by decide), show ((11 : Int32) = 5) = False from eq_false (by decide), show ((11 : Int32) = 6) = False from eq_false (by decide), show ((11 : Int32) = 10) = False from eq_false (by decide), show ((11 : Int32) = 30) = False from eq_false (by decide), bq_11_5_25, bq_4_0_7, bq_9_9_12, bq_4_4_6, bq_6_6_5, bq_8_7_3, bq_5_5_2, bq_5_4_11, bq_9_6_7, bq_2_2_6, bq_3_3_5, bq_5_3_10, bq_5_5_12, bq_4_2_4, bq_7_6_2, bq_5_2_9, bq_7_6_7, sJ_R, sB_R, sX_R, jB_R, tB_R, e1, SR_12 h1, w1]
  refine ⟨_, rfl, fun u => absurd trivial u, fun _ => plo4 rfl (w2 _) ?_⟩
  simp only [RGB_0, or_0, RGB_r100, rgb_100]
  try simp only [Int32.or_assoc]
  try simp only [Int32.or_comm, or_lc]
  try simp only [Int32.or_assoc, Int32.or_comm, or_lc]
theorem shp_31 {n L e : Nat} {c : Nat → Nat} {BC B : St} {X : Nat → Nat} {nL st cu : Nat} (hV : RV n L e c BC B X nL cu) {ct : Nat} {gr : Bool} {PA BY OU : Nat → Int32} (hY : PY PA cu st) {p : Nat} {S : St} (h : SR B ct gr PA BY OU 0 p S) (hw : OKW B (ct + 4)) (w : Int32) {f p2 : Nat} {rs : List Nat} {m : Nat} {P : Nat → Tp} (h0 : ¬ f = 0 → sI B 15 = 0) (hTr : Tr n L e c BC [100, 44, 97] p f p2 rs m P) : ∃ S' : St, df_X13_others n 31 w S = some S' ∧ (¬ f = 0 → FL e B (nI f + 16 * sI B 13) S') ∧ (f = 0 → PLO e B ct gr PA BY OU p2 0 (by4 (w ||| RGB [100, 44, 97] rs)) S') := by
  have hT := hV.1
  have hl := hV.2.2.2.2.2.2.2
  obtain ⟨q1, p1, κ1, τ1, v1, x1, T1, hTr⟩ := hTr
  rw [if_neg (by decide), if_pos (by decide)] at hTr
  rcases hTr with ⟨g1, r1, rs1, rfl, hTr⟩ | hF
  rotate_left
  · have nf : ¬ f = 0 := by rcases hF with hF | hF <;> omega
    have hF2 : (tkG c τ1 q1 p1 = 33 ∧ f = 1) ∨ (tkG c τ1 q1 p1 = 32 ∧ f = 3) := by
      rcases hF with hF | ⟨hF | hF, hF2⟩
      · exact Or.inl hF
      · exact Or.inr ⟨hF, hF2⟩
      · exact absurd hF.2 (by unfold rfit; simp)
    obtain ⟨S1, e1, g1⟩ := tak_n hT h T1 (by omega)
    have ne := f13 hl (g := tkG c τ1 q1 p1)
    rw [f13e hF2] at g1 ne
    have fl := FN_L g1
    have f12 := (FL_f fl).1
    have ec := com_F (n := n) fl ne
    simp only [df_X13_others_321, df_X13_others_304, df_X13_others_264, df_X13_others_242, df_X13_others_237, df_X13_others_215, df_X13_others_198, df_X13_others_182, df_X13_others_94, df_X13_others_60, df_X13_others_0, df_X13_others, nb_b2, nb_b1, nb_let, eq_self, if_true, if_false, ↓reduceIte, show ((1 : Int32) = 0) = False from eq_false (by decide), show ((31 : Int32) = 0) = False from eq_false (by decide), show ((31 : Int32) = 33) = False from eq_false (by decide), show ((31 : Int32) = 38) = False from eq_false (by decide), show ((31 : Int32) = 39) = False from eq_false (by decide), show ((31 : Int32) ≤ 31) = True from eq_true (by decide), show ((31 : Int32) ≤ 2047) = True from eq_true (by decide), show ((32 : Int32) ≤ 31) = False from eq_false (by decide), show ((33 : Int32) ≤ 31) = False from eq_false (by decide), show ((2048 : Int32) ≤ 31) = False from eq_false (by decide), bq_11_5_25, bq_4_0_7, bq_9_9_12, bq_4_4_6, bq_6_6_5, bq_8_7_3, bq_5_5_2, bq_5_4_11, bq_9_6_7, bq_2_2_6, bq_3_3_5, bq_5_3_10, bq_5_5_12, bq_4_2_4, bq_7_6_2, bq_5_2_9, bq_7_6_7, sJ_R, sB_R, sX_R, jB_R, tB_R, e1, f12, eq_false ne, ec]
    exact ⟨_, rfl, fun _ => fl, fun u => absurd u nf⟩
  obtain ⟨S1, e1, h1⟩ := tak_y hT h T1 g1
  obtain ⟨q2, p2, κ2, τ2, v2, x2, T2, hTr⟩ := hTr
  rw [if_pos (by decide)] at hTr
  rcases hTr with ⟨g2, hTr⟩ | hF
  rotate_left
  · have nf : ¬ f = 0 := by omega
    obtain ⟨S2, e2, g2⟩ := com_n hT h1 T2 hF.1
    rw [hF.2] at nf h0 ⊢
    have fl : FL e B (nI 1 + 16 * sI B 13) S2 := FN_L g2
    have ne : ¬ nI 1 + 16 * sI B 13 = 0 := flt_n hl 1 (by omega)
    have f12 := (FL_f fl).1
    simp only [df_X13_others_321, df_X13_others_304, df_X13_others_264, df_X13_others_242, df_X13_others_237, df_X13_others_215, df_X13_others_198, df_X13_others_182, df_X13_others_94, df_X13_others_60, df_X13_others_0, df_X13_others, nb_b2, nb_b1, nb_let, eq_self, if_true, if_false, ↓reduceIte, show ((1 : Int32) = 0) = False from eq_false (by decide), show ((31 : Int32) = 0) = False from eq_false (by decide), show ((31 : Int32) = 33) = False from eq_false (by decide), show ((31 : Int32) = 38) = False from eq_false (by decide), show ((31 : Int32) = 39) = False from eq_false (by decide), show ((31 : Int32) ≤ 31) = True from eq_true (by decide), show ((31 : Int32) ≤ 2047) = True from eq_true (by decide), show ((32 : Int32) ≤ 31) = False from eq_false (by decide), show ((33 : Int32) ≤ 31) = False from eq_false (by decide), show ((2048 : Int32) ≤ 31) = False from eq_false (by decide), bq_11_5_25, bq_4_0_7, bq_9_9_12, bq_4_4_6, bq_6_6_5, bq_8_7_3, bq_5_5_2, bq_5_4_11, bq_9_6_7, bq_2_2_6, bq_3_3_5, bq_5_3_10, bq_5_5_12, bq_4_2_4, bq_7_6_2, bq_5_2_9, bq_7_6_7, sJ_R, sB_R, sX_R, jB_R, tB_R, e1, SR_12 h1, e2, f12, eq_false ne]
    exact ⟨_, rfl, fun _ => fl, fun u => absurd u nf⟩
  obtain ⟨S2, e2, h2⟩ := com_y hT h1 T2 g2
  obtain ⟨q3, p3, κ3, τ3, v3, x3, T3, hTr⟩ := hTr
  rw [if_neg (by decide), if_pos (by decide)] at hTr
  rcases hTr with ⟨g3, r3, rs3, rfl, hTr⟩ | hF
  rotate_left
  · have nf : ¬ f = 0 := by rcases hF with hF | hF <;> omega
    have hF2 : (tkG c τ3 q3 p3 = 33 ∧ f = 1) ∨ (tkG c τ3 q3 p3 = 32 ∧ f = 3) := by
      rcases hF with hF | ⟨hF | hF, hF2⟩
      · exact Or.inl hF
      · exact Or.inr ⟨hF, hF2⟩
      · exact absurd hF.2 (by unfold rfit; simp)
    obtain ⟨S3, e3, g3⟩ := tak_n hT h2 T3 (by omega)
    have ne := f13 hl (g := tkG c τ3 q3 p3)
    rw [f13e hF2] at g3 ne
    have fl := FN_L g3
    have f12 := (FL_f fl).1
    obtain ⟨W, w1, w2⟩ := wor_G (n := n) fl (m0_3 (h0 nf))
    simp only [df_X13_others_321, df_X13_others_304, df_X13_others_264, df_X13_others_242, df_X13_others_237, df_X13_others_215, df_X13_others_198, df_X13_others_182, df_X13_others_94, df_X13_others_60, df_X13_others_0, df_X13_others, nb_b2, nb_b1, nb_let, eq_self, if_true, if_false, ↓reduceIte, show ((1 : Int32) = 0) = False from eq_false (by decide), show ((31 : Int32) = 0) = False from eq_false (by decide), show ((31 : Int32) = 33) = False from eq_false (by decide), show ((31 : Int32) = 38) = False from eq_false (by decide), show ((31 : Int32) = 39) = False from eq_false (by decide), show ((31 : Int32) ≤ 31) = True from eq_true (by decide), show ((31 : Int32) ≤ 2047) = True from eq_true (by decide), show ((32 : Int32) ≤ 31) = False from eq_false (by decide), show ((33 : Int32) ≤ 31) = False from eq_false (by decide), show ((2048 : Int32) ≤ 31) = False from eq_false (by decide), bq_11_5_25, bq_4_0_7, bq_9_9_12, bq_4_4_6, bq_6_6_5, bq_8_7_3, bq_5_5_2, bq_5_4_11, bq_9_6_7, bq_2_2_6, bq_3_3_5, bq_5_3_10, bq_5_5_12, bq_4_2_4, bq_7_6_2, bq_5_2_9, bq_7_6_7, sJ_R, sB_R, sX_R, jB_R, tB_R, e1, SR_12 h1, e2, SR_12 h2, e3, f12, eq_false ne, w1]
    exact ⟨_, rfl, fun _ => w2 _, fun u => absurd u nf⟩
  obtain ⟨S3, e3, h3⟩ := tak_y hT h2 T3 g3
  obtain ⟨rfl, rfl, rfl⟩ := hTr
  obtain ⟨W, w1, w2⟩ := wor_H (n := n) h3 (OKW_m hw (by omega))
  simp only [df_X13_others_321, df_X13_others_304, df_X13_others_264, df_X13_others_242, df_X13_others_237, df_X13_others_215, df_X13_others_198, df_X13_others_182, df_X13_others_94, df_X13_others_60, df_X13_others_0, df_X13_others, nb_b2, nb_b1, nb_let, eq_self, if_true, if_false, ↓reduceIte, show ((1 : Int32) = 0) = False from eq_false (by decide), show ((31 : Int32) = 0) = False from eq_false (by decide), show ((31 : Int32) = 33) = False from eq_false (by decide), show ((31 : Int32) = 38) = False from eq_false (by decide), show ((31 : Int32) = 39) = False from eq_false (by decide), show ((31 : Int32) ≤ 31) = True from eq_true (by decide), show ((31 : Int32) ≤ 2047) = True from eq_true (by decide), show ((32 : Int32) ≤ 31) = False from eq_false (by decide), show ((33 : Int32) ≤ 31) = False from eq_false (by decide), show ((2048 : Int32) ≤ 31) = False from eq_false (by decide), bq_11_5_25, bq_4_0_7, bq_9_9_12, bq_4_4_6, bq_6_6_5, bq_8_7_3, bq_5_5_2, bq_5_4_11, bq_9_6_7, bq_2_2_6, bq_3_3_5, bq_5_3_10, bq_5_5_12, bq_4_2_4, bq_7_6_2, bq_5_2_9, bq_7_6_7, sJ_R, sB_R, sX_R, jB_R, tB_R, e1, SR_12 h1, e2, SR_12 h2, e3, SR_12 h3, w1]
  refine ⟨_, rfl, fun u => absurd trivial u, fun _ => plo4 rfl (w2 _) ?_⟩
  simp only [RGB_0, or_0, RGB_s44, RGB_r97, RGB_r100, rgb_97, rgb_100]
  try simp only [Int32.or_assoc]
  try simp only [Int32.or_comm, or_lc]
  try simp only [Int32.or_assoc, Int32.or_comm, or_lc]
theorem shp_32 {n L e : Nat} {c : Nat → Nat} {BC B : St} {X : Nat → Nat} {nL st cu : Nat} (hV : RV n L e c BC B X nL cu) {ct : Nat} {gr : Bool} {PA BY OU : Nat → Int32} (hY : PY PA cu st) {p : Nat} {S : St} (h : SR B ct gr PA BY OU 0 p S) (hw : OKW B (ct + 4)) (w : Int32) {f p2 : Nat} {rs : List Nat} {m : Nat} {P : Nat → Tp} (h0 : ¬ f = 0 → sI B 15 = 0) (hTr : Tr n L e c BC [100, 44, 98] p f p2 rs m P) : ∃ S' : St, df_X13_others n 32 w S = some S' ∧ (¬ f = 0 → FL e B (nI f + 16 * sI B 13) S') ∧ (f = 0 → PLO e B ct gr PA BY OU p2 0 (by4 (w ||| RGB [100, 44, 98] rs)) S') := by
  have hT := hV.1
  have hl := hV.2.2.2.2.2.2.2
  obtain ⟨q1, p1, κ1, τ1, v1, x1, T1, hTr⟩ := hTr
  rw [if_neg (by decide), if_pos (by decide)] at hTr
  rcases hTr with ⟨g1, r1, rs1, rfl, hTr⟩ | hF
  rotate_left
  · have nf : ¬ f = 0 := by rcases hF with hF | hF <;> omega
    have hF2 : (tkG c τ1 q1 p1 = 33 ∧ f = 1) ∨ (tkG c τ1 q1 p1 = 32 ∧ f = 3) := by
      rcases hF with hF | ⟨hF | hF, hF2⟩
      · exact Or.inl hF
      · exact Or.inr ⟨hF, hF2⟩
      · exact absurd hF.2 (by unfold rfit; simp)
    obtain ⟨S1, e1, g1⟩ := tak_n hT h T1 (by omega)
    have ne := f13 hl (g := tkG c τ1 q1 p1)
    rw [f13e hF2] at g1 ne
    have fl := FN_L g1
    have f12 := (FL_f fl).1
    have ec := com_F (n := n) fl ne
    simp only [df_X13_others_321, df_X13_others_304, df_X13_others_264, df_X13_others_242, df_X13_others_237, df_X13_others_215, df_X13_others_198, df_X13_others_182, df_X13_others_94, df_X13_others_60, df_X13_others_0, df_X13_others, nb_b2, nb_b1, nb_let, eq_self, if_true, if_false, ↓reduceIte, show ((1 : Int32) = 0) = False from eq_false (by decide), show ((32 : Int32) = 0) = False from eq_false (by decide), show ((32 : Int32) = 31) = False from eq_false (by decide), show ((32 : Int32) = 33) = False from eq_false (by decide), show ((32 : Int32) = 38) = False from eq_false (by decide), show ((32 : Int32) = 39) = False from eq_false (by decide), show ((32 : Int32) ≤ 31) = False from eq_false (by decide), show ((32 : Int32) ≤ 2047) = True from eq_true (by decide), show ((32 : Int32) ≤ 32) = True from eq_true (by decide), show ((33 : Int32) ≤ 32) = False from eq_false (by decide), show ((2048 : Int32) ≤ 32) = False from eq_false (by decide), bq_11_5_25, bq_4_0_7, bq_9_9_12, bq_4_4_6, bq_6_6_5, bq_8_7_3, bq_5_5_2, bq_5_4_11, bq_9_6_7, bq_2_2_6, bq_3_3_5, bq_5_3_10, bq_5_5_12, bq_4_2_4, bq_7_6_2, bq_5_2_9, bq_7_6_7, sJ_R, sB_R, sX_R, jB_R, tB_R, e1, f12, eq_false ne, ec]
    exact ⟨_, rfl, fun _ => fl, fun u => absurd u nf⟩
  obtain ⟨S1, e1, h1⟩ := tak_y hT h T1 g1
  obtain ⟨q2, p2, κ2, τ2, v2, x2, T2, hTr⟩ := hTr
  rw [if_pos (by decide)] at hTr
  rcases hTr with ⟨g2, hTr⟩ | hF
  rotate_left
  · have nf : ¬ f = 0 := by omega
    obtain ⟨S2, e2, g2⟩ := com_n hT h1 T2 hF.1
    rw [hF.2] at nf h0 ⊢
    have fl : FL e B (nI 1 + 16 * sI B 13) S2 := FN_L g2
    have ne : ¬ nI 1 + 16 * sI B 13 = 0 := flt_n hl 1 (by omega)
    have f12 := (FL_f fl).1
    simp only [df_X13_others_321, df_X13_others_304, df_X13_others_264, df_X13_others_242, df_X13_others_237, df_X13_others_215, df_X13_others_198, df_X13_others_182, df_X13_others_94, df_X13_others_60, df_X13_others_0, df_X13_others, nb_b2, nb_b1, nb_let, eq_self, if_true, if_false, ↓reduceIte, show ((1 : Int32) = 0) = False from eq_false (by decide), show ((32 : Int32) = 0) = False from eq_false (by decide), show ((32 : Int32) = 31) = False from eq_false (by decide), show ((32 : Int32) = 33) = False from eq_false (by decide), show ((32 : Int32) = 38) = False from eq_false (by decide), show ((32 : Int32) = 39) = False from eq_false (by decide), show ((32 : Int32) ≤ 31) = False from eq_false (by decide), show ((32 : Int32) ≤ 2047) = True from eq_true (by decide), show ((32 : Int32) ≤ 32) = True from eq_true (by decide), show ((33 : Int32) ≤ 32) = False from eq_false (by decide), show ((2048 : Int32) ≤ 32) = False from eq_false (by decide), bq_11_5_25, bq_4_0_7, bq_9_9_12, bq_4_4_6, bq_6_6_5, bq_8_7_3, bq_5_5_2, bq_5_4_11, bq_9_6_7, bq_2_2_6, bq_3_3_5, bq_5_3_10, bq_5_5_12, bq_4_2_4, bq_7_6_2, bq_5_2_9, bq_7_6_7, sJ_R, sB_R, sX_R, jB_R, tB_R, e1, SR_12 h1, e2, f12, eq_false ne]
    exact ⟨_, rfl, fun _ => fl, fun u => absurd u nf⟩
  obtain ⟨S2, e2, h2⟩ := com_y hT h1 T2 g2
  obtain ⟨q3, p3, κ3, τ3, v3, x3, T3, hTr⟩ := hTr
  rw [if_neg (by decide), if_pos (by decide)] at hTr
  rcases hTr with ⟨g3, r3, rs3, rfl, hTr⟩ | hF
  rotate_left
  · have nf : ¬ f = 0 := by rcases hF with hF | hF <;> omega
    have hF2 : (tkG c τ3 q3 p3 = 33 ∧ f = 1) ∨ (tkG c τ3 q3 p3 = 32 ∧ f = 3) := by
      rcases hF with hF | ⟨hF | hF, hF2⟩
      · exact Or.inl hF
      · exact Or.inr ⟨hF, hF2⟩
      · exact absurd hF.2 (by unfold rfit; simp)
    obtain ⟨S3, e3, g3⟩ := tak_n hT h2 T3 (by omega)
    have ne := f13 hl (g := tkG c τ3 q3 p3)
    rw [f13e hF2] at g3 ne
    have fl := FN_L g3
    have f12 := (FL_f fl).1
    obtain ⟨W, w1, w2⟩ := wor_G (n := n) fl (m0_3 (h0 nf))
    simp only [df_X13_others_321, df_X13_others_304, df_X13_others_264, df_X13_others_242, df_X13_others_237, df_X13_others_215, df_X13_others_198, df_X13_others_182, df_X13_others_94, df_X13_others_60, df_X13_others_0, df_X13_others, nb_b2, nb_b1, nb_let, eq_self, if_true, if_false, ↓reduceIte, show ((1 : Int32) = 0) = False from eq_false (by decide), show ((32 : Int32) = 0) = False from eq_false (by decide), show ((32 : Int32) = 31) = False from eq_false (by decide), show ((32 : Int32) = 33) = False from eq_false (by decide), show ((32 : Int32) = 38) = False from eq_false (by decide), show ((32 : Int32) = 39) = False from eq_false (by decide), show ((32 : Int32) ≤ 31) = False from eq_false (by decide), show ((32 : Int32) ≤ 2047) = True from eq_true (by decide), show ((32 : Int32) ≤ 32) = True from eq_true (by decide), show ((33 : Int32) ≤ 32) = False from eq_false (by decide), show ((2048 : Int32) ≤ 32) = False from eq_false (by decide), bq_11_5_25, bq_4_0_7, bq_9_9_12, bq_4_4_6, bq_6_6_5, bq_8_7_3, bq_5_5_2, bq_5_4_11, bq_9_6_7, bq_2_2_6, bq_3_3_5, bq_5_3_10, bq_5_5_12, bq_4_2_4, bq_7_6_2, bq_5_2_9, bq_7_6_7, sJ_R, sB_R, sX_R, jB_R, tB_R, e1, SR_12 h1, e2, SR_12 h2, e3, f12, eq_false ne, w1]
    exact ⟨_, rfl, fun _ => w2 _, fun u => absurd u nf⟩
  obtain ⟨S3, e3, h3⟩ := tak_y hT h2 T3 g3
  obtain ⟨rfl, rfl, rfl⟩ := hTr
  obtain ⟨W, w1, w2⟩ := wor_H (n := n) h3 (OKW_m hw (by omega))
  simp only [df_X13_others_321, df_X13_others_304, df_X13_others_264, df_X13_others_242, df_X13_others_237, df_X13_others_215, df_X13_others_198, df_X13_others_182, df_X13_others_94, df_X13_others_60, df_X13_others_0, df_X13_others, nb_b2, nb_b1, nb_let, eq_self, if_true, if_false, ↓reduceIte, show ((1 : Int32) = 0) = False from eq_false (by decide), show ((32 : Int32) = 0) = False from eq_false (by decide), show ((32 : Int32) = 31) = False from eq_false (by decide), show ((32 : Int32) = 33) = False from eq_false (by decide), show ((32 : Int32) = 38) = False from eq_false (by decide), show ((32 : Int32) = 39) = False from eq_false (by decide), show ((32 : Int32) ≤ 31) = False from eq_false (by decide), show ((32 : Int32) ≤ 2047) = True from eq_true (by decide), show ((32 : Int32) ≤ 32) = True from eq_true (by decide), show ((33 : Int32) ≤ 32) = False from eq_false (by decide), show ((2048 : Int32) ≤ 32) = False from eq_false (by decide), bq_11_5_25, bq_4_0_7, bq_9_9_12, bq_4_4_6, bq_6_6_5, bq_8_7_3, bq_5_5_2, bq_5_4_11, bq_9_6_7, bq_2_2_6, bq_3_3_5, bq_5_3_10, bq_5_5_12, bq_4_2_4, bq_7_6_2, bq_5_2_9, bq_7_6_7, sJ_R, sB_R, sX_R, jB_R, tB_R, e1, SR_12 h1, e2, SR_12 h2, e3, SR_12 h3, w1]
  refine ⟨_, rfl, fun u => absurd trivial u, fun _ => plo4 rfl (w2 _) ?_⟩
  simp only [RGB_0, or_0, RGB_s44, RGB_r98, RGB_r100, rgb_98, rgb_100]
  try simp only [Int32.or_assoc]
  try simp only [Int32.or_comm, or_lc]
  try simp only [Int32.or_assoc, Int32.or_comm, or_lc]
theorem shp_33 {n L e : Nat} {c : Nat → Nat} {BC B : St} {X : Nat → Nat} {nL st cu : Nat} (hV : RV n L e c BC B X nL cu) {ct : Nat} {gr : Bool} {PA BY OU : Nat → Int32} (hY : PY PA cu st) {p : Nat} {S : St} (h : SR B ct gr PA BY OU 0 p S) (hw : OKW B (ct + 4)) (w : Int32) {f p2 : Nat} {rs : List Nat} {m : Nat} {P : Nat → Tp} (h0 : ¬ f = 0 → sI B 15 = 0) (hTr : Tr n L e c BC [97] p f p2 rs m P) : ∃ S' : St, df_X13_others n 33 w S = some S' ∧ (¬ f = 0 → FL e B (nI f + 16 * sI B 13) S') ∧ (f = 0 → PLO e B ct gr PA BY OU p2 0 (by4 (w ||| RGB [97] rs)) S') := by
  have hT := hV.1
  have hl := hV.2.2.2.2.2.2.2
  obtain ⟨q1, p1, κ1, τ1, v1, x1, T1, hTr⟩ := hTr
  rw [if_neg (by decide), if_pos (by decide)] at hTr
  rcases hTr with ⟨g1, r1, rs1, rfl, hTr⟩ | hF
  rotate_left
  · have nf : ¬ f = 0 := by rcases hF with hF | hF <;> omega
    have hF2 : (tkG c τ1 q1 p1 = 33 ∧ f = 1) ∨ (tkG c τ1 q1 p1 = 32 ∧ f = 3) := by
      rcases hF with hF | ⟨hF | hF, hF2⟩
      · exact Or.inl hF
      · exact Or.inr ⟨hF, hF2⟩
      · exact absurd hF.2 (by unfold rfit; simp)
    obtain ⟨S1, e1, g1⟩ := tak_n hT h T1 (by omega)
    have ne := f13 hl (g := tkG c τ1 q1 p1)
    rw [f13e hF2] at g1 ne
    have fl := FN_L g1
    have f12 := (FL_f fl).1
    obtain ⟨W, w1, w2⟩ := wor_G (n := n) fl (m0_3 (h0 nf))
    simp only [df_X13_others_321, df_X13_others_304, df_X13_others_264, df_X13_others_242, df_X13_others_237, df_X13_others_215, df_X13_others_198, df_X13_others_182, df_X13_others_94, df_X13_others_60, df_X13_others_0, df_X13_others, nb_b2, nb_b1, nb_let, eq_self, if_true, if_false, ↓reduceIte, show ((1 : Int32) = 0) = False from eq_false (by decide), show ((33 : Int32) = 0) = False from eq_false (by decide), show ((33 : Int32) = 31) = False from eq_false (by decide), show ((33 : Int32) = 38) = False from eq_false (by decide), show ((33 : Int32) = 39) = False from eq_false (by decide), show ((33 : Int32) ≤ 31) = False from eq_false (by decide), show ((33 : Int32) ≤ 2047) = True from eq_true (by decide), show ((32 : Int32) ≤ 33) = True from eq_true (by decide), show ((33 : Int32) ≤ 33) = True from eq_true (by decide), show ((2048 : Int32) ≤ 33) = False from eq_false (by decide), bq_11_5_25, bq_4_0_7, bq_9_9_12, bq_4_4_6, bq_6_6_5, bq_8_7_3, bq_5_5_2, bq_5_4_11, bq_9_6_7, bq_2_2_6, bq_3_3_5, bq_5_3_10, bq_5_5_12, bq_4_2_4, bq_7_6_2, bq_5_2_9, bq_7_6_7, sJ_R, sB_R, sX_R, jB_R, tB_R, e1, f12, eq_false ne, w1]
    exact ⟨_, rfl, fun _ => w2 _, fun u => absurd u nf⟩
  obtain ⟨S1, e1, h1⟩ := tak_y hT h T1 g1
  obtain ⟨rfl, rfl, rfl⟩ := hTr
  obtain ⟨W, w1, w2⟩ := wor_H (n := n) h1 (OKW_m hw (by omega))
  simp only [df_X13_others_321, df_X13_others_304, df_X13_others_264, df_X13_others_242, df_X13_others_237, df_X13_others_215, df_X13_others_198, df_X13_others_182, df_X13_others_94, df_X13_others_60, df_X13_others_0, df_X13_others, nb_b2, nb_b1, nb_let, eq_self, if_true, if_false, ↓reduceIte, show ((1 : Int32) = 0) = False from eq_false (by decide), show ((33 : Int32) = 0) = False from eq_false (by decide), show ((33 : Int32) = 31) = False from eq_false (by decide), show ((33 : Int32) = 38) = False from eq_false (by decide), show ((33 : Int32) = 39) = False from eq_false (by decide), show ((33 : Int32) ≤ 31) = False from eq_false (by decide), show ((33 : Int32) ≤ 2047) = True from eq_true (by decide), show ((32 : Int32) ≤ 33) = True from eq_true (by decide), show ((33 : Int32) ≤ 33) = True from eq_true (by decide), show ((2048 : Int32) ≤ 33) = False from eq_false (by decide), bq_11_5_25, bq_4_0_7, bq_9_9_12, bq_4_4_6, bq_6_6_5, bq_8_7_3, bq_5_5_2, bq_5_4_11, bq_9_6_7, bq_2_2_6, bq_3_3_5, bq_5_3_10, bq_5_5_12, bq_4_2_4, bq_7_6_2, bq_5_2_9, bq_7_6_7, sJ_R, sB_R, sX_R, jB_R, tB_R, e1, SR_12 h1, w1]
  refine ⟨_, rfl, fun u => absurd trivial u, fun _ => plo4 rfl (w2 _) ?_⟩
  simp only [RGB_0, or_0, RGB_r97, rgb_97]
  try simp only [Int32.or_assoc]
  try simp only [Int32.or_comm, or_lc]
  try simp only [Int32.or_assoc, Int32.or_comm, or_lc]
theorem shp_8 {n L e : Nat} {c : Nat → Nat} {BC B : St} {X : Nat → Nat} {nL st cu : Nat} (hV : RV n L e c BC B X nL cu) {ct : Nat} {gr : Bool} {PA BY OU : Nat → Int32} (hY : PY PA cu st) {p : Nat} {S : St} (h : SR B ct gr PA BY OU 0 p (pI S 7 (nI p))) (hw : OKW B (ct + 4)) (w : Int32) {f p2 : Nat} {rs : List Nat} {m : Nat} {P : Nat → Tp} (h0 : ¬ f = 0 → sI B 15 = 0) (hTr : Tr n L e c BC [100, 44, 74] p f p2 rs m P) : ∃ S' : St, df_X13_jumps_37 n 8 w (nI p) 1 S = some S' ∧ (¬ f = 0 → FL e B (nI f + 16 * sI B 13) S') ∧ (f = 0 → ∃ (z : Int32) (ms dv : Bool), rnF (VW c X e nL st B) P m = ([z], ms, dv) ∧ PLO e B ct gr PA BY OU p2 (wiF B ms dv (lfO 74 (vtO 74 (sI B 17) z))) (by4 (w ||| RGB [100, 44, 74] rs ||| lbO 74 (vtO 74 (sI B 17) z))) S') := by
  have hT := hV.1
  have hl := hV.2.2.2.2.2.2.2
  obtain ⟨q1, p1, κ1, τ1, v1, x1, T1, hTr⟩ := hTr
  rw [if_neg (by decide), if_pos (by decide)] at hTr
  rcases hTr with ⟨g1, r1, rs1, rfl, hTr⟩ | hF
  rotate_left
  · have nf : ¬ f = 0 := by rcases hF with hF | hF <;> omega
    have hF2 : (tkG c τ1 q1 p1 = 33 ∧ f = 1) ∨ (tkG c τ1 q1 p1 = 32 ∧ f = 3) := by
      rcases hF with hF | ⟨hF | hF, hF2⟩
      · exact Or.inl hF
      · exact Or.inr ⟨hF, hF2⟩
      · exact absurd hF.2 (by unfold rfit; simp)
    obtain ⟨S1, e1, g1⟩ := tak_n hT h T1 (by omega)
    have ne := f13 hl (g := tkG c τ1 q1 p1)
    rw [f13e hF2] at g1 ne
    have fl := FN_L g1
    have f12 := (FL_f fl).1
    have ec := com_F (n := n) fl ne
    simp only [df_X13_jumps_67, df_X13_jumps_55, df_X13_jumps_37, df_X13_jumps_36, df_X13_jumps_0, df_X13_jumps, nb_b2, nb_b1, nb_let, eq_self, if_true, if_false, ↓reduceIte, show ((1 : Int32) = 0) = False from eq_false (by decide), show ((8 : Int32) = 0) = False from eq_false (by decide), show ((8 : Int32) = 34) = False from eq_false (by decide), bq_11_5_25, bq_4_0_7, bq_9_9_12, bq_4_4_6, bq_6_6_5, bq_8_7_3, bq_5_5_2, bq_5_4_11, bq_9_6_7, bq_2_2_6, bq_3_3_5, bq_5_3_10, bq_5_5_12, bq_4_2_4, bq_7_6_2, bq_5_2_9, bq_7_6_7, sJ_R, sB_R, sX_R, jB_R, tB_R, e1, f12, eq_false ne, ec]
    exact ⟨_, rfl, fun _ => fl, fun u => absurd u nf⟩
  obtain ⟨S1, e1, h1⟩ := tak_y hT h T1 g1
  obtain ⟨q2, p2, κ2, τ2, v2, x2, T2, hTr⟩ := hTr
  rw [if_pos (by decide)] at hTr
  rcases hTr with ⟨g2, hTr⟩ | hF
  rotate_left
  · have nf : ¬ f = 0 := by omega
    obtain ⟨S2, e2, g2⟩ := com_n hT h1 T2 hF.1
    rw [hF.2] at nf h0 ⊢
    have fl : FL e B (nI 1 + 16 * sI B 13) S2 := FN_L g2
    have ne : ¬ nI 1 + 16 * sI B 13 = 0 := flt_n hl 1 (by omega)
    have f12 := (FL_f fl).1
    simp only [df_X13_jumps_67, df_X13_jumps_55, df_X13_jumps_37, df_X13_jumps_36, df_X13_jumps_0, df_X13_jumps, nb_b2, nb_b1, nb_let, eq_self, if_true, if_false, ↓reduceIte, show ((1 : Int32) = 0) = False from eq_false (by decide), show ((8 : Int32) = 0) = False from eq_false (by decide), show ((8 : Int32) = 34) = False from eq_false (by decide), bq_11_5_25, bq_4_0_7, bq_9_9_12, bq_4_4_6, bq_6_6_5, bq_8_7_3, bq_5_5_2, bq_5_4_11, bq_9_6_7, bq_2_2_6, bq_3_3_5, bq_5_3_10, bq_5_5_12, bq_4_2_4, bq_7_6_2, bq_5_2_9, bq_7_6_7, sJ_R, sB_R, sX_R, jB_R, tB_R, e1, SR_12 h1, e2, f12, eq_false ne]
    exact ⟨_, rfl, fun _ => fl, fun u => absurd u nf⟩
  obtain ⟨S2, e2, h2⟩ := com_y hT h1 T2 g2
  obtain ⟨q3, p3, κ3, τ3, v3, x3, T3, hTr⟩ := hTr
  rw [if_neg (by decide), if_neg (by decide)] at hTr
  obtain ⟨ok, px, R, hTr⟩ := hTr
  rcases hTr with ⟨rfl, z1, z2, hTr⟩ | ⟨rfl, hF⟩
  rotate_left
  · have nf : ¬ f = 0 := by omega
    have ne : ¬ nI 1 + 16 * sI B 13 = 0 := flt_n hl 1 (by omega)
    obtain ⟨wv, S3, e3, fl⟩ := exp_n hV hY h2 R
    have ef : ∀ v : Int32, df_X13_fits n v (-1048576) 1048574 2 S3 = some S3 := fun v => fit_F fl ne v _ _ _ (by decide)
    have f12 : sI S3 12 = nI 1 + 16 * sI B 13 := (FL_f fl).1
    rw [hF] at nf h0 ⊢
    obtain ⟨W, w1, w2⟩ := wor_G (n := n) fl (m0_3 (h0 nf))
    simp only [df_X13_jumps_67, df_X13_jumps_55, df_X13_jumps_37, df_X13_jumps_36, df_X13_jumps_0, df_X13_jumps, nb_b2, nb_b1, nb_let, eq_self, if_true, if_false, ↓reduceIte, show ((1 : Int32) = 0) = False from eq_false (by decide), show ((8 : Int32) = 0) = False from eq_false (by decide), show ((8 : Int32) = 34) = False from eq_false (by decide), bq_11_5_25, bq_4_0_7, bq_9_9_12, bq_4_4_6, bq_6_6_5, bq_8_7_3, bq_5_5_2, bq_5_4_11, bq_9_6_7, bq_2_2_6, bq_3_3_5, bq_5_3_10, bq_5_5_12, bq_4_2_4, bq_7_6_2, bq_5_2_9, bq_7_6_7, sJ_R, sB_R, sX_R, jB_R, tB_R, e1, SR_12 h1, e2, SR_12 h2, e3, f12, eq_false ne, ef, w1]
    exact ⟨_, rfl, fun _ => w2 _, fun u => absurd u nf⟩
  obtain ⟨wv, S3a, S3, ms, dv, e3, e17, ef, rn, h3, hpx⟩ := exfit hV hY h2 R (fun x => x - sI B 17) (-1048576) 1048574 (k := 2) (by decide)
  have ef : df_X13_fits n (wv - sI B 17) (-1048576) 1048574 2 S3a = some S3 := ef
  have h3 : SR B ct gr PA BY OU (wiF B ms dv (lfO 74 (vtO 74 (sI B 17) wv))) px S3 := h3
  by_cases zz : wiF B ms dv (lfO 74 (vtO 74 (sI B 17) wv)) = 0
  rotate_left
  · have fl : FL e B _ S3 := ⟨_, _, _, _, _, _, hpx, h3⟩
    have f12 := (FL_f fl).1
    have f0 := f0_2 h0 (wi_2 zz)
    obtain ⟨W, w1, w2⟩ := wor_G (n := n) fl (m2_3 (wi_2 zz))
    simp only [df_X13_jumps_67, df_X13_jumps_55, df_X13_jumps_37, df_X13_jumps_36, df_X13_jumps_0, df_X13_jumps, nb_b2, nb_b1, nb_let, eq_self, if_true, if_false, ↓reduceIte, show ((1 : Int32) = 0) = False from eq_false (by decide), show ((8 : Int32) = 0) = False from eq_false (by decide), show ((8 : Int32) = 34) = False from eq_false (by decide), bq_11_5_25, bq_4_0_7, bq_9_9_12, bq_4_4_6, bq_6_6_5, bq_8_7_3, bq_5_5_2, bq_5_4_11, bq_9_6_7, bq_2_2_6, bq_3_3_5, bq_5_3_10, bq_5_5_12, bq_4_2_4, bq_7_6_2, bq_5_2_9, bq_7_6_7, sJ_R, sB_R, sX_R, jB_R, tB_R, e1, SR_12 h1, e2, SR_12 h2, e3, e17, ef, f12, eq_false zz, w1]
    exact ⟨_, rfl, fun u => absurd f0 u, fun _ => ⟨wv, ms, dv, rn, fun u => absurd u zz, fun _ => w2 _⟩⟩
  have h3z := h3
  rw [zz] at h3z
  obtain ⟨rfl, rfl, rfl⟩ := hTr
  obtain ⟨W, w1, w2⟩ := wor_H (n := n) h3z (OKW_m hw (by omega))
  simp only [df_X13_jumps_67, df_X13_jumps_55, df_X13_jumps_37, df_X13_jumps_36, df_X13_jumps_0, df_X13_jumps, nb_b2, nb_b1, nb_let, eq_self, if_true, if_false, ↓reduceIte, show ((1 : Int32) = 0) = False from eq_false (by decide), show ((8 : Int32) = 0) = False from eq_false (by decide), show ((8 : Int32) = 34) = False from eq_false (by decide), bq_11_5_25, bq_4_0_7, bq_9_9_12, bq_4_4_6, bq_6_6_5, bq_8_7_3, bq_5_5_2, bq_5_4_11, bq_9_6_7, bq_2_2_6, bq_3_3_5, bq_5_3_10, bq_5_5_12, bq_4_2_4, bq_7_6_2, bq_5_2_9, bq_7_6_7, sJ_R, sB_R, sX_R, jB_R, tB_R, e1, SR_12 h1, e2, SR_12 h2, e3, e17, ef, SR_12 h3z, w1]
  refine ⟨_, rfl, fun u => absurd trivial u, fun _ => ⟨wv, ms, dv, rn, plo4 zz (w2 _) ?_⟩⟩
  simp only [RGB_0, or_0, RGB_s44, RGB_s74, RGB_r100, rgb_100, lbo_74, vto_74]
  try simp only [Int32.or_assoc]
  try simp only [Int32.or_comm, or_lc]
  try simp only [Int32.or_assoc, Int32.or_comm, or_lc]
theorem shp_30 {n L e : Nat} {c : Nat → Nat} {BC B : St} {X : Nat → Nat} {nL st cu : Nat} (hV : RV n L e c BC B X nL cu) {ct : Nat} {gr : Bool} {PA BY OU : Nat → Int32} (hY : PY PA cu st) {p0 p : Nat} {S : St} (h : SR B ct gr PA BY OU 0 p0 S) (hw : OKW B (ct + 4)) (w : Int32) {f p2 : Nat} {rs : List Nat} {m : Nat} {P : Nat → Tp} (h0 : ¬ f = 0 → sI B 15 = 0) {q0 κ0 τ0 v0 : Nat} {x0 : Int32} (T0 : TS n L e c BC p0 q0 p κ0 τ0 v0 x0) (g0 : tkG c τ0 q0 p < 32) {q9 p9 κ9 τ9 v9 : Nat} {x9 : Int32} (T9 : TS n L e c BC p q9 p9 κ9 τ9 v9 x9) (h9 : ¬ τ9 = 0) (hTr : Tr n L e c BC [44, 73, 40, 97, 41] p f p2 rs m P) : ∃ S' : St, df_X13_longs n 30 w S = some S' ∧ (¬ f = 0 → FL e B (nI f + 16 * sI B 13) S') ∧ (f = 0 → ∃ (z : Int32) (ms dv : Bool), rnF (VW c X e nL st B) P m = ([z], ms, dv) ∧ PLO e B ct gr PA BY OU p2 (wiF B ms dv (lfO 73 (vtO 73 (sI B 17) z))) (by4 ((w ||| rgb 100 (tkG c τ0 q0 p)) ||| RGB [44, 73, 40, 97, 41] rs ||| lbO 73 (vtO 73 (sI B 17) z))) S') := by
  have hT := hV.1
  have hl := hV.2.2.2.2.2.2.2
  obtain ⟨S0a, e0a, h0a⟩ := tak_y hT h T0 g0
  obtain ⟨S0, e0, h0c⟩ := ise_S hT h0a T9
  rw [decide_eq_false h9] at e0
  have e0 : df_X13_isEnd n S0a = some (0, S0) := e0
  obtain ⟨q1, p1, κ1, τ1, v1, x1, T1, hTr⟩ := hTr
  rw [if_pos (by decide)] at hTr
  rcases hTr with ⟨g1, hTr⟩ | hF
  rotate_left
  · have nf : ¬ f = 0 := by omega
    obtain ⟨S1, e1, g1⟩ := com_n hT h0c T1 hF.1
    rw [hF.2] at nf h0 ⊢
    have fl : FL e B (nI 1 + 16 * sI B 13) S1 := FN_L g1
    have ne : ¬ nI 1 + 16 * sI B 13 = 0 := flt_n hl 1 (by omega)
    have f12 := (FL_f fl).1
    simp only [df_X13_longs_384, df_X13_longs_171, df_X13_longs_109, df_X13_longs_81, df_X13_longs_40, df_X13_longs_0, df_X13_longs, nb_b2, nb_b1, nb_let, eq_self, if_true, if_false, ↓reduceIte, show ((1 : Int32) = 0) = False from eq_false (by decide), show ((30 : Int32) = 1) = False from eq_false (by decide), show ((30 : Int32) = 2) = False from eq_false (by decide), show ((30 : Int32) = 3) = False from eq_false (by decide), show ((30 : Int32) = 4) = False from eq_false (by decide), show ((30 : Int32) = 5) = False from eq_false (by decide), show ((30 : Int32) = 6) = False from eq_false (by decide), show ((30 : Int32) = 10) = False from eq_false (by decide), show ((30 : Int32) = 11) = False from eq_false (by decide), bq_11_5_25, bq_4_0_7, bq_9_9_12, bq_4_4_6, bq_6_6_5, bq_8_7_3, bq_5_5_2, bq_5_4_11, bq_9_6_7, bq_2_2_6, bq_3_3_5, bq_5_3_10, bq_5_5_12, bq_4_2_4, bq_7_6_2, bq_5_2_9, bq_7_6_7, sJ_R, sB_R, sX_R, jB_R, tB_R, e0a, SR_12 h0a, e0, SR_12 h0c, e1, f12, eq_false ne]
    exact ⟨_, rfl, fun _ => fl, fun u => absurd u nf⟩
  obtain ⟨S1, e1, h1⟩ := com_y hT h0c T1 g1
  obtain ⟨q2, p2, κ2, τ2, v2, x2, T2, hTr⟩ := hTr
  rw [if_neg (by decide), if_neg (by decide)] at hTr
  obtain ⟨ok, px, R, hTr⟩ := hTr
  rcases hTr with ⟨rfl, z1, z2, hTr⟩ | ⟨rfl, hF⟩
  rotate_left
  · have nf : ¬ f = 0 := by omega
    have ne : ¬ nI 1 + 16 * sI B 13 = 0 := flt_n hl 1 (by omega)
    obtain ⟨wv, S2, e2, fl⟩ := wit_n hV hY h1 R (-2048) 2047 1 (by decide)
    have f12 : sI S2 12 = nI 1 + 16 * sI B 13 := (FL_f fl).1
    rw [hF] at nf h0 ⊢
    obtain ⟨W, w1, w2⟩ := wor_G (n := n) fl (m0_3 (h0 nf))
    simp only [df_X13_longs_384, df_X13_longs_171, df_X13_longs_109, df_X13_longs_81, df_X13_longs_40, df_X13_longs_0, df_X13_longs, nb_b2, nb_b1, nb_let, eq_self, if_true, if_false, ↓reduceIte, show ((1 : Int32) = 0) = False from eq_false (by decide), show ((30 : Int32) = 1) = False from eq_false (by decide), show ((30 : Int32) = 2) = False from eq_false (by decide), show ((30 : Int32) = 3) = False from eq_false (by decide), show ((30 : Int32) = 4) = False from eq_false (by decide), show ((30 : Int32) = 5) = False from eq_false (by decide), show ((30 : Int32) = 6) = False from eq_false (by decide), show ((30 : Int32) = 10) = False from eq_false (by decide), show ((30 : Int32) = 11) = False from eq_false (by decide), bq_11_5_25, bq_4_0_7, bq_9_9_12, bq_4_4_6, bq_6_6_5, bq_8_7_3, bq_5_5_2, bq_5_4_11, bq_9_6_7, bq_2_2_6, bq_3_3_5, bq_5_3_10, bq_5_5_12, bq_4_2_4, bq_7_6_2, bq_5_2_9, bq_7_6_7, sJ_R, sB_R, sX_R, jB_R, tB_R, e0a, SR_12 h0a, e0, SR_12 h0c, e1, SR_12 h1, e2, f12, eq_false ne, w1]
    exact ⟨_, rfl, fun _ => w2 _, fun u => absurd u nf⟩
  obtain ⟨wv, S2, ms, dv, e2, rn, h2, hpx⟩ := wit_y hV hY h1 R (-2048) 2047 (k := 1) (by decide)
  have e2 : df_X13_within n (-2048) 2047 1 S1 = some (wv, S2) := e2
  have h2 : SR B ct gr PA BY OU (wiF B ms dv (lfO 73 (vtO 73 (sI B 17) wv))) px S2 := h2
  by_cases zz : wiF B ms dv (lfO 73 (vtO 73 (sI B 17) wv)) = 0
  rotate_left
  · have fl : FL e B _ S2 := ⟨_, _, _, _, _, _, hpx, h2⟩
    have f12 := (FL_f fl).1
    have f0 := f0_2 h0 (wi_2 zz)
    obtain ⟨W, w1, w2⟩ := wor_G (n := n) fl (m2_3 (wi_2 zz))
    simp only [df_X13_longs_384, df_X13_longs_171, df_X13_longs_109, df_X13_longs_81, df_X13_longs_40, df_X13_longs_0, df_X13_longs, nb_b2, nb_b1, nb_let, eq_self, if_true, if_false, ↓reduceIte, show ((1 : Int32) = 0) = False from eq_false (by decide), show ((30 : Int32) = 1) = False from eq_false (by decide), show ((30 : Int32) = 2) = False from eq_false (by decide), show ((30 : Int32) = 3) = False from eq_false (by decide), show ((30 : Int32) = 4) = False from eq_false (by decide), show ((30 : Int32) = 5) = False from eq_false (by decide), show ((30 : Int32) = 6) = False from eq_false (by decide), show ((30 : Int32) = 10) = False from eq_false (by decide), show ((30 : Int32) = 11) = False from eq_false (by decide), bq_11_5_25, bq_4_0_7, bq_9_9_12, bq_4_4_6, bq_6_6_5, bq_8_7_3, bq_5_5_2, bq_5_4_11, bq_9_6_7, bq_2_2_6, bq_3_3_5, bq_5_3_10, bq_5_5_12, bq_4_2_4, bq_7_6_2, bq_5_2_9, bq_7_6_7, sJ_R, sB_R, sX_R, jB_R, tB_R, e0a, SR_12 h0a, e0, SR_12 h0c, e1, SR_12 h1, e2, f12, eq_false zz, w1]
    exact ⟨_, rfl, fun u => absurd f0 u, fun _ => ⟨wv, ms, dv, rn, fun u => absurd u zz, fun _ => w2 _⟩⟩
  have h2z := h2
  rw [zz] at h2z
  obtain ⟨q3, p3, κ3, τ3, v3, x3, T3, hTr⟩ := hTr
  rw [if_pos (by decide)] at hTr
  rcases hTr with ⟨g3, hTr⟩ | hF
  rotate_left
  · have nf : ¬ f = 0 := by omega
    obtain ⟨r, S3, e3, fl⟩ := brk_1 hT h2z hl T3 hF.1
    rw [hF.2] at nf h0 ⊢
    obtain ⟨W, w1, w2⟩ := wor_G (n := n) fl (m0_3 (h0 nf))
    simp only [df_X13_longs_384, df_X13_longs_171, df_X13_longs_109, df_X13_longs_81, df_X13_longs_40, df_X13_longs_0, df_X13_longs, nb_b2, nb_b1, nb_let, eq_self, if_true, if_false, ↓reduceIte, show ((1 : Int32) = 0) = False from eq_false (by decide), show ((30 : Int32) = 1) = False from eq_false (by decide), show ((30 : Int32) = 2) = False from eq_false (by decide), show ((30 : Int32) = 3) = False from eq_false (by decide), show ((30 : Int32) = 4) = False from eq_false (by decide), show ((30 : Int32) = 5) = False from eq_false (by decide), show ((30 : Int32) = 6) = False from eq_false (by decide), show ((30 : Int32) = 10) = False from eq_false (by decide), show ((30 : Int32) = 11) = False from eq_false (by decide), bq_11_5_25, bq_4_0_7, bq_9_9_12, bq_4_4_6, bq_6_6_5, bq_8_7_3, bq_5_5_2, bq_5_4_11, bq_9_6_7, bq_2_2_6, bq_3_3_5, bq_5_3_10, bq_5_5_12, bq_4_2_4, bq_7_6_2, bq_5_2_9, bq_7_6_7, sJ_R, sB_R, sX_R, jB_R, tB_R, e0a, SR_12 h0a, e0, SR_12 h0c, e1, SR_12 h1, e2, SR_12 h2z, e3, w1]
    exact ⟨_, rfl, fun _ => w2 _, fun u => absurd u nf⟩
  obtain ⟨q4, p4, κ4, τ4, v4, x4, T4, hTr⟩ := hTr
  rw [if_neg (by decide), if_pos (by decide)] at hTr
  rcases hTr with ⟨g4, r4, rs4, rfl, hTr⟩ | hF
  rotate_left
  · have nf : ¬ f = 0 := by rcases hF with hF | hF <;> omega
    have hF2 : (tkG c τ4 q4 p4 = 33 ∧ f = 1) ∨ (tkG c τ4 q4 p4 = 32 ∧ f = 3) := by
      rcases hF with hF | ⟨hF | hF, hF2⟩
      · exact Or.inl hF
      · exact Or.inr ⟨hF, hF2⟩
      · exact absurd hF.2 (by unfold rfit; simp)
    obtain ⟨r, S4, e4, fl⟩ := brk_2 hT h2z hl T3 g3 T4 (by omega)
    rw [f13e hF2] at fl
    obtain ⟨W, w1, w2⟩ := wor_G (n := n) fl (m0_3 (h0 nf))
    simp only [df_X13_longs_384, df_X13_longs_171, df_X13_longs_109, df_X13_longs_81, df_X13_longs_40, df_X13_longs_0, df_X13_longs, nb_b2, nb_b1, nb_let, eq_self, if_true, if_false, ↓reduceIte, show ((1 : Int32) = 0) = False from eq_false (by decide), show ((30 : Int32) = 1) = False from eq_false (by decide), show ((30 : Int32) = 2) = False from eq_false (by decide), show ((30 : Int32) = 3) = False from eq_false (by decide), show ((30 : Int32) = 4) = False from eq_false (by decide), show ((30 : Int32) = 5) = False from eq_false (by decide), show ((30 : Int32) = 6) = False from eq_false (by decide), show ((30 : Int32) = 10) = False from eq_false (by decide), show ((30 : Int32) = 11) = False from eq_false (by decide), bq_11_5_25, bq_4_0_7, bq_9_9_12, bq_4_4_6, bq_6_6_5, bq_8_7_3, bq_5_5_2, bq_5_4_11, bq_9_6_7, bq_2_2_6, bq_3_3_5, bq_5_3_10, bq_5_5_12, bq_4_2_4, bq_7_6_2, bq_5_2_9, bq_7_6_7, sJ_R, sB_R, sX_R, jB_R, tB_R, e0a, SR_12 h0a, e0, SR_12 h0c, e1, SR_12 h1, e2, SR_12 h2z, e4, w1]
    exact ⟨_, rfl, fun _ => w2 _, fun u => absurd u nf⟩
  obtain ⟨q5, p5, κ5, τ5, v5, x5, T5, hTr⟩ := hTr
  rw [if_pos (by decide)] at hTr
  rcases hTr with ⟨g5, hTr⟩ | hF
  rotate_left
  · have nf : ¬ f = 0 := by omega
    obtain ⟨r, S5, e5, fl⟩ := brk_3 hT h2z hl T3 g3 T4 g4 T5 hF.1
    rw [hF.2] at nf h0 ⊢
    obtain ⟨W, w1, w2⟩ := wor_G (n := n) fl (m0_3 (h0 nf))
    simp only [df_X13_longs_384, df_X13_longs_171, df_X13_longs_109, df_X13_longs_81, df_X13_longs_40, df_X13_longs_0, df_X13_longs, nb_b2, nb_b1, nb_let, eq_self, if_true, if_false, ↓reduceIte, show ((1 : Int32) = 0) = False from eq_false (by decide), show ((30 : Int32) = 1) = False from eq_false (by decide), show ((30 : Int32) = 2) = False from eq_false (by decide), show ((30 : Int32) = 3) = False from eq_false (by decide), show ((30 : Int32) = 4) = False from eq_false (by decide), show ((30 : Int32) = 5) = False from eq_false (by decide), show ((30 : Int32) = 6) = False from eq_false (by decide), show ((30 : Int32) = 10) = False from eq_false (by decide), show ((30 : Int32) = 11) = False from eq_false (by decide), bq_11_5_25, bq_4_0_7, bq_9_9_12, bq_4_4_6, bq_6_6_5, bq_8_7_3, bq_5_5_2, bq_5_4_11, bq_9_6_7, bq_2_2_6, bq_3_3_5, bq_5_3_10, bq_5_5_12, bq_4_2_4, bq_7_6_2, bq_5_2_9, bq_7_6_7, sJ_R, sB_R, sX_R, jB_R, tB_R, e0a, SR_12 h0a, e0, SR_12 h0c, e1, SR_12 h1, e2, SR_12 h2z, e5, w1]
    exact ⟨_, rfl, fun _ => w2 _, fun u => absurd u nf⟩
  obtain ⟨S5, e5, h5⟩ := brk_y hT h2z T3 g3 T4 g4 T5 g5
  obtain ⟨rfl, rfl, rfl⟩ := hTr
  obtain ⟨W, w1, w2⟩ := wor_H (n := n) h5 (OKW_m hw (by omega))
  simp only [df_X13_longs_384, df_X13_longs_171, df_X13_longs_109, df_X13_longs_81, df_X13_longs_40, df_X13_longs_0, df_X13_longs, nb_b2, nb_b1, nb_let, eq_self, if_true, if_false, ↓reduceIte, show ((1 : Int32) = 0) = False from eq_false (by decide), show ((30 : Int32) = 1) = False from eq_false (by decide), show ((30 : Int32) = 2) = False from eq_false (by decide), show ((30 : Int32) = 3) = False from eq_false (by decide), show ((30 : Int32) = 4) = False from eq_false (by decide), show ((30 : Int32) = 5) = False from eq_false (by decide), show ((30 : Int32) = 6) = False from eq_false (by decide), show ((30 : Int32) = 10) = False from eq_false (by decide), show ((30 : Int32) = 11) = False from eq_false (by decide), bq_11_5_25, bq_4_0_7, bq_9_9_12, bq_4_4_6, bq_6_6_5, bq_8_7_3, bq_5_5_2, bq_5_4_11, bq_9_6_7, bq_2_2_6, bq_3_3_5, bq_5_3_10, bq_5_5_12, bq_4_2_4, bq_7_6_2, bq_5_2_9, bq_7_6_7, sJ_R, sB_R, sX_R, jB_R, tB_R, e0a, SR_12 h0a, e0, SR_12 h0c, e1, SR_12 h1, e2, SR_12 h2z, e5, SR_12 h5, w1]
  refine ⟨_, rfl, fun u => absurd trivial u, fun _ => ⟨wv, ms, dv, rn, plo4 zz (w2 _) ?_⟩⟩
  simp only [RGB_0, or_0, RGB_s40, RGB_s41, RGB_s44, RGB_s73, RGB_r97, rgb_97, rgb_100, lbo_73, vto_73]
  try simp only [Int32.or_assoc]
  try simp only [Int32.or_comm, or_lc]
  try simp only [Int32.or_assoc, Int32.or_comm, or_lc]

