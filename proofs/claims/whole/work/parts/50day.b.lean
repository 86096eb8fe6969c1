/-- shapes of one half -/
theorem shp_13 {n L e : Nat} {c : Nat → Nat} {BC B : St} {X : Nat → Nat} {nL st cu : Nat} (hV : RV n L e c BC B X nL cu) {ct : Nat} {gr : Bool} {PA BY OU : Nat → Int32} (hY : PY PA cu st) {p : Nat} {S : St} (h : SR B ct gr PA BY OU 0 p S) (hw : OKW B (ct + 2)) (w : Int32) {f p2 : Nat} {rs : List Nat} {m : Nat} {P : Nat → Tp} (h0 : ¬ f = 0 → sI B 15 = 0) (hTr : Tr n L e c BC [112, 44, 88] p f p2 rs m P) : ∃ S' : St, df_X13_shorts n 13 w S = some S' ∧ (¬ f = 0 → FL e B (nI f + 16 * sI B 13) S') ∧ (f = 0 → ∃ (z : Int32) (ms dv : Bool), rnF (VW c X e nL st B) P m = ([z], ms, dv) ∧ PLO e B ct gr PA BY OU p2 (wiF B ms dv (lfO 88 (vtO 88 (sI B 17) z))) (by2 (w ||| RGB [112, 44, 88] rs ||| lbO 88 (vtO 88 (sI B 17) z))) S') := by
  have hT := hV.1
  have hl := hV.2.2.2.2.2.2.2
  obtain ⟨q1, p1, κ1, τ1, v1, x1, T1, hTr⟩ := hTr
  rw [if_neg (by decide), if_pos (by decide)] at hTr
  rcases hTr with ⟨g1, r1, rs1, rfl, hTr⟩ | hF
  rotate_left
  · have nf : ¬ f = 0 := by rcases hF with hF | hF <;> omega
    have hg : ¬ (8 ≤ tkG c τ1 q1 p1 ∧ tkG c τ1 q1 p1 ≤ 15) ∧ (if tkG c τ1 q1 p1 = 33 then (1 : Int32) else 3) = nI f := by
      rcases hF with hF | ⟨hF | hF, hF2⟩
      · exact ⟨by omega, f13e (Or.inl hF)⟩
      · exact ⟨by omega, f13e (Or.inr ⟨hF, hF2⟩)⟩
      · refine ⟨fun z => ?_, ?_⟩
        · have := hF.2
          unfold rfit at this
          simp at this
          omega
        · rw [if_neg (by omega), hF2]; rfl
    obtain ⟨r, S1, e1, g1⟩ := n8_n hT h T1 hl hg.1
    have ne := f13 hl (g := tkG c τ1 q1 p1)
    rw [hg.2] at g1 ne
    have fl := FN_L g1
    have f12 := (FL_f fl).1
    have ec := com_F (n := n) fl ne
    simp only [df_X13_shorts_341, df_X13_shorts_287, df_X13_shorts_221, df_X13_shorts_206, df_X13_shorts_195, df_X13_shorts_156, df_X13_shorts_140, df_X13_shorts_135, df_X13_shorts_139, df_X13_shorts_0, df_X13_shorts, df_X13_smalls_306, df_X13_smalls_126, df_X13_smalls_110, df_X13_smalls_109, df_X13_smalls_0, df_X13_smalls, df_X13_plainSix_21, df_X13_plainSix_0, df_X13_plainSix, df_X13_stacked_84, df_X13_stacked_0, df_X13_stacked, nb_b2, nb_b1, nb_let, eq_self, if_true, if_false, ↓reduceIte, show ((1 : Int32) = 0) = False from eq_false (by decide), show ((13 : Int32) < 16) = True from eq_true (by decide), show ((13 : Int32) = 0) = False from eq_false (by decide), show ((13 : Int32) = 17) = False from eq_false (by decide), show ((13 : Int32) = 18) = False from eq_false (by decide), show ((13 : Int32) = 19) = False from eq_false (by decide), show ((13 : Int32) = 20) = False from eq_false (by decide), show ((13 : Int32) = 21) = False from eq_false (by decide), show ((13 : Int32) = 22) = False from eq_false (by decide), show ((13 : Int32) = 23) = False from eq_false (by decide), show ((13 : Int32) = 25) = False from eq_false (by decide), show ((13 : Int32) = 26) = False from eq_false (by decide), show ((13 : Int32) = 27) = False from eq_false (by decide), show ((13 : Int32) = 28) = False from eq_false (by decide), show ((13 : Int32) ≤ 20) = True from eq_true (by decide), show ((16 : Int32) ≤ 13) = False from eq_false (by decide), show ((25 : Int32) ≤ 13) = False from eq_false (by decide), bq_11_5_25, bq_4_0_7, bq_9_9_12, bq_4_4_6, bq_6_6_5, bq_8_7_3, bq_5_5_2, bq_5_4_11, bq_9_6_7, bq_2_2_6, bq_3_3_5, bq_5_3_10, bq_5_5_12, bq_4_2_4, bq_7_6_2, bq_5_2_9, bq_7_6_7, sJ_R, sB_R, sX_R, jB_R, tB_R, e1, f12, eq_false ne, ec]
    exact ⟨_, rfl, fun _ => fl, fun u => absurd u nf⟩
  have gg : 8 ≤ tkG c τ1 q1 p1 ∧ tkG c τ1 q1 p1 ≤ 15 := by unfold rfit at r1; simp at r1; exact r1
  obtain ⟨S1, e1, h1⟩ := n8_y hT h T1 gg.1 gg.2
  obtain ⟨q2, p2, κ2, τ2, v2, x2, T2, hTr⟩ := hTr
  rw [if_pos (by decide)] at hTr
  rcases hTr with ⟨g2, hTr⟩ | hF
  rotate_left
  · have nf : ¬ f = 0 := by omega
    obtain ⟨S2, e2, g2⟩ := com_n hT h1 T2 hF.1
    rw [hF.2] at nf h0 ⊢
    have fl : FL e B (nI 1 + 16 * sI B 13) S2 := FN_L g2
    have ne : ¬ nI 1 + 16 * sI B 13 = 0 := flt_n hl 1 (by omega)
    have f12 := (FL_f fl).1
    simp only [df_X13_shorts_341, df_X13_shorts_287, df_X13_shorts_221, df_X13_shorts_206, df_X13_shorts_195, df_X13_shorts_156, df_X13_shorts_140, df_X13_shorts_135, df_X13_shorts_139, df_X13_shorts_0, df_X13_shorts, df_X13_smalls_306, df_X13_smalls_126, df_X13_smalls_110, df_X13_smalls_109, df_X13_smalls_0, df_X13_smalls, df_X13_plainSix_21, df_X13_plainSix_0, df_X13_plainSix, df_X13_stacked_84, df_X13_stacked_0, df_X13_stacked, nb_b2, nb_b1, nb_let, eq_self, if_true, if_false, ↓reduceIte, show ((1 : Int32) = 0) = False from eq_false (by decide), show ((13 : Int32) < 16) = True from eq_true (by decide), show ((13 : Int32) = 0) = False from eq_false (by decide), show ((13 : Int32) = 17) = False from eq_false (by decide), show ((13 : Int32) = 18) = False from eq_false (by decide), show ((13 : Int32) = 19) = False from eq_false (by decide), show ((13 : Int32) = 20) = False from eq_false (by decide), show ((13 : Int32) = 21) = False from eq_false (by decide), show ((13 : Int32) = 22) = False from eq_false (by decide), show ((13 : Int32) = 23) = False from eq_false (by decide), show ((13 : Int32) = 25) = False from eq_false (by decide), show ((13 : Int32) = 26) = False from eq_false (by decide), show ((13 : Int32) = 27) = False from eq_false (by decide), show ((13 : Int32) = 28) = False from eq_false (by decide), show ((13 : Int32) ≤ 20) = True from eq_true (by decide), show ((16 : Int32) ≤ 13) = False from eq_false (by decide), show ((25 : Int32) ≤ 13) = False from eq_false (by decide), bq_11_5_25, bq_4_0_7, bq_9_9_12, bq_4_4_6, bq_6_6_5, bq_8_7_3, bq_5_5_2, bq_5_4_11, bq_9_6_7, bq_2_2_6, bq_3_3_5, bq_5_3_10, bq_5_5_12, bq_4_2_4, bq_7_6_2, bq_5_2_9, bq_7_6_7, sJ_R, sB_R, sX_R, jB_R, tB_R, e1, SR_12 h1, e2, f12, eq_false ne]
    exact ⟨_, rfl, fun _ => fl, fun u => absurd u nf⟩
  obtain ⟨S2, e2, h2⟩ := com_y hT h1 T2 g2
  obtain ⟨q3, p3, κ3, τ3, v3, x3, T3, hTr⟩ := hTr
  rw [if_neg (by decide), if_neg (by decide)] at hTr
  obtain ⟨ok, px, R, hTr⟩ := hTr
  rcases hTr with ⟨rfl, z1, z2, hTr⟩ | ⟨rfl, hF⟩
  rotate_left
  · have nf : ¬ f = 0 := by omega
    have ne : ¬ nI 1 + 16 * sI B 13 = 0 := flt_n hl 1 (by omega)
    obtain ⟨wv, S3, e3, fl⟩ := wit_n hV hY h2 R (4) 1020 4 (by decide)
    have f12 : sI S3 12 = nI 1 + 16 * sI B 13 := (FL_f fl).1
    rw [hF] at nf h0 ⊢
    obtain ⟨W, w1, w2⟩ := hal_G (n := n) fl (m0_3 (h0 nf))
    simp only [df_X13_shorts_341, df_X13_shorts_287, df_X13_shorts_221, df_X13_shorts_206, df_X13_shorts_195, df_X13_shorts_156, df_X13_shorts_140, df_X13_shorts_135, df_X13_shorts_139, df_X13_shorts_0, df_X13_shorts, df_X13_smalls_306, df_X13_smalls_126, df_X13_smalls_110, df_X13_smalls_109, df_X13_smalls_0, df_X13_smalls, df_X13_plainSix_21, df_X13_plainSix_0, df_X13_plainSix, df_X13_stacked_84, df_X13_stacked_0, df_X13_stacked, nb_b2, nb_b1, nb_let, eq_self, if_true, if_false, ↓reduceIte, show ((1 : Int32) = 0) = False from eq_false (by decide), show ((13 : Int32) < 16) = True from eq_true (by decide), show ((13 : Int32) = 0) = False from eq_false (by decide), show ((13 : Int32) = 17) = False from eq_false (by decide), show ((13 : Int32) = 18) = False from eq_false (by decide), show ((13 : Int32) = 19) = False from eq_false (by decide), show ((13 : Int32) = 20) = False from eq_false (by decide), show ((13 : Int32) = 21) = False from eq_false (by decide), show ((13 : Int32) = 22) = False from eq_false (by decide), show ((13 : Int32) = 23) = False from eq_false (by decide), show ((13 : Int32) = 25) = False from eq_false (by decide), show ((13 : Int32) = 26) = False from eq_false (by decide), show ((13 : Int32) = 27) = False from eq_false (by decide), show ((13 : Int32) = 28) = False from eq_false (by decide), show ((13 : Int32) ≤ 20) = True from eq_true (by decide), show ((16 : Int32) ≤ 13) = False from eq_false (by decide), show ((25 : Int32) ≤ 13) = False from eq_false (by decide), bq_11_5_25, bq_4_0_7, bq_9_9_12, bq_4_4_6, bq_6_6_5, bq_8_7_3, bq_5_5_2, bq_5_4_11, bq_9_6_7, bq_2_2_6, bq_3_3_5, bq_5_3_10, bq_5_5_12, bq_4_2_4, bq_7_6_2, bq_5_2_9, bq_7_6_7, sJ_R, sB_R, sX_R, jB_R, tB_R, e1, SR_12 h1, e2, SR_12 h2, e3, f12, eq_false ne, w1]
    exact ⟨_, rfl, fun _ => w2 _, fun u => absurd u nf⟩
  obtain ⟨wv, S3, ms, dv, e3, rn, h3, hpx⟩ := wit_y hV hY h2 R (4) 1020 (k := 4) (by decide)
  have e3 : df_X13_within n (4) 1020 4 S2 = some (wv, S3) := e3
  have h3 : SR B ct gr PA BY OU (wiF B ms dv (lfO 88 (vtO 88 (sI B 17) wv))) px S3 := h3
  by_cases zz : wiF B ms dv (lfO 88 (vtO 88 (sI B 17) wv)) = 0
  rotate_left
  · have fl : FL e B _ S3 := ⟨_, _, _, _, _, _, hpx, h3⟩
    have f12 := (FL_f fl).1
    have f0 := f0_2 h0 (wi_2 zz)
    obtain ⟨W, w1, w2⟩ := hal_G (n := n) fl (m2_3 (wi_2 zz))
    simp only [df_X13_shorts_341, df_X13_shorts_287, df_X13_shorts_221, df_X13_shorts_206, df_X13_shorts_195, df_X13_shorts_156, df_X13_shorts_140, df_X13_shorts_135, df_X13_shorts_139, df_X13_shorts_0, df_X13_shorts, df_X13_smalls_306, df_X13_smalls_126, df_X13_smalls_110, df_X13_smalls_109, df_X13_smalls_0, df_X13_smalls, df_X13_plainSix_21, df_X13_plainSix_0, df_X13_plainSix, df_X13_stacked_84, df_X13_stacked_0, df_X13_stacked, nb_b2, nb_b1, nb_let, eq_self, if_true, if_false, ↓reduceIte, show ((1 : Int32) = 0) = False from eq_false (by decide), show ((13 : Int32) < 16) = True from eq_true (by decide), show ((13 : Int32) = 0) = False from eq_false (by decide), show ((13 : Int32) = 17) = False from eq_false (by decide), show ((13 : Int32) = 18) = False from eq_false (by decide), show ((13 : Int32) = 19) = False from eq_false (by decide), show ((13 : Int32) = 20) = False from eq_false (by decide), show ((13 : Int32) = 21) = False from eq_false (by decide), show ((13 : Int32) = 22) = False from eq_false (by decide), show ((13 : Int32) = 23) = False from eq_false (by decide), show ((13 : Int32) = 25) = False from eq_false (by decide), show ((13 : Int32) = 26) = False from eq_false (by decide), show ((13 : Int32) = 27) = False from eq_false (by decide), show ((13 : Int32) = 28) = False from eq_false (by decide), show ((13 : Int32) ≤ 20) = True from eq_true (by decide), show ((16 : Int32) ≤ 13) = False from eq_false (by decide), show ((25 : Int32) ≤ 13) = False from eq_false (by decide), bq_11_5_25, bq_4_0_7, bq_9_9_12, bq_4_4_6, bq_6_6_5, bq_8_7_3, bq_5_5_2, bq_5_4_11, bq_9_6_7, bq_2_2_6, bq_3_3_5, bq_5_3_10, bq_5_5_12, bq_4_2_4, bq_7_6_2, bq_5_2_9, bq_7_6_7, sJ_R, sB_R, sX_R, jB_R, tB_R, e1, SR_12 h1, e2, SR_12 h2, e3, f12, eq_false zz, w1]
    exact ⟨_, rfl, fun u => absurd f0 u, fun _ => ⟨wv, ms, dv, rn, fun u => absurd u zz, fun _ => w2 _⟩⟩
  have h3z := h3
  rw [zz] at h3z
  obtain ⟨rfl, rfl, rfl⟩ := hTr
  obtain ⟨W, w1, w2⟩ := hal_H (n := n) h3z (OKW_m hw (by omega))
  simp only [df_X13_shorts_341, df_X13_shorts_287, df_X13_shorts_221, df_X13_shorts_206, df_X13_shorts_195, df_X13_shorts_156, df_X13_shorts_140, df_X13_shorts_135, df_X13_shorts_139, df_X13_shorts_0, df_X13_shorts, df_X13_smalls_306, df_X13_smalls_126, df_X13_smalls_110, df_X13_smalls_109, df_X13_smalls_0, df_X13_smalls, df_X13_plainSix_21, df_X13_plainSix_0, df_X13_plainSix, df_X13_stacked_84, df_X13_stacked_0, df_X13_stacked, nb_b2, nb_b1, nb_let, eq_self, if_true, if_false, ↓reduceIte, show ((1 : Int32) = 0) = False from eq_false (by decide), show ((13 : Int32) < 16) = True from eq_true (by decide), show ((13 : Int32) = 0) = False from eq_false (by decide), show ((13 : Int32) = 17) = False from eq_false (by decide), show ((13 : Int32) = 18) = False from eq_false (by decide), show ((13 : Int32) = 19) = False from eq_false (by decide), show ((13 : Int32) = 20) = False from eq_false (by decide), show ((13 : Int32) = 21) = False from eq_false (by decide), show ((13 : Int32) = 22) = False from eq_false (by decide), show ((13 : Int32) = 23) = False from eq_false (by decide), show ((13 : Int32) = 25) = False from eq_false (by decide), show ((13 : Int32) = 26) = False from eq_false (by decide), show ((13 : Int32) = 27) = False from eq_false (by decide), show ((13 : Int32) = 28) = False from eq_false (by decide), show ((13 : Int32) ≤ 20) = True from eq_true (by decide), show ((16 : Int32) ≤ 13) = False from eq_false (by decide), show ((25 : Int32) ≤ 13) = False from eq_false (by decide), bq_11_5_25, bq_4_0_7, bq_9_9_12, bq_4_4_6, bq_6_6_5, bq_8_7_3, bq_5_5_2, bq_5_4_11, bq_9_6_7, bq_2_2_6, bq_3_3_5, bq_5_3_10, bq_5_5_12, bq_4_2_4, bq_7_6_2, bq_5_2_9, bq_7_6_7, sJ_R, sB_R, sX_R, jB_R, tB_R, e1, SR_12 h1, e2, SR_12 h2, e3, SR_12 h3z, w1]
  refine ⟨_, rfl, fun u => absurd trivial u, fun _ => ⟨wv, ms, dv, rn, plo2 zz (w2 _) ?_⟩⟩
  simp only [RGB_0, or_0, RGB_s44, RGB_s88, RGB_r112, rgb_112, lbo_88, vto_88]
  try simp only [Int32.or_assoc]
  try simp only [Int32.or_comm, or_lc]
  try simp only [Int32.or_assoc, Int32.or_comm, or_lc]
theorem shp_14 {n L e : Nat} {c : Nat → Nat} {BC B : St} {X : Nat → Nat} {nL st cu : Nat} (hV : RV n L e c BC B X nL cu) {ct : Nat} {gr : Bool} {PA BY OU : Nat → Int32} (hY : PY PA cu st) {p : Nat} {S : St} (h : SR B ct gr PA BY OU 0 p S) (hw : OKW B (ct + 2)) (w : Int32) {f p2 : Nat} {rs : List Nat} {m : Nat} {P : Nat → Tp} (h0 : ¬ f = 0 → sI B 15 = 0) (hTr : Tr n L e c BC [112, 44, 87, 40, 113, 41] p f p2 rs m P) : ∃ S' : St, df_X13_shorts n 14 w S = some S' ∧ (¬ f = 0 → FL e B (nI f + 16 * sI B 13) S') ∧ (f = 0 → ∃ (z : Int32) (ms dv : Bool), rnF (VW c X e nL st B) P m = ([z], ms, dv) ∧ PLO e B ct gr PA BY OU p2 (wiF B ms dv (lfO 87 (vtO 87 (sI B 17) z))) (by2 (w ||| RGB [112, 44, 87, 40, 113, 41] rs ||| lbO 87 (vtO 87 (sI B 17) z))) S') := by
  have hT := hV.1
  have hl := hV.2.2.2.2.2.2.2
  obtain ⟨q1, p1, κ1, τ1, v1, x1, T1, hTr⟩ := hTr
  rw [if_neg (by decide), if_pos (by decide)] at hTr
  rcases hTr with ⟨g1, r1, rs1, rfl, hTr⟩ | hF
  rotate_left
  · have nf : ¬ f = 0 := by rcases hF with hF | hF <;> omega
    have hg : ¬ (8 ≤ tkG c τ1 q1 p1 ∧ tkG c τ1 q1 p1 ≤ 15) ∧ (if tkG c τ1 q1 p1 = 33 then (1 : Int32) else 3) = nI f := by
      rcases hF with hF | ⟨hF | hF, hF2⟩
      · exact ⟨by omega, f13e (Or.inl hF)⟩
      · exact ⟨by omega, f13e (Or.inr ⟨hF, hF2⟩)⟩
      · refine ⟨fun z => ?_, ?_⟩
        · have := hF.2
          unfold rfit at this
          simp at this
          omega
        · rw [if_neg (by omega), hF2]; rfl
    obtain ⟨r, S1, e1, g1⟩ := n8_n hT h T1 hl hg.1
    have ne := f13 hl (g := tkG c τ1 q1 p1)
    rw [hg.2] at g1 ne
    have fl := FN_L g1
    have f12 := (FL_f fl).1
    have ec := com_F (n := n) fl ne
    simp only [df_X13_shorts_341, df_X13_shorts_287, df_X13_shorts_221, df_X13_shorts_206, df_X13_shorts_195, df_X13_shorts_156, df_X13_shorts_140, df_X13_shorts_135, df_X13_shorts_139, df_X13_shorts_0, df_X13_shorts, df_X13_smalls_306, df_X13_smalls_126, df_X13_smalls_110, df_X13_smalls_109, df_X13_smalls_0, df_X13_smalls, df_X13_plainSix_21, df_X13_plainSix_0, df_X13_plainSix, df_X13_stacked_84, df_X13_stacked_0, df_X13_stacked, nb_b2, nb_b1, nb_let, eq_self, if_true, if_false, ↓reduceIte, show ((1 : Int32) = 0) = False from eq_false (by decide), show ((14 : Int32) < 16) = True from eq_true (by decide), show ((14 : Int32) = 0) = False from eq_false (by decide), show ((14 : Int32) = 13) = False from eq_false (by decide), show ((14 : Int32) = 17) = False from eq_false (by decide), show ((14 : Int32) = 18) = False from eq_false (by decide), show ((14 : Int32) = 19) = False from eq_false (by decide), show ((14 : Int32) = 20) = False from eq_false (by decide), show ((14 : Int32) = 21) = False from eq_false (by decide), show ((14 : Int32) = 22) = False from eq_false (by decide), show ((14 : Int32) = 23) = False from eq_false (by decide), show ((14 : Int32) = 25) = False from eq_false (by decide), show ((14 : Int32) = 26) = False from eq_false (by decide), show ((14 : Int32) = 27) = False from eq_false (by decide), show ((14 : Int32) = 28) = False from eq_false (by decide), show ((14 : Int32) ≤ 20) = True from eq_true (by decide), show ((16 : Int32) ≤ 14) = False from eq_false (by decide), show ((25 : Int32) ≤ 14) = False from eq_false (by decide), bq_11_5_25, bq_4_0_7, bq_9_9_12, bq_4_4_6, bq_6_6_5, bq_8_7_3, bq_5_5_2, bq_5_4_11, bq_9_6_7, bq_2_2_6, bq_3_3_5, bq_5_3_10, bq_5_5_12, bq_4_2_4, bq_7_6_2, bq_5_2_9, bq_7_6_7, sJ_R, sB_R, sX_R, jB_R, tB_R, e1, f12, eq_false ne, ec]
    exact ⟨_, rfl, fun _ => fl, fun u => absurd u nf⟩
  have gg : 8 ≤ tkG c τ1 q1 p1 ∧ tkG c τ1 q1 p1 ≤ 15 := by unfold rfit at r1; simp at r1; exact r1
  obtain ⟨S1, e1, h1⟩ := n8_y hT h T1 gg.1 gg.2
  obtain ⟨q2, p2, κ2, τ2, v2, x2, T2, hTr⟩ := hTr
  rw [if_pos (by decide)] at hTr
  rcases hTr with ⟨g2, hTr⟩ | hF
  rotate_left
  · have nf : ¬ f = 0 := by omega
    obtain ⟨S2, e2, g2⟩ := com_n hT h1 T2 hF.1
    rw [hF.2] at nf h0 ⊢
    have fl : FL e B (nI 1 + 16 * sI B 13) S2 := FN_L g2
    have ne : ¬ nI 1 + 16 * sI B 13 = 0 := flt_n hl 1 (by omega)
    have f12 := (FL_f fl).1
    simp only [df_X13_shorts_341, df_X13_shorts_287, df_X13_shorts_221, df_X13_shorts_206, df_X13_shorts_195, df_X13_shorts_156, df_X13_shorts_140, df_X13_shorts_135, df_X13_shorts_139, df_X13_shorts_0, df_X13_shorts, df_X13_smalls_306, df_X13_smalls_126, df_X13_smalls_110, df_X13_smalls_109, df_X13_smalls_0, df_X13_smalls, df_X13_plainSix_21, df_X13_plainSix_0, df_X13_plainSix, df_X13_stacked_84, df_X13_stacked_0, df_X13_stacked, nb_b2, nb_b1, nb_let, eq_self, if_true, if_false, ↓reduceIte, show ((1 : Int32) = 0) = False from eq_false (by decide), show ((14 : Int32) < 16) = True from eq_true (by decide), show ((14 : Int32) = 0) = False from eq_false (by decide), show ((14 : Int32) = 13) = False from eq_false (by decide), show ((14 : Int32) = 17) = False from eq_false (by decide), show ((14 : Int32) = 18) = False from eq_false (by decide), show ((14 : Int32) = 19) = False from eq_false (by decide), show ((14 : Int32) = 20) = False from eq_false (by decide), show ((14 : Int32) = 21) = False from eq_false (by decide), show ((14 : Int32) = 22) = False from eq_false (by decide), show ((14 : Int32) = 23) = False from eq_false (by decide), show ((14 : Int32) = 25) = False from eq_false (by decide), show ((14 : Int32) = 26) = False from eq_false (by decide), show ((14 : Int32) = 27) = False from eq_false (by decide), show ((14 : Int32) = 28) = False from eq_false (by decide), show ((14 : Int32) ≤ 20) = True from eq_true (by decide), show ((16 : Int32) ≤ 14) = False from eq_false (by decide), show ((25 : Int32) ≤ 14) = False from eq_false (by decide), bq_11_5_25, bq_4_0_7, bq_9_9_12, bq_4_4_6, bq_6_6_5, bq_8_7_3, bq_5_5_2, bq_5_4_11, bq_9_6_7, bq_2_2_6, bq_3_3_5, bq_5_3_10, bq_5_5_12, bq_4_2_4, bq_7_6_2, bq_5_2_9, bq_7_6_7, sJ_R, sB_R, sX_R, jB_R, tB_R, e1, SR_12 h1, e2, f12, eq_false ne]
    exact ⟨_, rfl, fun _ => fl, fun u => absurd u nf⟩
  obtain ⟨S2, e2, h2⟩ := com_y hT h1 T2 g2
  obtain ⟨q3, p3, κ3, τ3, v3, x3, T3, hTr⟩ := hTr
  rw [if_neg (by decide), if_neg (by decide)] at hTr
  obtain ⟨ok, px, R, hTr⟩ := hTr
  rcases hTr with ⟨rfl, z1, z2, hTr⟩ | ⟨rfl, hF⟩
  rotate_left
  · have nf : ¬ f = 0 := by omega
    have ne : ¬ nI 1 + 16 * sI B 13 = 0 := flt_n hl 1 (by omega)
    obtain ⟨wv, S3, e3, fl⟩ := wit_n hV hY h2 R (0) 124 4 (by decide)
    have f12 : sI S3 12 = nI 1 + 16 * sI B 13 := (FL_f fl).1
    rw [hF] at nf h0 ⊢
    obtain ⟨W, w1, w2⟩ := hal_G (n := n) fl (m0_3 (h0 nf))
    simp only [df_X13_shorts_341, df_X13_shorts_287, df_X13_shorts_221, df_X13_shorts_206, df_X13_shorts_195, df_X13_shorts_156, df_X13_shorts_140, df_X13_shorts_135, df_X13_shorts_139, df_X13_shorts_0, df_X13_shorts, df_X13_smalls_306, df_X13_smalls_126, df_X13_smalls_110, df_X13_smalls_109, df_X13_smalls_0, df_X13_smalls, df_X13_plainSix_21, df_X13_plainSix_0, df_X13_plainSix, df_X13_stacked_84, df_X13_stacked_0, df_X13_stacked, nb_b2, nb_b1, nb_let, eq_self, if_true, if_false, ↓reduceIte, show ((1 : Int32) = 0) = False from eq_false (by decide), show ((14 : Int32) < 16) = True from eq_true (by decide), show ((14 : Int32) = 0) = False from eq_false (by decide), show ((14 : Int32) = 13) = False from eq_false (by decide), show ((14 : Int32) = 17) = False from eq_false (by decide), show ((14 : Int32) = 18) = False from eq_false (by decide), show ((14 : Int32) = 19) = False from eq_false (by decide), show ((14 : Int32) = 20) = False from eq_false (by decide), show ((14 : Int32) = 21) = False from eq_false (by decide), show ((14 : Int32) = 22) = False from eq_false (by decide), show ((14 : Int32) = 23) = False from eq_false (by decide), show ((14 : Int32) = 25) = False from eq_false (by decide), show ((14 : Int32) = 26) = False from eq_false (by decide), show ((14 : Int32) = 27) = False from eq_false (by decide), show ((14 : Int32) = 28) = False from eq_false (by decide), show ((14 : Int32) ≤ 20) = True from eq_true (by decide), show ((16 : Int32) ≤ 14) = False from eq_false (by decide), show ((25 : Int32) ≤ 14) = False from eq_false (by decide), bq_11_5_25, bq_4_0_7, bq_9_9_12, bq_4_4_6, bq_6_6_5, bq_8_7_3, bq_5_5_2, bq_5_4_11, bq_9_6_7, bq_2_2_6, bq_3_3_5, bq_5_3_10, bq_5_5_12, bq_4_2_4, bq_7_6_2, bq_5_2_9, bq_7_6_7, sJ_R, sB_R, sX_R, jB_R, tB_R, e1, SR_12 h1, e2, SR_12 h2, e3, f12, eq_false ne, w1]
    exact ⟨_, rfl, fun _ => w2 _, fun u => absurd u nf⟩
  obtain ⟨wv, S3, ms, dv, e3, rn, h3, hpx⟩ := wit_y hV hY h2 R (0) 124 (k := 4) (by decide)
  have e3 : df_X13_within n (0) 124 4 S2 = some (wv, S3) := e3
  have h3 : SR B ct gr PA BY OU (wiF B ms dv (lfO 87 (vtO 87 (sI B 17) wv))) px S3 := h3
  by_cases zz : wiF B ms dv (lfO 87 (vtO 87 (sI B 17) wv)) = 0
  rotate_left
  · have fl : FL e B _ S3 := ⟨_, _, _, _, _, _, hpx, h3⟩
    have f12 := (FL_f fl).1
    have f0 := f0_2 h0 (wi_2 zz)
    obtain ⟨W, w1, w2⟩ := hal_G (n := n) fl (m2_3 (wi_2 zz))
    simp only [df_X13_shorts_341, df_X13_shorts_287, df_X13_shorts_221, df_X13_shorts_206, df_X13_shorts_195, df_X13_shorts_156, df_X13_shorts_140, df_X13_shorts_135, df_X13_shorts_139, df_X13_shorts_0, df_X13_shorts, df_X13_smalls_306, df_X13_smalls_126, df_X13_smalls_110, df_X13_smalls_109, df_X13_smalls_0, df_X13_smalls, df_X13_plainSix_21, df_X13_plainSix_0, df_X13_plainSix, df_X13_stacked_84, df_X13_stacked_0, df_X13_stacked, nb_b2, nb_b1, nb_let, eq_self, if_true, if_false, ↓reduceIte, show ((1 : Int32) = 0) = False from eq_false (by decide), show ((14 : Int32) < 16) = True from eq_true (by decide), show ((14 : Int32) = 0) = False from eq_false (by decide), show ((14 : Int32) = 13) = False from eq_false (by decide), show ((14 : Int32) = 17) = False from eq_false (by decide), show ((14 : Int32) = 18) = False from eq_false (by decide), show ((14 : Int32) = 19) = False from eq_false (by decide), show ((14 : Int32) = 20) = False from eq_false (by decide), show ((14 : Int32) = 21) = False from eq_false (by decide), show ((14 : Int32) = 22) = False from eq_false (by decide), show ((14 : Int32) = 23) = False from eq_false (by decide), show ((14 : Int32) = 25) = False from eq_false (by decide), show ((14 : Int32) = 26) = False from eq_false (by decide), show ((14 : Int32) = 27) = False from eq_false (by decide), show ((14 : Int32) = 28) = False from eq_false (by decide), show ((14 : Int32) ≤ 20) = True from eq_true (by decide), show ((16 : Int32) ≤ 14) = False from eq_false (by decide), show ((25 : Int32) ≤ 14) = False from eq_false (by decide), bq_11_5_25, bq_4_0_7, bq_9_9_12, bq_4_4_6, bq_6_6_5, bq_8_7_3, bq_5_5_2, bq_5_4_11, bq_9_6_7, bq_2_2_6, bq_3_3_5, bq_5_3_10, bq_5_5_12, bq_4_2_4, bq_7_6_2, bq_5_2_9, bq_7_6_7, sJ_R, sB_R, sX_R, jB_R, tB_R, e1, SR_12 h1, e2, SR_12 h2, e3, f12, eq_false zz, w1]
    exact ⟨_, rfl, fun u => absurd f0 u, fun _ => ⟨wv, ms, dv, rn, fun u => absurd u zz, fun _ => w2 _⟩⟩
  have h3z := h3
  rw [zz] at h3z
  obtain ⟨q4, p4, κ4, τ4, v4, x4, T4, hTr⟩ := hTr
  rw [if_pos (by decide)] at hTr
  rcases hTr with ⟨g4, hTr⟩ | hF
  rotate_left
  · have nf : ¬ f = 0 := by omega
    obtain ⟨S4, e4, g4⟩ := ned_n hT h3z T4 40 (by omega) hF.1
    have e4 : df_X13_needs n 40 S3 = some (0, S4) := e4
    rw [hF.2] at nf h0 ⊢
    have fl : FL e B (nI 1 + 16 * sI B 13) S4 := FN_L g4
    have ne : ¬ nI 1 + 16 * sI B 13 = 0 := flt_n hl 1 (by omega)
    have f12 := (FL_f fl).1
    obtain ⟨W, w1, w2⟩ := hal_G (n := n) fl (m0_3 (h0 nf))
    simp only [df_X13_shorts_341, df_X13_shorts_287, df_X13_shorts_221, df_X13_shorts_206, df_X13_shorts_195, df_X13_shorts_156, df_X13_shorts_140, df_X13_shorts_135, df_X13_shorts_139, df_X13_shorts_0, df_X13_shorts, df_X13_smalls_306, df_X13_smalls_126, df_X13_smalls_110, df_X13_smalls_109, df_X13_smalls_0, df_X13_smalls, df_X13_plainSix_21, df_X13_plainSix_0, df_X13_plainSix, df_X13_stacked_84, df_X13_stacked_0, df_X13_stacked, nb_b2, nb_b1, nb_let, eq_self, if_true, if_false, ↓reduceIte, show ((1 : Int32) = 0) = False from eq_false (by decide), show ((14 : Int32) < 16) = True from eq_true (by decide), show ((14 : Int32) = 0) = False from eq_false (by decide), show ((14 : Int32) = 13) = False from eq_false (by decide), show ((14 : Int32) = 17) = False from eq_false (by decide), show ((14 : Int32) = 18) = False from eq_false (by decide), show ((14 : Int32) = 19) = False from eq_false (by decide), show ((14 : Int32) = 20) = False from eq_false (by decide), show ((14 : Int32) = 21) = False from eq_false (by decide), show ((14 : Int32) = 22) = False from eq_false (by decide), show ((14 : Int32) = 23) = False from eq_false (by decide), show ((14 : Int32) = 25) = False from eq_false (by decide), show ((14 : Int32) = 26) = False from eq_false (by decide), show ((14 : Int32) = 27) = False from eq_false (by decide), show ((14 : Int32) = 28) = False from eq_false (by decide), show ((14 : Int32) ≤ 20) = True from eq_true (by decide), show ((16 : Int32) ≤ 14) = False from eq_false (by decide), show ((25 : Int32) ≤ 14) = False from eq_false (by decide), bq_11_5_25, bq_4_0_7, bq_9_9_12, bq_4_4_6, bq_6_6_5, bq_8_7_3, bq_5_5_2, bq_5_4_11, bq_9_6_7, bq_2_2_6, bq_3_3_5, bq_5_3_10, bq_5_5_12, bq_4_2_4, bq_7_6_2, bq_5_2_9, bq_7_6_7, sJ_R, sB_R, sX_R, jB_R, tB_R, e1, SR_12 h1, e2, SR_12 h2, e3, SR_12 h3z, e4, f12, eq_false ne, w1]
    exact ⟨_, rfl, fun _ => w2 _, fun u => absurd u nf⟩
  obtain ⟨S4, e4, h4, _⟩ := ned_y hT h3z T4 40 (by omega) (by omega) g4
  have e4 : df_X13_needs n 40 S3 = some (1, S4) := e4
  obtain ⟨q5, p5, κ5, τ5, v5, x5, T5, hTr⟩ := hTr
  rw [if_neg (by decide), if_pos (by decide)] at hTr
  rcases hTr with ⟨g5, r5, rs5, rfl, hTr⟩ | hF
  rotate_left
  · have nf : ¬ f = 0 := by rcases hF with hF | hF <;> omega
    have hg : ¬ (8 ≤ tkG c τ5 q5 p5 ∧ tkG c τ5 q5 p5 ≤ 15) ∧ (if tkG c τ5 q5 p5 = 33 then (1 : Int32) else 3) = nI f := by
      rcases hF with hF | ⟨hF | hF, hF2⟩
      · exact ⟨by omega, f13e (Or.inl hF)⟩
      · exact ⟨by omega, f13e (Or.inr ⟨hF, hF2⟩)⟩
      · refine ⟨fun z => ?_, ?_⟩
        · have := hF.2
          unfold rfit at this
          simp at this
          omega
        · rw [if_neg (by omega), hF2]; rfl
    obtain ⟨r, S5, e5, g5⟩ := n8_n hT h4 T5 hl hg.1
    have ne := f13 hl (g := tkG c τ5 q5 p5)
    rw [hg.2] at g5 ne
    have fl := FN_L g5
    have f12 := (FL_f fl).1
    obtain ⟨W, w1, w2⟩ := hal_G (n := n) fl (m0_3 (h0 nf))
    simp only [df_X13_shorts_341, df_X13_shorts_287, df_X13_shorts_221, df_X13_shorts_206, df_X13_shorts_195, df_X13_shorts_156, df_X13_shorts_140, df_X13_shorts_135, df_X13_shorts_139, df_X13_shorts_0, df_X13_shorts, df_X13_smalls_306, df_X13_smalls_126, df_X13_smalls_110, df_X13_smalls_109, df_X13_smalls_0, df_X13_smalls, df_X13_plainSix_21, df_X13_plainSix_0, df_X13_plainSix, df_X13_stacked_84, df_X13_stacked_0, df_X13_stacked, nb_b2, nb_b1, nb_let, eq_self, if_true, if_false, ↓reduceIte, show ((1 : Int32) = 0) = False from eq_false (by decide), show ((14 : Int32) < 16) = True from eq_true (by decide), show ((14 : Int32) = 0) = False from eq_false (by decide), show ((14 : Int32) = 13) = False from eq_false (by decide), show ((14 : Int32) = 17) = False from eq_false (by decide), show ((14 : Int32) = 18) = False from eq_false (by decide), show ((14 : Int32) = 19) = False from eq_false (by decide), show ((14 : Int32) = 20) = False from eq_false (by decide), show ((14 : Int32) = 21) = False from eq_false (by decide), show ((14 : Int32) = 22) = False from eq_false (by decide), show ((14 : Int32) = 23) = False from eq_false (by decide), show ((14 : Int32) = 25) = False from eq_false (by decide), show ((14 : Int32) = 26) = False from eq_false (by decide), show ((14 : Int32) = 27) = False from eq_false (by decide), show ((14 : Int32) = 28) = False from eq_false (by decide), show ((14 : Int32) ≤ 20) = True from eq_true (by decide), show ((16 : Int32) ≤ 14) = False from eq_false (by decide), show ((25 : Int32) ≤ 14) = False from eq_false (by decide), bq_11_5_25, bq_4_0_7, bq_9_9_12, bq_4_4_6, bq_6_6_5, bq_8_7_3, bq_5_5_2, bq_5_4_11, bq_9_6_7, bq_2_2_6, bq_3_3_5, bq_5_3_10, bq_5_5_12, bq_4_2_4, bq_7_6_2, bq_5_2_9, bq_7_6_7, sJ_R, sB_R, sX_R, jB_R, tB_R, e1, SR_12 h1, e2, SR_12 h2, e3, SR_12 h3z, e4, SR_12 h4, e5, f12, eq_false ne, w1]
    exact ⟨_, rfl, fun _ => w2 _, fun u => absurd u nf⟩
  have gg : 8 ≤ tkG c τ5 q5 p5 ∧ tkG c τ5 q5 p5 ≤ 15 := by unfold rfit at r5; simp at r5; exact r5
  obtain ⟨S5, e5, h5⟩ := n8_y hT h4 T5 gg.1 gg.2
  obtain ⟨q6, p6, κ6, τ6, v6, x6, T6, hTr⟩ := hTr
  rw [if_pos (by decide)] at hTr
  rcases hTr with ⟨g6, hTr⟩ | hF
  rotate_left
  · have nf : ¬ f = 0 := by omega
    obtain ⟨S6, e6, g6⟩ := ned_n hT h5 T6 41 (by omega) hF.1
    have e6 : df_X13_needs n 41 S5 = some (0, S6) := e6
    rw [hF.2] at nf h0 ⊢
    have fl : FL e B (nI 1 + 16 * sI B 13) S6 := FN_L g6
    have ne : ¬ nI 1 + 16 * sI B 13 = 0 := flt_n hl 1 (by omega)
    have f12 := (FL_f fl).1
    obtain ⟨W, w1, w2⟩ := hal_G (n := n) fl (m0_3 (h0 nf))
    simp only [df_X13_shorts_341, df_X13_shorts_287, df_X13_shorts_221, df_X13_shorts_206, df_X13_shorts_195, df_X13_shorts_156, df_X13_shorts_140, df_X13_shorts_135, df_X13_shorts_139, df_X13_shorts_0, df_X13_shorts, df_X13_smalls_306, df_X13_smalls_126, df_X13_smalls_110, df_X13_smalls_109, df_X13_smalls_0, df_X13_smalls, df_X13_plainSix_21, df_X13_plainSix_0, df_X13_plainSix, df_X13_stacked_84, df_X13_stacked_0, df_X13_stacked, nb_b2, nb_b1, nb_let, eq_self, if_true, if_false, ↓reduceIte, show ((1 : Int32) = 0) = False from eq_false (by decide), show ((14 : Int32) < 16) = True from eq_true (by decide), show ((14 : Int32) = 0) = False from eq_false (by decide), show ((14 : Int32) = 13) = False from eq_false (by decide), show ((14 : Int32) = 17) = False from eq_false (by decide), show ((14 : Int32) = 18) = False from eq_false (by decide), show ((14 : Int32) = 19) = False from eq_false (by decide), show ((14 : Int32) = 20) = False from eq_false (by decide), show ((14 : Int32) = 21) = False from eq_false (by decide), show ((14 : Int32) = 22) = False from eq_false (by decide), show ((14 : Int32) = 23) = False from eq_false (by decide), show ((14 : Int32) = 25) = False from eq_false (by decide), show ((14 : Int32) = 26) = False from eq_false (by decide), show ((14 : Int32) = 27) = False from eq_false (by decide), show ((14 : Int32) = 28) = False from eq_false (by decide), show ((14 : Int32) ≤ 20) = True from eq_true (by decide), show ((16 : Int32) ≤ 14) = False from eq_false (by decide), show ((25 : Int32) ≤ 14) = False from eq_false (by decide), bq_11_5_25, bq_4_0_7, bq_9_9_12, bq_4_4_6, bq_6_6_5, bq_8_7_3, bq_5_5_2, bq_5_4_11, bq_9_6_7, bq_2_2_6, bq_3_3_5, bq_5_3_10, bq_5_5_12, bq_4_2_4, bq_7_6_2, bq_5_2_9, bq_7_6_7, sJ_R, sB_R, sX_R, jB_R, tB_R, e1, SR_12 h1, e2, SR_12 h2, e3, SR_12 h3z, e4, SR_12 h4, e5, SR_12 h5, e6, f12, eq_false ne, w1]
    exact ⟨_, rfl, fun _ => w2 _, fun u => absurd u nf⟩
  obtain ⟨S6, e6, h6, _⟩ := ned_y hT h5 T6 41 (by omega) (by omega) g6
  have e6 : df_X13_needs n 41 S5 = some (1, S6) := e6
  obtain ⟨rfl, rfl, rfl⟩ := hTr
  obtain ⟨W, w1, w2⟩ := hal_H (n := n) h6 (OKW_m hw (by omega))
  simp only [df_X13_shorts_341, df_X13_shorts_287, df_X13_shorts_221, df_X13_shorts_206, df_X13_shorts_195, df_X13_shorts_156, df_X13_shorts_140, df_X13_shorts_135, df_X13_shorts_139, df_X13_shorts_0, df_X13_shorts, df_X13_smalls_306, df_X13_smalls_126, df_X13_smalls_110, df_X13_smalls_109, df_X13_smalls_0, df_X13_smalls, df_X13_plainSix_21, df_X13_plainSix_0, df_X13_plainSix, df_X13_stacked_84, df_X13_stacked_0, df_X13_stacked, nb_b2, nb_b1, nb_let, eq_self, if_true, if_false, ↓reduceIte, show ((1 : Int32) = 0) = False from eq_false (by decide), show ((14 : Int32) < 16) = True from eq_true (by decide), show ((14 : Int32) = 0) = False from eq_false (by decide), show ((14 : Int32) = 13) = False from eq_false (by decide), show ((14 : Int32) = 17) = False from eq_false (by decide), show ((14 : Int32) = 18) = False from eq_false (by decide), show ((14 : Int32) = 19) = False from eq_false (by decide), show ((14 : Int32) = 20) = False from eq_false (by decide), show ((14 : Int32) = 21) = False from eq_false (by decide), show ((14 : Int32) = 22) = False from eq_false (by decide), show ((14 : Int32) = 23) = False from eq_false (by decide), show ((14 : Int32) = 25) = False from eq_false (by decide), show ((14 : Int32) = 26) = False from eq_false (by decide), show ((14 : Int32) = 27) = False from eq_false (by decide), show ((14 : Int32) = 28) = False from eq_false (by decide), show ((14 : Int32) ≤ 20) = True from eq_true (by decide), show ((16 : Int32) ≤ 14) = False from eq_false (by decide), show ((25 : Int32) ≤ 14) = False from eq_false (by decide), bq_11_5_25, bq_4_0_7, bq_9_9_12, bq_4_4_6, bq_6_6_5, bq_8_7_3, bq_5_5_2, bq_5_4_11, bq_9_6_7, bq_2_2_6, bq_3_3_5, bq_5_3_10, bq_5_5_12, bq_4_2_4, bq_7_6_2, bq_5_2_9, bq_7_6_7, sJ_R, sB_R, sX_R, jB_R, tB_R, e1, SR_12 h1, e2, SR_12 h2, e3, SR_12 h3z, e4, SR_12 h4, e5, SR_12 h5, e6, SR_12 h6, w1]
  refine ⟨_, rfl, fun u => absurd trivial u, fun _ => ⟨wv, ms, dv, rn, plo2 zz (w2 _) ?_⟩⟩
  simp only [RGB_0, or_0, RGB_s40, RGB_s41, RGB_s44, RGB_s87, RGB_r112, RGB_r113, rgb_112, rgb_113, lbo_87, vto_87]
  try simp only [Int32.or_assoc]
  try simp only [Int32.or_comm, or_lc]
  try simp only [Int32.or_assoc, Int32.or_comm, or_lc]
theorem shp_17 {n L e : Nat} {c : Nat → Nat} {BC B : St} {X : Nat → Nat} {nL st cu : Nat} (hV : RV n L e c BC B X nL cu) {ct : Nat} {gr : Bool} {PA BY OU : Nat → Int32} (hY : PY PA cu st) {p : Nat} {S : St} (h : SR B ct gr PA BY OU 0 p S) (hw : OKW B (ct + 2)) (w : Int32) {f p2 : Nat} {rs : List Nat} {m : Nat} {P : Nat → Tp} (h0 : ¬ f = 0 → sI B 15 = 0) (hTr : Tr n L e c BC [100, 44, 78] p f p2 rs m P) : ∃ S' : St, df_X13_shorts n 17 w S = some S' ∧ (¬ f = 0 → FL e B (nI f + 16 * sI B 13) S') ∧ (f = 0 → ∃ (z : Int32) (ms dv : Bool), rnF (VW c X e nL st B) P m = ([z], ms, dv) ∧ PLO e B ct gr PA BY OU p2 (wiF B ms dv (lfO 78 (vtO 78 (sI B 17) z))) (by2 (w ||| RGB [100, 44, 78] rs ||| lbO 78 (vtO 78 (sI B 17) z))) S') := by
  have hT := hV.1
  have hl := hV.2.2.2.2.2.2.2
  obtain ⟨q1, p1, κ1, τ1, v1, x1, T1, hTr⟩ := hTr
  rw [if_neg (by decide), if_pos (by decide)] at hTr
  rcases hTr with ⟨g1, r1, rs1, rfl, hTr⟩ | hF
  rotate_left
  · have nf : ¬ f = 0 := by rcases hF with hF | hF <;> omega
    have hF2 : (tkG c τ1 q1 p1 = 33 ∧ f = 1) ∨ (tkG c τ1 q1 p1 = 32 ∧ f = 3) := by
      rcases hF with hF | ⟨hF | hF, hF2⟩
      · exact Or.inl hF
      · exact Or.inr ⟨hF, hF2⟩
      · exact absurd hF.2 (by unfold rfit; simp)
    obtain ⟨S1, e1, g1⟩ := tak_n hT h T1 (by omega)
    have ne := f13 hl (g := tkG c τ1 q1 p1)
    rw [f13e hF2] at g1 ne
    have fl := FN_L g1
    have f12 := (FL_f fl).1
    have ec := com_F (n := n) fl ne
    simp only [df_X13_shorts_341, df_X13_shorts_287, df_X13_shorts_221, df_X13_shorts_206, df_X13_shorts_195, df_X13_shorts_156, df_X13_shorts_140, df_X13_shorts_135, df_X13_shorts_139, df_X13_shorts_0, df_X13_shorts, df_X13_smalls_306, df_X13_smalls_126, df_X13_smalls_110, df_X13_smalls_109, df_X13_smalls_0, df_X13_smalls, df_X13_plainSix_21, df_X13_plainSix_0, df_X13_plainSix, df_X13_stacked_84, df_X13_stacked_0, df_X13_stacked, nb_b2, nb_b1, nb_let, eq_self, if_true, if_false, ↓reduceIte, show ((1 : Int32) = 0) = False from eq_false (by decide), show ((17 : Int32) < 16) = False from eq_false (by decide), show ((17 : Int32) = 0) = False from eq_false (by decide), show ((17 : Int32) = 13) = False from eq_false (by decide), show ((17 : Int32) = 18) = False from eq_false (by decide), show ((17 : Int32) = 19) = False from eq_false (by decide), show ((17 : Int32) = 20) = False from eq_false (by decide), show ((17 : Int32) = 21) = False from eq_false (by decide), show ((17 : Int32) = 22) = False from eq_false (by decide), show ((17 : Int32) = 23) = False from eq_false (by decide), show ((17 : Int32) = 25) = False from eq_false (by decide), show ((17 : Int32) = 26) = False from eq_false (by decide), show ((17 : Int32) = 27) = False from eq_false (by decide), show ((17 : Int32) = 28) = False from eq_false (by decide), show ((17 : Int32) ≤ 20) = True from eq_true (by decide), show ((16 : Int32) ≤ 17) = True from eq_true (by decide), show ((25 : Int32) ≤ 17) = False from eq_false (by decide), bq_11_5_25, bq_4_0_7, bq_9_9_12, bq_4_4_6, bq_6_6_5, bq_8_7_3, bq_5_5_2, bq_5_4_11, bq_9_6_7, bq_2_2_6, bq_3_3_5, bq_5_3_10, bq_5_5_12, bq_4_2_4, bq_7_6_2, bq_5_2_9, bq_7_6_7, sJ_R, sB_R, sX_R, jB_R, tB_R, e1, f12, eq_false ne, ec]
    exact ⟨_, rfl, fun _ => fl, fun u => absurd u nf⟩
  obtain ⟨S1, e1, h1⟩ := tak_y hT h T1 g1
  obtain ⟨q2, p2, κ2, τ2, v2, x2, T2, hTr⟩ := hTr
  rw [if_pos (by decide)] at hTr
  rcases hTr with ⟨g2, hTr⟩ | hF
  rotate_left
  · have nf : ¬ f = 0 := by omega
    obtain ⟨S2, e2, g2⟩ := com_n hT h1 T2 hF.1
    rw [hF.2] at nf h0 ⊢
    have fl : FL e B (nI 1 + 16 * sI B 13) S2 := FN_L g2
    have ne : ¬ nI 1 + 16 * sI B 13 = 0 := flt_n hl 1 (by omega)
    have f12 := (FL_f fl).1
    simp only [df_X13_shorts_341, df_X13_shorts_287, df_X13_shorts_221, df_X13_shorts_206, df_X13_shorts_195, df_X13_shorts_156, df_X13_shorts_140, df_X13_shorts_135, df_X13_shorts_139, df_X13_shorts_0, df_X13_shorts, df_X13_smalls_306, df_X13_smalls_126, df_X13_smalls_110, df_X13_smalls_109, df_X13_smalls_0, df_X13_smalls, df_X13_plainSix_21, df_X13_plainSix_0, df_X13_plainSix, df_X13_stacked_84, df_X13_stacked_0, df_X13_stacked, nb_b2, nb_b1, nb_let, eq_self, if_true, if_false, ↓reduceIte, show ((1 : Int32) = 0) = False from eq_false (by decide), show ((17 : Int32) < 16) = False from eq_false (by decide), show ((17 : Int32) = 0) = False from eq_false (by decide), show ((17 : Int32) = 13) = False from eq_false (by decide), show ((17 : Int32) = 18) = False from eq_false (by decide), show ((17 : Int32) = 19) = False from eq_false (by decide), show ((17 : Int32) = 20) = False from eq_false (by decide), show ((17 : Int32) = 21) = False from eq_false (by decide), show ((17 : Int32) = 22) = False from eq_false (by decide), show ((17 : Int32) = 23) = False from eq_false (by decide), show ((17 : Int32) = 25) = False from eq_false (by decide), show ((17 : Int32) = 26) = False from eq_false (by decide), show ((17 : Int32) = 27) = False from eq_false (by decide), show ((17 : Int32) = 28) = False from eq_false (by decide), show ((17 : Int32) ≤ 20) = True from eq_true (by decide), show ((16 : Int32) ≤ 17) = True from eq_true (by decide), show ((25 : Int32) ≤ 17) = False from eq_false (by decide), bq_11_5_25, bq_4_0_7, bq_9_9_12, bq_4_4_6, bq_6_6_5, bq_8_7_3, bq_5_5_2, bq_5_4_11, bq_9_6_7, bq_2_2_6, bq_3_3_5, bq_5_3_10, bq_5_5_12, bq_4_2_4, bq_7_6_2, bq_5_2_9, bq_7_6_7, sJ_R, sB_R, sX_R, jB_R, tB_R, e1, SR_12 h1, e2, f12, eq_false ne]
    exact ⟨_, rfl, fun _ => fl, fun u => absurd u nf⟩
  obtain ⟨S2, e2, h2⟩ := com_y hT h1 T2 g2
  obtain ⟨q3, p3, κ3, τ3, v3, x3, T3, hTr⟩ := hTr
  rw [if_neg (by decide), if_neg (by decide)] at hTr
  obtain ⟨ok, px, R, hTr⟩ := hTr
  rcases hTr with ⟨rfl, z1, z2, hTr⟩ | ⟨rfl, hF⟩
  rotate_left
  · have nf : ¬ f = 0 := by omega
    have ne : ¬ nI 1 + 16 * sI B 13 = 0 := flt_n hl 1 (by omega)
    obtain ⟨wv, S3, e3, fl⟩ := wit_n hV hY h2 R (-32) 31 1 (by decide)
    have f12 : sI S3 12 = nI 1 + 16 * sI B 13 := (FL_f fl).1
    rw [hF] at nf h0 ⊢
    obtain ⟨W, w1, w2⟩ := hal_G (n := n) fl (m0_3 (h0 nf))
    simp only [df_X13_shorts_341, df_X13_shorts_287, df_X13_shorts_221, df_X13_shorts_206, df_X13_shorts_195, df_X13_shorts_156, df_X13_shorts_140, df_X13_shorts_135, df_X13_shorts_139, df_X13_shorts_0, df_X13_shorts, df_X13_smalls_306, df_X13_smalls_126, df_X13_smalls_110, df_X13_smalls_109, df_X13_smalls_0, df_X13_smalls, df_X13_plainSix_21, df_X13_plainSix_0, df_X13_plainSix, df_X13_stacked_84, df_X13_stacked_0, df_X13_stacked, nb_b2, nb_b1, nb_let, eq_self, if_true, if_false, ↓reduceIte, show ((1 : Int32) = 0) = False from eq_false (by decide), show ((17 : Int32) < 16) = False from eq_false (by decide), show ((17 : Int32) = 0) = False from eq_false (by decide), show ((17 : Int32) = 13) = False from eq_false (by decide), show ((17 : Int32) = 18) = False from eq_false (by decide), show ((17 : Int32) = 19) = False from eq_false (by decide), show ((17 : Int32) = 20) = False from eq_false (by decide), show ((17 : Int32) = 21) = False from eq_false (by decide), show ((17 : Int32) = 22) = False from eq_false (by decide), show ((17 : Int32) = 23) = False from eq_false (by decide), show ((17 : Int32) = 25) = False from eq_false (by decide), show ((17 : Int32) = 26) = False from eq_false (by decide), show ((17 : Int32) = 27) = False from eq_false (by decide), show ((17 : Int32) = 28) = False from eq_false (by decide), show ((17 : Int32) ≤ 20) = True from eq_true (by decide), show ((16 : Int32) ≤ 17) = True from eq_true (by decide), show ((25 : Int32) ≤ 17) = False from eq_false (by decide), bq_11_5_25, bq_4_0_7, bq_9_9_12, bq_4_4_6, bq_6_6_5, bq_8_7_3, bq_5_5_2, bq_5_4_11, bq_9_6_7, bq_2_2_6, bq_3_3_5, bq_5_3_10, bq_5_5_12, bq_4_2_4, bq_7_6_2, bq_5_2_9, bq_7_6_7, sJ_R, sB_R, sX_R, jB_R, tB_R, e1, SR_12 h1, e2, SR_12 h2, e3, f12, eq_false ne, w1]
    exact ⟨_, rfl, fun _ => w2 _, fun u => absurd u nf⟩
  obtain ⟨wv, S3, ms, dv, e3, rn, h3, hpx⟩ := wit_y hV hY h2 R (-32) 31 (k := 1) (by decide)
  have e3 : df_X13_within n (-32) 31 1 S2 = some (wv, S3) := e3
  have h3 : SR B ct gr PA BY OU (wiF B ms dv (lfO 78 (vtO 78 (sI B 17) wv))) px S3 := h3
  by_cases zz : wiF B ms dv (lfO 78 (vtO 78 (sI B 17) wv)) = 0
  rotate_left
  · have fl : FL e B _ S3 := ⟨_, _, _, _, _, _, hpx, h3⟩
    have f12 := (FL_f fl).1
    have f0 := f0_2 h0 (wi_2 zz)
    obtain ⟨W, w1, w2⟩ := hal_G (n := n) fl (m2_3 (wi_2 zz))
    simp only [df_X13_shorts_341, df_X13_shorts_287, df_X13_shorts_221, df_X13_shorts_206, df_X13_shorts_195, df_X13_shorts_156, df_X13_shorts_140, df_X13_shorts_135, df_X13_shorts_139, df_X13_shorts_0, df_X13_shorts, df_X13_smalls_306, df_X13_smalls_126, df_X13_smalls_110, df_X13_smalls_109, df_X13_smalls_0, df_X13_smalls, df_X13_plainSix_21, df_X13_plainSix_0, df_X13_plainSix, df_X13_stacked_84, df_X13_stacked_0, df_X13_stacked, nb_b2, nb_b1, nb_let, eq_self, if_true, if_false, ↓reduceIte, show ((1 : Int32) = 0) = False from eq_false (by decide), show ((17 : Int32) < 16) = False from eq_false (by decide), show ((17 : Int32) = 0) = False from eq_false (by decide), show ((17 : Int32) = 13) = False from eq_false (by decide), show ((17 : Int32) = 18) = False from eq_false (by decide), show ((17 : Int32) = 19) = False from eq_false (by decide), show ((17 : Int32) = 20) = False from eq_false (by decide), show ((17 : Int32) = 21) = False from eq_false (by decide), show ((17 : Int32) = 22) = False from eq_false (by decide), show ((17 : Int32) = 23) = False from eq_false (by decide), show ((17 : Int32) = 25) = False from eq_false (by decide), show ((17 : Int32) = 26) = False from eq_false (by decide), show ((17 : Int32) = 27) = False from eq_false (by decide), show ((17 : Int32) = 28) = False from eq_false (by decide), show ((17 : Int32) ≤ 20) = True from eq_true (by decide), show ((16 : Int32) ≤ 17) = True from eq_true (by decide), show ((25 : Int32) ≤ 17) = False from eq_false (by decide), bq_11_5_25, bq_4_0_7, bq_9_9_12, bq_4_4_6, bq_6_6_5, bq_8_7_3, bq_5_5_2, bq_5_4_11, bq_9_6_7, bq_2_2_6, bq_3_3_5, bq_5_3_10, bq_5_5_12, bq_4_2_4, bq_7_6_2, bq_5_2_9, bq_7_6_7, sJ_R, sB_R, sX_R, jB_R, tB_R, e1, SR_12 h1, e2, SR_12 h2, e3, f12, eq_false zz, w1]
    exact ⟨_, rfl, fun u => absurd f0 u, fun _ => ⟨wv, ms, dv, rn, fun u => absurd u zz, fun _ => w2 _⟩⟩
  have h3z := h3
  rw [zz] at h3z
  obtain ⟨rfl, rfl, rfl⟩ := hTr
  obtain ⟨W, w1, w2⟩ := hal_H (n := n) h3z (OKW_m hw (by omega))
  simp only [df_X13_shorts_341, df_X13_shorts_287, df_X13_shorts_221, df_X13_shorts_206, df_X13_shorts_195, df_X13_shorts_156, df_X13_shorts_140, df_X13_shorts_135, df_X13_shorts_139, df_X13_shorts_0, df_X13_shorts, df_X13_smalls_306, df_X13_smalls_126, df_X13_smalls_110, df_X13_smalls_109, df_X13_smalls_0, df_X13_smalls, df_X13_plainSix_21, df_X13_plainSix_0, df_X13_plainSix, df_X13_stacked_84, df_X13_stacked_0, df_X13_stacked, nb_b2, nb_b1, nb_let, eq_self, if_true, if_false, ↓reduceIte, show ((1 : Int32) = 0) = False from eq_false (by decide), show ((17 : Int32) < 16) = False from eq_false (by decide), show ((17 : Int32) = 0) = False from eq_false (by decide), show ((17 : Int32) = 13) = False from eq_false (by decide), show ((17 : Int32) = 18) = False from eq_false (by decide), show ((17 : Int32) = 19) = False from eq_false (by decide), show ((17 : Int32) = 20) = False from eq_false (by decide), show ((17 : Int32) = 21) = False from eq_false (by decide), show ((17 : Int32) = 22) = False from eq_false (by decide), show ((17 : Int32) = 23) = False from eq_false (by decide), show ((17 : Int32) = 25) = False from eq_false (by decide), show ((17 : Int32) = 26) = False from eq_false (by decide), show ((17 : Int32) = 27) = False from eq_false (by decide), show ((17 : Int32) = 28) = False from eq_false (by decide), show ((17 : Int32) ≤ 20) = True from eq_true (by decide), show ((16 : Int32) ≤ 17) = True from eq_true (by decide), show ((25 : Int32) ≤ 17) = False from eq_false (by decide), bq_11_5_25, bq_4_0_7, bq_9_9_12, bq_4_4_6, bq_6_6_5, bq_8_7_3, bq_5_5_2, bq_5_4_11, bq_9_6_7, bq_2_2_6, bq_3_3_5, bq_5_3_10, bq_5_5_12, bq_4_2_4, bq_7_6_2, bq_5_2_9, bq_7_6_7, sJ_R, sB_R, sX_R, jB_R, tB_R, e1, SR_12 h1, e2, SR_12 h2, e3, SR_12 h3z, w1]
  refine ⟨_, rfl, fun u => absurd trivial u, fun _ => ⟨wv, ms, dv, rn, plo2 zz (w2 _) ?_⟩⟩
  simp only [RGB_0, or_0, RGB_s44, RGB_s78, RGB_r100, rgb_100, lbo_78, vto_78]
  try simp only [Int32.or_assoc]
  try simp only [Int32.or_comm, or_lc]
  try simp only [Int32.or_assoc, Int32.or_comm, or_lc]
theorem shp_18 {n L e : Nat} {c : Nat → Nat} {BC B : St} {X : Nat → Nat} {nL st cu : Nat} (hV : RV n L e c BC B X nL cu) {ct : Nat} {gr : Bool} {PA BY OU : Nat → Int32} (hY : PY PA cu st) {p : Nat} {S : St} (h : SR B ct gr PA BY OU 0 p S) (hw : OKW B (ct + 2)) (w : Int32) {f p2 : Nat} {rs : List Nat} {m : Nat} {P : Nat → Tp} (h0 : ¬ f = 0 → sI B 15 = 0) (hTr : Tr n L e c BC [109, 44, 77] p f p2 rs m P) : ∃ S' : St, df_X13_shorts n 18 w S = some S' ∧ (¬ f = 0 → FL e B (nI f + 16 * sI B 13) S') ∧ (f = 0 → ∃ (z : Int32) (ms dv : Bool), rnF (VW c X e nL st B) P m = ([z], ms, dv) ∧ PLO e B ct gr PA BY OU p2 (wiF B ms dv (lfO 77 (vtO 77 (sI B 17) z))) (by2 (w ||| RGB [109, 44, 77] rs ||| lbO 77 (vtO 77 (sI B 17) z))) S') := by
  have hT := hV.1
  have hl := hV.2.2.2.2.2.2.2
  obtain ⟨q1, p1, κ1, τ1, v1, x1, T1, hTr⟩ := hTr
  rw [if_neg (by decide), if_pos (by decide)] at hTr
  rcases hTr with ⟨g1, r1, rs1, rfl, hTr⟩ | hF
  rotate_left
  · have nf : ¬ f = 0 := by rcases hF with hF | hF <;> omega
    by_cases gy : tkG c τ1 q1 p1 < 32
    · have hf3 : f = 3 ∧ tkG c τ1 q1 p1 = 2 := by
        rcases hF with hF | ⟨hF | hF, hF2⟩
        · omega
        · omega
        · refine ⟨hF2, Classical.byContradiction fun z => ?_⟩
          have := hF.2
          unfold rfit at this
          simp at this
          exact z this
      obtain ⟨S1, e1, g1⟩ := tak_y hT h T1 gy
      rw [hf3.2] at e1
      obtain ⟨S1b, b1, c1⟩ := not_n (n := n) g1 (nI 2)
      have b1 : df_X13_not n (nI 2) 2 S1 = some (nI 2, S1b) := b1
      have fl : FL e B (nI 3 + 16 * sI B 13) S1b := ⟨_, _, _, _, _, _, T1.2.2.2.2.1, c1⟩
      have ne : ¬ nI 3 + 16 * sI B 13 = 0 := flt_n hl 3 (by omega)
      have f12 := (FL_f fl).1
      rw [hf3.1] at nf h0 ⊢
      have ec := com_F (n := n) fl ne
      simp only [df_X13_shorts_341, df_X13_shorts_287, df_X13_shorts_221, df_X13_shorts_206, df_X13_shorts_195, df_X13_shorts_156, df_X13_shorts_140, df_X13_shorts_135, df_X13_shorts_139, df_X13_shorts_0, df_X13_shorts, df_X13_smalls_306, df_X13_smalls_126, df_X13_smalls_110, df_X13_smalls_109, df_X13_smalls_0, df_X13_smalls, df_X13_plainSix_21, df_X13_plainSix_0, df_X13_plainSix, df_X13_stacked_84, df_X13_stacked_0, df_X13_stacked, nb_b2, nb_b1, nb_let, eq_self, if_true, if_false, ↓reduceIte, show ((1 : Int32) = 0) = False from eq_false (by decide), show ((18 : Int32) < 16) = False from eq_false (by decide), show ((18 : Int32) = 0) = False from eq_false (by decide), show ((18 : Int32) = 13) = False from eq_false (by decide), show ((18 : Int32) = 17) = False from eq_false (by decide), show ((18 : Int32) = 19) = False from eq_false (by decide), show ((18 : Int32) = 20) = False from eq_false (by decide), show ((18 : Int32) = 21) = False from eq_false (by decide), show ((18 : Int32) = 22) = False from eq_false (by decide), show ((18 : Int32) = 23) = False from eq_false (by decide), show ((18 : Int32) = 25) = False from eq_false (by decide), show ((18 : Int32) = 26) = False from eq_false (by decide), show ((18 : Int32) = 27) = False from eq_false (by decide), show ((18 : Int32) = 28) = False from eq_false (by decide), show ((18 : Int32) ≤ 20) = True from eq_true (by decide), show ((16 : Int32) ≤ 18) = True from eq_true (by decide), show ((25 : Int32) ≤ 18) = False from eq_false (by decide), bq_11_5_25, bq_4_0_7, bq_9_9_12, bq_4_4_6, bq_6_6_5, bq_8_7_3, bq_5_5_2, bq_5_4_11, bq_9_6_7, bq_2_2_6, bq_3_3_5, bq_5_3_10, bq_5_5_12, bq_4_2_4, bq_7_6_2, bq_5_2_9, bq_7_6_7, sJ_R, sB_R, sX_R, jB_R, tB_R, e1, b1, f12, eq_false ne, ec]
      exact ⟨_, rfl, fun _ => fl, fun u => absurd u nf⟩
    · have hF2 : (tkG c τ1 q1 p1 = 33 ∧ f = 1) ∨ (tkG c τ1 q1 p1 = 32 ∧ f = 3) := by
        rcases hF with hF | ⟨hF | hF, hF2⟩
        · exact Or.inl hF
        · exact Or.inr ⟨hF, hF2⟩
        · exact absurd hF.1 gy
      obtain ⟨S1, e1, g1⟩ := tak_n hT h T1 gy
      have ne := f13 hl (g := tkG c τ1 q1 p1)
      rw [f13e hF2] at g1 ne
      have fl := FN_L g1
      have f12 := (FL_f fl).1
      have b1 := not_F (n := n) fl ne 0 2
      have ec := com_F (n := n) fl ne
      simp only [df_X13_shorts_341, df_X13_shorts_287, df_X13_shorts_221, df_X13_shorts_206, df_X13_shorts_195, df_X13_shorts_156, df_X13_shorts_140, df_X13_shorts_135, df_X13_shorts_139, df_X13_shorts_0, df_X13_shorts, df_X13_smalls_306, df_X13_smalls_126, df_X13_smalls_110, df_X13_smalls_109, df_X13_smalls_0, df_X13_smalls, df_X13_plainSix_21, df_X13_plainSix_0, df_X13_plainSix, df_X13_stacked_84, df_X13_stacked_0, df_X13_stacked, nb_b2, nb_b1, nb_let, eq_self, if_true, if_false, ↓reduceIte, show ((1 : Int32) = 0) = False from eq_false (by decide), show ((18 : Int32) < 16) = False from eq_false (by decide), show ((18 : Int32) = 0) = False from eq_false (by decide), show ((18 : Int32) = 13) = False from eq_false (by decide), show ((18 : Int32) = 17) = False from eq_false (by decide), show ((18 : Int32) = 19) = False from eq_false (by decide), show ((18 : Int32) = 20) = False from eq_false (by decide), show ((18 : Int32) = 21) = False from eq_false (by decide), show ((18 : Int32) = 22) = False from eq_false (by decide), show ((18 : Int32) = 23) = False from eq_false (by decide), show ((18 : Int32) = 25) = False from eq_false (by decide), show ((18 : Int32) = 26) = False from eq_false (by decide), show ((18 : Int32) = 27) = False from eq_false (by decide), show ((18 : Int32) = 28) = False from eq_false (by decide), show ((18 : Int32) ≤ 20) = True from eq_true (by decide), show ((16 : Int32) ≤ 18) = True from eq_true (by decide), show ((25 : Int32) ≤ 18) = False from eq_false (by decide), bq_11_5_25, bq_4_0_7, bq_9_9_12, bq_4_4_6, bq_6_6_5, bq_8_7_3, bq_5_5_2, bq_5_4_11, bq_9_6_7, bq_2_2_6, bq_3_3_5, bq_5_3_10, bq_5_5_12, bq_4_2_4, bq_7_6_2, bq_5_2_9, bq_7_6_7, sJ_R, sB_R, sX_R, jB_R, tB_R, e1, b1, f12, eq_false ne, ec]
      exact ⟨_, rfl, fun _ => fl, fun u => absurd u nf⟩
  obtain ⟨S1, e1, h1⟩ := tak_y hT h T1 g1
  have b1 : df_X13_not n (nI (tkG c τ1 q1 p1)) 2 S1 = some (nI (tkG c τ1 q1 p1), S1) := not_y (show ¬ nI (tkG c τ1 q1 p1) = nI 2 from zne (by unfold rfit at r1; simp at r1; exact r1) (by omega) (by omega))
  obtain ⟨q2, p2, κ2, τ2, v2, x2, T2, hTr⟩ := hTr
  rw [if_pos (by decide)] at hTr
  rcases hTr with ⟨g2, hTr⟩ | hF
  rotate_left
  · have nf : ¬ f = 0 := by omega
    obtain ⟨S2, e2, g2⟩ := com_n hT h1 T2 hF.1
    rw [hF.2] at nf h0 ⊢
    have fl : FL e B (nI 1 + 16 * sI B 13) S2 := FN_L g2
    have ne : ¬ nI 1 + 16 * sI B 13 = 0 := flt_n hl 1 (by omega)
    have f12 := (FL_f fl).1
    simp only [df_X13_shorts_341, df_X13_shorts_287, df_X13_shorts_221, df_X13_shorts_206, df_X13_shorts_195, df_X13_shorts_156, df_X13_shorts_140, df_X13_shorts_135, df_X13_shorts_139, df_X13_shorts_0, df_X13_shorts, df_X13_smalls_306, df_X13_smalls_126, df_X13_smalls_110, df_X13_smalls_109, df_X13_smalls_0, df_X13_smalls, df_X13_plainSix_21, df_X13_plainSix_0, df_X13_plainSix, df_X13_stacked_84, df_X13_stacked_0, df_X13_stacked, nb_b2, nb_b1, nb_let, eq_self, if_true, if_false, ↓reduceIte, show ((1 : Int32) = 0) = False from eq_false (by decide), show ((18 : Int32) < 16) = False from eq_false (by decide), show ((18 : Int32) = 0) = False from eq_false (by decide), show ((18 : Int32) = 13) = False from eq_false (by decide), show ((18 : Int32) = 17) = False from eq_false (by decide), show ((18 : Int32) = 19) = False from eq_false (by decide), show ((18 : Int32) = 20) = False from eq_false (by decide), show ((18 : Int32) = 21) = False from eq_false (by decide), show ((18 : Int32) = 22) = False from eq_false (by decide), show ((18 : Int32) = 23) = False from eq_false (by decide), show ((18 : Int32) = 25) = False from eq_false (by decide), show ((18 : Int32) = 26) = False from eq_false (by decide), show ((18 : Int32) = 27) = False from eq_false (by decide), show ((18 : Int32) = 28) = False from eq_false (by decide), show ((18 : Int32) ≤ 20) = True from eq_true (by decide), show ((16 : Int32) ≤ 18) = True from eq_true (by decide), show ((25 : Int32) ≤ 18) = False from eq_false (by decide), bq_11_5_25, bq_4_0_7, bq_9_9_12, bq_4_4_6, bq_6_6_5, bq_8_7_3, bq_5_5_2, bq_5_4_11, bq_9_6_7, bq_2_2_6, bq_3_3_5, bq_5_3_10, bq_5_5_12, bq_4_2_4, bq_7_6_2, bq_5_2_9, bq_7_6_7, sJ_R, sB_R, sX_R, jB_R, tB_R, e1, SR_12 h1, b1, e2, f12, eq_false ne]
    exact ⟨_, rfl, fun _ => fl, fun u => absurd u nf⟩
  obtain ⟨S2, e2, h2⟩ := com_y hT h1 T2 g2
  obtain ⟨q3, p3, κ3, τ3, v3, x3, T3, hTr⟩ := hTr
  rw [if_neg (by decide), if_neg (by decide)] at hTr
  obtain ⟨ok, px, R, hTr⟩ := hTr
  rcases hTr with ⟨rfl, z1, z2, hTr⟩ | ⟨rfl, hF⟩
  rotate_left
  · have nf : ¬ f = 0 := by omega
    have ne : ¬ nI 1 + 16 * sI B 13 = 0 := flt_n hl 1 (by omega)
    obtain ⟨wv, S3, e3, fl⟩ := wit_n hV hY h2 R (-32) 31 1 (by decide)
    have f12 : sI S3 12 = nI 1 + 16 * sI B 13 := (FL_f fl).1
    have en := fun v => nz_F (n := n) fl ne v
    rw [hF] at nf h0 ⊢
    obtain ⟨W, w1, w2⟩ := hal_G (n := n) fl (m0_3 (h0 nf))
    simp only [df_X13_shorts_341, df_X13_shorts_287, df_X13_shorts_221, df_X13_shorts_206, df_X13_shorts_195, df_X13_shorts_156, df_X13_shorts_140, df_X13_shorts_135, df_X13_shorts_139, df_X13_shorts_0, df_X13_shorts, df_X13_smalls_306, df_X13_smalls_126, df_X13_smalls_110, df_X13_smalls_109, df_X13_smalls_0, df_X13_smalls, df_X13_plainSix_21, df_X13_plainSix_0, df_X13_plainSix, df_X13_stacked_84, df_X13_stacked_0, df_X13_stacked, nb_b2, nb_b1, nb_let, eq_self, if_true, if_false, ↓reduceIte, show ((1 : Int32) = 0) = False from eq_false (by decide), show ((18 : Int32) < 16) = False from eq_false (by decide), show ((18 : Int32) = 0) = False from eq_false (by decide), show ((18 : Int32) = 13) = False from eq_false (by decide), show ((18 : Int32) = 17) = False from eq_false (by decide), show ((18 : Int32) = 19) = False from eq_false (by decide), show ((18 : Int32) = 20) = False from eq_false (by decide), show ((18 : Int32) = 21) = False from eq_false (by decide), show ((18 : Int32) = 22) = False from eq_false (by decide), show ((18 : Int32) = 23) = False from eq_false (by decide), show ((18 : Int32) = 25) = False from eq_false (by decide), show ((18 : Int32) = 26) = False from eq_false (by decide), show ((18 : Int32) = 27) = False from eq_false (by decide), show ((18 : Int32) = 28) = False from eq_false (by decide), show ((18 : Int32) ≤ 20) = True from eq_true (by decide), show ((16 : Int32) ≤ 18) = True from eq_true (by decide), show ((25 : Int32) ≤ 18) = False from eq_false (by decide), bq_11_5_25, bq_4_0_7, bq_9_9_12, bq_4_4_6, bq_6_6_5, bq_8_7_3, bq_5_5_2, bq_5_4_11, bq_9_6_7, bq_2_2_6, bq_3_3_5, bq_5_3_10, bq_5_5_12, bq_4_2_4, bq_7_6_2, bq_5_2_9, bq_7_6_7, sJ_R, sB_R, sX_R, jB_R, tB_R, e1, SR_12 h1, b1, e2, SR_12 h2, e3, f12, eq_false ne, en, w1]
    exact ⟨_, rfl, fun _ => w2 _, fun u => absurd u nf⟩
  obtain ⟨wv, S3, ms, dv, e3, rn, h3, hpx⟩ := wit_y hV hY h2 R (-32) 31 (k := 1) (by decide)
  have e3 : df_X13_within n (-32) 31 1 S2 = some (wv, S3) := e3
  obtain ⟨S3n, en, h3⟩ := nzR (n := n) hl h3 hpx wv
  have h3 : SR B ct gr PA BY OU (wiF B ms dv (lfO 77 (vtO 77 (sI B 17) wv))) px S3n := h3
  by_cases zz : wiF B ms dv (lfO 77 (vtO 77 (sI B 17) wv)) = 0
  rotate_left
  · have fl : FL e B _ S3n := ⟨_, _, _, _, _, _, hpx, h3⟩
    have f12 := (FL_f fl).1
    have f0 := f0_2 h0 (wi_2 zz)
    obtain ⟨W, w1, w2⟩ := hal_G (n := n) fl (m2_3 (wi_2 zz))
    simp only [df_X13_shorts_341, df_X13_shorts_287, df_X13_shorts_221, df_X13_shorts_206, df_X13_shorts_195, df_X13_shorts_156, df_X13_shorts_140, df_X13_shorts_135, df_X13_shorts_139, df_X13_shorts_0, df_X13_shorts, df_X13_smalls_306, df_X13_smalls_126, df_X13_smalls_110, df_X13_smalls_109, df_X13_smalls_0, df_X13_smalls, df_X13_plainSix_21, df_X13_plainSix_0, df_X13_plainSix, df_X13_stacked_84, df_X13_stacked_0, df_X13_stacked, nb_b2, nb_b1, nb_let, eq_self, if_true, if_false, ↓reduceIte, show ((1 : Int32) = 0) = False from eq_false (by decide), show ((18 : Int32) < 16) = False from eq_false (by decide), show ((18 : Int32) = 0) = False from eq_false (by decide), show ((18 : Int32) = 13) = False from eq_false (by decide), show ((18 : Int32) = 17) = False from eq_false (by decide), show ((18 : Int32) = 19) = False from eq_false (by decide), show ((18 : Int32) = 20) = False from eq_false (by decide), show ((18 : Int32) = 21) = False from eq_false (by decide), show ((18 : Int32) = 22) = False from eq_false (by decide), show ((18 : Int32) = 23) = False from eq_false (by decide), show ((18 : Int32) = 25) = False from eq_false (by decide), show ((18 : Int32) = 26) = False from eq_false (by decide), show ((18 : Int32) = 27) = False from eq_false (by decide), show ((18 : Int32) = 28) = False from eq_false (by decide), show ((18 : Int32) ≤ 20) = True from eq_true (by decide), show ((16 : Int32) ≤ 18) = True from eq_true (by decide), show ((25 : Int32) ≤ 18) = False from eq_false (by decide), bq_11_5_25, bq_4_0_7, bq_9_9_12, bq_4_4_6, bq_6_6_5, bq_8_7_3, bq_5_5_2, bq_5_4_11, bq_9_6_7, bq_2_2_6, bq_3_3_5, bq_5_3_10, bq_5_5_12, bq_4_2_4, bq_7_6_2, bq_5_2_9, bq_7_6_7, sJ_R, sB_R, sX_R, jB_R, tB_R, e1, SR_12 h1, b1, e2, SR_12 h2, e3, en, f12, eq_false zz, w1]
    exact ⟨_, rfl, fun u => absurd f0 u, fun _ => ⟨wv, ms, dv, rn, fun u => absurd u zz, fun _ => w2 _⟩⟩
  have h3z := h3
  rw [zz] at h3z
  obtain ⟨rfl, rfl, rfl⟩ := hTr
  obtain ⟨W, w1, w2⟩ := hal_H (n := n) h3z (OKW_m hw (by omega))
  simp only [df_X13_shorts_341, df_X13_shorts_287, df_X13_shorts_221, df_X13_shorts_206, df_X13_shorts_195, df_X13_shorts_156, df_X13_shorts_140, df_X13_shorts_135, df_X13_shorts_139, df_X13_shorts_0, df_X13_shorts, df_X13_smalls_306, df_X13_smalls_126, df_X13_smalls_110, df_X13_smalls_109, df_X13_smalls_0, df_X13_smalls, df_X13_plainSix_21, df_X13_plainSix_0, df_X13_plainSix, df_X13_stacked_84, df_X13_stacked_0, df_X13_stacked, nb_b2, nb_b1, nb_let, eq_self, if_true, if_false, ↓reduceIte, show ((1 : Int32) = 0) = False from eq_false (by decide), show ((18 : Int32) < 16) = False from eq_false (by decide), show ((18 : Int32) = 0) = False from eq_false (by decide), show ((18 : Int32) = 13) = False from eq_false (by decide), show ((18 : Int32) = 17) = False from eq_false (by decide), show ((18 : Int32) = 19) = False from eq_false (by decide), show ((18 : Int32) = 20) = False from eq_false (by decide), show ((18 : Int32) = 21) = False from eq_false (by decide), show ((18 : Int32) = 22) = False from eq_false (by decide), show ((18 : Int32) = 23) = False from eq_false (by decide), show ((18 : Int32) = 25) = False from eq_false (by decide), show ((18 : Int32) = 26) = False from eq_false (by decide), show ((18 : Int32) = 27) = False from eq_false (by decide), show ((18 : Int32) = 28) = False from eq_false (by decide), show ((18 : Int32) ≤ 20) = True from eq_true (by decide), show ((16 : Int32) ≤ 18) = True from eq_true (by decide), show ((25 : Int32) ≤ 18) = False from eq_false (by decide), bq_11_5_25, bq_4_0_7, bq_9_9_12, bq_4_4_6, bq_6_6_5, bq_8_7_3, bq_5_5_2, bq_5_4_11, bq_9_6_7, bq_2_2_6, bq_3_3_5, bq_5_3_10, bq_5_5_12, bq_4_2_4, bq_7_6_2, bq_5_2_9, bq_7_6_7, sJ_R, sB_R, sX_R, jB_R, tB_R, e1, SR_12 h1, b1, e2, SR_12 h2, e3, en, SR_12 h3z, w1]
  refine ⟨_, rfl, fun u => absurd trivial u, fun _ => ⟨wv, ms, dv, rn, plo2 zz (w2 _) ?_⟩⟩
  simp only [RGB_0, or_0, RGB_s44, RGB_s77, RGB_r109, rgb_109, lbo_77, vto_77]
  try simp only [Int32.or_assoc]
  try simp only [Int32.or_comm, or_lc]
  try simp only [Int32.or_assoc, Int32.or_comm, or_lc]
theorem shp_19 {n L e : Nat} {c : Nat → Nat} {BC B : St} {X : Nat → Nat} {nL st cu : Nat} (hV : RV n L e c BC B X nL cu) {ct : Nat} {gr : Bool} {PA BY OU : Nat → Int32} (hY : PY PA cu st) {p : Nat} {S : St} (h : SR B ct gr PA BY OU 0 p S) (hw : OKW B (ct + 2)) (w : Int32) {f p2 : Nat} {rs : List Nat} {m : Nat} {P : Nat → Tp} (h0 : ¬ f = 0 → sI B 15 = 0) (hTr : Tr n L e c BC [75] p f p2 rs m P) : ∃ S' : St, df_X13_shorts n 19 w S = some S' ∧ (¬ f = 0 → FL e B (nI f + 16 * sI B 13) S') ∧ (f = 0 → ∃ (z : Int32) (ms dv : Bool), rnF (VW c X e nL st B) P m = ([z], ms, dv) ∧ PLO e B ct gr PA BY OU p2 (wiF B ms dv (lfO 75 (vtO 75 (sI B 17) z))) (by2 (w ||| RGB [75] rs ||| lbO 75 (vtO 75 (sI B 17) z))) S') := by
  have hT := hV.1
  have hl := hV.2.2.2.2.2.2.2
  obtain ⟨q1, p1, κ1, τ1, v1, x1, T1, hTr⟩ := hTr
  rw [if_neg (by decide), if_neg (by decide)] at hTr
  obtain ⟨ok, px, R, hTr⟩ := hTr
  rcases hTr with ⟨rfl, z1, z2, hTr⟩ | ⟨rfl, hF⟩
  rotate_left
  · have nf : ¬ f = 0 := by omega
    have ne : ¬ nI 1 + 16 * sI B 13 = 0 := flt_n hl 1 (by omega)
    obtain ⟨wv, S1, e1, fl⟩ := exp_n hV hY h R
    have ef : ∀ v : Int32, df_X13_fits n v (-2048) 2046 2 S1 = some S1 := fun v => fit_F fl ne v _ _ _ (by decide)
    have f12 : sI S1 12 = nI 1 + 16 * sI B 13 := (FL_f fl).1
    rw [hF] at nf h0 ⊢
    obtain ⟨W, w1, w2⟩ := hal_G (n := n) fl (m0_3 (h0 nf))
    simp only [df_X13_shorts_341, df_X13_shorts_287, df_X13_shorts_221, df_X13_shorts_206, df_X13_shorts_195, df_X13_shorts_156, df_X13_shorts_140, df_X13_shorts_135, df_X13_shorts_139, df_X13_shorts_0, df_X13_shorts, df_X13_smalls_306, df_X13_smalls_126, df_X13_smalls_110, df_X13_smalls_109, df_X13_smalls_0, df_X13_smalls, df_X13_plainSix_21, df_X13_plainSix_0, df_X13_plainSix, df_X13_stacked_84, df_X13_stacked_0, df_X13_stacked, nb_b2, nb_b1, nb_let, eq_self, if_true, if_false, ↓reduceIte, show ((1 : Int32) = 0) = False from eq_false (by decide), show ((19 : Int32) < 16) = False from eq_false (by decide), show ((19 : Int32) = 0) = False from eq_false (by decide), show ((19 : Int32) = 13) = False from eq_false (by decide), show ((19 : Int32) = 17) = False from eq_false (by decide), show ((19 : Int32) = 18) = False from eq_false (by decide), show ((19 : Int32) = 20) = False from eq_false (by decide), show ((19 : Int32) = 21) = False from eq_false (by decide), show ((19 : Int32) = 22) = False from eq_false (by decide), show ((19 : Int32) = 23) = False from eq_false (by decide), show ((19 : Int32) = 25) = False from eq_false (by decide), show ((19 : Int32) = 26) = False from eq_false (by decide), show ((19 : Int32) = 27) = False from eq_false (by decide), show ((19 : Int32) = 28) = False from eq_false (by decide), show ((19 : Int32) ≤ 20) = True from eq_true (by decide), show ((16 : Int32) ≤ 19) = True from eq_true (by decide), show ((25 : Int32) ≤ 19) = False from eq_false (by decide), bq_11_5_25, bq_4_0_7, bq_9_9_12, bq_4_4_6, bq_6_6_5, bq_8_7_3, bq_5_5_2, bq_5_4_11, bq_9_6_7, bq_2_2_6, bq_3_3_5, bq_5_3_10, bq_5_5_12, bq_4_2_4, bq_7_6_2, bq_5_2_9, bq_7_6_7, sJ_R, sB_R, sX_R, jB_R, tB_R, e1, f12, eq_false ne, ef, w1]
    exact ⟨_, rfl, fun _ => w2 _, fun u => absurd u nf⟩
  obtain ⟨wv, S1a, S1, ms, dv, e1, e17, ef, rn, h1, hpx⟩ := exfit hV hY h R (fun x => x - sI B 17) (-2048) 2046 (k := 2) (by decide)
  have ef : df_X13_fits n (wv - sI B 17) (-2048) 2046 2 S1a = some S1 := ef
  have h1 : SR B ct gr PA BY OU (wiF B ms dv (lfO 75 (vtO 75 (sI B 17) wv))) px S1 := h1
  by_cases zz : wiF B ms dv (lfO 75 (vtO 75 (sI B 17) wv)) = 0
  rotate_left
  · have fl : FL e B _ S1 := ⟨_, _, _, _, _, _, hpx, h1⟩
    have f12 := (FL_f fl).1
    have f0 := f0_2 h0 (wi_2 zz)
    obtain ⟨W, w1, w2⟩ := hal_G (n := n) fl (m2_3 (wi_2 zz))
    simp only [df_X13_shorts_341, df_X13_shorts_287, df_X13_shorts_221, df_X13_shorts_206, df_X13_shorts_195, df_X13_shorts_156, df_X13_shorts_140, df_X13_shorts_135, df_X13_shorts_139, df_X13_shorts_0, df_X13_shorts, df_X13_smalls_306, df_X13_smalls_126, df_X13_smalls_110, df_X13_smalls_109, df_X13_smalls_0, df_X13_smalls, df_X13_plainSix_21, df_X13_plainSix_0, df_X13_plainSix, df_X13_stacked_84, df_X13_stacked_0, df_X13_stacked, nb_b2, nb_b1, nb_let, eq_self, if_true, if_false, ↓reduceIte, show ((1 : Int32) = 0) = False from eq_false (by decide), show ((19 : Int32) < 16) = False from eq_false (by decide), show ((19 : Int32) = 0) = False from eq_false (by decide), show ((19 : Int32) = 13) = False from eq_false (by decide), show ((19 : Int32) = 17) = False from eq_false (by decide), show ((19 : Int32) = 18) = False from eq_false (by decide), show ((19 : Int32) = 20) = False from eq_false (by decide), show ((19 : Int32) = 21) = False from eq_false (by decide), show ((19 : Int32) = 22) = False from eq_false (by decide), show ((19 : Int32) = 23) = False from eq_false (by decide), show ((19 : Int32) = 25) = False from eq_false (by decide), show ((19 : Int32) = 26) = False from eq_false (by decide), show ((19 : Int32) = 27) = False from eq_false (by decide), show ((19 : Int32) = 28) = False from eq_false (by decide), show ((19 : Int32) ≤ 20) = True from eq_true (by decide), show ((16 : Int32) ≤ 19) = True from eq_true (by decide), show ((25 : Int32) ≤ 19) = False from eq_false (by decide), bq_11_5_25, bq_4_0_7, bq_9_9_12, bq_4_4_6, bq_6_6_5, bq_8_7_3, bq_5_5_2, bq_5_4_11, bq_9_6_7, bq_2_2_6, bq_3_3_5, bq_5_3_10, bq_5_5_12, bq_4_2_4, bq_7_6_2, bq_5_2_9, bq_7_6_7, sJ_R, sB_R, sX_R, jB_R, tB_R, e1, e17, ef, f12, eq_false zz, w1]
    exact ⟨_, rfl, fun u => absurd f0 u, fun _ => ⟨wv, ms, dv, rn, fun u => absurd u zz, fun _ => w2 _⟩⟩
  have h1z := h1
  rw [zz] at h1z
  obtain ⟨rfl, rfl, rfl⟩ := hTr
  obtain ⟨W, w1, w2⟩ := hal_H (n := n) h1z (OKW_m hw (by omega))
  simp only [df_X13_shorts_341, df_X13_shorts_287, df_X13_shorts_221, df_X13_shorts_206, df_X13_shorts_195, df_X13_shorts_156, df_X13_shorts_140, df_X13_shorts_135, df_X13_shorts_139, df_X13_shorts_0, df_X13_shorts, df_X13_smalls_306, df_X13_smalls_126, df_X13_smalls_110, df_X13_smalls_109, df_X13_smalls_0, df_X13_smalls, df_X13_plainSix_21, df_X13_plainSix_0, df_X13_plainSix, df_X13_stacked_84, df_X13_stacked_0, df_X13_stacked, nb_b2, nb_b1, nb_let, eq_self, if_true, if_false, ↓reduceIte, show ((1 : Int32) = 0) = False from eq_false (by decide), show ((19 : Int32) < 16) = False from eq_false (by decide), show ((19 : Int32) = 0) = False from eq_false (by decide), show ((19 : Int32) = 13) = False from eq_false (by decide), show ((19 : Int32) = 17) = False from eq_false (by decide), show ((19 : Int32) = 18) = False from eq_false (by decide), show ((19 : Int32) = 20) = False from eq_false (by decide), show ((19 : Int32) = 21) = False from eq_false (by decide), show ((19 : Int32) = 22) = False from eq_false (by decide), show ((19 : Int32) = 23) = False from eq_false (by decide), show ((19 : Int32) = 25) = False from eq_false (by decide), show ((19 : Int32) = 26) = False from eq_false (by decide), show ((19 : Int32) = 27) = False from eq_false (by decide), show ((19 : Int32) = 28) = False from eq_false (by decide), show ((19 : Int32) ≤ 20) = True from eq_true (by decide), show ((16 : Int32) ≤ 19) = True from eq_true (by decide), show ((25 : Int32) ≤ 19) = False from eq_false (by decide), bq_11_5_25, bq_4_0_7, bq_9_9_12, bq_4_4_6, bq_6_6_5, bq_8_7_3, bq_5_5_2, bq_5_4_11, bq_9_6_7, bq_2_2_6, bq_3_3_5, bq_5_3_10, bq_5_5_12, bq_4_2_4, bq_7_6_2, bq_5_2_9, bq_7_6_7, sJ_R, sB_R, sX_R, jB_R, tB_R, e1, e17, ef, SR_12 h1z, w1]
  refine ⟨_, rfl, fun u => absurd trivial u, fun _ => ⟨wv, ms, dv, rn, plo2 zz (w2 _) ?_⟩⟩
  simp only [RGB_0, or_0, RGB_s75, lbo_75, vto_75]
  try simp only [Int32.or_assoc]
  try simp only [Int32.or_comm, or_lc]
  try simp only [Int32.or_assoc, Int32.or_comm, or_lc]
theorem shp_20 {n L e : Nat} {c : Nat → Nat} {BC B : St} {X : Nat → Nat} {nL st cu : Nat} (hV : RV n L e c BC B X nL cu) {ct : Nat} {gr : Bool} {PA BY OU : Nat → Int32} (hY : PY PA cu st) {p : Nat} {S : St} (h : SR B ct gr PA BY OU 0 p S) (hw : OKW B (ct + 2)) (w : Int32) {f p2 : Nat} {rs : List Nat} {m : Nat} {P : Nat → Tp} (h0 : ¬ f = 0 → sI B 15 = 0) (hTr : Tr n L e c BC [89] p f p2 rs m P) : ∃ S' : St, df_X13_shorts n 20 w S = some S' ∧ (¬ f = 0 → FL e B (nI f + 16 * sI B 13) S') ∧ (f = 0 → ∃ (z : Int32) (ms dv : Bool), rnF (VW c X e nL st B) P m = ([z], ms, dv) ∧ PLO e B ct gr PA BY OU p2 (wiF B ms dv (lfO 89 (vtO 89 (sI B 17) z))) (by2 (w ||| RGB [89] rs ||| lbO 89 (vtO 89 (sI B 17) z))) S') := by
  have hT := hV.1
  have hl := hV.2.2.2.2.2.2.2
  obtain ⟨q1, p1, κ1, τ1, v1, x1, T1, hTr⟩ := hTr
  rw [if_neg (by decide), if_neg (by decide)] at hTr
  obtain ⟨ok, px, R, hTr⟩ := hTr
  rcases hTr with ⟨rfl, z1, z2, hTr⟩ | ⟨rfl, hF⟩
  rotate_left
  · have nf : ¬ f = 0 := by omega
    have ne : ¬ nI 1 + 16 * sI B 13 = 0 := flt_n hl 1 (by omega)
    obtain ⟨wv, S1, e1, fl⟩ := wit_n hV hY h R (-512) 496 16 (by decide)
    have f12 : sI S1 12 = nI 1 + 16 * sI B 13 := (FL_f fl).1
    have en := fun v => nz_F (n := n) fl ne v
    rw [hF] at nf h0 ⊢
    obtain ⟨W, w1, w2⟩ := hal_G (n := n) fl (m0_3 (h0 nf))
    simp only [df_X13_shorts_341, df_X13_shorts_287, df_X13_shorts_221, df_X13_shorts_206, df_X13_shorts_195, df_X13_shorts_156, df_X13_shorts_140, df_X13_shorts_135, df_X13_shorts_139, df_X13_shorts_0, df_X13_shorts, df_X13_smalls_306, df_X13_smalls_126, df_X13_smalls_110, df_X13_smalls_109, df_X13_smalls_0, df_X13_smalls, df_X13_plainSix_21, df_X13_plainSix_0, df_X13_plainSix, df_X13_stacked_84, df_X13_stacked_0, df_X13_stacked, nb_b2, nb_b1, nb_let, eq_self, if_true, if_false, ↓reduceIte, show ((1 : Int32) = 0) = False from eq_false (by decide), show ((20 : Int32) < 16) = False from eq_false (by decide), show ((20 : Int32) = 0) = False from eq_false (by decide), show ((20 : Int32) = 13) = False from eq_false (by decide), show ((20 : Int32) = 17) = False from eq_false (by decide), show ((20 : Int32) = 18) = False from eq_false (by decide), show ((20 : Int32) = 19) = False from eq_false (by decide), show ((20 : Int32) = 21) = False from eq_false (by decide), show ((20 : Int32) = 22) = False from eq_false (by decide), show ((20 : Int32) = 23) = False from eq_false (by decide), show ((20 : Int32) = 25) = False from eq_false (by decide), show ((20 : Int32) = 26) = False from eq_false (by decide), show ((20 : Int32) = 27) = False from eq_false (by decide), show ((20 : Int32) = 28) = False from eq_false (by decide), show ((20 : Int32) ≤ 20) = True from eq_true (by decide), show ((16 : Int32) ≤ 20) = True from eq_true (by decide), show ((25 : Int32) ≤ 20) = False from eq_false (by decide), bq_11_5_25, bq_4_0_7, bq_9_9_12, bq_4_4_6, bq_6_6_5, bq_8_7_3, bq_5_5_2, bq_5_4_11, bq_9_6_7, bq_2_2_6, bq_3_3_5, bq_5_3_10, bq_5_5_12, bq_4_2_4, bq_7_6_2, bq_5_2_9, bq_7_6_7, sJ_R, sB_R, sX_R, jB_R, tB_R, e1, f12, eq_false ne, en, w1]
    exact ⟨_, rfl, fun _ => w2 _, fun u => absurd u nf⟩
  obtain ⟨wv, S1, ms, dv, e1, rn, h1, hpx⟩ := wit_y hV hY h R (-512) 496 (k := 16) (by decide)
  have e1 : df_X13_within n (-512) 496 16 S = some (wv, S1) := e1
  obtain ⟨S1n, en, h1⟩ := nzR (n := n) hl h1 hpx wv
  have h1 : SR B ct gr PA BY OU (wiF B ms dv (lfO 89 (vtO 89 (sI B 17) wv))) px S1n := h1
  by_cases zz : wiF B ms dv (lfO 89 (vtO 89 (sI B 17) wv)) = 0
  rotate_left
  · have fl : FL e B _ S1n := ⟨_, _, _, _, _, _, hpx, h1⟩
    have f12 := (FL_f fl).1
    have f0 := f0_2 h0 (wi_2 zz)
    obtain ⟨W, w1, w2⟩ := hal_G (n := n) fl (m2_3 (wi_2 zz))
    simp only [df_X13_shorts_341, df_X13_shorts_287, df_X13_shorts_221, df_X13_shorts_206, df_X13_shorts_195, df_X13_shorts_156, df_X13_shorts_140, df_X13_shorts_135, df_X13_shorts_139, df_X13_shorts_0, df_X13_shorts, df_X13_smalls_306, df_X13_smalls_126, df_X13_smalls_110, df_X13_smalls_109, df_X13_smalls_0, df_X13_smalls, df_X13_plainSix_21, df_X13_plainSix_0, df_X13_plainSix, df_X13_stacked_84, df_X13_stacked_0, df_X13_stacked, nb_b2, nb_b1, nb_let, eq_self, if_true, if_false, ↓reduceIte, show ((1 : Int32) = 0) = False from eq_false (by decide), show ((20 : Int32) < 16) = False from eq_false (by decide), show ((20 : Int32) = 0) = False from eq_false (by decide), show ((20 : Int32) = 13) = False from eq_false (by decide), show ((20 : Int32) = 17) = False from eq_false (by decide), show ((20 : Int32) = 18) = False from eq_false (by decide), show ((20 : Int32) = 19) = False from eq_false (by decide), show ((20 : Int32) = 21) = False from eq_false (by decide), show ((20 : Int32) = 22) = False from eq_false (by decide), show ((20 : Int32) = 23) = False from eq_false (by decide), show ((20 : Int32) = 25) = False from eq_false (by decide), show ((20 : Int32) = 26) = False from eq_false (by decide), show ((20 : Int32) = 27) = False from eq_false (by decide), show ((20 : Int32) = 28) = False from eq_false (by decide), show ((20 : Int32) ≤ 20) = True from eq_true (by decide), show ((16 : Int32) ≤ 20) = True from eq_true (by decide), show ((25 : Int32) ≤ 20) = False from eq_false (by decide), bq_11_5_25, bq_4_0_7, bq_9_9_12, bq_4_4_6, bq_6_6_5, bq_8_7_3, bq_5_5_2, bq_5_4_11, bq_9_6_7, bq_2_2_6, bq_3_3_5, bq_5_3_10, bq_5_5_12, bq_4_2_4, bq_7_6_2, bq_5_2_9, bq_7_6_7, sJ_R, sB_R, sX_R, jB_R, tB_R, e1, en, f12, eq_false zz, w1]
    exact ⟨_, rfl, fun u => absurd f0 u, fun _ => ⟨wv, ms, dv, rn, fun u => absurd u zz, fun _ => w2 _⟩⟩
  have h1z := h1
  rw [zz] at h1z
  obtain ⟨rfl, rfl, rfl⟩ := hTr
  obtain ⟨W, w1, w2⟩ := hal_H (n := n) h1z (OKW_m hw (by omega))
  simp only [df_X13_shorts_341, df_X13_shorts_287, df_X13_shorts_221, df_X13_shorts_206, df_X13_shorts_195, df_X13_shorts_156, df_X13_shorts_140, df_X13_shorts_135, df_X13_shorts_139, df_X13_shorts_0, df_X13_shorts, df_X13_smalls_306, df_X13_smalls_126, df_X13_smalls_110, df_X13_smalls_109, df_X13_smalls_0, df_X13_smalls, df_X13_plainSix_21, df_X13_plainSix_0, df_X13_plainSix, df_X13_stacked_84, df_X13_stacked_0, df_X13_stacked, nb_b2, nb_b1, nb_let, eq_self, if_true, if_false, ↓reduceIte, show ((1 : Int32) = 0) = False from eq_false (by decide), show ((20 : Int32) < 16) = False from eq_false (by decide), show ((20 : Int32) = 0) = False from eq_false (by decide), show ((20 : Int32) = 13) = False from eq_false (by decide), show ((20 : Int32) = 17) = False from eq_false (by decide), show ((20 : Int32) = 18) = False from eq_false (by decide), show ((20 : Int32) = 19) = False from eq_false (by decide), show ((20 : Int32) = 21) = False from eq_false (by decide), show ((20 : Int32) = 22) = False from eq_false (by decide), show ((20 : Int32) = 23) = False from eq_false (by decide), show ((20 : Int32) = 25) = False from eq_false (by decide), show ((20 : Int32) = 26) = False from eq_false (by decide), show ((20 : Int32) = 27) = False from eq_false (by decide), show ((20 : Int32) = 28) = False from eq_false (by decide), show ((20 : Int32) ≤ 20) = True from eq_true (by decide), show ((16 : Int32) ≤ 20) = True from eq_true (by decide), show ((25 : Int32) ≤ 20) = False from eq_false (by decide), bq_11_5_25, bq_4_0_7, bq_9_9_12, bq_4_4_6, bq_6_6_5, bq_8_7_3, bq_5_5_2, bq_5_4_11, bq_9_6_7, bq_2_2_6, bq_3_3_5, bq_5_3_10, bq_5_5_12, bq_4_2_4, bq_7_6_2, bq_5_2_9, bq_7_6_7, sJ_R, sB_R, sX_R, jB_R, tB_R, e1, en, SR_12 h1z, w1]
  refine ⟨_, rfl, fun u => absurd trivial u, fun _ => ⟨wv, ms, dv, rn, plo2 zz (w2 _) ?_⟩⟩
  simp only [RGB_0, or_0, RGB_s89, lbo_89, vto_89]
  try simp only [Int32.or_assoc]
  try simp only [Int32.or_comm, or_lc]
  try simp only [Int32.or_assoc, Int32.or_comm, or_lc]
theorem shp_21 {n L e : Nat} {c : Nat → Nat} {BC B : St} {X : Nat → Nat} {nL st cu : Nat} (hV : RV n L e c BC B X nL cu) {ct : Nat} {gr : Bool} {PA BY OU : Nat → Int32} (hY : PY PA cu st) {p : Nat} {S : St} (h : SR B ct gr PA BY OU 0 p S) (hw : OKW B (ct + 2)) (w : Int32) {f p2 : Nat} {rs : List Nat} {m : Nat} {P : Nat → Tp} (h0 : ¬ f = 0 → sI B 15 = 0) (hTr : Tr n L e c BC [113, 44, 86] p f p2 rs m P) : ∃ S' : St, df_X13_shorts n 21 w S = some S' ∧ (¬ f = 0 → FL e B (nI f + 16 * sI B 13) S') ∧ (f = 0 → ∃ (z : Int32) (ms dv : Bool), rnF (VW c X e nL st B) P m = ([z], ms, dv) ∧ PLO e B ct gr PA BY OU p2 (wiF B ms dv (lfO 86 (vtO 86 (sI B 17) z))) (by2 (w ||| RGB [113, 44, 86] rs ||| lbO 86 (vtO 86 (sI B 17) z))) S') := by
  have hT := hV.1
  have hl := hV.2.2.2.2.2.2.2
  obtain ⟨q1, p1, κ1, τ1, v1, x1, T1, hTr⟩ := hTr
  rw [if_neg (by decide), if_pos (by decide)] at hTr
  rcases hTr with ⟨g1, r1, rs1, rfl, hTr⟩ | hF
  rotate_left
  · have nf : ¬ f = 0 := by rcases hF with hF | hF <;> omega
    have hg : ¬ (8 ≤ tkG c τ1 q1 p1 ∧ tkG c τ1 q1 p1 ≤ 15) ∧ (if tkG c τ1 q1 p1 = 33 then (1 : Int32) else 3) = nI f := by
      rcases hF with hF | ⟨hF | hF, hF2⟩
      · exact ⟨by omega, f13e (Or.inl hF)⟩
      · exact ⟨by omega, f13e (Or.inr ⟨hF, hF2⟩)⟩
      · refine ⟨fun z => ?_, ?_⟩
        · have := hF.2
          unfold rfit at this
          simp at this
          omega
        · rw [if_neg (by omega), hF2]; rfl
    obtain ⟨r, S1, e1, g1⟩ := n8_n hT h T1 hl hg.1
    have ne := f13 hl (g := tkG c τ1 q1 p1)
    rw [hg.2] at g1 ne
    have fl := FN_L g1
    have f12 := (FL_f fl).1
    have ec := com_F (n := n) fl ne
    simp only [df_X13_shorts_341, df_X13_shorts_287, df_X13_shorts_221, df_X13_shorts_206, df_X13_shorts_195, df_X13_shorts_156, df_X13_shorts_140, df_X13_shorts_135, df_X13_shorts_139, df_X13_shorts_0, df_X13_shorts, df_X13_smalls_306, df_X13_smalls_126, df_X13_smalls_110, df_X13_smalls_109, df_X13_smalls_0, df_X13_smalls, df_X13_plainSix_21, df_X13_plainSix_0, df_X13_plainSix, df_X13_stacked_84, df_X13_stacked_0, df_X13_stacked, nb_b2, nb_b1, nb_let, eq_self, if_true, if_false, ↓reduceIte, show ((1 : Int32) = 0) = False from eq_false (by decide), show ((21 : Int32) < 16) = False from eq_false (by decide), show ((21 : Int32) = 0) = False from eq_false (by decide), show ((21 : Int32) = 13) = False from eq_false (by decide), show ((21 : Int32) = 17) = False from eq_false (by decide), show ((21 : Int32) = 18) = False from eq_false (by decide), show ((21 : Int32) = 19) = False from eq_false (by decide), show ((21 : Int32) = 20) = False from eq_false (by decide), show ((21 : Int32) = 22) = False from eq_false (by decide), show ((21 : Int32) = 23) = False from eq_false (by decide), show ((21 : Int32) = 25) = False from eq_false (by decide), show ((21 : Int32) = 26) = False from eq_false (by decide), show ((21 : Int32) = 27) = False from eq_false (by decide), show ((21 : Int32) = 28) = False from eq_false (by decide), show ((21 : Int32) ≤ 20) = False from eq_false (by decide), show ((16 : Int32) ≤ 21) = True from eq_true (by decide), show ((25 : Int32) ≤ 21) = False from eq_false (by decide), bq_11_5_25, bq_4_0_7, bq_9_9_12, bq_4_4_6, bq_6_6_5, bq_8_7_3, bq_5_5_2, bq_5_4_11, bq_9_6_7, bq_2_2_6, bq_3_3_5, bq_5_3_10, bq_5_5_12, bq_4_2_4, bq_7_6_2, bq_5_2_9, bq_7_6_7, sJ_R, sB_R, sX_R, jB_R, tB_R, e1, f12, eq_false ne, ec]
    exact ⟨_, rfl, fun _ => fl, fun u => absurd u nf⟩
  have gg : 8 ≤ tkG c τ1 q1 p1 ∧ tkG c τ1 q1 p1 ≤ 15 := by unfold rfit at r1; simp at r1; exact r1
  obtain ⟨S1, e1, h1⟩ := n8_y hT h T1 gg.1 gg.2
  obtain ⟨q2, p2, κ2, τ2, v2, x2, T2, hTr⟩ := hTr
  rw [if_pos (by decide)] at hTr
  rcases hTr with ⟨g2, hTr⟩ | hF
  rotate_left
  · have nf : ¬ f = 0 := by omega
    obtain ⟨S2, e2, g2⟩ := com_n hT h1 T2 hF.1
    rw [hF.2] at nf h0 ⊢
    have fl : FL e B (nI 1 + 16 * sI B 13) S2 := FN_L g2
    have ne : ¬ nI 1 + 16 * sI B 13 = 0 := flt_n hl 1 (by omega)
    have f12 := (FL_f fl).1
    simp only [df_X13_shorts_341, df_X13_shorts_287, df_X13_shorts_221, df_X13_shorts_206, df_X13_shorts_195, df_X13_shorts_156, df_X13_shorts_140, df_X13_shorts_135, df_X13_shorts_139, df_X13_shorts_0, df_X13_shorts, df_X13_smalls_306, df_X13_smalls_126, df_X13_smalls_110, df_X13_smalls_109, df_X13_smalls_0, df_X13_smalls, df_X13_plainSix_21, df_X13_plainSix_0, df_X13_plainSix, df_X13_stacked_84, df_X13_stacked_0, df_X13_stacked, nb_b2, nb_b1, nb_let, eq_self, if_true, if_false, ↓reduceIte, show ((1 : Int32) = 0) = False from eq_false (by decide), show ((21 : Int32) < 16) = False from eq_false (by decide), show ((21 : Int32) = 0) = False from eq_false (by decide), show ((21 : Int32) = 13) = False from eq_false (by decide), show ((21 : Int32) = 17) = False from eq_false (by decide), show ((21 : Int32) = 18) = False from eq_false (by decide), show ((21 : Int32) = 19) = False from eq_false (by decide), show ((21 : Int32) = 20) = False from eq_false (by decide), show ((21 : Int32) = 22) = False from eq_false (by decide), show ((21 : Int32) = 23) = False from eq_false (by decide), show ((21 : Int32) = 25) = False from eq_false (by decide), show ((21 : Int32) = 26) = False from eq_false (by decide), show ((21 : Int32) = 27) = False from eq_false (by decide), show ((21 : Int32) = 28) = False from eq_false (by decide), show ((21 : Int32) ≤ 20) = False from eq_false (by decide), show ((16 : Int32) ≤ 21) = True from eq_true (by decide), show ((25 : Int32) ≤ 21) = False from eq_false (by decide), bq_11_5_25, bq_4_0_7, bq_9_9_12, bq_4_4_6, bq_6_6_5, bq_8_7_3, bq_5_5_2, bq_5_4_11, bq_9_6_7, bq_2_2_6, bq_3_3_5, bq_5_3_10, bq_5_5_12, bq_4_2_4, bq_7_6_2, bq_5_2_9, bq_7_6_7, sJ_R, sB_R, sX_R, jB_R, tB_R, e1, SR_12 h1, e2, f12, eq_false ne]
    exact ⟨_, rfl, fun _ => fl, fun u => absurd u nf⟩
  obtain ⟨S2, e2, h2⟩ := com_y hT h1 T2 g2
  obtain ⟨q3, p3, κ3, τ3, v3, x3, T3, hTr⟩ := hTr
  rw [if_neg (by decide), if_neg (by decide)] at hTr
  obtain ⟨ok, px, R, hTr⟩ := hTr
  rcases hTr with ⟨rfl, z1, z2, hTr⟩ | ⟨rfl, hF⟩
  rotate_left
  · have nf : ¬ f = 0 := by omega
    have ne : ¬ nI 1 + 16 * sI B 13 = 0 := flt_n hl 1 (by omega)
    obtain ⟨wv, S3, e3, fl⟩ := wit_n hV hY h2 R (0) 31 1 (by decide)
    have f12 : sI S3 12 = nI 1 + 16 * sI B 13 := (FL_f fl).1
    rw [hF] at nf h0 ⊢
    obtain ⟨W, w1, w2⟩ := hal_G (n := n) fl (m0_3 (h0 nf))
    simp only [df_X13_shorts_341, df_X13_shorts_287, df_X13_shorts_221, df_X13_shorts_206, df_X13_shorts_195, df_X13_shorts_156, df_X13_shorts_140, df_X13_shorts_135, df_X13_shorts_139, df_X13_shorts_0, df_X13_shorts, df_X13_smalls_306, df_X13_smalls_126, df_X13_smalls_110, df_X13_smalls_109, df_X13_smalls_0, df_X13_smalls, df_X13_plainSix_21, df_X13_plainSix_0, df_X13_plainSix, df_X13_stacked_84, df_X13_stacked_0, df_X13_stacked, nb_b2, nb_b1, nb_let, eq_self, if_true, if_false, ↓reduceIte, show ((1 : Int32) = 0) = False from eq_false (by decide), show ((21 : Int32) < 16) = False from eq_false (by decide), show ((21 : Int32) = 0) = False from eq_false (by decide), show ((21 : Int32) = 13) = False from eq_false (by decide), show ((21 : Int32) = 17) = False from eq_false (by decide), show ((21 : Int32) = 18) = False from eq_false (by decide), show ((21 : Int32) = 19) = False from eq_false (by decide), show ((21 : Int32) = 20) = False from eq_false (by decide), show ((21 : Int32) = 22) = False from eq_false (by decide), show ((21 : Int32) = 23) = False from eq_false (by decide), show ((21 : Int32) = 25) = False from eq_false (by decide), show ((21 : Int32) = 26) = False from eq_false (by decide), show ((21 : Int32) = 27) = False from eq_false (by decide), show ((21 : Int32) = 28) = False from eq_false (by decide), show ((21 : Int32) ≤ 20) = False from eq_false (by decide), show ((16 : Int32) ≤ 21) = True from eq_true (by decide), show ((25 : Int32) ≤ 21) = False from eq_false (by decide), bq_11_5_25, bq_4_0_7, bq_9_9_12, bq_4_4_6, bq_6_6_5, bq_8_7_3, bq_5_5_2, bq_5_4_11, bq_9_6_7, bq_2_2_6, bq_3_3_5, bq_5_3_10, bq_5_5_12, bq_4_2_4, bq_7_6_2, bq_5_2_9, bq_7_6_7, sJ_R, sB_R, sX_R, jB_R, tB_R, e1, SR_12 h1, e2, SR_12 h2, e3, f12, eq_false ne, w1]
    exact ⟨_, rfl, fun _ => w2 _, fun u => absurd u nf⟩
  obtain ⟨wv, S3, ms, dv, e3, rn, h3, hpx⟩ := wit_y hV hY h2 R (0) 31 (k := 1) (by decide)
  have e3 : df_X13_within n (0) 31 1 S2 = some (wv, S3) := e3
  have h3 : SR B ct gr PA BY OU (wiF B ms dv (lfO 86 (vtO 86 (sI B 17) wv))) px S3 := h3
  by_cases zz : wiF B ms dv (lfO 86 (vtO 86 (sI B 17) wv)) = 0
  rotate_left
  · have fl : FL e B _ S3 := ⟨_, _, _, _, _, _, hpx, h3⟩
    have f12 := (FL_f fl).1
    have f0 := f0_2 h0 (wi_2 zz)
    obtain ⟨W, w1, w2⟩ := hal_G (n := n) fl (m2_3 (wi_2 zz))
    simp only [df_X13_shorts_341, df_X13_shorts_287, df_X13_shorts_221, df_X13_shorts_206, df_X13_shorts_195, df_X13_shorts_156, df_X13_shorts_140, df_X13_shorts_135, df_X13_shorts_139, df_X13_shorts_0, df_X13_shorts, df_X13_smalls_306, df_X13_smalls_126, df_X13_smalls_110, df_X13_smalls_109, df_X13_smalls_0, df_X13_smalls, df_X13_plainSix_21, df_X13_plainSix_0, df_X13_plainSix, df_X13_stacked_84, df_X13_stacked_0, df_X13_stacked, nb_b2, nb_b1, nb_let, eq_self, if_true, if_false, ↓reduceIte, show ((1 : Int32) = 0) = False from eq_false (by decide), show ((21 : Int32) < 16) = False from eq_false (by decide), show ((21 : Int32) = 0) = False from eq_false (by decide), show ((21 : Int32) = 13) = False from eq_false (by decide), show ((21 : Int32) = 17) = False from eq_false (by decide), show ((21 : Int32) = 18) = False from eq_false (by decide), show ((21 : Int32) = 19) = False from eq_false (by decide), show ((21 : Int32) = 20) = False from eq_false (by decide), show ((21 : Int32) = 22) = False from eq_false (by decide), show ((21 : Int32) = 23) = False from eq_false (by decide), show ((21 : Int32) = 25) = False from eq_false (by decide), show ((21 : Int32) = 26) = False from eq_false (by decide), show ((21 : Int32) = 27) = False from eq_false (by decide), show ((21 : Int32) = 28) = False from eq_false (by decide), show ((21 : Int32) ≤ 20) = False from eq_false (by decide), show ((16 : Int32) ≤ 21) = True from eq_true (by decide), show ((25 : Int32) ≤ 21) = False from eq_false (by decide), bq_11_5_25, bq_4_0_7, bq_9_9_12, bq_4_4_6, bq_6_6_5, bq_8_7_3, bq_5_5_2, bq_5_4_11, bq_9_6_7, bq_2_2_6, bq_3_3_5, bq_5_3_10, bq_5_5_12, bq_4_2_4, bq_7_6_2, bq_5_2_9, bq_7_6_7, sJ_R, sB_R, sX_R, jB_R, tB_R, e1, SR_12 h1, e2, SR_12 h2, e3, f12, eq_false zz, w1]
    exact ⟨_, rfl, fun u => absurd f0 u, fun _ => ⟨wv, ms, dv, rn, fun u => absurd u zz, fun _ => w2 _⟩⟩
  have h3z := h3
  rw [zz] at h3z
  obtain ⟨rfl, rfl, rfl⟩ := hTr
  obtain ⟨W, w1, w2⟩ := hal_H (n := n) h3z (OKW_m hw (by omega))
  simp only [df_X13_shorts_341, df_X13_shorts_287, df_X13_shorts_221, df_X13_shorts_206, df_X13_shorts_195, df_X13_shorts_156, df_X13_shorts_140, df_X13_shorts_135, df_X13_shorts_139, df_X13_shorts_0, df_X13_shorts, df_X13_smalls_306, df_X13_smalls_126, df_X13_smalls_110, df_X13_smalls_109, df_X13_smalls_0, df_X13_smalls, df_X13_plainSix_21, df_X13_plainSix_0, df_X13_plainSix, df_X13_stacked_84, df_X13_stacked_0, df_X13_stacked, nb_b2, nb_b1, nb_let, eq_self, if_true, if_false, ↓reduceIte, show ((1 : Int32) = 0) = False from eq_false (by decide), show ((21 : Int32) < 16) = False from eq_false (by decide), show ((21 : Int32) = 0) = False from eq_false (by decide), show ((21 : Int32) = 13) = False from eq_false (by decide), show ((21 : Int32) = 17) = False from eq_false (by decide), show ((21 : Int32) = 18) = False from eq_false (by decide), show ((21 : Int32) = 19) = False from eq_false (by decide), show ((21 : Int32) = 20) = False from eq_false (by decide), show ((21 : Int32) = 22) = False from eq_false (by decide), show ((21 : Int32) = 23) = False from eq_false (by decide), show ((21 : Int32) = 25) = False from eq_false (by decide), show ((21 : Int32) = 26) = False from eq_false (by decide), show ((21 : Int32) = 27) = False from eq_false (by decide), show ((21 : Int32) = 28) = False from eq_false (by decide), show ((21 : Int32) ≤ 20) = False from eq_false (by decide), show ((16 : Int32) ≤ 21) = True from eq_true (by decide), show ((25 : Int32) ≤ 21) = False from eq_false (by decide), bq_11_5_25, bq_4_0_7, bq_9_9_12, bq_4_4_6, bq_6_6_5, bq_8_7_3, bq_5_5_2, bq_5_4_11, bq_9_6_7, bq_2_2_6, bq_3_3_5, bq_5_3_10, bq_5_5_12, bq_4_2_4, bq_7_6_2, bq_5_2_9, bq_7_6_7, sJ_R, sB_R, sX_R, jB_R, tB_R, e1, SR_12 h1, e2, SR_12 h2, e3, SR_12 h3z, w1]
  refine ⟨_, rfl, fun u => absurd trivial u, fun _ => ⟨wv, ms, dv, rn, plo2 zz (w2 _) ?_⟩⟩
  simp only [RGB_0, or_0, RGB_s44, RGB_s86, RGB_r113, rgb_113, lbo_86, vto_86, lbV]
  try simp only [Int32.or_assoc]
  try simp only [Int32.or_comm, or_lc]
  try simp only [Int32.or_assoc, Int32.or_comm, or_lc]
theorem shp_22 {n L e : Nat} {c : Nat → Nat} {BC B : St} {X : Nat → Nat} {nL st cu : Nat} (hV : RV n L e c BC B X nL cu) {ct : Nat} {gr : Bool} {PA BY OU : Nat → Int32} (hY : PY PA cu st) {p : Nat} {S : St} (h : SR B ct gr PA BY OU 0 p S) (hw : OKW B (ct + 2)) (w : Int32) {f p2 : Nat} {rs : List Nat} {m : Nat} {P : Nat → Tp} (h0 : ¬ f = 0 → sI B 15 = 0) (hTr : Tr n L e c BC [113, 44, 78] p f p2 rs m P) : ∃ S' : St, df_X13_shorts n 22 w S = some S' ∧ (¬ f = 0 → FL e B (nI f + 16 * sI B 13) S') ∧ (f = 0 → ∃ (z : Int32) (ms dv : Bool), rnF (VW c X e nL st B) P m = ([z], ms, dv) ∧ PLO e B ct gr PA BY OU p2 (wiF B ms dv (lfO 78 (vtO 78 (sI B 17) z))) (by2 (w ||| RGB [113, 44, 78] rs ||| lbO 78 (vtO 78 (sI B 17) z))) S') := by
  have hT := hV.1
  have hl := hV.2.2.2.2.2.2.2
  obtain ⟨q1, p1, κ1, τ1, v1, x1, T1, hTr⟩ := hTr
  rw [if_neg (by decide), if_pos (by decide)] at hTr
  rcases hTr with ⟨g1, r1, rs1, rfl, hTr⟩ | hF
  rotate_left
  · have nf : ¬ f = 0 := by rcases hF with hF | hF <;> omega
    have hg : ¬ (8 ≤ tkG c τ1 q1 p1 ∧ tkG c τ1 q1 p1 ≤ 15) ∧ (if tkG c τ1 q1 p1 = 33 then (1 : Int32) else 3) = nI f := by
      rcases hF with hF | ⟨hF | hF, hF2⟩
      · exact ⟨by omega, f13e (Or.inl hF)⟩
      · exact ⟨by omega, f13e (Or.inr ⟨hF, hF2⟩)⟩
      · refine ⟨fun z => ?_, ?_⟩
        · have := hF.2
          unfold rfit at this
          simp at this
          omega
        · rw [if_neg (by omega), hF2]; rfl
    obtain ⟨r, S1, e1, g1⟩ := n8_n hT h T1 hl hg.1
    have ne := f13 hl (g := tkG c τ1 q1 p1)
    rw [hg.2] at g1 ne
    have fl := FN_L g1
    have f12 := (FL_f fl).1
    have ec := com_F (n := n) fl ne
    simp only [df_X13_shorts_341, df_X13_shorts_287, df_X13_shorts_221, df_X13_shorts_206, df_X13_shorts_195, df_X13_shorts_156, df_X13_shorts_140, df_X13_shorts_135, df_X13_shorts_139, df_X13_shorts_0, df_X13_shorts, df_X13_smalls_306, df_X13_smalls_126, df_X13_smalls_110, df_X13_smalls_109, df_X13_smalls_0, df_X13_smalls, df_X13_plainSix_21, df_X13_plainSix_0, df_X13_plainSix, df_X13_stacked_84, df_X13_stacked_0, df_X13_stacked, nb_b2, nb_b1, nb_let, eq_self, if_true, if_false, ↓reduceIte, show ((1 : Int32) = 0) = False from eq_false (by decide), show ((22 : Int32) < 16) = False from eq_false (by decide), show ((22 : Int32) = 0) = False from eq_false (by decide), show ((22 : Int32) = 13) = False from eq_false (by decide), show ((22 : Int32) = 17) = False from eq_false (by decide), show ((22 : Int32) = 18) = False from eq_false (by decide), show ((22 : Int32) = 19) = False from eq_false (by decide), show ((22 : Int32) = 20) = False from eq_false (by decide), show ((22 : Int32) = 21) = False from eq_false (by decide), show ((22 : Int32) = 23) = False from eq_false (by decide), show ((22 : Int32) = 25) = False from eq_false (by decide), show ((22 : Int32) = 26) = False from eq_false (by decide), show ((22 : Int32) = 27) = False from eq_false (by decide), show ((22 : Int32) = 28) = False from eq_false (by decide), show ((22 : Int32) ≤ 20) = False from eq_false (by decide), show ((16 : Int32) ≤ 22) = True from eq_true (by decide), show ((25 : Int32) ≤ 22) = False from eq_false (by decide), bq_11_5_25, bq_4_0_7, bq_9_9_12, bq_4_4_6, bq_6_6_5, bq_8_7_3, bq_5_5_2, bq_5_4_11, bq_9_6_7, bq_2_2_6, bq_3_3_5, bq_5_3_10, bq_5_5_12, bq_4_2_4, bq_7_6_2, bq_5_2_9, bq_7_6_7, sJ_R, sB_R, sX_R, jB_R, tB_R, e1, f12, eq_false ne, ec]
    exact ⟨_, rfl, fun _ => fl, fun u => absurd u nf⟩
  have gg : 8 ≤ tkG c τ1 q1 p1 ∧ tkG c τ1 q1 p1 ≤ 15 := by unfold rfit at r1; simp at r1; exact r1
  obtain ⟨S1, e1, h1⟩ := n8_y hT h T1 gg.1 gg.2
  obtain ⟨q2, p2, κ2, τ2, v2, x2, T2, hTr⟩ := hTr
  rw [if_pos (by decide)] at hTr
  rcases hTr with ⟨g2, hTr⟩ | hF
  rotate_left
  · have nf : ¬ f = 0 := by omega
    obtain ⟨S2, e2, g2⟩ := com_n hT h1 T2 hF.1
    rw [hF.2] at nf h0 ⊢
    have fl : FL e B (nI 1 + 16 * sI B 13) S2 := FN_L g2
    have ne : ¬ nI 1 + 16 * sI B 13 = 0 := flt_n hl 1 (by omega)
    have f12 := (FL_f fl).1
    simp only [df_X13_shorts_341, df_X13_shorts_287, df_X13_shorts_221, df_X13_shorts_206, df_X13_shorts_195, df_X13_shorts_156, df_X13_shorts_140, df_X13_shorts_135, df_X13_shorts_139, df_X13_shorts_0, df_X13_shorts, df_X13_smalls_306, df_X13_smalls_126, df_X13_smalls_110, df_X13_smalls_109, df_X13_smalls_0, df_X13_smalls, df_X13_plainSix_21, df_X13_plainSix_0, df_X13_plainSix, df_X13_stacked_84, df_X13_stacked_0, df_X13_stacked, nb_b2, nb_b1, nb_let, eq_self, if_true, if_false, ↓reduceIte, show ((1 : Int32) = 0) = False from eq_false (by decide), show ((22 : Int32) < 16) = False from eq_false (by decide), show ((22 : Int32) = 0) = False from eq_false (by decide), show ((22 : Int32) = 13) = False from eq_false (by decide), show ((22 : Int32) = 17) = False from eq_false (by decide), show ((22 : Int32) = 18) = False from eq_false (by decide), show ((22 : Int32) = 19) = False from eq_false (by decide), show ((22 : Int32) = 20) = False from eq_false (by decide), show ((22 : Int32) = 21) = False from eq_false (by decide), show ((22 : Int32) = 23) = False from eq_false (by decide), show ((22 : Int32) = 25) = False from eq_false (by decide), show ((22 : Int32) = 26) = False from eq_false (by decide), show ((22 : Int32) = 27) = False from eq_false (by decide), show ((22 : Int32) = 28) = False from eq_false (by decide), show ((22 : Int32) ≤ 20) = False from eq_false (by decide), show ((16 : Int32) ≤ 22) = True from eq_true (by decide), show ((25 : Int32) ≤ 22) = False from eq_false (by decide), bq_11_5_25, bq_4_0_7, bq_9_9_12, bq_4_4_6, bq_6_6_5, bq_8_7_3, bq_5_5_2, bq_5_4_11, bq_9_6_7, bq_2_2_6, bq_3_3_5, bq_5_3_10, bq_5_5_12, bq_4_2_4, bq_7_6_2, bq_5_2_9, bq_7_6_7, sJ_R, sB_R, sX_R, jB_R, tB_R, e1, SR_12 h1, e2, f12, eq_false ne]
    exact ⟨_, rfl, fun _ => fl, fun u => absurd u nf⟩
  obtain ⟨S2, e2, h2⟩ := com_y hT h1 T2 g2
  obtain ⟨q3, p3, κ3, τ3, v3, x3, T3, hTr⟩ := hTr
  rw [if_neg (by decide), if_neg (by decide)] at hTr
  obtain ⟨ok, px, R, hTr⟩ := hTr
  rcases hTr with ⟨rfl, z1, z2, hTr⟩ | ⟨rfl, hF⟩
  rotate_left
  · have nf : ¬ f = 0 := by omega
    have ne : ¬ nI 1 + 16 * sI B 13 = 0 := flt_n hl 1 (by omega)
    obtain ⟨wv, S3, e3, fl⟩ := wit_n hV hY h2 R (-32) 31 1 (by decide)
    have f12 : sI S3 12 = nI 1 + 16 * sI B 13 := (FL_f fl).1
    rw [hF] at nf h0 ⊢
    obtain ⟨W, w1, w2⟩ := hal_G (n := n) fl (m0_3 (h0 nf))
    simp only [df_X13_shorts_341, df_X13_shorts_287, df_X13_shorts_221, df_X13_shorts_206, df_X13_shorts_195, df_X13_shorts_156, df_X13_shorts_140, df_X13_shorts_135, df_X13_shorts_139, df_X13_shorts_0, df_X13_shorts, df_X13_smalls_306, df_X13_smalls_126, df_X13_smalls_110, df_X13_smalls_109, df_X13_smalls_0, df_X13_smalls, df_X13_plainSix_21, df_X13_plainSix_0, df_X13_plainSix, df_X13_stacked_84, df_X13_stacked_0, df_X13_stacked, nb_b2, nb_b1, nb_let, eq_self, if_true, if_false, ↓reduceIte, show ((1 : Int32) = 0) = False from eq_false (by decide), show ((22 : Int32) < 16) = False from eq_false (by decide), show ((22 : Int32) = 0) = False from eq_false (by decide), show ((22 : Int32) = 13) = False from eq_false (by decide), show ((22 : Int32) = 17) = False from eq_false (by decide), show ((22 : Int32) = 18) = False from eq_false (by decide), show ((22 : Int32) = 19) = False from eq_false (by decide), show ((22 : Int32) = 20) = False from eq_false (by decide), show ((22 : Int32) = 21) = False from eq_false (by decide), show ((22 : Int32) = 23) = False from eq_false (by decide), show ((22 : Int32) = 25) = False from eq_false (by decide), show ((22 : Int32) = 26) = False from eq_false (by decide), show ((22 : Int32) = 27) = False from eq_false (by decide), show ((22 : Int32) = 28) = False from eq_false (by decide), show ((22 : Int32) ≤ 20) = False from eq_false (by decide), show ((16 : Int32) ≤ 22) = True from eq_true (by decide), show ((25 : Int32) ≤ 22) = False from eq_false (by decide), bq_11_5_25, bq_4_0_7, bq_9_9_12, bq_4_4_6, bq_6_6_5, bq_8_7_3, bq_5_5_2, bq_5_4_11, bq_9_6_7, bq_2_2_6, bq_3_3_5, bq_5_3_10, bq_5_5_12, bq_4_2_4, bq_7_6_2, bq_5_2_9, bq_7_6_7, sJ_R, sB_R, sX_R, jB_R, tB_R, e1, SR_12 h1, e2, SR_12 h2, e3, f12, eq_false ne, w1]
    exact ⟨_, rfl, fun _ => w2 _, fun u => absurd u nf⟩
  obtain ⟨wv, S3, ms, dv, e3, rn, h3, hpx⟩ := wit_y hV hY h2 R (-32) 31 (k := 1) (by decide)
  have e3 : df_X13_within n (-32) 31 1 S2 = some (wv, S3) := e3
  have h3 : SR B ct gr PA BY OU (wiF B ms dv (lfO 78 (vtO 78 (sI B 17) wv))) px S3 := h3
  by_cases zz : wiF B ms dv (lfO 78 (vtO 78 (sI B 17) wv)) = 0
  rotate_left
  · have fl : FL e B _ S3 := ⟨_, _, _, _, _, _, hpx, h3⟩
    have f12 := (FL_f fl).1
    have f0 := f0_2 h0 (wi_2 zz)
    obtain ⟨W, w1, w2⟩ := hal_G (n := n) fl (m2_3 (wi_2 zz))
    simp only [df_X13_shorts_341, df_X13_shorts_287, df_X13_shorts_221, df_X13_shorts_206, df_X13_shorts_195, df_X13_shorts_156, df_X13_shorts_140, df_X13_shorts_135, df_X13_shorts_139, df_X13_shorts_0, df_X13_shorts, df_X13_smalls_306, df_X13_smalls_126, df_X13_smalls_110, df_X13_smalls_109, df_X13_smalls_0, df_X13_smalls, df_X13_plainSix_21, df_X13_plainSix_0, df_X13_plainSix, df_X13_stacked_84, df_X13_stacked_0, df_X13_stacked, nb_b2, nb_b1, nb_let, eq_self, if_true, if_false, ↓reduceIte, show ((1 : Int32) = 0) = False from eq_false (by decide), show ((22 : Int32) < 16) = False from eq_false (by decide), show ((22 : Int32) = 0) = False from eq_false (by decide), show ((22 : Int32) = 13) = False from eq_false (by decide), show ((22 : Int32) = 17) = False from eq_false (by decide), show ((22 : Int32) = 18) = False from eq_false (by decide), show ((22 : Int32) = 19) = False from eq_false (by decide), show ((22 : Int32) = 20) = False from eq_false (by decide), show ((22 : Int32) = 21) = False from eq_false (by decide), show ((22 : Int32) = 23) = False from eq_false (by decide), show ((22 : Int32) = 25) = False from eq_false (by decide), show ((22 : Int32) = 26) = False from eq_false (by decide), show ((22 : Int32) = 27) = False from eq_false (by decide), show ((22 : Int32) = 28) = False from eq_false (by decide), show ((22 : Int32) ≤ 20) = False from eq_false (by decide), show ((16 : Int32) ≤ 22) = True from eq_true (by decide), show ((25 : Int32) ≤ 22) = False from eq_false (by decide), bq_11_5_25, bq_4_0_7, bq_9_9_12, bq_4_4_6, bq_6_6_5, bq_8_7_3, bq_5_5_2, bq_5_4_11, bq_9_6_7, bq_2_2_6, bq_3_3_5, bq_5_3_10, bq_5_5_12, bq_4_2_4, bq_7_6_2, bq_5_2_9, bq_7_6_7, sJ_R, sB_R, sX_R, jB_R, tB_R, e1, SR_12 h1, e2, SR_12 h2, e3, f12, eq_false zz, w1]
    exact ⟨_, rfl, fun u => absurd f0 u, fun _ => ⟨wv, ms, dv, rn, fun u => absurd u zz, fun _ => w2 _⟩⟩
  have h3z := h3
  rw [zz] at h3z
  obtain ⟨rfl, rfl, rfl⟩ := hTr
  obtain ⟨W, w1, w2⟩ := hal_H (n := n) h3z (OKW_m hw (by omega))
  simp only [df_X13_shorts_341, df_X13_shorts_287, df_X13_shorts_221, df_X13_shorts_206, df_X13_shorts_195, df_X13_shorts_156, df_X13_shorts_140, df_X13_shorts_135, df_X13_shorts_139, df_X13_shorts_0, df_X13_shorts, df_X13_smalls_306, df_X13_smalls_126, df_X13_smalls_110, df_X13_smalls_109, df_X13_smalls_0, df_X13_smalls, df_X13_plainSix_21, df_X13_plainSix_0, df_X13_plainSix, df_X13_stacked_84, df_X13_stacked_0, df_X13_stacked, nb_b2, nb_b1, nb_let, eq_self, if_true, if_false, ↓reduceIte, show ((1 : Int32) = 0) = False from eq_false (by decide), show ((22 : Int32) < 16) = False from eq_false (by decide), show ((22 : Int32) = 0) = False from eq_false (by decide), show ((22 : Int32) = 13) = False from eq_false (by decide), show ((22 : Int32) = 17) = False from eq_false (by decide), show ((22 : Int32) = 18) = False from eq_false (by decide), show ((22 : Int32) = 19) = False from eq_false (by decide), show ((22 : Int32) = 20) = False from eq_false (by decide), show ((22 : Int32) = 21) = False from eq_false (by decide), show ((22 : Int32) = 23) = False from eq_false (by decide), show ((22 : Int32) = 25) = False from eq_false (by decide), show ((22 : Int32) = 26) = False from eq_false (by decide), show ((22 : Int32) = 27) = False from eq_false (by decide), show ((22 : Int32) = 28) = False from eq_false (by decide), show ((22 : Int32) ≤ 20) = False from eq_false (by decide), show ((16 : Int32) ≤ 22) = True from eq_true (by decide), show ((25 : Int32) ≤ 22) = False from eq_false (by decide), bq_11_5_25, bq_4_0_7, bq_9_9_12, bq_4_4_6, bq_6_6_5, bq_8_7_3, bq_5_5_2, bq_5_4_11, bq_9_6_7, bq_2_2_6, bq_3_3_5, bq_5_3_10, bq_5_5_12, bq_4_2_4, bq_7_6_2, bq_5_2_9, bq_7_6_7, sJ_R, sB_R, sX_R, jB_R, tB_R, e1, SR_12 h1, e2, SR_12 h2, e3, SR_12 h3z, w1]
  refine ⟨_, rfl, fun u => absurd trivial u, fun _ => ⟨wv, ms, dv, rn, plo2 zz (w2 _) ?_⟩⟩
  simp only [RGB_0, or_0, RGB_s44, RGB_s78, RGB_r113, rgb_113, lbo_78, vto_78]
  try simp only [Int32.or_assoc]
  try simp only [Int32.or_comm, or_lc]
  try simp only [Int32.or_assoc, Int32.or_comm, or_lc]
theorem shp_23 {n L e : Nat} {c : Nat → Nat} {BC B : St} {X : Nat → Nat} {nL st cu : Nat} (hV : RV n L e c BC B X nL cu) {ct : Nat} {gr : Bool} {PA BY OU : Nat → Int32} (hY : PY PA cu st) {p : Nat} {S : St} (h : SR B ct gr PA BY OU 0 p S) (hw : OKW B (ct + 2)) (w : Int32) {f p2 : Nat} {rs : List Nat} {m : Nat} {P : Nat → Tp} (h0 : ¬ f = 0 → sI B 15 = 0) (hTr : Tr n L e c BC [113, 44, 112] p f p2 rs m P) : ∃ S' : St, df_X13_shorts n 23 w S = some S' ∧ (¬ f = 0 → FL e B (nI f + 16 * sI B 13) S') ∧ (f = 0 → PLO e B ct gr PA BY OU p2 0 (by2 (w ||| RGB [113, 44, 112] rs)) S') := by
  have hT := hV.1
  have hl := hV.2.2.2.2.2.2.2
  obtain ⟨q1, p1, κ1, τ1, v1, x1, T1, hTr⟩ := hTr
  rw [if_neg (by decide), if_pos (by decide)] at hTr
  rcases hTr with ⟨g1, r1, rs1, rfl, hTr⟩ | hF
  rotate_left
  · have nf : ¬ f = 0 := by rcases hF with hF | hF <;> omega
    have hg : ¬ (8 ≤ tkG c τ1 q1 p1 ∧ tkG c τ1 q1 p1 ≤ 15) ∧ (if tkG c τ1 q1 p1 = 33 then (1 : Int32) else 3) = nI f := by
      rcases hF with hF | ⟨hF | hF, hF2⟩
      · exact ⟨by omega, f13e (Or.inl hF)⟩
      · exact ⟨by omega, f13e (Or.inr ⟨hF, hF2⟩)⟩
      · refine ⟨fun z => ?_, ?_⟩
        · have := hF.2
          unfold rfit at this
          simp at this
          omega
        · rw [if_neg (by omega), hF2]; rfl
    obtain ⟨r, S1, e1, g1⟩ := n8_n hT h T1 hl hg.1
    have ne := f13 hl (g := tkG c τ1 q1 p1)
    rw [hg.2] at g1 ne
    have fl := FN_L g1
    have f12 := (FL_f fl).1
    have ec := com_F (n := n) fl ne
    simp only [df_X13_shorts_341, df_X13_shorts_287, df_X13_shorts_221, df_X13_shorts_206, df_X13_shorts_195, df_X13_shorts_156, df_X13_shorts_140, df_X13_shorts_135, df_X13_shorts_139, df_X13_shorts_0, df_X13_shorts, df_X13_smalls_306, df_X13_smalls_126, df_X13_smalls_110, df_X13_smalls_109, df_X13_smalls_0, df_X13_smalls, df_X13_plainSix_21, df_X13_plainSix_0, df_X13_plainSix, df_X13_stacked_84, df_X13_stacked_0, df_X13_stacked, nb_b2, nb_b1, nb_let, eq_self, if_true, if_false, ↓reduceIte, show ((1 : Int32) = 0) = False from eq_false (by decide), show ((23 : Int32) < 16) = False from eq_false (by decide), show ((23 : Int32) = 0) = False from eq_false (by decide), show ((23 : Int32) = 13) = False from eq_false (by decide), show ((23 : Int32) = 17) = False from eq_false (by decide), show ((23 : Int32) = 18) = False from eq_false (by decide), show ((23 : Int32) = 19) = False from eq_false (by decide), show ((23 : Int32) = 20) = False from eq_false (by decide), show ((23 : Int32) = 21) = False from eq_false (by decide), show ((23 : Int32) = 22) = False from eq_false (by decide), show ((23 : Int32) = 25) = False from eq_false (by decide), show ((23 : Int32) = 26) = False from eq_false (by decide), show ((23 : Int32) = 27) = False from eq_false (by decide), show ((23 : Int32) = 28) = False from eq_false (by decide), show ((23 : Int32) ≤ 20) = False from eq_false (by decide), show ((16 : Int32) ≤ 23) = True from eq_true (by decide), show ((25 : Int32) ≤ 23) = False from eq_false (by decide), bq_11_5_25, bq_4_0_7, bq_9_9_12, bq_4_4_6, bq_6_6_5, bq_8_7_3, bq_5_5_2, bq_5_4_11, bq_9_6_7, bq_2_2_6, bq_3_3_5, bq_5_3_10, bq_5_5_12, bq_4_2_4, bq_7_6_2, bq_5_2_9, bq_7_6_7, sJ_R, sB_R, sX_R, jB_R, tB_R, e1, f12, eq_false ne, ec]
    exact ⟨_, rfl, fun _ => fl, fun u => absurd u nf⟩
  have gg : 8 ≤ tkG c τ1 q1 p1 ∧ tkG c τ1 q1 p1 ≤ 15 := by unfold rfit at r1; simp at r1; exact r1
  obtain ⟨S1, e1, h1⟩ := n8_y hT h T1 gg.1 gg.2
  obtain ⟨q2, p2, κ2, τ2, v2, x2, T2, hTr⟩ := hTr
  rw [if_pos (by decide)] at hTr
  rcases hTr with ⟨g2, hTr⟩ | hF
  rotate_left
  · have nf : ¬ f = 0 := by omega
    obtain ⟨S2, e2, g2⟩ := com_n hT h1 T2 hF.1
    rw [hF.2] at nf h0 ⊢
    have fl : FL e B (nI 1 + 16 * sI B 13) S2 := FN_L g2
    have ne : ¬ nI 1 + 16 * sI B 13 = 0 := flt_n hl 1 (by omega)
    have f12 := (FL_f fl).1
    simp only [df_X13_shorts_341, df_X13_shorts_287, df_X13_shorts_221, df_X13_shorts_206, df_X13_shorts_195, df_X13_shorts_156, df_X13_shorts_140, df_X13_shorts_135, df_X13_shorts_139, df_X13_shorts_0, df_X13_shorts, df_X13_smalls_306, df_X13_smalls_126, df_X13_smalls_110, df_X13_smalls_109, df_X13_smalls_0, df_X13_smalls, df_X13_plainSix_21, df_X13_plainSix_0, df_X13_plainSix, df_X13_stacked_84, df_X13_stacked_0, df_X13_stacked, nb_b2, nb_b1, nb_let, eq_self, if_true, if_false, ↓reduceIte, show ((1 : Int32) = 0) = False from eq_false (by decide), show ((23 : Int32) < 16) = False from eq_false (by decide), show ((23 : Int32) = 0) = False from eq_false (by decide), show ((23 : Int32) = 13) = False from eq_false (by decide), show ((23 : Int32) = 17) = False from eq_false (by decide), show ((23 : Int32) = 18) = False from eq_false (by decide), show ((23 : Int32) = 19) = False from eq_false (by decide), show ((23 : Int32) = 20) = False from eq_false (by decide), show ((23 : Int32) = 21) = False from eq_false (by decide), show ((23 : Int32) = 22) = False from eq_false (by decide), show ((23 : Int32) = 25) = False from eq_false (by decide), show ((23 : Int32) = 26) = False from eq_false (by decide), show ((23 : Int32) = 27) = False from eq_false (by decide), show ((23 : Int32) = 28) = False from eq_false (by decide), show ((23 : Int32) ≤ 20) = False from eq_false (by decide), show ((16 : Int32) ≤ 23) = True from eq_true (by decide), show ((25 : Int32) ≤ 23) = False from eq_false (by decide), bq_11_5_25, bq_4_0_7, bq_9_9_12, bq_4_4_6, bq_6_6_5, bq_8_7_3, bq_5_5_2, bq_5_4_11, bq_9_6_7, bq_2_2_6, bq_3_3_5, bq_5_3_10, bq_5_5_12, bq_4_2_4, bq_7_6_2, bq_5_2_9, bq_7_6_7, sJ_R, sB_R, sX_R, jB_R, tB_R, e1, SR_12 h1, e2, f12, eq_false ne]
    exact ⟨_, rfl, fun _ => fl, fun u => absurd u nf⟩
  obtain ⟨S2, e2, h2⟩ := com_y hT h1 T2 g2
  obtain ⟨q3, p3, κ3, τ3, v3, x3, T3, hTr⟩ := hTr
  rw [if_neg (by decide), if_pos (by decide)] at hTr
  rcases hTr with ⟨g3, r3, rs3, rfl, hTr⟩ | hF
  rotate_left
  · have nf : ¬ f = 0 := by rcases hF with hF | hF <;> omega
    have hg : ¬ (8 ≤ tkG c τ3 q3 p3 ∧ tkG c τ3 q3 p3 ≤ 15) ∧ (if tkG c τ3 q3 p3 = 33 then (1 : Int32) else 3) = nI f := by
      rcases hF with hF | ⟨hF | hF, hF2⟩
      · exact ⟨by omega, f13e (Or.inl hF)⟩
      · exact ⟨by omega, f13e (Or.inr ⟨hF, hF2⟩)⟩
      · refine ⟨fun z => ?_, ?_⟩
        · have := hF.2
          unfold rfit at this
          simp at this
          omega
        · rw [if_neg (by omega), hF2]; rfl
    obtain ⟨r, S3, e3, g3⟩ := n8_n hT h2 T3 hl hg.1
    have ne := f13 hl (g := tkG c τ3 q3 p3)
    rw [hg.2] at g3 ne
    have fl := FN_L g3
    have f12 := (FL_f fl).1
    obtain ⟨W, w1, w2⟩ := hal_G (n := n) fl (m0_3 (h0 nf))
    simp only [df_X13_shorts_341, df_X13_shorts_287, df_X13_shorts_221, df_X13_shorts_206, df_X13_shorts_195, df_X13_shorts_156, df_X13_shorts_140, df_X13_shorts_135, df_X13_shorts_139, df_X13_shorts_0, df_X13_shorts, df_X13_smalls_306, df_X13_smalls_126, df_X13_smalls_110, df_X13_smalls_109, df_X13_smalls_0, df_X13_smalls, df_X13_plainSix_21, df_X13_plainSix_0, df_X13_plainSix, df_X13_stacked_84, df_X13_stacked_0, df_X13_stacked, nb_b2, nb_b1, nb_let, eq_self, if_true, if_false, ↓reduceIte, show ((1 : Int32) = 0) = False from eq_false (by decide), show ((23 : Int32) < 16) = False from eq_false (by decide), show ((23 : Int32) = 0) = False from eq_false (by decide), show ((23 : Int32) = 13) = False from eq_false (by decide), show ((23 : Int32) = 17) = False from eq_false (by decide), show ((23 : Int32) = 18) = False from eq_false (by decide), show ((23 : Int32) = 19) = False from eq_false (by decide), show ((23 : Int32) = 20) = False from eq_false (by decide), show ((23 : Int32) = 21) = False from eq_false (by decide), show ((23 : Int32) = 22) = False from eq_false (by decide), show ((23 : Int32) = 25) = False from eq_false (by decide), show ((23 : Int32) = 26) = False from eq_false (by decide), show ((23 : Int32) = 27) = False from eq_false (by decide), show ((23 : Int32) = 28) = False from eq_false (by decide), show ((23 : Int32) ≤ 20) = False from eq_false (by decide), show ((16 : Int32) ≤ 23) = True from eq_true (by decide), show ((25 : Int32) ≤ 23) = False from eq_false (by decide), bq_11_5_25, bq_4_0_7, bq_9_9_12, bq_4_4_6, bq_6_6_5, bq_8_7_3, bq_5_5_2, bq_5_4_11, bq_9_6_7, bq_2_2_6, bq_3_3_5, bq_5_3_10, bq_5_5_12, bq_4_2_4, bq_7_6_2, bq_5_2_9, bq_7_6_7, sJ_R, sB_R, sX_R, jB_R, tB_R, e1, SR_12 h1, e2, SR_12 h2, e3, f12, eq_false ne, w1]
    exact ⟨_, rfl, fun _ => w2 _, fun u => absurd u nf⟩
  have gg : 8 ≤ tkG c τ3 q3 p3 ∧ tkG c τ3 q3 p3 ≤ 15 := by unfold rfit at r3; simp at r3; exact r3
  obtain ⟨S3, e3, h3⟩ := n8_y hT h2 T3 gg.1 gg.2
  obtain ⟨rfl, rfl, rfl⟩ := hTr
  obtain ⟨W, w1, w2⟩ := hal_H (n := n) h3 (OKW_m hw (by omega))
  simp only [df_X13_shorts_341, df_X13_shorts_287, df_X13_shorts_221, df_X13_shorts_206, df_X13_shorts_195, df_X13_shorts_156, df_X13_shorts_140, df_X13_shorts_135, df_X13_shorts_139, df_X13_shorts_0, df_X13_shorts, df_X13_smalls_306, df_X13_smalls_126, df_X13_smalls_110, df_X13_smalls_109, df_X13_smalls_0, df_X13_smalls, df_X13_plainSix_21, df_X13_plainSix_0, df_X13_plainSix, df_X13_stacked_84, df_X13_stacked_0, df_X13_stacked, nb_b2, nb_b1, nb_let, eq_self, if_true, if_false, ↓reduceIte, show ((1 : Int32) = 0) = False from eq_false (by decide), show ((23 : Int32) < 16) = False from eq_false (by decide), show ((23 : Int32) = 0) = False from eq_false (by decide), show ((23 : Int32) = 13) = False from eq_false (by decide), show ((23 : Int32) = 17) = False from eq_false (by decide), show ((23 : Int32) = 18) = False from eq_false (by decide), show ((23 : Int32) = 19) = False from eq_false (by decide), show ((23 : Int32) = 20) = False from eq_false (by decide), show ((23 : Int32) = 21) = False from eq_false (by decide), show ((23 : Int32) = 22) = False from eq_false (by decide), show ((23 : Int32) = 25) = False from eq_false (by decide), show ((23 : Int32) = 26) = False from eq_false (by decide), show ((23 : Int32) = 27) = False from eq_false (by decide), show ((23 : Int32) = 28) = False from eq_false (by decide), show ((23 : Int32) ≤ 20) = False from eq_false (by decide), show ((16 : Int32) ≤ 23) = True from eq_true (by decide), show ((25 : Int32) ≤ 23) = False from eq_false (by decide), bq_11_5_25, bq_4_0_7, bq_9_9_12, bq_4_4_6, bq_6_6_5, bq_8_7_3, bq_5_5_2, bq_5_4_11, bq_9_6_7, bq_2_2_6, bq_3_3_5, bq_5_3_10, bq_5_5_12, bq_4_2_4, bq_7_6_2, bq_5_2_9, bq_7_6_7, sJ_R, sB_R, sX_R, jB_R, tB_R, e1, SR_12 h1, e2, SR_12 h2, e3, SR_12 h3, w1]
  refine ⟨_, rfl, fun u => absurd trivial u, fun _ => plo2 rfl (w2 _) ?_⟩
  simp only [RGB_0, or_0, RGB_s44, RGB_r112, RGB_r113, rgb_112, rgb_113]
  try simp only [Int32.or_assoc]
  try simp only [Int32.or_comm, or_lc]
  try simp only [Int32.or_assoc, Int32.or_comm, or_lc]
theorem shp_24 {n L e : Nat} {c : Nat → Nat} {BC B : St} {X : Nat → Nat} {nL st cu : Nat} (hV : RV n L e c BC B X nL cu) {ct : Nat} {gr : Bool} {PA BY OU : Nat → Int32} (hY : PY PA cu st) {p : Nat} {S : St} (h : SR B ct gr PA BY OU 0 p S) (hw : OKW B (ct + 2)) (w : Int32) {f p2 : Nat} {rs : List Nat} {m : Nat} {P : Nat → Tp} (h0 : ¬ f = 0 → sI B 15 = 0) (hTr : Tr n L e c BC [113, 44, 76] p f p2 rs m P) : ∃ S' : St, df_X13_shorts n 24 w S = some S' ∧ (¬ f = 0 → FL e B (nI f + 16 * sI B 13) S') ∧ (f = 0 → ∃ (z : Int32) (ms dv : Bool), rnF (VW c X e nL st B) P m = ([z], ms, dv) ∧ PLO e B ct gr PA BY OU p2 (wiF B ms dv (lfO 76 (vtO 76 (sI B 17) z))) (by2 (w ||| RGB [113, 44, 76] rs ||| lbO 76 (vtO 76 (sI B 17) z))) S') := by
  have hT := hV.1
  have hl := hV.2.2.2.2.2.2.2
  obtain ⟨q1, p1, κ1, τ1, v1, x1, T1, hTr⟩ := hTr
  rw [if_neg (by decide), if_pos (by decide)] at hTr
  rcases hTr with ⟨g1, r1, rs1, rfl, hTr⟩ | hF
  rotate_left
  · have nf : ¬ f = 0 := by rcases hF with hF | hF <;> omega
    have hg : ¬ (8 ≤ tkG c τ1 q1 p1 ∧ tkG c τ1 q1 p1 ≤ 15) ∧ (if tkG c τ1 q1 p1 = 33 then (1 : Int32) else 3) = nI f := by
      rcases hF with hF | ⟨hF | hF, hF2⟩
      · exact ⟨by omega, f13e (Or.inl hF)⟩
      · exact ⟨by omega, f13e (Or.inr ⟨hF, hF2⟩)⟩
      · refine ⟨fun z => ?_, ?_⟩
        · have := hF.2
          unfold rfit at this
          simp at this
          omega
        · rw [if_neg (by omega), hF2]; rfl
    obtain ⟨r, S1, e1, g1⟩ := n8_n hT h T1 hl hg.1
    have ne := f13 hl (g := tkG c τ1 q1 p1)
    rw [hg.2] at g1 ne
    have fl := FN_L g1
    have f12 := (FL_f fl).1
    have ec := com_F (n := n) fl ne
    simp only [df_X13_shorts_341, df_X13_shorts_287, df_X13_shorts_221, df_X13_shorts_206, df_X13_shorts_195, df_X13_shorts_156, df_X13_shorts_140, df_X13_shorts_135, df_X13_shorts_139, df_X13_shorts_0, df_X13_shorts, df_X13_smalls_306, df_X13_smalls_126, df_X13_smalls_110, df_X13_smalls_109, df_X13_smalls_0, df_X13_smalls, df_X13_plainSix_21, df_X13_plainSix_0, df_X13_plainSix, df_X13_stacked_84, df_X13_stacked_0, df_X13_stacked, nb_b2, nb_b1, nb_let, eq_self, if_true, if_false, ↓reduceIte, show ((1 : Int32) = 0) = False from eq_false (by decide), show ((24 : Int32) < 16) = False from eq_false (by decide), show ((24 : Int32) = 0) = False from eq_false (by decide), show ((24 : Int32) = 13) = False from eq_false (by decide), show ((24 : Int32) = 17) = False from eq_false (by decide), show ((24 : Int32) = 18) = False from eq_false (by decide), show ((24 : Int32) = 19) = False from eq_false (by decide), show ((24 : Int32) = 20) = False from eq_false (by decide), show ((24 : Int32) = 21) = False from eq_false (by decide), show ((24 : Int32) = 22) = False from eq_false (by decide), show ((24 : Int32) = 23) = False from eq_false (by decide), show ((24 : Int32) = 25) = False from eq_false (by decide), show ((24 : Int32) = 26) = False from eq_false (by decide), show ((24 : Int32) = 27) = False from eq_false (by decide), show ((24 : Int32) = 28) = False from eq_false (by decide), show ((24 : Int32) ≤ 20) = False from eq_false (by decide), show ((16 : Int32) ≤ 24) = True from eq_true (by decide), show ((25 : Int32) ≤ 24) = False from eq_false (by decide), bq_11_5_25, bq_4_0_7, bq_9_9_12, bq_4_4_6, bq_6_6_5, bq_8_7_3, bq_5_5_2, bq_5_4_11, bq_9_6_7, bq_2_2_6, bq_3_3_5, bq_5_3_10, bq_5_5_12, bq_4_2_4, bq_7_6_2, bq_5_2_9, bq_7_6_7, sJ_R, sB_R, sX_R, jB_R, tB_R, e1, f12, eq_false ne, ec]
    exact ⟨_, rfl, fun _ => fl, fun u => absurd u nf⟩
  have gg : 8 ≤ tkG c τ1 q1 p1 ∧ tkG c τ1 q1 p1 ≤ 15 := by unfold rfit at r1; simp at r1; exact r1
  obtain ⟨S1, e1, h1⟩ := n8_y hT h T1 gg.1 gg.2
  obtain ⟨q2, p2, κ2, τ2, v2, x2, T2, hTr⟩ := hTr
  rw [if_pos (by decide)] at hTr
  rcases hTr with ⟨g2, hTr⟩ | hF
  rotate_left
  · have nf : ¬ f = 0 := by omega
    obtain ⟨S2, e2, g2⟩ := com_n hT h1 T2 hF.1
    rw [hF.2] at nf h0 ⊢
    have fl : FL e B (nI 1 + 16 * sI B 13) S2 := FN_L g2
    have ne : ¬ nI 1 + 16 * sI B 13 = 0 := flt_n hl 1 (by omega)
    have f12 := (FL_f fl).1
    simp only [df_X13_shorts_341, df_X13_shorts_287, df_X13_shorts_221, df_X13_shorts_206, df_X13_shorts_195, df_X13_shorts_156, df_X13_shorts_140, df_X13_shorts_135, df_X13_shorts_139, df_X13_shorts_0, df_X13_shorts, df_X13_smalls_306, df_X13_smalls_126, df_X13_smalls_110, df_X13_smalls_109, df_X13_smalls_0, df_X13_smalls, df_X13_plainSix_21, df_X13_plainSix_0, df_X13_plainSix, df_X13_stacked_84, df_X13_stacked_0, df_X13_stacked, nb_b2, nb_b1, nb_let, eq_self, if_true, if_false, ↓reduceIte, show ((1 : Int32) = 0) = False from eq_false (by decide), show ((24 : Int32) < 16) = False from eq_false (by decide), show ((24 : Int32) = 0) = False from eq_false (by decide), show ((24 : Int32) = 13) = False from eq_false (by decide), show ((24 : Int32) = 17) = False from eq_false (by decide), show ((24 : Int32) = 18) = False from eq_false (by decide), show ((24 : Int32) = 19) = False from eq_false (by decide), show ((24 : Int32) = 20) = False from eq_false (by decide), show ((24 : Int32) = 21) = False from eq_false (by decide), show ((24 : Int32) = 22) = False from eq_false (by decide), show ((24 : Int32) = 23) = False from eq_false (by decide), show ((24 : Int32) = 25) = False from eq_false (by decide), show ((24 : Int32) = 26) = False from eq_false (by decide), show ((24 : Int32) = 27) = False from eq_false (by decide), show ((24 : Int32) = 28) = False from eq_false (by decide), show ((24 : Int32) ≤ 20) = False from eq_false (by decide), show ((16 : Int32) ≤ 24) = True from eq_true (by decide), show ((25 : Int32) ≤ 24) = False from eq_false (by decide), bq_11_5_25, bq_4_0_7, bq_9_9_12, bq_4_4_6, bq_6_6_5, bq_8_7_3, bq_5_5_2, bq_5_4_11, bq_9_6_7, bq_2_2_6, bq_3_3_5, bq_5_3_10, bq_5_5_12, bq_4_2_4, bq_7_6_2, bq_5_2_9, bq_7_6_7, sJ_R, sB_R, sX_R, jB_R, tB_R, e1, SR_12 h1, e2, f12, eq_false ne]
    exact ⟨_, rfl, fun _ => fl, fun u => absurd u nf⟩
  obtain ⟨S2, e2, h2⟩ := com_y hT h1 T2 g2
  obtain ⟨q3, p3, κ3, τ3, v3, x3, T3, hTr⟩ := hTr
  rw [if_neg (by decide), if_neg (by decide)] at hTr
  obtain ⟨ok, px, R, hTr⟩ := hTr
  rcases hTr with ⟨rfl, z1, z2, hTr⟩ | ⟨rfl, hF⟩
  rotate_left
  · have nf : ¬ f = 0 := by omega
    have ne : ¬ nI 1 + 16 * sI B 13 = 0 := flt_n hl 1 (by omega)
    obtain ⟨wv, S3, e3, fl⟩ := exp_n hV hY h2 R
    have ef : ∀ v : Int32, df_X13_fits n v (-256) 254 2 S3 = some S3 := fun v => fit_F fl ne v _ _ _ (by decide)
    have f12 : sI S3 12 = nI 1 + 16 * sI B 13 := (FL_f fl).1
    rw [hF] at nf h0 ⊢
    obtain ⟨W, w1, w2⟩ := hal_G (n := n) fl (m0_3 (h0 nf))
    simp only [df_X13_shorts_341, df_X13_shorts_287, df_X13_shorts_221, df_X13_shorts_206, df_X13_shorts_195, df_X13_shorts_156, df_X13_shorts_140, df_X13_shorts_135, df_X13_shorts_139, df_X13_shorts_0, df_X13_shorts, df_X13_smalls_306, df_X13_smalls_126, df_X13_smalls_110, df_X13_smalls_109, df_X13_smalls_0, df_X13_smalls, df_X13_plainSix_21, df_X13_plainSix_0, df_X13_plainSix, df_X13_stacked_84, df_X13_stacked_0, df_X13_stacked, nb_b2, nb_b1, nb_let, eq_self, if_true, if_false, ↓reduceIte, show ((1 : Int32) = 0) = False from eq_false (by decide), show ((24 : Int32) < 16) = False from eq_false (by decide), show ((24 : Int32) = 0) = False from eq_false (by decide), show ((24 : Int32) = 13) = False from eq_false (by decide), show ((24 : Int32) = 17) = False from eq_false (by decide), show ((24 : Int32) = 18) = False from eq_false (by decide), show ((24 : Int32) = 19) = False from eq_false (by decide), show ((24 : Int32) = 20) = False from eq_false (by decide), show ((24 : Int32) = 21) = False from eq_false (by decide), show ((24 : Int32) = 22) = False from eq_false (by decide), show ((24 : Int32) = 23) = False from eq_false (by decide), show ((24 : Int32) = 25) = False from eq_false (by decide), show ((24 : Int32) = 26) = False from eq_false (by decide), show ((24 : Int32) = 27) = False from eq_false (by decide), show ((24 : Int32) = 28) = False from eq_false (by decide), show ((24 : Int32) ≤ 20) = False from eq_false (by decide), show ((16 : Int32) ≤ 24) = True from eq_true (by decide), show ((25 : Int32) ≤ 24) = False from eq_false (by decide), bq_11_5_25, bq_4_0_7, bq_9_9_12, bq_4_4_6, bq_6_6_5, bq_8_7_3, bq_5_5_2, bq_5_4_11, bq_9_6_7, bq_2_2_6, bq_3_3_5, bq_5_3_10, bq_5_5_12, bq_4_2_4, bq_7_6_2, bq_5_2_9, bq_7_6_7, sJ_R, sB_R, sX_R, jB_R, tB_R, e1, SR_12 h1, e2, SR_12 h2, e3, f12, eq_false ne, ef, w1]
    exact ⟨_, rfl, fun _ => w2 _, fun u => absurd u nf⟩
  obtain ⟨wv, S3a, S3, ms, dv, e3, e17, ef, rn, h3, hpx⟩ := exfit hV hY h2 R (fun x => x - sI B 17) (-256) 254 (k := 2) (by decide)
  have ef : df_X13_fits n (wv - sI B 17) (-256) 254 2 S3a = some S3 := ef
  have h3 : SR B ct gr PA BY OU (wiF B ms dv (lfO 76 (vtO 76 (sI B 17) wv))) px S3 := h3
  by_cases zz : wiF B ms dv (lfO 76 (vtO 76 (sI B 17) wv)) = 0
  rotate_left
  · have fl : FL e B _ S3 := ⟨_, _, _, _, _, _, hpx, h3⟩
    have f12 := (FL_f fl).1
    have f0 := f0_2 h0 (wi_2 zz)
    obtain ⟨W, w1, w2⟩ := hal_G (n := n) fl (m2_3 (wi_2 zz))
    simp only [df_X13_shorts_341, df_X13_shorts_287, df_X13_shorts_221, df_X13_shorts_206, df_X13_shorts_195, df_X13_shorts_156, df_X13_shorts_140, df_X13_shorts_135, df_X13_shorts_139, df_X13_shorts_0, df_X13_shorts, df_X13_smalls_306, df_X13_smalls_126, df_X13_smalls_110, df_X13_smalls_109, df_X13_smalls_0, df_X13_smalls, df_X13_plainSix_21, df_X13_plainSix_0, df_X13_plainSix, df_X13_stacked_84, df_X13_stacked_0, df_X13_stacked, nb_b2, nb_b1, nb_let, eq_self, if_true, if_false, ↓reduceIte, show ((1 : Int32) = 0) = False from eq_false (by decide), show ((24 : Int32) < 16) = False from eq_false (by decide), show ((24 : Int32) = 0) = False from eq_false (by decide), show ((24 : Int32) = 13) = False from eq_false (by decide), show ((24 : Int32) = 17) = False from eq_false (by decide), show ((24 : Int32) = 18) = False from eq_false (by decide), show ((24 : Int32) = 19) = False from eq_false (by decide), show ((24 : Int32) = 20) = False from eq_false (by decide), show ((24 : Int32) = 21) = False from eq_false (by decide), show ((24 : Int32) = 22) = False from eq_false (by decide), show ((24 : Int32) = 23) = False from eq_false (by decide), show ((24 : Int32) = 25) = False from eq_false (by decide), show ((24 : Int32) = 26) = False from eq_false (by decide), show ((24 : Int32) = 27) = False from eq_false (by decide), show ((24 : Int32) = 28) = False from eq_false (by decide), show ((24 : Int32) ≤ 20) = False from eq_false (by decide), show ((16 : Int32) ≤ 24) = True from eq_true (by decide), show ((25 : Int32) ≤ 24) = False from eq_false (by decide), bq_11_5_25, bq_4_0_7, bq_9_9_12, bq_4_4_6, bq_6_6_5, bq_8_7_3, bq_5_5_2, bq_5_4_11, bq_9_6_7, bq_2_2_6, bq_3_3_5, bq_5_3_10, bq_5_5_12, bq_4_2_4, bq_7_6_2, bq_5_2_9, bq_7_6_7, sJ_R, sB_R, sX_R, jB_R, tB_R, e1, SR_12 h1, e2, SR_12 h2, e3, e17, ef, f12, eq_false zz, w1]
    exact ⟨_, rfl, fun u => absurd f0 u, fun _ => ⟨wv, ms, dv, rn, fun u => absurd u zz, fun _ => w2 _⟩⟩
  have h3z := h3
  rw [zz] at h3z
  obtain ⟨rfl, rfl, rfl⟩ := hTr
  obtain ⟨W, w1, w2⟩ := hal_H (n := n) h3z (OKW_m hw (by omega))
  simp only [df_X13_shorts_341, df_X13_shorts_287, df_X13_shorts_221, df_X13_shorts_206, df_X13_shorts_195, df_X13_shorts_156, df_X13_shorts_140, df_X13_shorts_135, df_X13_shorts_139, df_X13_shorts_0, df_X13_shorts, df_X13_smalls_306, df_X13_smalls_126, df_X13_smalls_110, df_X13_smalls_109, df_X13_smalls_0, df_X13_smalls, df_X13_plainSix_21, df_X13_plainSix_0, df_X13_plainSix, df_X13_stacked_84, df_X13_stacked_0, df_X13_stacked, nb_b2, nb_b1, nb_let, eq_self, if_true, if_false, ↓reduceIte, show ((1 : Int32) = 0) = False from eq_false (by decide), show ((24 : Int32) < 16) = False from eq_false (by decide), show ((24 : Int32) = 0) = False from eq_false (by decide), show ((24 : Int32) = 13) = False from eq_false (by decide), show ((24 : Int32) = 17) = False from eq_false (by decide), show ((24 : Int32) = 18) = False from eq_false (by decide), show ((24 : Int32) = 19) = False from eq_false (by decide), show ((24 : Int32) = 20) = False from eq_false (by decide), show ((24 : Int32) = 21) = False from eq_false (by decide), show ((24 : Int32) = 22) = False from eq_false (by decide), show ((24 : Int32) = 23) = False from eq_false (by decide), show ((24 : Int32) = 25) = False from eq_false (by decide), show ((24 : Int32) = 26) = False from eq_false (by decide), show ((24 : Int32) = 27) = False from eq_false (by decide), show ((24 : Int32) = 28) = False from eq_false (by decide), show ((24 : Int32) ≤ 20) = False from eq_false (by decide), show ((16 : Int32) ≤ 24) = True from eq_true (by decide), show ((25 : Int32) ≤ 24) = False from eq_false (by decide), bq_11_5_25, bq_4_0_7, bq_9_9_12, bq_4_4_6, bq_6_6_5, bq_8_7_3, bq_5_5_2, bq_5_4_11, bq_9_6_7, bq_2_2_6, bq_3_3_5, bq_5_3_10, bq_5_5_12, bq_4_2_4, bq_7_6_2, bq_5_2_9, bq_7_6_7, sJ_R, sB_R, sX_R, jB_R, tB_R, e1, SR_12 h1, e2, SR_12 h2, e3, e17, ef, SR_12 h3z, w1]
  refine ⟨_, rfl, fun u => absurd trivial u, fun _ => ⟨wv, ms, dv, rn, plo2 zz (w2 _) ?_⟩⟩
  simp only [RGB_0, or_0, RGB_s44, RGB_s76, RGB_r113, rgb_113, lbo_76, vto_76]
  try simp only [Int32.or_assoc]
  try simp only [Int32.or_comm, or_lc]
  try simp only [Int32.or_assoc, Int32.or_comm, or_lc]
theorem shp_25 {n L e : Nat} {c : Nat → Nat} {BC B : St} {X : Nat → Nat} {nL st cu : Nat} (hV : RV n L e c BC B X nL cu) {ct : Nat} {gr : Bool} {PA BY OU : Nat → Int32} (hY : PY PA cu st) {p : Nat} {S : St} (h : SR B ct gr PA BY OU 0 p S) (hw : OKW B (ct + 2)) (w : Int32) {f p2 : Nat} {rs : List Nat} {m : Nat} {P : Nat → Tp} (h0 : ¬ f = 0 → sI B 15 = 0) (hTr : Tr n L e c BC [100, 44, 86] p f p2 rs m P) : ∃ S' : St, df_X13_shorts n 25 w S = some S' ∧ (¬ f = 0 → FL e B (nI f + 16 * sI B 13) S') ∧ (f = 0 → ∃ (z : Int32) (ms dv : Bool), rnF (VW c X e nL st B) P m = ([z], ms, dv) ∧ PLO e B ct gr PA BY OU p2 (wiF B ms dv (lfO 86 (vtO 86 (sI B 17) z))) (by2 (w ||| RGB [100, 44, 86] rs ||| lbO 86 (vtO 86 (sI B 17) z))) S') := by
  have hT := hV.1
  have hl := hV.2.2.2.2.2.2.2
  obtain ⟨q1, p1, κ1, τ1, v1, x1, T1, hTr⟩ := hTr
  rw [if_neg (by decide), if_pos (by decide)] at hTr
  rcases hTr with ⟨g1, r1, rs1, rfl, hTr⟩ | hF
  rotate_left
  · have nf : ¬ f = 0 := by rcases hF with hF | hF <;> omega
    have hF2 : (tkG c τ1 q1 p1 = 33 ∧ f = 1) ∨ (tkG c τ1 q1 p1 = 32 ∧ f = 3) := by
      rcases hF with hF | ⟨hF | hF, hF2⟩
      · exact Or.inl hF
      · exact Or.inr ⟨hF, hF2⟩
      · exact absurd hF.2 (by unfold rfit; simp)
    obtain ⟨S1, e1, g1⟩ := tak_n hT h T1 (by omega)
    have ne := f13 hl (g := tkG c τ1 q1 p1)
    rw [f13e hF2] at g1 ne
    have fl := FN_L g1
    have f12 := (FL_f fl).1
    have ec := com_F (n := n) fl ne
    simp only [df_X13_shorts_341, df_X13_shorts_287, df_X13_shorts_221, df_X13_shorts_206, df_X13_shorts_195, df_X13_shorts_156, df_X13_shorts_140, df_X13_shorts_135, df_X13_shorts_139, df_X13_shorts_0, df_X13_shorts, df_X13_smalls_306, df_X13_smalls_126, df_X13_smalls_110, df_X13_smalls_109, df_X13_smalls_0, df_X13_smalls, df_X13_plainSix_21, df_X13_plainSix_0, df_X13_plainSix, df_X13_stacked_84, df_X13_stacked_0, df_X13_stacked, nb_b2, nb_b1, nb_let, eq_self, if_true, if_false, ↓reduceIte, show ((1 : Int32) = 0) = False from eq_false (by decide), show ((25 : Int32) < 16) = False from eq_false (by decide), show ((25 : Int32) = 0) = False from eq_false (by decide), show ((25 : Int32) = 13) = False from eq_false (by decide), show ((25 : Int32) = 17) = False from eq_false (by decide), show ((25 : Int32) = 18) = False from eq_false (by decide), show ((25 : Int32) = 19) = False from eq_false (by decide), show ((25 : Int32) = 20) = False from eq_false (by decide), show ((25 : Int32) = 21) = False from eq_false (by decide), show ((25 : Int32) = 22) = False from eq_false (by decide), show ((25 : Int32) = 23) = False from eq_false (by decide), show ((25 : Int32) = 26) = False from eq_false (by decide), show ((25 : Int32) = 27) = False from eq_false (by decide), show ((25 : Int32) = 28) = False from eq_false (by decide), show ((25 : Int32) ≤ 20) = False from eq_false (by decide), show ((16 : Int32) ≤ 25) = True from eq_true (by decide), show ((25 : Int32) ≤ 25) = True from eq_true (by decide), bq_11_5_25, bq_4_0_7, bq_9_9_12, bq_4_4_6, bq_6_6_5, bq_8_7_3, bq_5_5_2, bq_5_4_11, bq_9_6_7, bq_2_2_6, bq_3_3_5, bq_5_3_10, bq_5_5_12, bq_4_2_4, bq_7_6_2, bq_5_2_9, bq_7_6_7, sJ_R, sB_R, sX_R, jB_R, tB_R, e1, f12, eq_false ne, ec]
    exact ⟨_, rfl, fun _ => fl, fun u => absurd u nf⟩
  obtain ⟨S1, e1, h1⟩ := tak_y hT h T1 g1
  obtain ⟨q2, p2, κ2, τ2, v2, x2, T2, hTr⟩ := hTr
  rw [if_pos (by decide)] at hTr
  rcases hTr with ⟨g2, hTr⟩ | hF
  rotate_left
  · have nf : ¬ f = 0 := by omega
    obtain ⟨S2, e2, g2⟩ := com_n hT h1 T2 hF.1
    rw [hF.2] at nf h0 ⊢
    have fl : FL e B (nI 1 + 16 * sI B 13) S2 := FN_L g2
    have ne : ¬ nI 1 + 16 * sI B 13 = 0 := flt_n hl 1 (by omega)
    have f12 := (FL_f fl).1
    simp only [df_X13_shorts_341, df_X13_shorts_287, df_X13_shorts_221, df_X13_shorts_206, df_X13_shorts_195, df_X13_shorts_156, df_X13_shorts_140, df_X13_shorts_135, df_X13_shorts_139, df_X13_shorts_0, df_X13_shorts, df_X13_smalls_306, df_X13_smalls_126, df_X13_smalls_110, df_X13_smalls_109, df_X13_smalls_0, df_X13_smalls, df_X13_plainSix_21, df_X13_plainSix_0, df_X13_plainSix, df_X13_stacked_84, df_X13_stacked_0, df_X13_stacked, nb_b2, nb_b1, nb_let, eq_self, if_true, if_false, ↓reduceIte, show ((1 : Int32) = 0) = False from eq_false (by decide), show ((25 : Int32) < 16) = False from eq_false (by decide), show ((25 : Int32) = 0) = False from eq_false (by decide), show ((25 : Int32) = 13) = False from eq_false (by decide), show ((25 : Int32) = 17) = False from eq_false (by decide), show ((25 : Int32) = 18) = False from eq_false (by decide), show ((25 : Int32) = 19) = False from eq_false (by decide), show ((25 : Int32) = 20) = False from eq_false (by decide), show ((25 : Int32) = 21) = False from eq_false (by decide), show ((25 : Int32) = 22) = False from eq_false (by decide), show ((25 : Int32) = 23) = False from eq_false (by decide), show ((25 : Int32) = 26) = False from eq_false (by decide), show ((25 : Int32) = 27) = False from eq_false (by decide), show ((25 : Int32) = 28) = False from eq_false (by decide), show ((25 : Int32) ≤ 20) = False from eq_false (by decide), show ((16 : Int32) ≤ 25) = True from eq_true (by decide), show ((25 : Int32) ≤ 25) = True from eq_true (by decide), bq_11_5_25, bq_4_0_7, bq_9_9_12, bq_4_4_6, bq_6_6_5, bq_8_7_3, bq_5_5_2, bq_5_4_11, bq_9_6_7, bq_2_2_6, bq_3_3_5, bq_5_3_10, bq_5_5_12, bq_4_2_4, bq_7_6_2, bq_5_2_9, bq_7_6_7, sJ_R, sB_R, sX_R, jB_R, tB_R, e1, SR_12 h1, e2, f12, eq_false ne]
    exact ⟨_, rfl, fun _ => fl, fun u => absurd u nf⟩
  obtain ⟨S2, e2, h2⟩ := com_y hT h1 T2 g2
  obtain ⟨q3, p3, κ3, τ3, v3, x3, T3, hTr⟩ := hTr
  rw [if_neg (by decide), if_neg (by decide)] at hTr
  obtain ⟨ok, px, R, hTr⟩ := hTr
  rcases hTr with ⟨rfl, z1, z2, hTr⟩ | ⟨rfl, hF⟩
  rotate_left
  · have nf : ¬ f = 0 := by omega
    have ne : ¬ nI 1 + 16 * sI B 13 = 0 := flt_n hl 1 (by omega)
    obtain ⟨wv, S3, e3, fl⟩ := wit_n hV hY h2 R (0) 31 1 (by decide)
    have f12 : sI S3 12 = nI 1 + 16 * sI B 13 := (FL_f fl).1
    rw [hF] at nf h0 ⊢
    obtain ⟨W, w1, w2⟩ := hal_G (n := n) fl (m0_3 (h0 nf))
    simp only [df_X13_shorts_341, df_X13_shorts_287, df_X13_shorts_221, df_X13_shorts_206, df_X13_shorts_195, df_X13_shorts_156, df_X13_shorts_140, df_X13_shorts_135, df_X13_shorts_139, df_X13_shorts_0, df_X13_shorts, df_X13_smalls_306, df_X13_smalls_126, df_X13_smalls_110, df_X13_smalls_109, df_X13_smalls_0, df_X13_smalls, df_X13_plainSix_21, df_X13_plainSix_0, df_X13_plainSix, df_X13_stacked_84, df_X13_stacked_0, df_X13_stacked, nb_b2, nb_b1, nb_let, eq_self, if_true, if_false, ↓reduceIte, show ((1 : Int32) = 0) = False from eq_false (by decide), show ((25 : Int32) < 16) = False from eq_false (by decide), show ((25 : Int32) = 0) = False from eq_false (by decide), show ((25 : Int32) = 13) = False from eq_false (by decide), show ((25 : Int32) = 17) = False from eq_false (by decide), show ((25 : Int32) = 18) = False from eq_false (by decide), show ((25 : Int32) = 19) = False from eq_false (by decide), show ((25 : Int32) = 20) = False from eq_false (by decide), show ((25 : Int32) = 21) = False from eq_false (by decide), show ((25 : Int32) = 22) = False from eq_false (by decide), show ((25 : Int32) = 23) = False from eq_false (by decide), show ((25 : Int32) = 26) = False from eq_false (by decide), show ((25 : Int32) = 27) = False from eq_false (by decide), show ((25 : Int32) = 28) = False from eq_false (by decide), show ((25 : Int32) ≤ 20) = False from eq_false (by decide), show ((16 : Int32) ≤ 25) = True from eq_true (by decide), show ((25 : Int32) ≤ 25) = True from eq_true (by decide), bq_11_5_25, bq_4_0_7, bq_9_9_12, bq_4_4_6, bq_6_6_5, bq_8_7_3, bq_5_5_2, bq_5_4_11, bq_9_6_7, bq_2_2_6, bq_3_3_5, bq_5_3_10, bq_5_5_12, bq_4_2_4, bq_7_6_2, bq_5_2_9, bq_7_6_7, sJ_R, sB_R, sX_R, jB_R, tB_R, e1, SR_12 h1, e2, SR_12 h2, e3, f12, eq_false ne, w1]
    exact ⟨_, rfl, fun _ => w2 _, fun u => absurd u nf⟩
  obtain ⟨wv, S3, ms, dv, e3, rn, h3, hpx⟩ := wit_y hV hY h2 R (0) 31 (k := 1) (by decide)
  have e3 : df_X13_within n (0) 31 1 S2 = some (wv, S3) := e3
  have h3 : SR B ct gr PA BY OU (wiF B ms dv (lfO 86 (vtO 86 (sI B 17) wv))) px S3 := h3
  by_cases zz : wiF B ms dv (lfO 86 (vtO 86 (sI B 17) wv)) = 0
  rotate_left
  · have fl : FL e B _ S3 := ⟨_, _, _, _, _, _, hpx, h3⟩
    have f12 := (FL_f fl).1
    have f0 := f0_2 h0 (wi_2 zz)
    obtain ⟨W, w1, w2⟩ := hal_G (n := n) fl (m2_3 (wi_2 zz))
    simp only [df_X13_shorts_341, df_X13_shorts_287, df_X13_shorts_221, df_X13_shorts_206, df_X13_shorts_195, df_X13_shorts_156, df_X13_shorts_140, df_X13_shorts_135, df_X13_shorts_139, df_X13_shorts_0, df_X13_shorts, df_X13_smalls_306, df_X13_smalls_126, df_X13_smalls_110, df_X13_smalls_109, df_X13_smalls_0, df_X13_smalls, df_X13_plainSix_21, df_X13_plainSix_0, df_X13_plainSix, df_X13_stacked_84, df_X13_stacked_0, df_X13_stacked, nb_b2, nb_b1, nb_let, eq_self, if_true, if_false, ↓reduceIte, show ((1 : Int32) = 0) = False from eq_false (by decide), show ((25 : Int32) < 16) = False from eq_false (by decide), show ((25 : Int32) = 0) = False from eq_false (by decide), show ((25 : Int32) = 13) = False from eq_false (by decide), show ((25 : Int32) = 17) = False from eq_false (by decide), show ((25 : Int32) = 18) = False from eq_false (by decide), show ((25 : Int32) = 19) = False from eq_false (by decide), show ((25 : Int32) = 20) = False from eq_false (by decide), show ((25 : Int32) = 21) = False from eq_false (by decide), show ((25 : Int32) = 22) = False from eq_false (by decide), show ((25 : Int32) = 23) = False from eq_false (by decide), show ((25 : Int32) = 26) = False from eq_false (by decide), show ((25 : Int32) = 27) = False from eq_false (by decide), show ((25 : Int32) = 28) = False from eq_false (by decide), show ((25 : Int32) ≤ 20) = False from eq_false (by decide), show ((16 : Int32) ≤ 25) = True from eq_true (by decide), show ((25 : Int32) ≤ 25) = True from eq_true (by decide), bq_11_5_25, bq_4_0_7, bq_9_9_12, bq_4_4_6, bq_6_6_5, bq_8_7_3, bq_5_5_2, bq_5_4_11, bq_9_6_7, bq_2_2_6, bq_3_3_5, bq_5_3_10, bq_5_5_12, bq_4_2_4, bq_7_6_2, bq_5_2_9, bq_7_6_7, sJ_R, sB_R, sX_R, jB_R, tB_R, e1, SR_12 h1, e2, SR_12 h2, e3, f12, eq_false zz, w1]
    exact ⟨_, rfl, fun u => absurd f0 u, fun _ => ⟨wv, ms, dv, rn, fun u => absurd u zz, fun _ => w2 _⟩⟩
  have h3z := h3
  rw [zz] at h3z
  obtain ⟨rfl, rfl, rfl⟩ := hTr
  obtain ⟨W, w1, w2⟩ := hal_H (n := n) h3z (OKW_m hw (by omega))
  simp only [df_X13_shorts_341, df_X13_shorts_287, df_X13_shorts_221, df_X13_shorts_206, df_X13_shorts_195, df_X13_shorts_156, df_X13_shorts_140, df_X13_shorts_135, df_X13_shorts_139, df_X13_shorts_0, df_X13_shorts, df_X13_smalls_306, df_X13_smalls_126, df_X13_smalls_110, df_X13_smalls_109, df_X13_smalls_0, df_X13_smalls, df_X13_plainSix_21, df_X13_plainSix_0, df_X13_plainSix, df_X13_stacked_84, df_X13_stacked_0, df_X13_stacked, nb_b2, nb_b1, nb_let, eq_self, if_true, if_false, ↓reduceIte, show ((1 : Int32) = 0) = False from eq_false (by decide), show ((25 : Int32) < 16) = False from eq_false (by decide), show ((25 : Int32) = 0) = False from eq_false (by decide), show ((25 : Int32) = 13) = False from eq_false (by decide), show ((25 : Int32) = 17) = False from eq_false (by decide), show ((25 : Int32) = 18) = False from eq_false (by decide), show ((25 : Int32) = 19) = False from eq_false (by decide), show ((25 : Int32) = 20) = False from eq_false (by decide), show ((25 : Int32) = 21) = False from eq_false (by decide), show ((25 : Int32) = 22) = False from eq_false (by decide), show ((25 : Int32) = 23) = False from eq_false (by decide), show ((25 : Int32) = 26) = False from eq_false (by decide), show ((25 : Int32) = 27) = False from eq_false (by decide), show ((25 : Int32) = 28) = False from eq_false (by decide), show ((25 : Int32) ≤ 20) = False from eq_false (by decide), show ((16 : Int32) ≤ 25) = True from eq_true (by decide), show ((25 : Int32) ≤ 25) = True from eq_true (by decide), bq_11_5_25, bq_4_0_7, bq_9_9_12, bq_4_4_6, bq_6_6_5, bq_8_7_3, bq_5_5_2, bq_5_4_11, bq_9_6_7, bq_2_2_6, bq_3_3_5, bq_5_3_10, bq_5_5_12, bq_4_2_4, bq_7_6_2, bq_5_2_9, bq_7_6_7, sJ_R, sB_R, sX_R, jB_R, tB_R, e1, SR_12 h1, e2, SR_12 h2, e3, SR_12 h3z, w1]
  refine ⟨_, rfl, fun u => absurd trivial u, fun _ => ⟨wv, ms, dv, rn, plo2 zz (w2 _) ?_⟩⟩
  simp only [RGB_0, or_0, RGB_s44, RGB_s86, RGB_r100, rgb_100, lbo_86, vto_86, lbV]
  try simp only [Int32.or_assoc]
  try simp only [Int32.or_comm, or_lc]
  try simp only [Int32.or_assoc, Int32.or_comm, or_lc]
theorem shp_26 {n L e : Nat} {c : Nat → Nat} {BC B : St} {X : Nat → Nat} {nL st cu : Nat} (hV : RV n L e c BC B X nL cu) {ct : Nat} {gr : Bool} {PA BY OU : Nat → Int32} (hY : PY PA cu st) {p : Nat} {S : St} (h : SR B ct gr PA BY OU 0 p S) (hw : OKW B (ct + 2)) (w : Int32) {f p2 : Nat} {rs : List Nat} {m : Nat} {P : Nat → Tp} (h0 : ¬ f = 0 → sI B 15 = 0) (hTr : Tr n L e c BC [110, 44, 80] p f p2 rs m P) : ∃ S' : St, df_X13_shorts n 26 w S = some S' ∧ (¬ f = 0 → FL e B (nI f + 16 * sI B 13) S') ∧ (f = 0 → ∃ (z : Int32) (ms dv : Bool), rnF (VW c X e nL st B) P m = ([z], ms, dv) ∧ PLO e B ct gr PA BY OU p2 (wiF B ms dv (lfO 80 (vtO 80 (sI B 17) z))) (by2 (w ||| RGB [110, 44, 80] rs ||| lbO 80 (vtO 80 (sI B 17) z))) S') := by
  have hT := hV.1
  have hl := hV.2.2.2.2.2.2.2
  obtain ⟨q1, p1, κ1, τ1, v1, x1, T1, hTr⟩ := hTr
  rw [if_neg (by decide), if_pos (by decide)] at hTr
  rcases hTr with ⟨g1, r1, rs1, rfl, hTr⟩ | hF
  rotate_left
  · have nf : ¬ f = 0 := by rcases hF with hF | hF <;> omega
    by_cases gy : tkG c τ1 q1 p1 < 32
    · have hf3 : f = 3 ∧ tkG c τ1 q1 p1 = 0 := by
        rcases hF with hF | ⟨hF | hF, hF2⟩
        · omega
        · omega
        · refine ⟨hF2, Classical.byContradiction fun z => ?_⟩
          have := hF.2
          unfold rfit at this
          simp at this
          exact z this
      obtain ⟨S1, e1, g1⟩ := tak_y hT h T1 gy
      rw [hf3.2] at e1
      obtain ⟨S1b, b1, c1⟩ := not_n (n := n) g1 (nI 0)
      have b1 : df_X13_not n (nI 0) 0 S1 = some (nI 0, S1b) := b1
      have fl : FL e B (nI 3 + 16 * sI B 13) S1b := ⟨_, _, _, _, _, _, T1.2.2.2.2.1, c1⟩
      have ne : ¬ nI 3 + 16 * sI B 13 = 0 := flt_n hl 3 (by omega)
      have f12 := (FL_f fl).1
      rw [hf3.1] at nf h0 ⊢
      have ec := com_F (n := n) fl ne
      simp only [df_X13_shorts_341, df_X13_shorts_287, df_X13_shorts_221, df_X13_shorts_206, df_X13_shorts_195, df_X13_shorts_156, df_X13_shorts_140, df_X13_shorts_135, df_X13_shorts_139, df_X13_shorts_0, df_X13_shorts, df_X13_smalls_306, df_X13_smalls_126, df_X13_smalls_110, df_X13_smalls_109, df_X13_smalls_0, df_X13_smalls, df_X13_plainSix_21, df_X13_plainSix_0, df_X13_plainSix, df_X13_stacked_84, df_X13_stacked_0, df_X13_stacked, nb_b2, nb_b1, nb_let, eq_self, if_true, if_false, ↓reduceIte, show ((1 : Int32) = 0) = False from eq_false (by decide), show ((26 : Int32) < 16) = False from eq_false (by decide), show ((26 : Int32) = 0) = False from eq_false (by decide), show ((26 : Int32) = 13) = False from eq_false (by decide), show ((26 : Int32) = 17) = False from eq_false (by decide), show ((26 : Int32) = 18) = False from eq_false (by decide), show ((26 : Int32) = 19) = False from eq_false (by decide), show ((26 : Int32) = 20) = False from eq_false (by decide), show ((26 : Int32) = 21) = False from eq_false (by decide), show ((26 : Int32) = 22) = False from eq_false (by decide), show ((26 : Int32) = 23) = False from eq_false (by decide), show ((26 : Int32) = 25) = False from eq_false (by decide), show ((26 : Int32) = 27) = False from eq_false (by decide), show ((26 : Int32) = 28) = False from eq_false (by decide), show ((26 : Int32) ≤ 20) = False from eq_false (by decide), show ((16 : Int32) ≤ 26) = True from eq_true (by decide), show ((25 : Int32) ≤ 26) = True from eq_true (by decide), bq_11_5_25, bq_4_0_7, bq_9_9_12, bq_4_4_6, bq_6_6_5, bq_8_7_3, bq_5_5_2, bq_5_4_11, bq_9_6_7, bq_2_2_6, bq_3_3_5, bq_5_3_10, bq_5_5_12, bq_4_2_4, bq_7_6_2, bq_5_2_9, bq_7_6_7, sJ_R, sB_R, sX_R, jB_R, tB_R, e1, b1, f12, eq_false ne, ec]
      exact ⟨_, rfl, fun _ => fl, fun u => absurd u nf⟩
    · have hF2 : (tkG c τ1 q1 p1 = 33 ∧ f = 1) ∨ (tkG c τ1 q1 p1 = 32 ∧ f = 3) := by
        rcases hF with hF | ⟨hF | hF, hF2⟩
        · exact Or.inl hF
        · exact Or.inr ⟨hF, hF2⟩
        · exact absurd hF.1 gy
      obtain ⟨S1, e1, g1⟩ := tak_n hT h T1 gy
      have ne := f13 hl (g := tkG c τ1 q1 p1)
      rw [f13e hF2] at g1 ne
      have fl := FN_L g1
      have f12 := (FL_f fl).1
      have b1 := not_F (n := n) fl ne 0 0
      have ec := com_F (n := n) fl ne
      simp only [df_X13_shorts_341, df_X13_shorts_287, df_X13_shorts_221, df_X13_shorts_206, df_X13_shorts_195, df_X13_shorts_156, df_X13_shorts_140, df_X13_shorts_135, df_X13_shorts_139, df_X13_shorts_0, df_X13_shorts, df_X13_smalls_306, df_X13_smalls_126, df_X13_smalls_110, df_X13_smalls_109, df_X13_smalls_0, df_X13_smalls, df_X13_plainSix_21, df_X13_plainSix_0, df_X13_plainSix, df_X13_stacked_84, df_X13_stacked_0, df_X13_stacked, nb_b2, nb_b1, nb_let, eq_self, if_true, if_false, ↓reduceIte, show ((1 : Int32) = 0) = False from eq_false (by decide), show ((26 : Int32) < 16) = False from eq_false (by decide), show ((26 : Int32) = 0) = False from eq_false (by decide), show ((26 : Int32) = 13) = False from eq_false (by decide), show ((26 : Int32) = 17) = False from eq_false (by decide), show ((26 : Int32) = 18) = False from eq_false (by decide), show ((26 : Int32) = 19) = False from eq_false (by decide), show ((26 : Int32) = 20) = False from eq_false (by decide), show ((26 : Int32) = 21) = False from eq_false (by decide), show ((26 : Int32) = 22) = False from eq_false (by decide), show ((26 : Int32) = 23) = False from eq_false (by decide), show ((26 : Int32) = 25) = False from eq_false (by decide), show ((26 : Int32) = 27) = False from eq_false (by decide), show ((26 : Int32) = 28) = False from eq_false (by decide), show ((26 : Int32) ≤ 20) = False from eq_false (by decide), show ((16 : Int32) ≤ 26) = True from eq_true (by decide), show ((25 : Int32) ≤ 26) = True from eq_true (by decide), bq_11_5_25, bq_4_0_7, bq_9_9_12, bq_4_4_6, bq_6_6_5, bq_8_7_3, bq_5_5_2, bq_5_4_11, bq_9_6_7, bq_2_2_6, bq_3_3_5, bq_5_3_10, bq_5_5_12, bq_4_2_4, bq_7_6_2, bq_5_2_9, bq_7_6_7, sJ_R, sB_R, sX_R, jB_R, tB_R, e1, b1, f12, eq_false ne, ec]
      exact ⟨_, rfl, fun _ => fl, fun u => absurd u nf⟩
  obtain ⟨S1, e1, h1⟩ := tak_y hT h T1 g1
  have b1 : df_X13_not n (nI (tkG c τ1 q1 p1)) 0 S1 = some (nI (tkG c τ1 q1 p1), S1) := not_y (show ¬ nI (tkG c τ1 q1 p1) = nI 0 from zne (by unfold rfit at r1; simp at r1; exact r1) (by omega) (by omega))
  obtain ⟨q2, p2, κ2, τ2, v2, x2, T2, hTr⟩ := hTr
  rw [if_pos (by decide)] at hTr
  rcases hTr with ⟨g2, hTr⟩ | hF
  rotate_left
  · have nf : ¬ f = 0 := by omega
    obtain ⟨S2, e2, g2⟩ := com_n hT h1 T2 hF.1
    rw [hF.2] at nf h0 ⊢
    have fl : FL e B (nI 1 + 16 * sI B 13) S2 := FN_L g2
    have ne : ¬ nI 1 + 16 * sI B 13 = 0 := flt_n hl 1 (by omega)
    have f12 := (FL_f fl).1
    simp only [df_X13_shorts_341, df_X13_shorts_287, df_X13_shorts_221, df_X13_shorts_206, df_X13_shorts_195, df_X13_shorts_156, df_X13_shorts_140, df_X13_shorts_135, df_X13_shorts_139, df_X13_shorts_0, df_X13_shorts, df_X13_smalls_306, df_X13_smalls_126, df_X13_smalls_110, df_X13_smalls_109, df_X13_smalls_0, df_X13_smalls, df_X13_plainSix_21, df_X13_plainSix_0, df_X13_plainSix, df_X13_stacked_84, df_X13_stacked_0, df_X13_stacked, nb_b2, nb_b1, nb_let, eq_self, if_true, if_false, ↓reduceIte, show ((1 : Int32) = 0) = False from eq_false (by decide), show ((26 : Int32) < 16) = False from eq_false (by decide), show ((26 : Int32) = 0) = False from eq_false (by decide), show ((26 : Int32) = 13) = False from eq_false (by decide), show ((26 : Int32) = 17) = False from eq_false (by decide), show ((26 : Int32) = 18) = False from eq_false (by decide), show ((26 : Int32) = 19) = False from eq_false (by decide), show ((26 : Int32) = 20) = False from eq_false (by decide), show ((26 : Int32) = 21) = False from eq_false (by decide), show ((26 : Int32) = 22) = False from eq_false (by decide), show ((26 : Int32) = 23) = False from eq_false (by decide), show ((26 : Int32) = 25) = False from eq_false (by decide), show ((26 : Int32) = 27) = False from eq_false (by decide), show ((26 : Int32) = 28) = False from eq_false (by decide), show ((26 : Int32) ≤ 20) = False from eq_false (by decide), show ((16 : Int32) ≤ 26) = True from eq_true (by decide), show ((25 : Int32) ≤ 26) = True from eq_true (by decide), bq_11_5_25, bq_4_0_7, bq_9_9_12, bq_4_4_6, bq_6_6_5, bq_8_7_3, bq_5_5_2, bq_5_4_11, bq_9_6_7, bq_2_2_6, bq_3_3_5, bq_5_3_10, bq_5_5_12, bq_4_2_4, bq_7_6_2, bq_5_2_9, bq_7_6_7, sJ_R, sB_R, sX_R, jB_R, tB_R, e1, SR_12 h1, b1, e2, f12, eq_false ne]
    exact ⟨_, rfl, fun _ => fl, fun u => absurd u nf⟩
  obtain ⟨S2, e2, h2⟩ := com_y hT h1 T2 g2
  obtain ⟨q3, p3, κ3, τ3, v3, x3, T3, hTr⟩ := hTr
  rw [if_neg (by decide), if_neg (by decide)] at hTr
  obtain ⟨ok, px, R, hTr⟩ := hTr
  rcases hTr with ⟨rfl, z1, z2, hTr⟩ | ⟨rfl, hF⟩
  rotate_left
  · have nf : ¬ f = 0 := by omega
    have ne : ¬ nI 1 + 16 * sI B 13 = 0 := flt_n hl 1 (by omega)
    obtain ⟨wv, S3, e3, fl⟩ := wit_n hV hY h2 R (0) 252 4 (by decide)
    have f12 : sI S3 12 = nI 1 + 16 * sI B 13 := (FL_f fl).1
    rw [hF] at nf h0 ⊢
    obtain ⟨W, w1, w2⟩ := hal_G (n := n) fl (m0_3 (h0 nf))
    simp only [df_X13_shorts_341, df_X13_shorts_287, df_X13_shorts_221, df_X13_shorts_206, df_X13_shorts_195, df_X13_shorts_156, df_X13_shorts_140, df_X13_shorts_135, df_X13_shorts_139, df_X13_shorts_0, df_X13_shorts, df_X13_smalls_306, df_X13_smalls_126, df_X13_smalls_110, df_X13_smalls_109, df_X13_smalls_0, df_X13_smalls, df_X13_plainSix_21, df_X13_plainSix_0, df_X13_plainSix, df_X13_stacked_84, df_X13_stacked_0, df_X13_stacked, nb_b2, nb_b1, nb_let, eq_self, if_true, if_false, ↓reduceIte, show ((1 : Int32) = 0) = False from eq_false (by decide), show ((26 : Int32) < 16) = False from eq_false (by decide), show ((26 : Int32) = 0) = False from eq_false (by decide), show ((26 : Int32) = 13) = False from eq_false (by decide), show ((26 : Int32) = 17) = False from eq_false (by decide), show ((26 : Int32) = 18) = False from eq_false (by decide), show ((26 : Int32) = 19) = False from eq_false (by decide), show ((26 : Int32) = 20) = False from eq_false (by decide), show ((26 : Int32) = 21) = False from eq_false (by decide), show ((26 : Int32) = 22) = False from eq_false (by decide), show ((26 : Int32) = 23) = False from eq_false (by decide), show ((26 : Int32) = 25) = False from eq_false (by decide), show ((26 : Int32) = 27) = False from eq_false (by decide), show ((26 : Int32) = 28) = False from eq_false (by decide), show ((26 : Int32) ≤ 20) = False from eq_false (by decide), show ((16 : Int32) ≤ 26) = True from eq_true (by decide), show ((25 : Int32) ≤ 26) = True from eq_true (by decide), bq_11_5_25, bq_4_0_7, bq_9_9_12, bq_4_4_6, bq_6_6_5, bq_8_7_3, bq_5_5_2, bq_5_4_11, bq_9_6_7, bq_2_2_6, bq_3_3_5, bq_5_3_10, bq_5_5_12, bq_4_2_4, bq_7_6_2, bq_5_2_9, bq_7_6_7, sJ_R, sB_R, sX_R, jB_R, tB_R, e1, SR_12 h1, b1, e2, SR_12 h2, e3, f12, eq_false ne, w1]
    exact ⟨_, rfl, fun _ => w2 _, fun u => absurd u nf⟩
  obtain ⟨wv, S3, ms, dv, e3, rn, h3, hpx⟩ := wit_y hV hY h2 R (0) 252 (k := 4) (by decide)
  have e3 : df_X13_within n (0) 252 4 S2 = some (wv, S3) := e3
  have h3 : SR B ct gr PA BY OU (wiF B ms dv (lfO 80 (vtO 80 (sI B 17) wv))) px S3 := h3
  by_cases zz : wiF B ms dv (lfO 80 (vtO 80 (sI B 17) wv)) = 0
  rotate_left
  · have fl : FL e B _ S3 := ⟨_, _, _, _, _, _, hpx, h3⟩
    have f12 := (FL_f fl).1
    have f0 := f0_2 h0 (wi_2 zz)
    obtain ⟨W, w1, w2⟩ := hal_G (n := n) fl (m2_3 (wi_2 zz))
    simp only [df_X13_shorts_341, df_X13_shorts_287, df_X13_shorts_221, df_X13_shorts_206, df_X13_shorts_195, df_X13_shorts_156, df_X13_shorts_140, df_X13_shorts_135, df_X13_shorts_139, df_X13_shorts_0, df_X13_shorts, df_X13_smalls_306, df_X13_smalls_126, df_X13_smalls_110, df_X13_smalls_109, df_X13_smalls_0, df_X13_smalls, df_X13_plainSix_21, df_X13_plainSix_0, df_X13_plainSix, df_X13_stacked_84, df_X13_stacked_0, df_X13_stacked, nb_b2, nb_b1, nb_let, eq_self, if_true, if_false, ↓reduceIte, show ((1 : Int32) = 0) = False from eq_false (by decide), show ((26 : Int32) < 16) = False from eq_false (by decide), show ((26 : Int32) = 0) = False from eq_false (by decide), show ((26 : Int32) = 13) = False from eq_false (by decide), show ((26 : Int32) = 17) = False from eq_false (by decide), show ((26 : Int32) = 18) = False from eq_false (by decide), show ((26 : Int32) = 19) = False from eq_false (by decide), show ((26 : Int32) = 20) = False from eq_false (by decide), show ((26 : Int32) = 21) = False from eq_false (by decide), show ((26 : Int32) = 22) = False from eq_false (by decide), show ((26 : Int32) = 23) = False from eq_false (by decide), show ((26 : Int32) = 25) = False from eq_false (by decide), show ((26 : Int32) = 27) = False from eq_false (by decide), show ((26 : Int32) = 28) = False from eq_false (by decide), show ((26 : Int32) ≤ 20) = False from eq_false (by decide), show ((16 : Int32) ≤ 26) = True from eq_true (by decide), show ((25 : Int32) ≤ 26) = True from eq_true (by decide), bq_11_5_25, bq_4_0_7, bq_9_9_12, bq_4_4_6, bq_6_6_5, bq_8_7_3, bq_5_5_2, bq_5_4_11, bq_9_6_7, bq_2_2_6, bq_3_3_5, bq_5_3_10, bq_5_5_12, bq_4_2_4, bq_7_6_2, bq_5_2_9, bq_7_6_7, sJ_R, sB_R, sX_R, jB_R, tB_R, e1, SR_12 h1, b1, e2, SR_12 h2, e3, f12, eq_false zz, w1]
    exact ⟨_, rfl, fun u => absurd f0 u, fun _ => ⟨wv, ms, dv, rn, fun u => absurd u zz, fun _ => w2 _⟩⟩
  have h3z := h3
  rw [zz] at h3z
  obtain ⟨rfl, rfl, rfl⟩ := hTr
  obtain ⟨W, w1, w2⟩ := hal_H (n := n) h3z (OKW_m hw (by omega))
  simp only [df_X13_shorts_341, df_X13_shorts_287, df_X13_shorts_221, df_X13_shorts_206, df_X13_shorts_195, df_X13_shorts_156, df_X13_shorts_140, df_X13_shorts_135, df_X13_shorts_139, df_X13_shorts_0, df_X13_shorts, df_X13_smalls_306, df_X13_smalls_126, df_X13_smalls_110, df_X13_smalls_109, df_X13_smalls_0, df_X13_smalls, df_X13_plainSix_21, df_X13_plainSix_0, df_X13_plainSix, df_X13_stacked_84, df_X13_stacked_0, df_X13_stacked, nb_b2, nb_b1, nb_let, eq_self, if_true, if_false, ↓reduceIte, show ((1 : Int32) = 0) = False from eq_false (by decide), show ((26 : Int32) < 16) = False from eq_false (by decide), show ((26 : Int32) = 0) = False from eq_false (by decide), show ((26 : Int32) = 13) = False from eq_false (by decide), show ((26 : Int32) = 17) = False from eq_false (by decide), show ((26 : Int32) = 18) = False from eq_false (by decide), show ((26 : Int32) = 19) = False from eq_false (by decide), show ((26 : Int32) = 20) = False from eq_false (by decide), show ((26 : Int32) = 21) = False from eq_false (by decide), show ((26 : Int32) = 22) = False from eq_false (by decide), show ((26 : Int32) = 23) = False from eq_false (by decide), show ((26 : Int32) = 25) = False from eq_false (by decide), show ((26 : Int32) = 27) = False from eq_false (by decide), show ((26 : Int32) = 28) = False from eq_false (by decide), show ((26 : Int32) ≤ 20) = False from eq_false (by decide), show ((16 : Int32) ≤ 26) = True from eq_true (by decide), show ((25 : Int32) ≤ 26) = True from eq_true (by decide), bq_11_5_25, bq_4_0_7, bq_9_9_12, bq_4_4_6, bq_6_6_5, bq_8_7_3, bq_5_5_2, bq_5_4_11, bq_9_6_7, bq_2_2_6, bq_3_3_5, bq_5_3_10, bq_5_5_12, bq_4_2_4, bq_7_6_2, bq_5_2_9, bq_7_6_7, sJ_R, sB_R, sX_R, jB_R, tB_R, e1, SR_12 h1, b1, e2, SR_12 h2, e3, SR_12 h3z, w1]
  refine ⟨_, rfl, fun u => absurd trivial u, fun _ => ⟨wv, ms, dv, rn, plo2 zz (w2 _) ?_⟩⟩
  simp only [RGB_0, or_0, RGB_s44, RGB_s80, RGB_r110, rgb_110, lbo_80, vto_80]
  try simp only [Int32.or_assoc]
  try simp only [Int32.or_comm, or_lc]
  try simp only [Int32.or_assoc, Int32.or_comm, or_lc]
theorem shp_27 {n L e : Nat} {c : Nat → Nat} {BC B : St} {X : Nat → Nat} {nL st cu : Nat} (hV : RV n L e c BC B X nL cu) {ct : Nat} {gr : Bool} {PA BY OU : Nat → Int32} (hY : PY PA cu st) {p : Nat} {S : St} (h : SR B ct gr PA BY OU 0 p S) (hw : OKW B (ct + 2)) (w : Int32) {f p2 : Nat} {rs : List Nat} {m : Nat} {P : Nat → Tp} (h0 : ¬ f = 0 → sI B 15 = 0) (hTr : Tr n L e c BC [110] p f p2 rs m P) : ∃ S' : St, df_X13_shorts n 27 w S = some S' ∧ (¬ f = 0 → FL e B (nI f + 16 * sI B 13) S') ∧ (f = 0 → PLO e B ct gr PA BY OU p2 0 (by2 (w ||| RGB [110] rs)) S') := by
  have hT := hV.1
  have hl := hV.2.2.2.2.2.2.2
  obtain ⟨q1, p1, κ1, τ1, v1, x1, T1, hTr⟩ := hTr
  rw [if_neg (by decide), if_pos (by decide)] at hTr
  rcases hTr with ⟨g1, r1, rs1, rfl, hTr⟩ | hF
  rotate_left
  · have nf : ¬ f = 0 := by rcases hF with hF | hF <;> omega
    by_cases gy : tkG c τ1 q1 p1 < 32
    · have hf3 : f = 3 ∧ tkG c τ1 q1 p1 = 0 := by
        rcases hF with hF | ⟨hF | hF, hF2⟩
        · omega
        · omega
        · refine ⟨hF2, Classical.byContradiction fun z => ?_⟩
          have := hF.2
          unfold rfit at this
          simp at this
          exact z this
      obtain ⟨S1, e1, g1⟩ := tak_y hT h T1 gy
      rw [hf3.2] at e1
      obtain ⟨S1b, b1, c1⟩ := not_n (n := n) g1 (nI 0)
      have b1 : df_X13_not n (nI 0) 0 S1 = some (nI 0, S1b) := b1
      have fl : FL e B (nI 3 + 16 * sI B 13) S1b := ⟨_, _, _, _, _, _, T1.2.2.2.2.1, c1⟩
      have ne : ¬ nI 3 + 16 * sI B 13 = 0 := flt_n hl 3 (by omega)
      have f12 := (FL_f fl).1
      rw [hf3.1] at nf h0 ⊢
      obtain ⟨W, w1, w2⟩ := hal_G (n := n) fl (m0_3 (h0 nf))
      simp only [df_X13_shorts_341, df_X13_shorts_287, df_X13_shorts_221, df_X13_shorts_206, df_X13_shorts_195, df_X13_shorts_156, df_X13_shorts_140, df_X13_shorts_135, df_X13_shorts_139, df_X13_shorts_0, df_X13_shorts, df_X13_smalls_306, df_X13_smalls_126, df_X13_smalls_110, df_X13_smalls_109, df_X13_smalls_0, df_X13_smalls, df_X13_plainSix_21, df_X13_plainSix_0, df_X13_plainSix, df_X13_stacked_84, df_X13_stacked_0, df_X13_stacked, nb_b2, nb_b1, nb_let, eq_self, if_true, if_false, ↓reduceIte, show ((1 : Int32) = 0) = False from eq_false (by decide), show ((27 : Int32) < 16) = False from eq_false (by decide), show ((27 : Int32) = 0) = False from eq_false (by decide), show ((27 : Int32) = 13) = False from eq_false (by decide), show ((27 : Int32) = 17) = False from eq_false (by decide), show ((27 : Int32) = 18) = False from eq_false (by decide), show ((27 : Int32) = 19) = False from eq_false (by decide), show ((27 : Int32) = 20) = False from eq_false (by decide), show ((27 : Int32) = 21) = False from eq_false (by decide), show ((27 : Int32) = 22) = False from eq_false (by decide), show ((27 : Int32) = 23) = False from eq_false (by decide), show ((27 : Int32) = 25) = False from eq_false (by decide), show ((27 : Int32) = 26) = False from eq_false (by decide), show ((27 : Int32) = 28) = False from eq_false (by decide), show ((27 : Int32) ≤ 20) = False from eq_false (by decide), show ((16 : Int32) ≤ 27) = True from eq_true (by decide), show ((25 : Int32) ≤ 27) = True from eq_true (by decide), bq_11_5_25, bq_4_0_7, bq_9_9_12, bq_4_4_6, bq_6_6_5, bq_8_7_3, bq_5_5_2, bq_5_4_11, bq_9_6_7, bq_2_2_6, bq_3_3_5, bq_5_3_10, bq_5_5_12, bq_4_2_4, bq_7_6_2, bq_5_2_9, bq_7_6_7, sJ_R, sB_R, sX_R, jB_R, tB_R, e1, b1, f12, eq_false ne, w1]
      exact ⟨_, rfl, fun _ => w2 _, fun u => absurd u nf⟩
    · have hF2 : (tkG c τ1 q1 p1 = 33 ∧ f = 1) ∨ (tkG c τ1 q1 p1 = 32 ∧ f = 3) := by
        rcases hF with hF | ⟨hF | hF, hF2⟩
        · exact Or.inl hF
        · exact Or.inr ⟨hF, hF2⟩
        · exact absurd hF.1 gy
      obtain ⟨S1, e1, g1⟩ := tak_n hT h T1 gy
      have ne := f13 hl (g := tkG c τ1 q1 p1)
      rw [f13e hF2] at g1 ne
      have fl := FN_L g1
      have f12 := (FL_f fl).1
      have b1 := not_F (n := n) fl ne 0 0
      obtain ⟨W, w1, w2⟩ := hal_G (n := n) fl (m0_3 (h0 nf))
      simp only [df_X13_shorts_341, df_X13_shorts_287, df_X13_shorts_221, df_X13_shorts_206, df_X13_shorts_195, df_X13_shorts_156, df_X13_shorts_140, df_X13_shorts_135, df_X13_shorts_139, df_X13_shorts_0, df_X13_shorts, df_X13_smalls_306, df_X13_smalls_126, df_X13_smalls_110, df_X13_smalls_109, df_X13_smalls_0, df_X13_smalls, df_X13_plainSix_21, df_X13_plainSix_0, df_X13_plainSix, df_X13_stacked_84, df_X13_stacked_0, df_X13_stacked, nb_b2, nb_b1, nb_let, eq_self, if_true, if_false, ↓reduceIte, show ((1 : Int32) = 0) = False from eq_false (by decide), show ((27 : Int32) < 16) = False from eq_false (by decide), show ((27 : Int32) = 0) = False from eq_false (by decide), show ((27 : Int32) = 13) = False from eq_false (by decide), show ((27 : Int32) = 17) = False from eq_false (by decide), show ((27 : Int32) = 18) = False from eq_false (by decide), show ((27 : Int32) = 19) = False from eq_false (by decide), show ((27 : Int32) = 20) = False from eq_false (by decide), show ((27 : Int32) = 21) = False from eq_false (by decide), show ((27 : Int32) = 22) = False from eq_false (by decide), show ((27 : Int32) = 23) = False from eq_false (by decide), show ((27 : Int32) = 25) = False from eq_false (by decide), show ((27 : Int32) = 26) = False from eq_false (by decide), show ((27 : Int32) = 28) = False from eq_false (by decide), show ((27 : Int32) ≤ 20) = False from eq_false (by decide), show ((16 : Int32) ≤ 27) = True from eq_true (by decide), show ((25 : Int32) ≤ 27) = True from eq_true (by decide), bq_11_5_25, bq_4_0_7, bq_9_9_12, bq_4_4_6, bq_6_6_5, bq_8_7_3, bq_5_5_2, bq_5_4_11, bq_9_6_7, bq_2_2_6, bq_3_3_5, bq_5_3_10, bq_5_5_12, bq_4_2_4, bq_7_6_2, bq_5_2_9, bq_7_6_7, sJ_R, sB_R, sX_R, jB_R, tB_R, e1, b1, f12, eq_false ne, w1]
      exact ⟨_, rfl, fun _ => w2 _, fun u => absurd u nf⟩
  obtain ⟨S1, e1, h1⟩ := tak_y hT h T1 g1
  have b1 : df_X13_not n (nI (tkG c τ1 q1 p1)) 0 S1 = some (nI (tkG c τ1 q1 p1), S1) := not_y (show ¬ nI (tkG c τ1 q1 p1) = nI 0 from zne (by unfold rfit at r1; simp at r1; exact r1) (by omega) (by omega))
  obtain ⟨rfl, rfl, rfl⟩ := hTr
  obtain ⟨W, w1, w2⟩ := hal_H (n := n) h1 (OKW_m hw (by omega))
  simp only [df_X13_shorts_341, df_X13_shorts_287, df_X13_shorts_221, df_X13_shorts_206, df_X13_shorts_195, df_X13_shorts_156, df_X13_shorts_140, df_X13_shorts_135, df_X13_shorts_139, df_X13_shorts_0, df_X13_shorts, df_X13_smalls_306, df_X13_smalls_126, df_X13_smalls_110, df_X13_smalls_109, df_X13_smalls_0, df_X13_smalls, df_X13_plainSix_21, df_X13_plainSix_0, df_X13_plainSix, df_X13_stacked_84, df_X13_stacked_0, df_X13_stacked, nb_b2, nb_b1, nb_let, eq_self, if_true, if_false, ↓reduceIte, show ((1 : Int32) = 0) = False from eq_false (by decide), show ((27 : Int32) < 16) = False from eq_false (by decide), show ((27 : Int32) = 0) = False from eq_false (by decide), show ((27 : Int32) = 13) = False from eq_false (by decide), show ((27 : Int32) = 17) = False from eq_false (by decide), show ((27 : Int32) = 18) = False from eq_false (by decide), show ((27 : Int32) = 19) = False from eq_false (by decide), show ((27 : Int32) = 20) = False from eq_false (by decide), show ((27 : Int32) = 21) = False from eq_false (by decide), show ((27 : Int32) = 22) = False from eq_false (by decide), show ((27 : Int32) = 23) = False from eq_false (by decide), show ((27 : Int32) = 25) = False from eq_false (by decide), show ((27 : Int32) = 26) = False from eq_false (by decide), show ((27 : Int32) = 28) = False from eq_false (by decide), show ((27 : Int32) ≤ 20) = False from eq_false (by decide), show ((16 : Int32) ≤ 27) = True from eq_true (by decide), show ((25 : Int32) ≤ 27) = True from eq_true (by decide), bq_11_5_25, bq_4_0_7, bq_9_9_12, bq_4_4_6, bq_6_6_5, bq_8_7_3, bq_5_5_2, bq_5_4_11, bq_9_6_7, bq_2_2_6, bq_3_3_5, bq_5_3_10, bq_5_5_12, bq_4_2_4, bq_7_6_2, bq_5_2_9, bq_7_6_7, sJ_R, sB_R, sX_R, jB_R, tB_R, e1, SR_12 h1, b1, w1]
  refine ⟨_, rfl, fun u => absurd trivial u, fun _ => plo2 rfl (w2 _) ?_⟩
  simp only [RGB_0, or_0, RGB_r110, rgb_110]
  try simp only [Int32.or_assoc]
  try simp only [Int32.or_comm, or_lc]
  try simp only [Int32.or_assoc, Int32.or_comm, or_lc]
theorem shp_28 {n L e : Nat} {c : Nat → Nat} {BC B : St} {X : Nat → Nat} {nL st cu : Nat} (hV : RV n L e c BC B X nL cu) {ct : Nat} {gr : Bool} {PA BY OU : Nat → Int32} (hY : PY PA cu st) {p : Nat} {S : St} (h : SR B ct gr PA BY OU 0 p S) (hw : OKW B (ct + 2)) (w : Int32) {f p2 : Nat} {rs : List Nat} {m : Nat} {P : Nat → Tp} (h0 : ¬ f = 0 → sI B 15 = 0) (hTr : Tr n L e c BC [100, 44, 122] p f p2 rs m P) : ∃ S' : St, df_X13_shorts n 28 w S = some S' ∧ (¬ f = 0 → FL e B (nI f + 16 * sI B 13) S') ∧ (f = 0 → PLO e B ct gr PA BY OU p2 0 (by2 (w ||| RGB [100, 44, 122] rs)) S') := by
  have hT := hV.1
  have hl := hV.2.2.2.2.2.2.2
  obtain ⟨q1, p1, κ1, τ1, v1, x1, T1, hTr⟩ := hTr
  rw [if_neg (by decide), if_pos (by decide)] at hTr
  rcases hTr with ⟨g1, r1, rs1, rfl, hTr⟩ | hF
  rotate_left
  · have nf : ¬ f = 0 := by rcases hF with hF | hF <;> omega
    have hF2 : (tkG c τ1 q1 p1 = 33 ∧ f = 1) ∨ (tkG c τ1 q1 p1 = 32 ∧ f = 3) := by
      rcases hF with hF | ⟨hF | hF, hF2⟩
      · exact Or.inl hF
      · exact Or.inr ⟨hF, hF2⟩
      · exact absurd hF.2 (by unfold rfit; simp)
    obtain ⟨S1, e1, g1⟩ := tak_n hT h T1 (by omega)
    have ne := f13 hl (g := tkG c τ1 q1 p1)
    rw [f13e hF2] at g1 ne
    have fl := FN_L g1
    have f12 := (FL_f fl).1
    have ec := com_F (n := n) fl ne
    simp only [df_X13_shorts_341, df_X13_shorts_287, df_X13_shorts_221, df_X13_shorts_206, df_X13_shorts_195, df_X13_shorts_156, df_X13_shorts_140, df_X13_shorts_135, df_X13_shorts_139, df_X13_shorts_0, df_X13_shorts, df_X13_smalls_306, df_X13_smalls_126, df_X13_smalls_110, df_X13_smalls_109, df_X13_smalls_0, df_X13_smalls, df_X13_plainSix_21, df_X13_plainSix_0, df_X13_plainSix, df_X13_stacked_84, df_X13_stacked_0, df_X13_stacked, nb_b2, nb_b1, nb_let, eq_self, if_true, if_false, ↓reduceIte, show ((1 : Int32) = 0) = False from eq_false (by decide), show ((28 : Int32) < 16) = False from eq_false (by decide), show ((28 : Int32) = 0) = False from eq_false (by decide), show ((28 : Int32) = 13) = False from eq_false (by decide), show ((28 : Int32) = 17) = False from eq_false (by decide), show ((28 : Int32) = 18) = False from eq_false (by decide), show ((28 : Int32) = 19) = False from eq_false (by decide), show ((28 : Int32) = 20) = False from eq_false (by decide), show ((28 : Int32) = 21) = False from eq_false (by decide), show ((28 : Int32) = 22) = False from eq_false (by decide), show ((28 : Int32) = 23) = False from eq_false (by decide), show ((28 : Int32) = 25) = False from eq_false (by decide), show ((28 : Int32) = 26) = False from eq_false (by decide), show ((28 : Int32) = 27) = False from eq_false (by decide), show ((28 : Int32) ≤ 20) = False from eq_false (by decide), show ((16 : Int32) ≤ 28) = True from eq_true (by decide), show ((25 : Int32) ≤ 28) = True from eq_true (by decide), bq_11_5_25, bq_4_0_7, bq_9_9_12, bq_4_4_6, bq_6_6_5, bq_8_7_3, bq_5_5_2, bq_5_4_11, bq_9_6_7, bq_2_2_6, bq_3_3_5, bq_5_3_10, bq_5_5_12, bq_4_2_4, bq_7_6_2, bq_5_2_9, bq_7_6_7, sJ_R, sB_R, sX_R, jB_R, tB_R, e1, f12, eq_false ne, ec]
    exact ⟨_, rfl, fun _ => fl, fun u => absurd u nf⟩
  obtain ⟨S1, e1, h1⟩ := tak_y hT h T1 g1
  obtain ⟨q2, p2, κ2, τ2, v2, x2, T2, hTr⟩ := hTr
  rw [if_pos (by decide)] at hTr
  rcases hTr with ⟨g2, hTr⟩ | hF
  rotate_left
  · have nf : ¬ f = 0 := by omega
    obtain ⟨S2, e2, g2⟩ := com_n hT h1 T2 hF.1
    rw [hF.2] at nf h0 ⊢
    have fl : FL e B (nI 1 + 16 * sI B 13) S2 := FN_L g2
    have ne : ¬ nI 1 + 16 * sI B 13 = 0 := flt_n hl 1 (by omega)
    have f12 := (FL_f fl).1
    simp only [df_X13_shorts_341, df_X13_shorts_287, df_X13_shorts_221, df_X13_shorts_206, df_X13_shorts_195, df_X13_shorts_156, df_X13_shorts_140, df_X13_shorts_135, df_X13_shorts_139, df_X13_shorts_0, df_X13_shorts, df_X13_smalls_306, df_X13_smalls_126, df_X13_smalls_110, df_X13_smalls_109, df_X13_smalls_0, df_X13_smalls, df_X13_plainSix_21, df_X13_plainSix_0, df_X13_plainSix, df_X13_stacked_84, df_X13_stacked_0, df_X13_stacked, nb_b2, nb_b1, nb_let, eq_self, if_true, if_false, ↓reduceIte, show ((1 : Int32) = 0) = False from eq_false (by decide), show ((28 : Int32) < 16) = False from eq_false (by decide), show ((28 : Int32) = 0) = False from eq_false (by decide), show ((28 : Int32) = 13) = False from eq_false (by decide), show ((28 : Int32) = 17) = False from eq_false (by decide), show ((28 : Int32) = 18) = False from eq_false (by decide), show ((28 : Int32) = 19) = False from eq_false (by decide), show ((28 : Int32) = 20) = False from eq_false (by decide), show ((28 : Int32) = 21) = False from eq_false (by decide), show ((28 : Int32) = 22) = False from eq_false (by decide), show ((28 : Int32) = 23) = False from eq_false (by decide), show ((28 : Int32) = 25) = False from eq_false (by decide), show ((28 : Int32) = 26) = False from eq_false (by decide), show ((28 : Int32) = 27) = False from eq_false (by decide), show ((28 : Int32) ≤ 20) = False from eq_false (by decide), show ((16 : Int32) ≤ 28) = True from eq_true (by decide), show ((25 : Int32) ≤ 28) = True from eq_true (by decide), bq_11_5_25, bq_4_0_7, bq_9_9_12, bq_4_4_6, bq_6_6_5, bq_8_7_3, bq_5_5_2, bq_5_4_11, bq_9_6_7, bq_2_2_6, bq_3_3_5, bq_5_3_10, bq_5_5_12, bq_4_2_4, bq_7_6_2, bq_5_2_9, bq_7_6_7, sJ_R, sB_R, sX_R, jB_R, tB_R, e1, SR_12 h1, e2, f12, eq_false ne]
    exact ⟨_, rfl, fun _ => fl, fun u => absurd u nf⟩
  obtain ⟨S2, e2, h2⟩ := com_y hT h1 T2 g2
  obtain ⟨q3, p3, κ3, τ3, v3, x3, T3, hTr⟩ := hTr
  rw [if_neg (by decide), if_pos (by decide)] at hTr
  rcases hTr with ⟨g3, r3, rs3, rfl, hTr⟩ | hF
  rotate_left
  · have nf : ¬ f = 0 := by rcases hF with hF | hF <;> omega
    by_cases gy : tkG c τ3 q3 p3 < 32
    · have hf3 : f = 3 ∧ tkG c τ3 q3 p3 = 0 := by
        rcases hF with hF | ⟨hF | hF, hF2⟩
        · omega
        · omega
        · refine ⟨hF2, Classical.byContradiction fun z => ?_⟩
          have := hF.2
          unfold rfit at this
          simp at this
          exact z this
      obtain ⟨S3, e3, g3⟩ := tak_y hT h2 T3 gy
      rw [hf3.2] at e3
      obtain ⟨S3b, b3, c3⟩ := not_n (n := n) g3 (nI 0)
      have b3 : df_X13_not n (nI 0) 0 S3 = some (nI 0, S3b) := b3
      have fl : FL e B (nI 3 + 16 * sI B 13) S3b := ⟨_, _, _, _, _, _, T3.2.2.2.2.1, c3⟩
      have ne : ¬ nI 3 + 16 * sI B 13 = 0 := flt_n hl 3 (by omega)
      have f12 := (FL_f fl).1
      rw [hf3.1] at nf h0 ⊢
      obtain ⟨W, w1, w2⟩ := hal_G (n := n) fl (m0_3 (h0 nf))
      simp only [df_X13_shorts_341, df_X13_shorts_287, df_X13_shorts_221, df_X13_shorts_206, df_X13_shorts_195, df_X13_shorts_156, df_X13_shorts_140, df_X13_shorts_135, df_X13_shorts_139, df_X13_shorts_0, df_X13_shorts, df_X13_smalls_306, df_X13_smalls_126, df_X13_smalls_110, df_X13_smalls_109, df_X13_smalls_0, df_X13_smalls, df_X13_plainSix_21, df_X13_plainSix_0, df_X13_plainSix, df_X13_stacked_84, df_X13_stacked_0, df_X13_stacked, nb_b2, nb_b1, nb_let, eq_self, if_true, if_false, ↓reduceIte, show ((1 : Int32) = 0) = False from eq_false (by decide), show ((28 : Int32) < 16) = False from eq_false (by decide), show ((28 : Int32) = 0) = False from eq_false (by decide), show ((28 : Int32) = 13) = False from eq_false (by decide), show ((28 : Int32) = 17) = False from eq_false (by decide), show ((28 : Int32) = 18) = False from eq_false (by decide), show ((28 : Int32) = 19) = False from eq_false (by decide), show ((28 : Int32) = 20) = False from eq_false (by decide), show ((28 : Int32) = 21) = False from eq_false (by decide), show ((28 : Int32) = 22) = False from eq_false (by decide), show ((28 : Int32) = 23) = False from eq_false (by decide), show ((28 : Int32) = 25) = False from eq_false (by decide), show ((28 : Int32) = 26) = False from eq_false (by decide), show ((28 : Int32) = 27) = False from eq_false (by decide), show ((28 : Int32) ≤ 20) = False from eq_false (by decide), show ((16 : Int32) ≤ 28) = True from eq_true (by decide), show ((25 : Int32) ≤ 28) = True from eq_true (by decide), bq_11_5_25, bq_4_0_7, bq_9_9_12, bq_4_4_6, bq_6_6_5, bq_8_7_3, bq_5_5_2, bq_5_4_11, bq_9_6_7, bq_2_2_6, bq_3_3_5, bq_5_3_10, bq_5_5_12, bq_4_2_4, bq_7_6_2, bq_5_2_9, bq_7_6_7, sJ_R, sB_R, sX_R, jB_R, tB_R, e1, SR_12 h1, e2, SR_12 h2, e3, b3, f12, eq_false ne, w1]
      exact ⟨_, rfl, fun _ => w2 _, fun u => absurd u nf⟩
    · have hF2 : (tkG c τ3 q3 p3 = 33 ∧ f = 1) ∨ (tkG c τ3 q3 p3 = 32 ∧ f = 3) := by
        rcases hF with hF | ⟨hF | hF, hF2⟩
        · exact Or.inl hF
        · exact Or.inr ⟨hF, hF2⟩
        · exact absurd hF.1 gy
      obtain ⟨S3, e3, g3⟩ := tak_n hT h2 T3 gy
      have ne := f13 hl (g := tkG c τ3 q3 p3)
      rw [f13e hF2] at g3 ne
      have fl := FN_L g3
      have f12 := (FL_f fl).1
      have b3 := not_F (n := n) fl ne 0 0
      obtain ⟨W, w1, w2⟩ := hal_G (n := n) fl (m0_3 (h0 nf))
      simp only [df_X13_shorts_341, df_X13_shorts_287, df_X13_shorts_221, df_X13_shorts_206, df_X13_shorts_195, df_X13_shorts_156, df_X13_shorts_140, df_X13_shorts_135, df_X13_shorts_139, df_X13_shorts_0, df_X13_shorts, df_X13_smalls_306, df_X13_smalls_126, df_X13_smalls_110, df_X13_smalls_109, df_X13_smalls_0, df_X13_smalls, df_X13_plainSix_21, df_X13_plainSix_0, df_X13_plainSix, df_X13_stacked_84, df_X13_stacked_0, df_X13_stacked, nb_b2, nb_b1, nb_let, eq_self, if_true, if_false, ↓reduceIte, show ((1 : Int32) = 0) = False from eq_false (by decide), show ((28 : Int32) < 16) = False from eq_false (by decide), show ((28 : Int32) = 0) = False from eq_false (by decide), show ((28 : Int32) = 13) = False from eq_false (by decide), show ((28 : Int32) = 17) = False from eq_false (by decide), show ((28 : Int32) = 18) = False from eq_false (by decide), show ((28 : Int32) = 19) = False from eq_false (by decide), show ((28 : Int32) = 20) = False from eq_false (by decide), show ((28 : Int32) = 21) = False from eq_false (by decide), show ((28 : Int32) = 22) = False from eq_false (by decide), show ((28 : Int32) = 23) = False from eq_false (by decide), show ((28 : Int32) = 25) = False from eq_false (by decide), show ((28 : Int32) = 26) = False from eq_false (by decide), show ((28 : Int32) = 27) = False from eq_false (by decide), show ((28 : Int32) ≤ 20) = False from eq_false (by decide), show ((16 : Int32) ≤ 28) = True from eq_true (by decide), show ((25 : Int32) ≤ 28) = True from eq_true (by decide), bq_11_5_25, bq_4_0_7, bq_9_9_12, bq_4_4_6, bq_6_6_5, bq_8_7_3, bq_5_5_2, bq_5_4_11, bq_9_6_7, bq_2_2_6, bq_3_3_5, bq_5_3_10, bq_5_5_12, bq_4_2_4, bq_7_6_2, bq_5_2_9, bq_7_6_7, sJ_R, sB_R, sX_R, jB_R, tB_R, e1, SR_12 h1, e2, SR_12 h2, e3, b3, f12, eq_false ne, w1]
      exact ⟨_, rfl, fun _ => w2 _, fun u => absurd u nf⟩
  obtain ⟨S3, e3, h3⟩ := tak_y hT h2 T3 g3
  have b3 : df_X13_not n (nI (tkG c τ3 q3 p3)) 0 S3 = some (nI (tkG c τ3 q3 p3), S3) := not_y (show ¬ nI (tkG c τ3 q3 p3) = nI 0 from zne (by unfold rfit at r3; simp at r3; exact r3) (by omega) (by omega))
  obtain ⟨rfl, rfl, rfl⟩ := hTr
  obtain ⟨W, w1, w2⟩ := hal_H (n := n) h3 (OKW_m hw (by omega))
  simp only [df_X13_shorts_341, df_X13_shorts_287, df_X13_shorts_221, df_X13_shorts_206, df_X13_shorts_195, df_X13_shorts_156, df_X13_shorts_140, df_X13_shorts_135, df_X13_shorts_139, df_X13_shorts_0, df_X13_shorts, df_X13_smalls_306, df_X13_smalls_126, df_X13_smalls_110, df_X13_smalls_109, df_X13_smalls_0, df_X13_smalls, df_X13_plainSix_21, df_X13_plainSix_0, df_X13_plainSix, df_X13_stacked_84, df_X13_stacked_0, df_X13_stacked, nb_b2, nb_b1, nb_let, eq_self, if_true, if_false, ↓reduceIte, show ((1 : Int32) = 0) = False from eq_false (by decide), show ((28 : Int32) < 16) = False from eq_false (by decide), show ((28 : Int32) = 0) = False from eq_false (by decide), show ((28 : Int32) = 13) = False from eq_false (by decide), show ((28 : Int32) = 17) = False from eq_false (by decide), show ((28 : Int32) = 18) = False from eq_false (by decide), show ((28 : Int32) = 19) = False from eq_false (by decide), show ((28 : Int32) = 20) = False from eq_false (by decide), show ((28 : Int32) = 21) = False from eq_false (by decide), show ((28 : Int32) = 22) = False from eq_false (by decide), show ((28 : Int32) = 23) = False from eq_false (by decide), show ((28 : Int32) = 25) = False from eq_false (by decide), show ((28 : Int32) = 26) = False from eq_false (by decide), show ((28 : Int32) = 27) = False from eq_false (by decide), show ((28 : Int32) ≤ 20) = False from eq_false (by decide), show ((16 : Int32) ≤ 28) = True from eq_true (by decide), show ((25 : Int32) ≤ 28) = True from eq_true (by decide), bq_11_5_25, bq_4_0_7, bq_9_9_12, bq_4_4_6, bq_6_6_5, bq_8_7_3, bq_5_5_2, bq_5_4_11, bq_9_6_7, bq_2_2_6, bq_3_3_5, bq_5_3_10, bq_5_5_12, bq_4_2_4, bq_7_6_2, bq_5_2_9, bq_7_6_7, sJ_R, sB_R, sX_R, jB_R, tB_R, e1, SR_12 h1, e2, SR_12 h2, e3, SR_12 h3, b3, w1]
  refine ⟨_, rfl, fun u => absurd trivial u, fun _ => plo2 rfl (w2 _) ?_⟩
  simp only [RGB_0, or_0, RGB_s44, RGB_r100, RGB_r122, rgb_100, rgb_122]
  try simp only [Int32.or_assoc]
  try simp only [Int32.or_comm, or_lc]
  try simp only [Int32.or_assoc, Int32.or_comm, or_lc]
theorem shp_29 {n L e : Nat} {c : Nat → Nat} {BC B : St} {X : Nat → Nat} {nL st cu : Nat} (hV : RV n L e c BC B X nL cu) {ct : Nat} {gr : Bool} {PA BY OU : Nat → Int32} (hY : PY PA cu st) {p : Nat} {S : St} (h : SR B ct gr PA BY OU 0 p S) (hw : OKW B (ct + 2)) (w : Int32) {f p2 : Nat} {rs : List Nat} {m : Nat} {P : Nat → Tp} (h0 : ¬ f = 0 → sI B 15 = 0) (hTr : Tr n L e c BC [115, 44, 81] p f p2 rs m P) : ∃ S' : St, df_X13_shorts n 29 w S = some S' ∧ (¬ f = 0 → FL e B (nI f + 16 * sI B 13) S') ∧ (f = 0 → ∃ (z : Int32) (ms dv : Bool), rnF (VW c X e nL st B) P m = ([z], ms, dv) ∧ PLO e B ct gr PA BY OU p2 (wiF B ms dv (lfO 81 (vtO 81 (sI B 17) z))) (by2 (w ||| RGB [115, 44, 81] rs ||| lbO 81 (vtO 81 (sI B 17) z))) S') := by
  have hT := hV.1
  have hl := hV.2.2.2.2.2.2.2
  obtain ⟨q1, p1, κ1, τ1, v1, x1, T1, hTr⟩ := hTr
  rw [if_neg (by decide), if_pos (by decide)] at hTr
  rcases hTr with ⟨g1, r1, rs1, rfl, hTr⟩ | hF
  rotate_left
  · have nf : ¬ f = 0 := by rcases hF with hF | hF <;> omega
    have hF2 : (tkG c τ1 q1 p1 = 33 ∧ f = 1) ∨ (tkG c τ1 q1 p1 = 32 ∧ f = 3) := by
      rcases hF with hF | ⟨hF | hF, hF2⟩
      · exact Or.inl hF
      · exact Or.inr ⟨hF, hF2⟩
      · exact absurd hF.2 (by unfold rfit; simp)
    obtain ⟨S1, e1, g1⟩ := tak_n hT h T1 (by omega)
    have ne := f13 hl (g := tkG c τ1 q1 p1)
    rw [f13e hF2] at g1 ne
    have fl := FN_L g1
    have f12 := (FL_f fl).1
    have ec := com_F (n := n) fl ne
    simp only [df_X13_shorts_341, df_X13_shorts_287, df_X13_shorts_221, df_X13_shorts_206, df_X13_shorts_195, df_X13_shorts_156, df_X13_shorts_140, df_X13_shorts_135, df_X13_shorts_139, df_X13_shorts_0, df_X13_shorts, df_X13_smalls_306, df_X13_smalls_126, df_X13_smalls_110, df_X13_smalls_109, df_X13_smalls_0, df_X13_smalls, df_X13_plainSix_21, df_X13_plainSix_0, df_X13_plainSix, df_X13_stacked_84, df_X13_stacked_0, df_X13_stacked, nb_b2, nb_b1, nb_let, eq_self, if_true, if_false, ↓reduceIte, show ((1 : Int32) = 0) = False from eq_false (by decide), show ((29 : Int32) < 16) = False from eq_false (by decide), show ((29 : Int32) = 0) = False from eq_false (by decide), show ((29 : Int32) = 13) = False from eq_false (by decide), show ((29 : Int32) = 17) = False from eq_false (by decide), show ((29 : Int32) = 18) = False from eq_false (by decide), show ((29 : Int32) = 19) = False from eq_false (by decide), show ((29 : Int32) = 20) = False from eq_false (by decide), show ((29 : Int32) = 21) = False from eq_false (by decide), show ((29 : Int32) = 22) = False from eq_false (by decide), show ((29 : Int32) = 23) = False from eq_false (by decide), show ((29 : Int32) = 25) = False from eq_false (by decide), show ((29 : Int32) = 26) = False from eq_false (by decide), show ((29 : Int32) = 27) = False from eq_false (by decide), show ((29 : Int32) = 28) = False from eq_false (by decide), show ((29 : Int32) ≤ 20) = False from eq_false (by decide), show ((16 : Int32) ≤ 29) = True from eq_true (by decide), show ((25 : Int32) ≤ 29) = True from eq_true (by decide), bq_11_5_25, bq_4_0_7, bq_9_9_12, bq_4_4_6, bq_6_6_5, bq_8_7_3, bq_5_5_2, bq_5_4_11, bq_9_6_7, bq_2_2_6, bq_3_3_5, bq_5_3_10, bq_5_5_12, bq_4_2_4, bq_7_6_2, bq_5_2_9, bq_7_6_7, sJ_R, sB_R, sX_R, jB_R, tB_R, e1, f12, eq_false ne, ec]
    exact ⟨_, rfl, fun _ => fl, fun u => absurd u nf⟩
  obtain ⟨S1, e1, h1⟩ := tak_y hT h T1 g1
  obtain ⟨q2, p2, κ2, τ2, v2, x2, T2, hTr⟩ := hTr
  rw [if_pos (by decide)] at hTr
  rcases hTr with ⟨g2, hTr⟩ | hF
  rotate_left
  · have nf : ¬ f = 0 := by omega
    obtain ⟨S2, e2, g2⟩ := com_n hT h1 T2 hF.1
    rw [hF.2] at nf h0 ⊢
    have fl : FL e B (nI 1 + 16 * sI B 13) S2 := FN_L g2
    have ne : ¬ nI 1 + 16 * sI B 13 = 0 := flt_n hl 1 (by omega)
    have f12 := (FL_f fl).1
    simp only [df_X13_shorts_341, df_X13_shorts_287, df_X13_shorts_221, df_X13_shorts_206, df_X13_shorts_195, df_X13_shorts_156, df_X13_shorts_140, df_X13_shorts_135, df_X13_shorts_139, df_X13_shorts_0, df_X13_shorts, df_X13_smalls_306, df_X13_smalls_126, df_X13_smalls_110, df_X13_smalls_109, df_X13_smalls_0, df_X13_smalls, df_X13_plainSix_21, df_X13_plainSix_0, df_X13_plainSix, df_X13_stacked_84, df_X13_stacked_0, df_X13_stacked, nb_b2, nb_b1, nb_let, eq_self, if_true, if_false, ↓reduceIte, show ((1 : Int32) = 0) = False from eq_false (by decide), show ((29 : Int32) < 16) = False from eq_false (by decide), show ((29 : Int32) = 0) = False from eq_false (by decide), show ((29 : Int32) = 13) = False from eq_false (by decide), show ((29 : Int32) = 17) = False from eq_false (by decide), show ((29 : Int32) = 18) = False from eq_false (by decide), show ((29 : Int32) = 19) = False from eq_false (by decide), show ((29 : Int32) = 20) = False from eq_false (by decide), show ((29 : Int32) = 21) = False from eq_false (by decide), show ((29 : Int32) = 22) = False from eq_false (by decide), show ((29 : Int32) = 23) = False from eq_false (by decide), show ((29 : Int32) = 25) = False from eq_false (by decide), show ((29 : Int32) = 26) = False from eq_false (by decide), show ((29 : Int32) = 27) = False from eq_false (by decide), show ((29 : Int32) = 28) = False from eq_false (by decide), show ((29 : Int32) ≤ 20) = False from eq_false (by decide), show ((16 : Int32) ≤ 29) = True from eq_true (by decide), show ((25 : Int32) ≤ 29) = True from eq_true (by decide), bq_11_5_25, bq_4_0_7, bq_9_9_12, bq_4_4_6, bq_6_6_5, bq_8_7_3, bq_5_5_2, bq_5_4_11, bq_9_6_7, bq_2_2_6, bq_3_3_5, bq_5_3_10, bq_5_5_12, bq_4_2_4, bq_7_6_2, bq_5_2_9, bq_7_6_7, sJ_R, sB_R, sX_R, jB_R, tB_R, e1, SR_12 h1, e2, f12, eq_false ne]
    exact ⟨_, rfl, fun _ => fl, fun u => absurd u nf⟩
  obtain ⟨S2, e2, h2⟩ := com_y hT h1 T2 g2
  obtain ⟨q3, p3, κ3, τ3, v3, x3, T3, hTr⟩ := hTr
  rw [if_neg (by decide), if_neg (by decide)] at hTr
  obtain ⟨ok, px, R, hTr⟩ := hTr
  rcases hTr with ⟨rfl, z1, z2, hTr⟩ | ⟨rfl, hF⟩
  rotate_left
  · have nf : ¬ f = 0 := by omega
    have ne : ¬ nI 1 + 16 * sI B 13 = 0 := flt_n hl 1 (by omega)
    obtain ⟨wv, S3, e3, fl⟩ := wit_n hV hY h2 R (0) 252 4 (by decide)
    have f12 : sI S3 12 = nI 1 + 16 * sI B 13 := (FL_f fl).1
    rw [hF] at nf h0 ⊢
    obtain ⟨W, w1, w2⟩ := hal_G (n := n) fl (m0_3 (h0 nf))
    simp only [df_X13_shorts_341, df_X13_shorts_287, df_X13_shorts_221, df_X13_shorts_206, df_X13_shorts_195, df_X13_shorts_156, df_X13_shorts_140, df_X13_shorts_135, df_X13_shorts_139, df_X13_shorts_0, df_X13_shorts, df_X13_smalls_306, df_X13_smalls_126, df_X13_smalls_110, df_X13_smalls_109, df_X13_smalls_0, df_X13_smalls, df_X13_plainSix_21, df_X13_plainSix_0, df_X13_plainSix, df_X13_stacked_84, df_X13_stacked_0, df_X13_stacked, nb_b2, nb_b1, nb_let, eq_self, if_true, if_false, ↓reduceIte, show ((1 : Int32) = 0) = False from eq_false (by decide), show ((29 : Int32) < 16) = False from eq_false (by decide), show ((29 : Int32) = 0) = False from eq_false (by decide), show ((29 : Int32) = 13) = False from eq_false (by decide), show ((29 : Int32) = 17) = False from eq_false (by decide), show ((29 : Int32) = 18) = False from eq_false (by decide), show ((29 : Int32) = 19) = False from eq_false (by decide), show ((29 : Int32) = 20) = False from eq_false (by decide), show ((29 : Int32) = 21) = False from eq_false (by decide), show ((29 : Int32) = 22) = False from eq_false (by decide), show ((29 : Int32) = 23) = False from eq_false (by decide), show ((29 : Int32) = 25) = False from eq_false (by decide), show ((29 : Int32) = 26) = False from eq_false (by decide), show ((29 : Int32) = 27) = False from eq_false (by decide), show ((29 : Int32) = 28) = False from eq_false (by decide), show ((29 : Int32) ≤ 20) = False from eq_false (by decide), show ((16 : Int32) ≤ 29) = True from eq_true (by decide), show ((25 : Int32) ≤ 29) = True from eq_true (by decide), bq_11_5_25, bq_4_0_7, bq_9_9_12, bq_4_4_6, bq_6_6_5, bq_8_7_3, bq_5_5_2, bq_5_4_11, bq_9_6_7, bq_2_2_6, bq_3_3_5, bq_5_3_10, bq_5_5_12, bq_4_2_4, bq_7_6_2, bq_5_2_9, bq_7_6_7, sJ_R, sB_R, sX_R, jB_R, tB_R, e1, SR_12 h1, e2, SR_12 h2, e3, f12, eq_false ne, w1]
    exact ⟨_, rfl, fun _ => w2 _, fun u => absurd u nf⟩
  obtain ⟨wv, S3, ms, dv, e3, rn, h3, hpx⟩ := wit_y hV hY h2 R (0) 252 (k := 4) (by decide)
  have e3 : df_X13_within n (0) 252 4 S2 = some (wv, S3) := e3
  have h3 : SR B ct gr PA BY OU (wiF B ms dv (lfO 81 (vtO 81 (sI B 17) wv))) px S3 := h3
  by_cases zz : wiF B ms dv (lfO 81 (vtO 81 (sI B 17) wv)) = 0
  rotate_left
  · have fl : FL e B _ S3 := ⟨_, _, _, _, _, _, hpx, h3⟩
    have f12 := (FL_f fl).1
    have f0 := f0_2 h0 (wi_2 zz)
    obtain ⟨W, w1, w2⟩ := hal_G (n := n) fl (m2_3 (wi_2 zz))
    simp only [df_X13_shorts_341, df_X13_shorts_287, df_X13_shorts_221, df_X13_shorts_206, df_X13_shorts_195, df_X13_shorts_156, df_X13_shorts_140, df_X13_shorts_135, df_X13_shorts_139, df_X13_shorts_0, df_X13_shorts, df_X13_smalls_306, df_X13_smalls_126, df_X13_smalls_110, df_X13_smalls_109, df_X13_smalls_0, df_X13_smalls, df_X13_plainSix_21, df_X13_plainSix_0, df_X13_plainSix, df_X13_stacked_84, df_X13_stacked_0, df_X13_stacked, nb_b2, nb_b1, nb_let, eq_self, if_true, if_false, ↓reduceIte, show ((1 : Int32) = 0) = False from eq_false (by decide), show ((29 : Int32) < 16) = False from eq_false (by decide), show ((29 : Int32) = 0) = False from eq_false (by decide), show ((29 : Int32) = 13) = False from eq_false (by decide), show ((29 : Int32) = 17) = False from eq_false (by decide), show ((29 : Int32) = 18) = False from eq_false (by decide), show ((29 : Int32) = 19) = False from eq_false (by decide), show ((29 : Int32) = 20) = False from eq_false (by decide), show ((29 : Int32) = 21) = False from eq_false (by decide), show ((29 : Int32) = 22) = False from eq_false (by decide), show ((29 : Int32) = 23) = False from eq_false (by decide), show ((29 : Int32) = 25) = False from eq_false (by decide), show ((29 : Int32) = 26) = False from eq_false (by decide), show ((29 : Int32) = 27) = False from eq_false (by decide), show ((29 : Int32) = 28) = False from eq_false (by decide), show ((29 : Int32) ≤ 20) = False from eq_false (by decide), show ((16 : Int32) ≤ 29) = True from eq_true (by decide), show ((25 : Int32) ≤ 29) = True from eq_true (by decide), bq_11_5_25, bq_4_0_7, bq_9_9_12, bq_4_4_6, bq_6_6_5, bq_8_7_3, bq_5_5_2, bq_5_4_11, bq_9_6_7, bq_2_2_6, bq_3_3_5, bq_5_3_10, bq_5_5_12, bq_4_2_4, bq_7_6_2, bq_5_2_9, bq_7_6_7, sJ_R, sB_R, sX_R, jB_R, tB_R, e1, SR_12 h1, e2, SR_12 h2, e3, f12, eq_false zz, w1]
    exact ⟨_, rfl, fun u => absurd f0 u, fun _ => ⟨wv, ms, dv, rn, fun u => absurd u zz, fun _ => w2 _⟩⟩
  have h3z := h3
  rw [zz] at h3z
  obtain ⟨rfl, rfl, rfl⟩ := hTr
  obtain ⟨W, w1, w2⟩ := hal_H (n := n) h3z (OKW_m hw (by omega))
  simp only [df_X13_shorts_341, df_X13_shorts_287, df_X13_shorts_221, df_X13_shorts_206, df_X13_shorts_195, df_X13_shorts_156, df_X13_shorts_140, df_X13_shorts_135, df_X13_shorts_139, df_X13_shorts_0, df_X13_shorts, df_X13_smalls_306, df_X13_smalls_126, df_X13_smalls_110, df_X13_smalls_109, df_X13_smalls_0, df_X13_smalls, df_X13_plainSix_21, df_X13_plainSix_0, df_X13_plainSix, df_X13_stacked_84, df_X13_stacked_0, df_X13_stacked, nb_b2, nb_b1, nb_let, eq_self, if_true, if_false, ↓reduceIte, show ((1 : Int32) = 0) = False from eq_false (by decide), show ((29 : Int32) < 16) = False from eq_false (by decide), show ((29 : Int32) = 0) = False from eq_false (by decide), show ((29 : Int32) = 13) = False from eq_false (by decide), show ((29 : Int32) = 17) = False from eq_false (by decide), show ((29 : Int32) = 18) = False from eq_false (by decide), show ((29 : Int32) = 19) = False from eq_false (by decide), show ((29 : Int32) = 20) = False from eq_false (by decide), show ((29 : Int32) = 21) = False from eq_false (by decide), show ((29 : Int32) = 22) = False from eq_false (by decide), show ((29 : Int32) = 23) = False from eq_false (by decide), show ((29 : Int32) = 25) = False from eq_false (by decide), show ((29 : Int32) = 26) = False from eq_false (by decide), show ((29 : Int32) = 27) = False from eq_false (by decide), show ((29 : Int32) = 28) = False from eq_false (by decide), show ((29 : Int32) ≤ 20) = False from eq_false (by decide), show ((16 : Int32) ≤ 29) = True from eq_true (by decide), show ((25 : Int32) ≤ 29) = True from eq_true (by decide), bq_11_5_25, bq_4_0_7, bq_9_9_12, bq_4_4_6, bq_6_6_5, bq_8_7_3, bq_5_5_2, bq_5_4_11, bq_9_6_7, bq_2_2_6, bq_3_3_5, bq_5_3_10, bq_5_5_12, bq_4_2_4, bq_7_6_2, bq_5_2_9, bq_7_6_7, sJ_R, sB_R, sX_R, jB_R, tB_R, e1, SR_12 h1, e2, SR_12 h2, e3, SR_12 h3z, w1]
  refine ⟨_, rfl, fun u => absurd trivial u, fun _ => ⟨wv, ms, dv, rn, plo2 zz (w2 _) ?_⟩⟩
  simp only [RGB_0, or_0, RGB_s44, RGB_s81, RGB_r115, rgb_115, lbo_81, vto_81]
  try simp only [Int32.or_assoc]
  try simp only [Int32.or_comm, or_lc]
  try simp only [Int32.or_assoc, Int32.or_comm, or_lc]

