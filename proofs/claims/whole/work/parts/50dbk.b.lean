theorem fb_m {w : Int32} {c : Nat} (hc : ¬ c < 65) : ∀ l : List Nat, mkB w l = true → c ∈ l → fbA c w = true := fun l => by
  induction l with
  | nil => intro _ h; exact absurd h List.not_mem_nil
  | cons x r ih =>
    intro h m
    have h : ((decide (x < 65) || fbA x w) && mkB w r) = true := h
    rw [Bool.and_eq_true] at h
    rcases List.mem_cons.mp m with e | e
    · subst e
      have h1 := h.1
      rw [decide_eq_false hc, Bool.false_or] at h1
      exact h1
    · exact ih h.2 e
theorem nbdC {p : Prop} [Decidable p] (h : (!decide p) = true) : ¬ p := fun z => by
  rw [decide_eq_true z] at h
  exact nomatch h
theorem sxN {n : Nat} {B : St} {L : List Nat} {k l : Nat} {w d a b f : Int32} : df_X18_six n (RS B L k l w d a b f) = some (tvN w, RS B L k l w d a b f) := by
  unfold df_X18_six df_X18_six_0
  rw [show df_X18_part n 2 5 (RS B _ _ _ w _ _ _ _) = some (fpt w 2 5, _) from pt_S (q := 2) (m := 5) (by decide), nb_b2, show df_X18_part n 12 1 (RS B _ _ _ w _ _ _ _) = some (fpt w 12 1, _) from pt_S (q := 12) (m := 1) (by decide), nb_b2]
  rfl
theorem sxM {n : Nat} {B : St} {L : List Nat} {k l : Nat} {w d a b f : Int32} : df_X18_six n (RS B L k l w d a b f) = some (tvM w, RS B L k l w d a b f) := sxN
theorem jmp_S {n : Nat} {B : St} {w d a b f : Int32} {x : Int64} {M : List Nat} (hn10 : 10 < n) (hn20 : 20 < n) (hm : sayL 8 x = some M) (hl : M.length ≤ 8) : df_X18_jump n x (RS B [] 0 0 w d a b f) = some (RS B (M ++ ([32] ++ (tgL (tvK w)))) 1 1 w d a b f) := by
  have mK := nmv_K w
  have lK := de_l mK
  have vK : ((fpt w 3 3) <<< ((1 : Int32) &&& 31)) ||| ((fpt w 11 1) <<< ((4 : Int32) &&& 31)) ||| ((fpt w 2 1) <<< ((5 : Int32) &&& 31)) ||| ((fpt w 7 1) <<< ((6 : Int32) &&& 31)) ||| ((fpt w 6 1) <<< ((7 : Int32) &&& 31)) ||| ((fpt w 9 2) <<< ((8 : Int32) &&& 31)) ||| ((fpt w 8 1) <<< ((10 : Int32) &&& 31)) ||| ((-(fpt w 12 1)) <<< ((11 : Int32) &&& 31)) = tvK w := by
    rw [show ((1 : Int32) &&& 31) = nI 1 from by decide, show ((4 : Int32) &&& 31) = nI 4 from by decide, show ((5 : Int32) &&& 31) = nI 5 from by decide, show ((6 : Int32) &&& 31) = nI 6 from by decide, show ((7 : Int32) &&& 31) = nI 7 from by decide, show ((8 : Int32) &&& 31) = nI 8 from by decide, show ((10 : Int32) &&& 31) = nI 10 from by decide, show ((11 : Int32) &&& 31) = nI 11 from by decide]
    rfl
  unfold df_X18_jump df_X18_jump_0
  rw [nm_S hm hn10 (by (try simp only [List.length_append, List.length_cons, List.length_nil, nxl_0, nxl_s]); omega), nb_b1, show df_X18_part n 3 3 (RS B _ _ _ w _ _ _ _) = some (fpt w 3 3, _) from pt_S (q := 3) (m := 3) (by decide), nb_b2, show df_X18_part n 11 1 (RS B _ _ _ w _ _ _ _) = some (fpt w 11 1, _) from pt_S (q := 11) (m := 1) (by decide), nb_b2, show df_X18_part n 2 1 (RS B _ _ _ w _ _ _ _) = some (fpt w 2 1, _) from pt_S (q := 2) (m := 1) (by decide), nb_b2, show df_X18_part n 7 1 (RS B _ _ _ w _ _ _ _) = some (fpt w 7 1, _) from pt_S (q := 7) (m := 1) (by decide), nb_b2, show df_X18_part n 6 1 (RS B _ _ _ w _ _ _ _) = some (fpt w 6 1, _) from pt_S (q := 6) (m := 1) (by decide), nb_b2, show df_X18_part n 9 2 (RS B _ _ _ w _ _ _ _) = some (fpt w 9 2, _) from pt_S (q := 9) (m := 2) (by decide), nb_b2, show df_X18_part n 8 1 (RS B _ _ _ w _ _ _ _) = some (fpt w 8 1, _) from pt_S (q := 8) (m := 1) (by decide), nb_b2, show df_X18_part n 12 1 (RS B _ _ _ w _ _ _ _) = some (fpt w 12 1, _) from pt_S (q := 12) (m := 1) (by decide), nb_b2, vK, ta_S hn20 mK (by decide) (by (try simp only [List.length_append, List.length_cons, List.length_nil, nxl_0, nxl_s]); omega), nb_b1]
  simp only [List.append_assoc, List.cons_append, List.nil_append, List.append_nil, nxl_0, nxl_s]
theorem rtx_66 {n : Nat} {B : St} {w a0 b0 : Int32} (hn : 30 < n) (hg : ∀ r : Nat, r < 32 → sR B 1 r = rgT r) (hm : MKp 66 w) : ∃ (k : Nat) (d a b f : Int32), df_X18_first n (RS B [] 0 0 w (fpt w 7 5) a0 b0 (fpt w 13 3)) = some (RS B (txL (fun c => tvA c w) 66 w) k 1 w d a b f) := by
  have hw : w &&& nI 4294959107 = nI 0 := hm.2.trans (by decide +kernel)
  have hn10 : 10 < n := by omega
  have hn20 : 20 < n := by omega
  have f3 : fpt w 13 3 = nI 0 := pf_1 hw (by decide) (by decide) (by decide)
  obtain ⟨D, hD, eD⟩ := pt_n (w := w) (k := 7) (m := 5) (by decide) (by decide)
  have hD : D < 32 := hD
  have lD : (regL D).length ≤ 4 := rg_4 ⟨D, hD⟩
  obtain ⟨P, hP, eP⟩ := pt_n (w := w) (k := 2) (m := 3) (by decide) (by decide)
  have bndP : 8 + P < 32 := by have : P < 8 := hP; omega
  have lP : (regL (8 + P)).length ≤ 4 := rg_4 ⟨8 + P, bndP⟩
  have eP8 : (8 : Int32) + fpt w 2 3 = nI (8 + P) := by rw [eP]; exact nI_add 8 P
  have mX := nmv_X w
  have lX := de_l mX
  have vW : ((fpt w 10 3) <<< ((3 : Int32) &&& 31)) ||| ((fpt w 6 1) <<< ((2 : Int32) &&& 31)) ||| ((fpt w 5 1) <<< ((6 : Int32) &&& 31)) = tvW w := by
    rw [show ((3 : Int32) &&& 31) = nI 3 from by decide, show ((2 : Int32) &&& 31) = nI 2 from by decide, show ((6 : Int32) &&& 31) = nI 6 from by decide]
    rfl
  have vX : ((fpt w 11 2) <<< ((4 : Int32) &&& 31)) ||| ((fpt w 7 4) <<< ((6 : Int32) &&& 31)) ||| ((fpt w 6 1) <<< ((2 : Int32) &&& 31)) ||| ((fpt w 5 1) <<< ((3 : Int32) &&& 31)) = tvX w := by
    rw [show ((4 : Int32) &&& 31) = nI 4 from by decide, show ((6 : Int32) &&& 31) = nI 6 from by decide, show ((2 : Int32) &&& 31) = nI 2 from by decide, show ((3 : Int32) &&& 31) = nI 3 from by decide]
    rfl
  have xX0 : ¬ tvX w = 0 := nbdC (fb_m (c := 88) (by decide) _ hm.1 (by decide +kernel))
  have xX : ¬ tvX w ≤ 0 := fun z => by
    have q := bov_X w
    rw [Int32.le_iff_toInt_le, Int32.toInt_zero] at z
    exact xX0 (Int32.toInt_inj.mp (by rw [Int32.toInt_zero]; omega))
  have tx : txL (fun c => tvA c w) 66 w = ([99, 46, 97, 100, 100, 105, 52, 115, 112, 110] ++ ([32] ++ (regL (8 + P) ++ ([44, 32] ++ (decI (tvX w)))))) := by
    unfold txL sfxL
    rw [show strL (ko_w 66) = [99, 46, 97, 100, 100, 105, 52, 115, 112, 110] from by decide +kernel, show strL (ko_f 66) = [112, 44, 88] from by decide +kernel, if_neg (show ¬ (ko_b 66 &&& 127 : Int32) = 47 by decide +kernel)]
    simp only [wrT, oc_44, (show oper 88 (tvA 88 w) = decI (tvX w) from on_1 _ (by decide) (by decide) (by decide)), (show oper 112 (tvA 112 w) = regL (8 + P) from or_1 (by decide) (by decide) (by show nI 8 + fpt w 2 3 = _; rw [eP, nI_add]) bndP), ne_eq, reduceCtorEq, not_false_eq_true, not_true_eq_false, if_true, if_false, ↓reduceIte, List.append_assoc, List.cons_append, List.nil_append, List.append_nil, nxl_0, nxl_s]
  have key : df_X18_first n (RS B [] 0 0 w (nI D) a0 b0 (nI 0)) = some (RS B ([99, 46, 97, 100, 100, 105, 52, 115, 112, 110] ++ ([32] ++ (regL (8 + P) ++ ([44, 32] ++ (decI (tvX w)))))) 2 1 w (nI D) a0 b0 (nI 0)) := by
    unfold df_X18_first df_X18_first_0
    rw [show df_X18_part n 2 3 (RS B _ _ _ w _ _ _ _) = some (fpt w 2 3, _) from pt_S (q := 2) (m := 3) (by decide), nb_b2, nb_let, show df_X18_part n 7 3 (RS B _ _ _ w _ _ _ _) = some (fpt w 7 3, _) from pt_S (q := 7) (m := 3) (by decide), nb_b2, nb_let, show df_X18_part n 11 2 (RS B _ _ _ w _ _ _ _) = some (fpt w 11 2, _) from pt_S (q := 11) (m := 2) (by decide), nb_b2, show df_X18_part n 7 4 (RS B _ _ _ w _ _ _ _) = some (fpt w 7 4, _) from pt_S (q := 7) (m := 4) (by decide), nb_b2, show df_X18_part n 6 1 (RS B _ _ _ w _ _ _ _) = some (fpt w 6 1, _) from pt_S (q := 6) (m := 1) (by decide), nb_b2, show df_X18_part n 5 1 (RS B _ _ _ w _ _ _ _) = some (fpt w 5 1, _) from pt_S (q := 5) (m := 1) (by decide), nb_b2, nb_let, show df_X18_part n 10 3 (RS B _ _ _ w _ _ _ _) = some (fpt w 10 3, _) from pt_S (q := 10) (m := 3) (by decide), nb_b2, show df_X18_part n 6 1 (RS B _ _ _ w _ _ _ _) = some (fpt w 6 1, _) from pt_S (q := 6) (m := 1) (by decide), nb_b2, show df_X18_part n 5 1 (RS B _ _ _ w _ _ _ _) = some (fpt w 5 1, _) from pt_S (q := 5) (m := 1) (by decide), nb_b2, nb_let, RS_7, vX, vW]
    rw [if_pos (by decide), if_neg xX, nw_8301375893052403299 hn10 (by (try simp only [List.length_append, List.length_cons, List.length_nil, nxl_0, nxl_s]); omega), nb_b1, sw_28272 hn10 (by (try simp only [List.length_append, List.length_cons, List.length_nil, nxl_0, nxl_s]); omega), nb_b1, eP8, reg_S hg hn10 bndP (by decide) (by (try simp only [List.length_append, List.length_cons, List.length_nil, nxl_0, nxl_s]); omega), nb_b1, im_S hn20 mX (by decide) (by (try simp only [List.length_append, List.length_cons, List.length_nil, nxl_0, nxl_s]); omega), nb_b1]
    try unfold df_X18_first_180
    simp only [List.append_assoc, List.cons_append, List.nil_append, List.append_nil, nxl_0, nxl_s]
  exact ⟨_, _, _, _, _, by rw [eD, f3, key, tx]⟩
theorem rtx_67 {n : Nat} {B : St} {w a0 b0 : Int32} (hn : 30 < n) (hg : ∀ r : Nat, r < 32 → sR B 1 r = rgT r) (hm : MKp 67 w) : ∃ (k : Nat) (d a b f : Int32), df_X18_first n (RS B [] 0 0 w (fpt w 7 5) a0 b0 (fpt w 13 3)) = some (RS B (txL (fun c => tvA c w) 67 w) k 1 w d a b f) := by
  have hw : w &&& nI 4294959107 = nI 16384 := hm.2.trans (by decide +kernel)
  have hn10 : 10 < n := by omega
  have hn20 : 20 < n := by omega
  have f3 : fpt w 13 3 = nI 2 := pf_1 hw (by decide) (by decide) (by decide)
  obtain ⟨D, hD, eD⟩ := pt_n (w := w) (k := 7) (m := 5) (by decide) (by decide)
  have hD : D < 32 := hD
  have lD : (regL D).length ≤ 4 := rg_4 ⟨D, hD⟩
  obtain ⟨P, hP, eP⟩ := pt_n (w := w) (k := 2) (m := 3) (by decide) (by decide)
  have bndP : 8 + P < 32 := by have : P < 8 := hP; omega
  have lP : (regL (8 + P)).length ≤ 4 := rg_4 ⟨8 + P, bndP⟩
  have eP8 : (8 : Int32) + fpt w 2 3 = nI (8 + P) := by rw [eP]; exact nI_add 8 P
  obtain ⟨R, hR, eR⟩ := pt_n (w := w) (k := 7) (m := 3) (by decide) (by decide)
  have bndR : 8 + R < 32 := by have : R < 8 := hR; omega
  have lR : (regL (8 + R)).length ≤ 4 := rg_4 ⟨8 + R, bndR⟩
  have eR8 : (8 : Int32) + fpt w 7 3 = nI (8 + R) := by rw [eR]; exact nI_add 8 R
  have mW := nmv_W w
  have lW := de_l mW
  have vW : ((fpt w 10 3) <<< ((3 : Int32) &&& 31)) ||| ((fpt w 6 1) <<< ((2 : Int32) &&& 31)) ||| ((fpt w 5 1) <<< ((6 : Int32) &&& 31)) = tvW w := by
    rw [show ((3 : Int32) &&& 31) = nI 3 from by decide, show ((2 : Int32) &&& 31) = nI 2 from by decide, show ((6 : Int32) &&& 31) = nI 6 from by decide]
    rfl
  have vX : ((fpt w 11 2) <<< ((4 : Int32) &&& 31)) ||| ((fpt w 7 4) <<< ((6 : Int32) &&& 31)) ||| ((fpt w 6 1) <<< ((2 : Int32) &&& 31)) ||| ((fpt w 5 1) <<< ((3 : Int32) &&& 31)) = tvX w := by
    rw [show ((4 : Int32) &&& 31) = nI 4 from by decide, show ((6 : Int32) &&& 31) = nI 6 from by decide, show ((2 : Int32) &&& 31) = nI 2 from by decide, show ((3 : Int32) &&& 31) = nI 3 from by decide]
    rfl
  have tx : txL (fun c => tvA c w) 67 w = ([99, 46, 108, 119] ++ ([32] ++ (regL (8 + P) ++ ([44, 32] ++ (decI (tvW w) ++ ([40] ++ (regL (8 + R) ++ ([41])))))))) := by
    unfold txL sfxL
    rw [show strL (ko_w 67) = [99, 46, 108, 119] from by decide +kernel, show strL (ko_f 67) = [112, 44, 87, 40, 113, 41] from by decide +kernel, if_neg (show ¬ (ko_b 67 &&& 127 : Int32) = 47 by decide +kernel)]
    simp only [wrT, oc_40, oc_41, oc_44, (show oper 87 (tvA 87 w) = decI (tvW w) from on_1 _ (by decide) (by decide) (by decide)), (show oper 112 (tvA 112 w) = regL (8 + P) from or_1 (by decide) (by decide) (by show nI 8 + fpt w 2 3 = _; rw [eP, nI_add]) bndP), (show oper 113 (tvA 113 w) = regL (8 + R) from or_1 (by decide) (by decide) (by show nI 8 + fpt w 7 3 = _; rw [eR, nI_add]) bndR), ne_eq, reduceCtorEq, not_false_eq_true, not_true_eq_false, if_true, if_false, ↓reduceIte, List.append_assoc, List.cons_append, List.nil_append, List.append_nil, nxl_0, nxl_s]
  have key : df_X18_first n (RS B [] 0 0 w (nI D) a0 b0 (nI 2)) = some (RS B ([99, 46, 108, 119] ++ ([32] ++ (regL (8 + P) ++ ([44, 32] ++ (decI (tvW w) ++ ([40] ++ (regL (8 + R) ++ ([41])))))))) 2 1 w (nI D) a0 b0 (nI 2)) := by
    unfold df_X18_first df_X18_first_0
    rw [show df_X18_part n 2 3 (RS B _ _ _ w _ _ _ _) = some (fpt w 2 3, _) from pt_S (q := 2) (m := 3) (by decide), nb_b2, nb_let, show df_X18_part n 7 3 (RS B _ _ _ w _ _ _ _) = some (fpt w 7 3, _) from pt_S (q := 7) (m := 3) (by decide), nb_b2, nb_let, show df_X18_part n 11 2 (RS B _ _ _ w _ _ _ _) = some (fpt w 11 2, _) from pt_S (q := 11) (m := 2) (by decide), nb_b2, show df_X18_part n 7 4 (RS B _ _ _ w _ _ _ _) = some (fpt w 7 4, _) from pt_S (q := 7) (m := 4) (by decide), nb_b2, show df_X18_part n 6 1 (RS B _ _ _ w _ _ _ _) = some (fpt w 6 1, _) from pt_S (q := 6) (m := 1) (by decide), nb_b2, show df_X18_part n 5 1 (RS B _ _ _ w _ _ _ _) = some (fpt w 5 1, _) from pt_S (q := 5) (m := 1) (by decide), nb_b2, nb_let, show df_X18_part n 10 3 (RS B _ _ _ w _ _ _ _) = some (fpt w 10 3, _) from pt_S (q := 10) (m := 3) (by decide), nb_b2, show df_X18_part n 6 1 (RS B _ _ _ w _ _ _ _) = some (fpt w 6 1, _) from pt_S (q := 6) (m := 1) (by decide), nb_b2, show df_X18_part n 5 1 (RS B _ _ _ w _ _ _ _) = some (fpt w 5 1, _) from pt_S (q := 5) (m := 1) (by decide), nb_b2, nb_let, RS_7, vX, vW]
    rw [if_neg (by decide)]
    unfold df_X18_first_130
    rw [RS_7, if_pos (by decide)]
    unfold df_X18_first_147
    rw [RS_7, if_pos (by decide)]
    unfold df_X18_first_165
    rw [nw_2003578467 hn10 (by (try simp only [List.length_append, List.length_cons, List.length_nil, nxl_0, nxl_s]); omega), nb_b1, eP8, reg_S hg hn10 bndP (by decide) (by (try simp only [List.length_append, List.length_cons, List.length_nil, nxl_0, nxl_s]); omega), nb_b1, eR8, me_S hg hn20 mW bndR (by decide) (by (try simp only [List.length_append, List.length_cons, List.length_nil, nxl_0, nxl_s]); omega), nb_b1]
    try unfold df_X18_first_180
    simp only [List.append_assoc, List.cons_append, List.nil_append, List.append_nil, nxl_0, nxl_s]
  exact ⟨_, _, _, _, _, by rw [eD, f3, key, tx]⟩
theorem rtx_68 {n : Nat} {B : St} {w a0 b0 : Int32} (hn : 30 < n) (hg : ∀ r : Nat, r < 32 → sR B 1 r = rgT r) (hm : MKp 68 w) : ∃ (k : Nat) (d a b f : Int32), df_X18_first n (RS B [] 0 0 w (fpt w 7 5) a0 b0 (fpt w 13 3)) = some (RS B (txL (fun c => tvA c w) 68 w) k 1 w d a b f) := by
  have hw : w &&& nI 4294959107 = nI 49152 := hm.2.trans (by decide +kernel)
  have hn10 : 10 < n := by omega
  have hn20 : 20 < n := by omega
  have f3 : fpt w 13 3 = nI 6 := pf_1 hw (by decide) (by decide) (by decide)
  obtain ⟨D, hD, eD⟩ := pt_n (w := w) (k := 7) (m := 5) (by decide) (by decide)
  have hD : D < 32 := hD
  have lD : (regL D).length ≤ 4 := rg_4 ⟨D, hD⟩
  obtain ⟨P, hP, eP⟩ := pt_n (w := w) (k := 2) (m := 3) (by decide) (by decide)
  have bndP : 8 + P < 32 := by have : P < 8 := hP; omega
  have lP : (regL (8 + P)).length ≤ 4 := rg_4 ⟨8 + P, bndP⟩
  have eP8 : (8 : Int32) + fpt w 2 3 = nI (8 + P) := by rw [eP]; exact nI_add 8 P
  obtain ⟨R, hR, eR⟩ := pt_n (w := w) (k := 7) (m := 3) (by decide) (by decide)
  have bndR : 8 + R < 32 := by have : R < 8 := hR; omega
  have lR : (regL (8 + R)).length ≤ 4 := rg_4 ⟨8 + R, bndR⟩
  have eR8 : (8 : Int32) + fpt w 7 3 = nI (8 + R) := by rw [eR]; exact nI_add 8 R
  have mW := nmv_W w
  have lW := de_l mW
  have vW : ((fpt w 10 3) <<< ((3 : Int32) &&& 31)) ||| ((fpt w 6 1) <<< ((2 : Int32) &&& 31)) ||| ((fpt w 5 1) <<< ((6 : Int32) &&& 31)) = tvW w := by
    rw [show ((3 : Int32) &&& 31) = nI 3 from by decide, show ((2 : Int32) &&& 31) = nI 2 from by decide, show ((6 : Int32) &&& 31) = nI 6 from by decide]
    rfl
  have vX : ((fpt w 11 2) <<< ((4 : Int32) &&& 31)) ||| ((fpt w 7 4) <<< ((6 : Int32) &&& 31)) ||| ((fpt w 6 1) <<< ((2 : Int32) &&& 31)) ||| ((fpt w 5 1) <<< ((3 : Int32) &&& 31)) = tvX w := by
    rw [show ((4 : Int32) &&& 31) = nI 4 from by decide, show ((6 : Int32) &&& 31) = nI 6 from by decide, show ((2 : Int32) &&& 31) = nI 2 from by decide, show ((3 : Int32) &&& 31) = nI 3 from by decide]
    rfl
  have tx : txL (fun c => tvA c w) 68 w = ([99, 46, 115, 119] ++ ([32] ++ (regL (8 + P) ++ ([44, 32] ++ (decI (tvW w) ++ ([40] ++ (regL (8 + R) ++ ([41])))))))) := by
    unfold txL sfxL
    rw [show strL (ko_w 68) = [99, 46, 115, 119] from by decide +kernel, show strL (ko_f 68) = [112, 44, 87, 40, 113, 41] from by decide +kernel, if_neg (show ¬ (ko_b 68 &&& 127 : Int32) = 47 by decide +kernel)]
    simp only [wrT, oc_40, oc_41, oc_44, (show oper 87 (tvA 87 w) = decI (tvW w) from on_1 _ (by decide) (by decide) (by decide)), (show oper 112 (tvA 112 w) = regL (8 + P) from or_1 (by decide) (by decide) (by show nI 8 + fpt w 2 3 = _; rw [eP, nI_add]) bndP), (show oper 113 (tvA 113 w) = regL (8 + R) from or_1 (by decide) (by decide) (by show nI 8 + fpt w 7 3 = _; rw [eR, nI_add]) bndR), ne_eq, reduceCtorEq, not_false_eq_true, not_true_eq_false, if_true, if_false, ↓reduceIte, List.append_assoc, List.cons_append, List.nil_append, List.append_nil, nxl_0, nxl_s]
  have key : df_X18_first n (RS B [] 0 0 w (nI D) a0 b0 (nI 6)) = some (RS B ([99, 46, 115, 119] ++ ([32] ++ (regL (8 + P) ++ ([44, 32] ++ (decI (tvW w) ++ ([40] ++ (regL (8 + R) ++ ([41])))))))) 2 1 w (nI D) a0 b0 (nI 6)) := by
    unfold df_X18_first df_X18_first_0
    rw [show df_X18_part n 2 3 (RS B _ _ _ w _ _ _ _) = some (fpt w 2 3, _) from pt_S (q := 2) (m := 3) (by decide), nb_b2, nb_let, show df_X18_part n 7 3 (RS B _ _ _ w _ _ _ _) = some (fpt w 7 3, _) from pt_S (q := 7) (m := 3) (by decide), nb_b2, nb_let, show df_X18_part n 11 2 (RS B _ _ _ w _ _ _ _) = some (fpt w 11 2, _) from pt_S (q := 11) (m := 2) (by decide), nb_b2, show df_X18_part n 7 4 (RS B _ _ _ w _ _ _ _) = some (fpt w 7 4, _) from pt_S (q := 7) (m := 4) (by decide), nb_b2, show df_X18_part n 6 1 (RS B _ _ _ w _ _ _ _) = some (fpt w 6 1, _) from pt_S (q := 6) (m := 1) (by decide), nb_b2, show df_X18_part n 5 1 (RS B _ _ _ w _ _ _ _) = some (fpt w 5 1, _) from pt_S (q := 5) (m := 1) (by decide), nb_b2, nb_let, show df_X18_part n 10 3 (RS B _ _ _ w _ _ _ _) = some (fpt w 10 3, _) from pt_S (q := 10) (m := 3) (by decide), nb_b2, show df_X18_part n 6 1 (RS B _ _ _ w _ _ _ _) = some (fpt w 6 1, _) from pt_S (q := 6) (m := 1) (by decide), nb_b2, show df_X18_part n 5 1 (RS B _ _ _ w _ _ _ _) = some (fpt w 5 1, _) from pt_S (q := 5) (m := 1) (by decide), nb_b2, nb_let, RS_7, vX, vW]
    rw [if_neg (by decide)]
    unfold df_X18_first_130
    rw [RS_7, if_neg (by decide), if_pos (by decide)]
    unfold df_X18_first_147
    rw [RS_7, if_neg (by decide)]
    unfold df_X18_first_165
    rw [nw_2004037219 hn10 (by (try simp only [List.length_append, List.length_cons, List.length_nil, nxl_0, nxl_s]); omega), nb_b1, eP8, reg_S hg hn10 bndP (by decide) (by (try simp only [List.length_append, List.length_cons, List.length_nil, nxl_0, nxl_s]); omega), nb_b1, eR8, me_S hg hn20 mW bndR (by decide) (by (try simp only [List.length_append, List.length_cons, List.length_nil, nxl_0, nxl_s]); omega), nb_b1]
    try unfold df_X18_first_180
    simp only [List.append_assoc, List.cons_append, List.nil_append, List.append_nil, nxl_0, nxl_s]
  exact ⟨_, _, _, _, _, by rw [eD, f3, key, tx]⟩
theorem rtx_69 {n : Nat} {B : St} {w a0 b0 : Int32} (hn : 30 < n) (hg : ∀ r : Nat, r < 32 → sR B 1 r = rgT r) (hm : MKp 69 w) : ∃ (k : Nat) (d a b f : Int32), df_X18_second n (RS B [] 0 0 w (fpt w 7 5) a0 b0 (fpt w 13 3)) = some (RS B (txL (fun c => tvA c w) 69 w) k 1 w d a b f) := by
  have hw : w &&& nI 4294967295 = nI 1 := hm.2.trans (by decide +kernel)
  have hn10 : 10 < n := by omega
  have hn20 : 20 < n := by omega
  have f3 : fpt w 13 3 = nI 0 := pf_1 hw (by decide) (by decide) (by decide)
  have eD : fpt w 7 5 = nI 0 := pf_1 hw (by decide) (by decide) (by decide)
  have hwx : w = nI 1 := by
    have z := hw
    rw [show w &&& nI 4294967295 = w from by
      (apply gb_ext; apply all32; simp (disch := decide) only [gb_or, gb_and, gb_xor, gb_shl, gb_shr, gb_ush, gb_u, gb_n, gb_m, gb_hi, Nat.reduceAdd, Nat.reduceSub, Nat.reducePow, Nat.reduceLT, Nat.reduceLeDiff, Nat.testBit, Nat.reduceShiftRight, Nat.reduceBNe, Nat.reduceAnd, Nat.one_and_eq_mod_two, Nat.reduceMod, decide_true, decide_false, Bool.and_true, Bool.true_and, Bool.and_false, Bool.false_and, Bool.or_false, Bool.false_or, Bool.or_true, Bool.true_or, Bool.not_true, Bool.not_false, if_true, if_false, ↓reduceIte, and_self, bne_self_eq_false, Bool.or_self, Bool.and_self, Bool.not_not])] at z
    exact z
  have tx : txL (fun c => tvA c w) 69 w = ([99, 46, 110, 111, 112]) := by
    unfold txL sfxL
    rw [show strL (ko_w 69) = [99, 46, 110, 111, 112] from by decide +kernel, show strL (ko_f 69) = [] from by decide +kernel, if_neg (show ¬ (ko_b 69 &&& 127 : Int32) = 47 by decide +kernel)]
    simp only [wrT, oc_44, ne_eq, reduceCtorEq, not_false_eq_true, not_true_eq_false, if_true, if_false, ↓reduceIte, List.append_assoc, List.cons_append, List.nil_append, List.append_nil, nxl_0, nxl_s]
  have key : df_X18_second n (RS B [] 0 0 w (nI 0) a0 b0 (nI 0)) = some (RS B ([99, 46, 110, 111, 112]) 0 1 w (nI 0) a0 b0 (nI 0)) := by
    unfold df_X18_second df_X18_second_0
    rw [RS_3, if_pos (show w = 1 from hwx), nw_482905828963 hn10 (by (try simp only [List.length_append, List.length_cons, List.length_nil, nxl_0, nxl_s]); omega), nb_b1]
    rfl
  exact ⟨_, _, _, _, _, by rw [eD, f3, key, tx]⟩
theorem rtx_70 {n : Nat} {B : St} {w a0 b0 : Int32} (hn : 30 < n) (hg : ∀ r : Nat, r < 32 → sR B 1 r = rgT r) (hm : MKp 70 w) (w1 : ¬ w = 1) : ∃ (k : Nat) (d a b f : Int32), df_X18_second n (RS B [] 0 0 w (fpt w 7 5) a0 b0 (fpt w 13 3)) = some (RS B (txL (fun c => tvA c w) 70 w) k 1 w d a b f) := by
  have hw : w &&& nI 4294959107 = nI 1 := hm.2.trans (by decide +kernel)
  have hn10 : 10 < n := by omega
  have hn20 : 20 < n := by omega
  have f3 : fpt w 13 3 = nI 0 := pf_1 hw (by decide) (by decide) (by decide)
  obtain ⟨D, hD, eD⟩ := pt_n (w := w) (k := 7) (m := 5) (by decide) (by decide)
  have hD : D < 32 := hD
  have lD : (regL D).length ≤ 4 := rg_4 ⟨D, hD⟩
  have mN := nmv_N w
  have lN := de_l mN
  have tx : txL (fun c => tvA c w) 70 w = ([99, 46, 97, 100, 100, 105] ++ ([32] ++ (regL D ++ ([44, 32] ++ (decI (tvN w)))))) := by
    unfold txL sfxL
    rw [show strL (ko_w 70) = [99, 46, 97, 100, 100, 105] from by decide +kernel, show strL (ko_f 70) = [100, 44, 78] from by decide +kernel, if_neg (show ¬ (ko_b 70 &&& 127 : Int32) = 47 by decide +kernel)]
    simp only [wrT, oc_44, (show oper 78 (tvA 78 w) = decI (tvN w) from on_1 _ (by decide) (by decide) (by decide)), (show oper 100 (tvA 100 w) = regL D from or_1 (by decide) (by decide) eD hD), ne_eq, reduceCtorEq, not_false_eq_true, not_true_eq_false, if_true, if_false, ↓reduceIte, List.append_assoc, List.cons_append, List.nil_append, List.append_nil, nxl_0, nxl_s]
  have key : df_X18_second n (RS B [] 0 0 w (nI D) a0 b0 (nI 0)) = some (RS B ([99, 46, 97, 100, 100, 105] ++ ([32] ++ (regL D ++ ([44, 32] ++ (decI (tvN w)))))) 2 1 w (nI D) a0 b0 (nI 0)) := by
    unfold df_X18_second df_X18_second_0
    rw [RS_3, if_neg w1, RS_7, if_pos (by decide)]
    unfold df_X18_second_33
    rw [RS_7, if_pos (by decide)]
    unfold df_X18_second_50
    rw [nw_115879901736547 hn10 (by (try simp only [List.length_append, List.length_cons, List.length_nil, nxl_0, nxl_s]); omega), nb_b1, RS_4, reg_S hg hn10 hD (by decide) (by (try simp only [List.length_append, List.length_cons, List.length_nil, nxl_0, nxl_s]); omega), nb_b1, sxN, nb_b2, im_S hn20 mN (by decide) (by (try simp only [List.length_append, List.length_cons, List.length_nil, nxl_0, nxl_s]); omega), nb_b1]
    try unfold df_X18_second_238
    simp only [List.append_assoc, List.cons_append, List.nil_append, List.append_nil, nxl_0, nxl_s]
  exact ⟨_, _, _, _, _, by rw [eD, f3, key, tx]⟩
theorem rtx_71 {n : Nat} {B : St} {w a0 b0 : Int32} (hn : 30 < n) (hg : ∀ r : Nat, r < 32 → sR B 1 r = rgT r) (hm : MKp 71 w) : ∃ (k : Nat) (d a b f : Int32), df_X18_second n (RS B [] 0 0 w (fpt w 7 5) a0 b0 (fpt w 13 3)) = some (RS B (txL (fun c => tvA c w) 71 w) k 1 w d a b f) := by
  have hw : w &&& nI 4294959107 = nI 8193 := hm.2.trans (by decide +kernel)
  have hn10 : 10 < n := by omega
  have hn20 : 20 < n := by omega
  have f3 : fpt w 13 3 = nI 1 := pf_1 hw (by decide) (by decide) (by decide)
  obtain ⟨D, hD, eD⟩ := pt_n (w := w) (k := 7) (m := 5) (by decide) (by decide)
  have hD : D < 32 := hD
  have lD : (regL D).length ≤ 4 := rg_4 ⟨D, hD⟩
  have w1 : ¬ w = 1 := fun z => by
    rw [show (1 : Int32) = nI 1 from rfl] at z
    rw [z] at f3
    exact absurd f3 (by decide +kernel)
  have tx : txL (fun c => tvA c w) 71 w = ([99, 46, 106, 97, 108] ++ ([32] ++ (tgL (tvK w)))) := by
    unfold txL sfxL
    rw [show strL (ko_w 71) = [99, 46, 106, 97, 108] from by decide +kernel, show strL (ko_f 71) = [75] from by decide +kernel, if_neg (show ¬ (ko_b 71 &&& 127 : Int32) = 47 by decide +kernel)]
    simp only [wrT, (show oper 75 (tvA 75 w) = tgL (tvK w) from ot_1 _ (by decide) (by decide) (by decide)), ne_eq, reduceCtorEq, not_false_eq_true, not_true_eq_false, if_true, if_false, ↓reduceIte, List.append_assoc, List.cons_append, List.nil_append, List.append_nil, nxl_0, nxl_s]
  have key : df_X18_second n (RS B [] 0 0 w (nI D) a0 b0 (nI 1)) = some (RS B ([99, 46, 106, 97, 108] ++ ([32] ++ (tgL (tvK w)))) 1 1 w (nI D) a0 b0 (nI 1)) := by
    unfold df_X18_second df_X18_second_0
    rw [RS_3, if_neg w1, RS_7, if_neg (by decide), if_neg (by decide), if_pos (by decide)]
    unfold df_X18_second_88
    rw [RS_7, if_pos (by decide)]
    unfold df_X18_second_106
    rw [jmp_S hn10 hn20 (x := 465490816611) (M := [99, 46, 106, 97, 108]) (by decide +kernel) (by decide), nb_b1]
    try unfold df_X18_second_238
    simp only [List.append_assoc, List.cons_append, List.nil_append, List.append_nil, nxl_0, nxl_s]
  exact ⟨_, _, _, _, _, by rw [eD, f3, key, tx]⟩
theorem rtx_72 {n : Nat} {B : St} {w a0 b0 : Int32} (hn : 30 < n) (hg : ∀ r : Nat, r < 32 → sR B 1 r = rgT r) (hm : MKp 72 w) : ∃ (k : Nat) (d a b f : Int32), df_X18_second n (RS B [] 0 0 w (fpt w 7 5) a0 b0 (fpt w 13 3)) = some (RS B (txL (fun c => tvA c w) 72 w) k 1 w d a b f) := by
  have hw : w &&& nI 4294959107 = nI 40961 := hm.2.trans (by decide +kernel)
  have hn10 : 10 < n := by omega
  have hn20 : 20 < n := by omega
  have f3 : fpt w 13 3 = nI 5 := pf_1 hw (by decide) (by decide) (by decide)
  obtain ⟨D, hD, eD⟩ := pt_n (w := w) (k := 7) (m := 5) (by decide) (by decide)
  have hD : D < 32 := hD
  have lD : (regL D).length ≤ 4 := rg_4 ⟨D, hD⟩
  have w1 : ¬ w = 1 := fun z => by
    rw [show (1 : Int32) = nI 1 from rfl] at z
    rw [z] at f3
    exact absurd f3 (by decide +kernel)
  have tx : txL (fun c => tvA c w) 72 w = ([99, 46, 106] ++ ([32] ++ (tgL (tvK w)))) := by
    unfold txL sfxL
    rw [show strL (ko_w 72) = [99, 46, 106] from by decide +kernel, show strL (ko_f 72) = [75] from by decide +kernel, if_neg (show ¬ (ko_b 72 &&& 127 : Int32) = 47 by decide +kernel)]
    simp only [wrT, (show oper 75 (tvA 75 w) = tgL (tvK w) from ot_1 _ (by decide) (by decide) (by decide)), ne_eq, reduceCtorEq, not_false_eq_true, not_true_eq_false, if_true, if_false, ↓reduceIte, List.append_assoc, List.cons_append, List.nil_append, List.append_nil, nxl_0, nxl_s]
  have key : df_X18_second n (RS B [] 0 0 w (nI D) a0 b0 (nI 5)) = some (RS B ([99, 46, 106] ++ ([32] ++ (tgL (tvK w)))) 1 1 w (nI D) a0 b0 (nI 5)) := by
    unfold df_X18_second df_X18_second_0
    rw [RS_3, if_neg w1, RS_7, if_neg (by decide), if_neg (by decide), if_neg (by decide), if_pos (by decide)]
    unfold df_X18_second_88
    rw [RS_7, if_neg (by decide)]
    unfold df_X18_second_106
    rw [jmp_S hn10 hn20 (x := 6958691) (M := [99, 46, 106]) (by decide +kernel) (by decide), nb_b1]
    try unfold df_X18_second_238
    simp only [List.append_assoc, List.cons_append, List.nil_append, List.append_nil, nxl_0, nxl_s]
  exact ⟨_, _, _, _, _, by rw [eD, f3, key, tx]⟩
theorem rtx_73 {n : Nat} {B : St} {w a0 b0 : Int32} (hn : 30 < n) (hg : ∀ r : Nat, r < 32 → sR B 1 r = rgT r) (hm : MKp 73 w) : ∃ (k : Nat) (d a b f : Int32), df_X18_second n (RS B [] 0 0 w (fpt w 7 5) a0 b0 (fpt w 13 3)) = some (RS B (txL (fun c => tvA c w) 73 w) k 1 w d a b f) := by
  have hw : w &&& nI 4294959107 = nI 16385 := hm.2.trans (by decide +kernel)
  have hn10 : 10 < n := by omega
  have hn20 : 20 < n := by omega
  have f3 : fpt w 13 3 = nI 2 := pf_1 hw (by decide) (by decide) (by decide)
  obtain ⟨D, hD, eD⟩ := pt_n (w := w) (k := 7) (m := 5) (by decide) (by decide)
  have hD : D < 32 := hD
  have lD : (regL D).length ≤ 4 := rg_4 ⟨D, hD⟩
  have mN := nmv_N w
  have lN := de_l mN
  have w1 : ¬ w = 1 := fun z => by
    rw [show (1 : Int32) = nI 1 from rfl] at z
    rw [z] at f3
    exact absurd f3 (by decide +kernel)
  have tx : txL (fun c => tvA c w) 73 w = ([99, 46, 108, 105] ++ ([32] ++ (regL D ++ ([44, 32] ++ (decI (tvN w)))))) := by
    unfold txL sfxL
    rw [show strL (ko_w 73) = [99, 46, 108, 105] from by decide +kernel, show strL (ko_f 73) = [100, 44, 78] from by decide +kernel, if_neg (show ¬ (ko_b 73 &&& 127 : Int32) = 47 by decide +kernel)]
    simp only [wrT, oc_44, (show oper 78 (tvA 78 w) = decI (tvN w) from on_1 _ (by decide) (by decide) (by decide)), (show oper 100 (tvA 100 w) = regL D from or_1 (by decide) (by decide) eD hD), ne_eq, reduceCtorEq, not_false_eq_true, not_true_eq_false, if_true, if_false, ↓reduceIte, List.append_assoc, List.cons_append, List.nil_append, List.append_nil, nxl_0, nxl_s]
  have key : df_X18_second n (RS B [] 0 0 w (nI D) a0 b0 (nI 2)) = some (RS B ([99, 46, 108, 105] ++ ([32] ++ (regL D ++ ([44, 32] ++ (decI (tvN w)))))) 2 1 w (nI D) a0 b0 (nI 2)) := by
    unfold df_X18_second df_X18_second_0
    rw [RS_3, if_neg w1, RS_7, if_neg (by decide), if_pos (by decide)]
    unfold df_X18_second_33
    rw [RS_7, if_neg (by decide)]
    unfold df_X18_second_50
    rw [nw_1768697443 hn10 (by (try simp only [List.length_append, List.length_cons, List.length_nil, nxl_0, nxl_s]); omega), nb_b1, RS_4, reg_S hg hn10 hD (by decide) (by (try simp only [List.length_append, List.length_cons, List.length_nil, nxl_0, nxl_s]); omega), nb_b1, sxN, nb_b2, im_S hn20 mN (by decide) (by (try simp only [List.length_append, List.length_cons, List.length_nil, nxl_0, nxl_s]); omega), nb_b1]
    try unfold df_X18_second_238
    simp only [List.append_assoc, List.cons_append, List.nil_append, List.append_nil, nxl_0, nxl_s]
  exact ⟨_, _, _, _, _, by rw [eD, f3, key, tx]⟩
theorem rtx_74 {n : Nat} {B : St} {w a0 b0 : Int32} (hn : 30 < n) (hg : ∀ r : Nat, r < 32 → sR B 1 r = rgT r) (hm : MKp 74 w) : ∃ (k : Nat) (d a b f : Int32), df_X18_second n (RS B [] 0 0 w (fpt w 7 5) a0 b0 (fpt w 13 3)) = some (RS B (txL (fun c => tvA c w) 74 w) k 1 w d a b f) := by
  have hw : w &&& nI 4294963075 = nI 24833 := hm.2.trans (by decide +kernel)
  have hn10 : 10 < n := by omega
  have hn20 : 20 < n := by omega
  have f3 : fpt w 13 3 = nI 3 := pf_1 hw (by decide) (by decide) (by decide)
  have eD : fpt w 7 5 = nI 2 := pf_1 hw (by decide) (by decide) (by decide)
  have mY := nmv_Y w
  have lY := de_l mY
  have vY : ((fpt w 6 1) <<< ((4 : Int32) &&& 31)) ||| ((fpt w 5 1) <<< ((6 : Int32) &&& 31)) ||| ((fpt w 3 2) <<< ((7 : Int32) &&& 31)) ||| ((fpt w 2 1) <<< ((5 : Int32) &&& 31)) ||| ((-(fpt w 12 1)) <<< ((9 : Int32) &&& 31)) = tvY w := by
    rw [show ((4 : Int32) &&& 31) = nI 4 from by decide, show ((6 : Int32) &&& 31) = nI 6 from by decide, show ((7 : Int32) &&& 31) = nI 7 from by decide, show ((5 : Int32) &&& 31) = nI 5 from by decide, show ((9 : Int32) &&& 31) = nI 9 from by decide]
    rfl
  have w1 : ¬ w = 1 := fun z => by
    rw [show (1 : Int32) = nI 1 from rfl] at z
    rw [z] at f3
    exact absurd f3 (by decide +kernel)
  have xY : ¬ tvY w = 0 := nbdC (fb_m (c := 89) (by decide) _ hm.1 (by decide +kernel))
  have tx : txL (fun c => tvA c w) 74 w = ([99, 46, 97, 100, 100, 105, 49, 54, 115, 112] ++ ([32] ++ (decI (tvY w)))) := by
    unfold txL sfxL
    rw [show strL (ko_w 74) = [99, 46, 97, 100, 100, 105, 49, 54, 115, 112] from by decide +kernel, show strL (ko_f 74) = [89] from by decide +kernel, if_neg (show ¬ (ko_b 74 &&& 127 : Int32) = 47 by decide +kernel)]
    simp only [wrT, (show oper 89 (tvA 89 w) = decI (tvY w) from on_1 _ (by decide) (by decide) (by decide)), ne_eq, reduceCtorEq, not_false_eq_true, not_true_eq_false, if_true, if_false, ↓reduceIte, List.append_assoc, List.cons_append, List.nil_append, List.append_nil, nxl_0, nxl_s]
  have key : df_X18_second n (RS B [] 0 0 w (nI 2) a0 b0 (nI 3)) = some (RS B ([99, 46, 97, 100, 100, 105, 49, 54, 115, 112] ++ ([32] ++ (decI (tvY w)))) 1 1 w (nI 2) a0 b0 (nI 3)) := by
    unfold df_X18_second df_X18_second_0
    rw [RS_3, if_neg w1, RS_7, if_neg (by decide), if_neg (by decide), if_neg (by decide), if_neg (by decide), if_pos (by decide)]
    unfold df_X18_upper df_X18_upper_0
    rw [show df_X18_part n 6 1 (RS B _ _ _ w _ _ _ _) = some (fpt w 6 1, _) from pt_S (q := 6) (m := 1) (by decide), nb_b2, show df_X18_part n 5 1 (RS B _ _ _ w _ _ _ _) = some (fpt w 5 1, _) from pt_S (q := 5) (m := 1) (by decide), nb_b2, show df_X18_part n 3 2 (RS B _ _ _ w _ _ _ _) = some (fpt w 3 2, _) from pt_S (q := 3) (m := 2) (by decide), nb_b2, show df_X18_part n 2 1 (RS B _ _ _ w _ _ _ _) = some (fpt w 2 1, _) from pt_S (q := 2) (m := 1) (by decide), nb_b2, show df_X18_part n 12 1 (RS B _ _ _ w _ _ _ _) = some (fpt w 12 1, _) from pt_S (q := 12) (m := 1) (by decide), nb_b2, nb_let, vY, RS_4, if_pos (by decide), if_neg xY]
    unfold df_X18_upper_74
    rw [RS_4, if_pos (by decide), nw_3905018231808667235 hn10 (by (try simp only [List.length_append, List.length_cons, List.length_nil, nxl_0, nxl_s]); omega), nb_b1, sw_28787 hn10 (by (try simp only [List.length_append, List.length_cons, List.length_nil, nxl_0, nxl_s]); omega), nb_b1, im_S hn20 mY (by decide) (by (try simp only [List.length_append, List.length_cons, List.length_nil, nxl_0, nxl_s]); omega), nb_b1, nb_b1]
    try unfold df_X18_second_238
    simp only [List.append_assoc, List.cons_append, List.nil_append, List.append_nil, nxl_0, nxl_s]
  exact ⟨_, _, _, _, _, by rw [eD, f3, key, tx]⟩
theorem rtx_75 {n : Nat} {B : St} {w a0 b0 : Int32} (hn : 30 < n) (hg : ∀ r : Nat, r < 32 → sR B 1 r = rgT r) (hm : MKp 75 w) : ∃ (k : Nat) (d a b f : Int32), df_X18_second n (RS B [] 0 0 w (fpt w 7 5) a0 b0 (fpt w 13 3)) = some (RS B (txL (fun c => tvA c w) 75 w) k 1 w d a b f) := by
  have hw : w &&& nI 4294959107 = nI 24577 := hm.2.trans (by decide +kernel)
  have hn10 : 10 < n := by omega
  have hn20 : 20 < n := by omega
  have f3 : fpt w 13 3 = nI 3 := pf_1 hw (by decide) (by decide) (by decide)
  obtain ⟨D, hD, eD⟩ := pt_n (w := w) (k := 7) (m := 5) (by decide) (by decide)
  have hD : D < 32 := hD
  have lD : (regL D).length ≤ 4 := rg_4 ⟨D, hD⟩
  have mM := nmv_M w
  have lM := de_l mM
  have w1 : ¬ w = 1 := fun z => by
    rw [show (1 : Int32) = nI 1 from rfl] at z
    rw [z] at f3
    exact absurd f3 (by decide +kernel)
  have xm : ¬ fpt w 7 5 = 2 := nbdC (fb_m (c := 109) (by decide) _ hm.1 (by decide +kernel))
  rw [eD] at xm
  have xM : ¬ tvM w = 0 := nbdC (fb_m (c := 77) (by decide) _ hm.1 (by decide +kernel))
  have tx : txL (fun c => tvA c w) 75 w = ([99, 46, 108, 117, 105] ++ ([32] ++ (regL D ++ ([44, 32] ++ (decI (tvM w)))))) := by
    unfold txL sfxL
    rw [show strL (ko_w 75) = [99, 46, 108, 117, 105] from by decide +kernel, show strL (ko_f 75) = [109, 44, 77] from by decide +kernel, if_neg (show ¬ (ko_b 75 &&& 127 : Int32) = 47 by decide +kernel)]
    simp only [wrT, oc_44, (show oper 77 (tvA 77 w) = decI (tvM w) from on_1 _ (by decide) (by decide) (by decide)), (show oper 109 (tvA 109 w) = regL D from or_1 (by decide) (by decide) eD hD), ne_eq, reduceCtorEq, not_false_eq_true, not_true_eq_false, if_true, if_false, ↓reduceIte, List.append_assoc, List.cons_append, List.nil_append, List.append_nil, nxl_0, nxl_s]
  have key : df_X18_second n (RS B [] 0 0 w (nI D) a0 b0 (nI 3)) = some (RS B ([99, 46, 108, 117, 105] ++ ([32] ++ (regL D ++ ([44, 32] ++ (decI (tvM w)))))) 2 1 w (nI D) a0 b0 (nI 3)) := by
    unfold df_X18_second df_X18_second_0
    rw [RS_3, if_neg w1, RS_7, if_neg (by decide), if_neg (by decide), if_neg (by decide), if_neg (by decide), if_pos (by decide)]
    unfold df_X18_upper df_X18_upper_0
    rw [show df_X18_part n 6 1 (RS B _ _ _ w _ _ _ _) = some (fpt w 6 1, _) from pt_S (q := 6) (m := 1) (by decide), nb_b2, show df_X18_part n 5 1 (RS B _ _ _ w _ _ _ _) = some (fpt w 5 1, _) from pt_S (q := 5) (m := 1) (by decide), nb_b2, show df_X18_part n 3 2 (RS B _ _ _ w _ _ _ _) = some (fpt w 3 2, _) from pt_S (q := 3) (m := 2) (by decide), nb_b2, show df_X18_part n 2 1 (RS B _ _ _ w _ _ _ _) = some (fpt w 2 1, _) from pt_S (q := 2) (m := 1) (by decide), nb_b2, show df_X18_part n 12 1 (RS B _ _ _ w _ _ _ _) = some (fpt w 12 1, _) from pt_S (q := 12) (m := 1) (by decide), nb_b2, nb_let, RS_4, if_neg xm, sxM, nb_b2, if_neg xM]
    unfold df_X18_upper_74
    rw [RS_4, if_neg xm, nw_452941590115 hn10 (by (try simp only [List.length_append, List.length_cons, List.length_nil, nxl_0, nxl_s]); omega), nb_b1, RS_4, reg_S hg hn10 hD (by decide) (by (try simp only [List.length_append, List.length_cons, List.length_nil, nxl_0, nxl_s]); omega), nb_b1, sxM, nb_b2, im_S hn20 mM (by decide) (by (try simp only [List.length_append, List.length_cons, List.length_nil, nxl_0, nxl_s]); omega), nb_b1, nb_b1]
    try unfold df_X18_second_238
    simp only [List.append_assoc, List.cons_append, List.nil_append, List.append_nil, nxl_0, nxl_s]
  exact ⟨_, _, _, _, _, by rw [eD, f3, key, tx]⟩
theorem rtx_76 {n : Nat} {B : St} {w a0 b0 : Int32} (hn : 30 < n) (hg : ∀ r : Nat, r < 32 → sR B 1 r = rgT r) (hm : MKp 76 w) : ∃ (k : Nat) (d a b f : Int32), df_X18_second n (RS B [] 0 0 w (fpt w 7 5) a0 b0 (fpt w 13 3)) = some (RS B (txL (fun c => tvA c w) 76 w) k 1 w d a b f) := by
  have hw : w &&& nI 4294966275 = nI 32769 := hm.2.trans (by decide +kernel)
  have hn10 : 10 < n := by omega
  have hn20 : 20 < n := by omega
  have f3 : fpt w 13 3 = nI 4 := pf_1 hw (by decide) (by decide) (by decide)
  obtain ⟨D, hD, eD⟩ := pt_n (w := w) (k := 7) (m := 5) (by decide) (by decide)
  have hD : D < 32 := hD
  have lD : (regL D).length ≤ 4 := rg_4 ⟨D, hD⟩
  have b12 : fpt w 12 1 = nI 0 := pf_1 hw (by decide) (by decide) (by decide)
  have c10 : fpt w 10 2 = nI 0 := pf_1 hw (by decide) (by decide) (by decide)
  obtain ⟨R, hR, eR⟩ := pt_n (w := w) (k := 7) (m := 3) (by decide) (by decide)
  have bndR : 8 + R < 32 := by have : R < 8 := hR; omega
  have lR : (regL (8 + R)).length ≤ 4 := rg_4 ⟨8 + R, bndR⟩
  have eR8 : (8 : Int32) + fpt w 7 3 = nI (8 + R) := by rw [eR]; exact nI_add 8 R
  have mV := nmv_V w
  have lV := de_l mV
  have vV : fpt w 2 5 = tvV w := rfl
  have w1 : ¬ w = 1 := fun z => by
    rw [show (1 : Int32) = nI 1 from rfl] at z
    rw [z] at f3
    exact absurd f3 (by decide +kernel)
  have tx : txL (fun c => tvA c w) 76 w = ([99, 46, 115, 114, 108, 105] ++ ([32] ++ (regL (8 + R) ++ ([44, 32] ++ (decI (tvV w)))))) := by
    unfold txL sfxL
    rw [show strL (ko_w 76) = [99, 46, 115, 114, 108, 105] from by decide +kernel, show strL (ko_f 76) = [113, 44, 86] from by decide +kernel, if_neg (show ¬ (ko_b 76 &&& 127 : Int32) = 47 by decide +kernel)]
    simp only [wrT, oc_44, (show oper 86 (tvA 86 w) = decI (tvV w) from on_1 _ (by decide) (by decide) (by decide)), (show oper 113 (tvA 113 w) = regL (8 + R) from or_1 (by decide) (by decide) (by show nI 8 + fpt w 7 3 = _; rw [eR, nI_add]) bndR), ne_eq, reduceCtorEq, not_false_eq_true, not_true_eq_false, if_true, if_false, ↓reduceIte, List.append_assoc, List.cons_append, List.nil_append, List.append_nil, nxl_0, nxl_s]
  have key : df_X18_second n (RS B [] 0 0 w (nI D) a0 b0 (nI 4)) = some (RS B ([99, 46, 115, 114, 108, 105] ++ ([32] ++ (regL (8 + R) ++ ([44, 32] ++ (decI (tvV w)))))) 2 1 w (nI D) a0 b0 (nI 4)) := by
    unfold df_X18_second df_X18_second_0
    rw [RS_3, if_neg w1, RS_7, if_neg (by decide), if_neg (by decide), if_neg (by decide), if_neg (by decide), if_neg (by decide), if_pos (by decide), show df_X18_part n 10 2 (RS B _ _ _ w _ _ _ _) = some (fpt w 10 2, _) from pt_S (q := 10) (m := 2) (by decide), nb_b2, c10]
    unfold df_X18_reckon df_X18_reckon_0
    rw [show df_X18_part n 2 3 (RS B _ _ _ w _ _ _ _) = some (fpt w 2 3, _) from pt_S (q := 2) (m := 3) (by decide), nb_b2, nb_let, show df_X18_part n 7 3 (RS B _ _ _ w _ _ _ _) = some (fpt w 7 3, _) from pt_S (q := 7) (m := 3) (by decide), nb_b2, nb_let, if_neg (by decide), show df_X18_part n 12 1 (RS B _ _ _ w _ _ _ _) = some (fpt w 12 1, _) from pt_S (q := 12) (m := 1) (by decide), nb_b2, b12, if_neg (by decide)]
    unfold df_X18_reckon_38
    rw [if_neg (by decide), if_pos (by decide)]
    unfold df_X18_reckon_68
    rw [nw_115914497535587 hn10 (by (try simp only [List.length_append, List.length_cons, List.length_nil, nxl_0, nxl_s]); omega), nb_b1, eR8, reg_S hg hn10 bndR (by decide) (by (try simp only [List.length_append, List.length_cons, List.length_nil, nxl_0, nxl_s]); omega), nb_b1, if_neg (by decide), show df_X18_part n 2 5 (RS B _ _ _ w _ _ _ _) = some (fpt w 2 5, _) from pt_S (q := 2) (m := 5) (by decide), nb_b2]
    unfold df_X18_reckon_95
    rw [vV, im_S hn20 mV (by decide) (by (try simp only [List.length_append, List.length_cons, List.length_nil, nxl_0, nxl_s]); omega), nb_b1, nb_b1]
    try unfold df_X18_second_238
    simp only [List.append_assoc, List.cons_append, List.nil_append, List.append_nil, nxl_0, nxl_s]
  exact ⟨_, _, _, _, _, by rw [eD, f3, key, tx]⟩
theorem rtx_77 {n : Nat} {B : St} {w a0 b0 : Int32} (hn : 30 < n) (hg : ∀ r : Nat, r < 32 → sR B 1 r = rgT r) (hm : MKp 77 w) : ∃ (k : Nat) (d a b f : Int32), df_X18_second n (RS B [] 0 0 w (fpt w 7 5) a0 b0 (fpt w 13 3)) = some (RS B (txL (fun c => tvA c w) 77 w) k 1 w d a b f) := by
  have hw : w &&& nI 4294966275 = nI 33793 := hm.2.trans (by decide +kernel)
  have hn10 : 10 < n := by omega
  have hn20 : 20 < n := by omega
  have f3 : fpt w 13 3 = nI 4 := pf_1 hw (by decide) (by decide) (by decide)
  obtain ⟨D, hD, eD⟩ := pt_n (w := w) (k := 7) (m := 5) (by decide) (by decide)
  have hD : D < 32 := hD
  have lD : (regL D).length ≤ 4 := rg_4 ⟨D, hD⟩
  have b12 : fpt w 12 1 = nI 0 := pf_1 hw (by decide) (by decide) (by decide)
  have c10 : fpt w 10 2 = nI 1 := pf_1 hw (by decide) (by decide) (by decide)
  obtain ⟨R, hR, eR⟩ := pt_n (w := w) (k := 7) (m := 3) (by decide) (by decide)
  have bndR : 8 + R < 32 := by have : R < 8 := hR; omega
  have lR : (regL (8 + R)).length ≤ 4 := rg_4 ⟨8 + R, bndR⟩
  have eR8 : (8 : Int32) + fpt w 7 3 = nI (8 + R) := by rw [eR]; exact nI_add 8 R
  have mV := nmv_V w
  have lV := de_l mV
  have vV : fpt w 2 5 = tvV w := rfl
  have w1 : ¬ w = 1 := fun z => by
    rw [show (1 : Int32) = nI 1 from rfl] at z
    rw [z] at f3
    exact absurd f3 (by decide +kernel)
  have tx : txL (fun c => tvA c w) 77 w = ([99, 46, 115, 114, 97, 105] ++ ([32] ++ (regL (8 + R) ++ ([44, 32] ++ (decI (tvV w)))))) := by
    unfold txL sfxL
    rw [show strL (ko_w 77) = [99, 46, 115, 114, 97, 105] from by decide +kernel, show strL (ko_f 77) = [113, 44, 86] from by decide +kernel, if_neg (show ¬ (ko_b 77 &&& 127 : Int32) = 47 by decide +kernel)]
    simp only [wrT, oc_44, (show oper 86 (tvA 86 w) = decI (tvV w) from on_1 _ (by decide) (by decide) (by decide)), (show oper 113 (tvA 113 w) = regL (8 + R) from or_1 (by decide) (by decide) (by show nI 8 + fpt w 7 3 = _; rw [eR, nI_add]) bndR), ne_eq, reduceCtorEq, not_false_eq_true, not_true_eq_false, if_true, if_false, ↓reduceIte, List.append_assoc, List.cons_append, List.nil_append, List.append_nil, nxl_0, nxl_s]
  have key : df_X18_second n (RS B [] 0 0 w (nI D) a0 b0 (nI 4)) = some (RS B ([99, 46, 115, 114, 97, 105] ++ ([32] ++ (regL (8 + R) ++ ([44, 32] ++ (decI (tvV w)))))) 2 1 w (nI D) a0 b0 (nI 4)) := by
    unfold df_X18_second df_X18_second_0
    rw [RS_3, if_neg w1, RS_7, if_neg (by decide), if_neg (by decide), if_neg (by decide), if_neg (by decide), if_neg (by decide), if_pos (by decide), show df_X18_part n 10 2 (RS B _ _ _ w _ _ _ _) = some (fpt w 10 2, _) from pt_S (q := 10) (m := 2) (by decide), nb_b2, c10]
    unfold df_X18_reckon df_X18_reckon_0
    rw [show df_X18_part n 2 3 (RS B _ _ _ w _ _ _ _) = some (fpt w 2 3, _) from pt_S (q := 2) (m := 3) (by decide), nb_b2, nb_let, show df_X18_part n 7 3 (RS B _ _ _ w _ _ _ _) = some (fpt w 7 3, _) from pt_S (q := 7) (m := 3) (by decide), nb_b2, nb_let, if_neg (by decide), show df_X18_part n 12 1 (RS B _ _ _ w _ _ _ _) = some (fpt w 12 1, _) from pt_S (q := 12) (m := 1) (by decide), nb_b2, b12, if_neg (by decide)]
    unfold df_X18_reckon_38
    rw [if_neg (by decide), if_neg (by decide), if_pos (by decide)]
    unfold df_X18_reckon_68
    rw [nw_115867252895331 hn10 (by (try simp only [List.length_append, List.length_cons, List.length_nil, nxl_0, nxl_s]); omega), nb_b1, eR8, reg_S hg hn10 bndR (by decide) (by (try simp only [List.length_append, List.length_cons, List.length_nil, nxl_0, nxl_s]); omega), nb_b1, if_neg (by decide), show df_X18_part n 2 5 (RS B _ _ _ w _ _ _ _) = some (fpt w 2 5, _) from pt_S (q := 2) (m := 5) (by decide), nb_b2]
    unfold df_X18_reckon_95
    rw [vV, im_S hn20 mV (by decide) (by (try simp only [List.length_append, List.length_cons, List.length_nil, nxl_0, nxl_s]); omega), nb_b1, nb_b1]
    try unfold df_X18_second_238
    simp only [List.append_assoc, List.cons_append, List.nil_append, List.append_nil, nxl_0, nxl_s]
  exact ⟨_, _, _, _, _, by rw [eD, f3, key, tx]⟩
theorem rtx_78 {n : Nat} {B : St} {w a0 b0 : Int32} (hn : 30 < n) (hg : ∀ r : Nat, r < 32 → sR B 1 r = rgT r) (hm : MKp 78 w) : ∃ (k : Nat) (d a b f : Int32), df_X18_second n (RS B [] 0 0 w (fpt w 7 5) a0 b0 (fpt w 13 3)) = some (RS B (txL (fun c => tvA c w) 78 w) k 1 w d a b f) := by
  have hw : w &&& nI 4294962179 = nI 34817 := hm.2.trans (by decide +kernel)
  have hn10 : 10 < n := by omega
  have hn20 : 20 < n := by omega
  have f3 : fpt w 13 3 = nI 4 := pf_1 hw (by decide) (by decide) (by decide)
  obtain ⟨D, hD, eD⟩ := pt_n (w := w) (k := 7) (m := 5) (by decide) (by decide)
  have hD : D < 32 := hD
  have lD : (regL D).length ≤ 4 := rg_4 ⟨D, hD⟩
  have c10 : fpt w 10 2 = nI 2 := pf_1 hw (by decide) (by decide) (by decide)
  obtain ⟨R, hR, eR⟩ := pt_n (w := w) (k := 7) (m := 3) (by decide) (by decide)
  have bndR : 8 + R < 32 := by have : R < 8 := hR; omega
  have lR : (regL (8 + R)).length ≤ 4 := rg_4 ⟨8 + R, bndR⟩
  have eR8 : (8 : Int32) + fpt w 7 3 = nI (8 + R) := by rw [eR]; exact nI_add 8 R
  have mN := nmv_N w
  have lN := de_l mN
  have w1 : ¬ w = 1 := fun z => by
    rw [show (1 : Int32) = nI 1 from rfl] at z
    rw [z] at f3
    exact absurd f3 (by decide +kernel)
  have tx : txL (fun c => tvA c w) 78 w = ([99, 46, 97, 110, 100, 105] ++ ([32] ++ (regL (8 + R) ++ ([44, 32] ++ (decI (tvN w)))))) := by
    unfold txL sfxL
    rw [show strL (ko_w 78) = [99, 46, 97, 110, 100, 105] from by decide +kernel, show strL (ko_f 78) = [113, 44, 78] from by decide +kernel, if_neg (show ¬ (ko_b 78 &&& 127 : Int32) = 47 by decide +kernel)]
    simp only [wrT, oc_44, (show oper 78 (tvA 78 w) = decI (tvN w) from on_1 _ (by decide) (by decide) (by decide)), (show oper 113 (tvA 113 w) = regL (8 + R) from or_1 (by decide) (by decide) (by show nI 8 + fpt w 7 3 = _; rw [eR, nI_add]) bndR), ne_eq, reduceCtorEq, not_false_eq_true, not_true_eq_false, if_true, if_false, ↓reduceIte, List.append_assoc, List.cons_append, List.nil_append, List.append_nil, nxl_0, nxl_s]
  have key : df_X18_second n (RS B [] 0 0 w (nI D) a0 b0 (nI 4)) = some (RS B ([99, 46, 97, 110, 100, 105] ++ ([32] ++ (regL (8 + R) ++ ([44, 32] ++ (decI (tvN w)))))) 2 1 w (nI D) a0 b0 (nI 4)) := by
    unfold df_X18_second df_X18_second_0
    rw [RS_3, if_neg w1, RS_7, if_neg (by decide), if_neg (by decide), if_neg (by decide), if_neg (by decide), if_neg (by decide), if_pos (by decide), show df_X18_part n 10 2 (RS B _ _ _ w _ _ _ _) = some (fpt w 10 2, _) from pt_S (q := 10) (m := 2) (by decide), nb_b2, c10]
    unfold df_X18_reckon df_X18_reckon_0
    rw [show df_X18_part n 2 3 (RS B _ _ _ w _ _ _ _) = some (fpt w 2 3, _) from pt_S (q := 2) (m := 3) (by decide), nb_b2, nb_let, show df_X18_part n 7 3 (RS B _ _ _ w _ _ _ _) = some (fpt w 7 3, _) from pt_S (q := 7) (m := 3) (by decide), nb_b2, nb_let, if_pos (by decide)]
    unfold df_X18_reckon_38
    rw [if_neg (by decide), if_neg (by decide), if_neg (by decide)]
    unfold df_X18_reckon_68
    rw [nw_115880069508707 hn10 (by (try simp only [List.length_append, List.length_cons, List.length_nil, nxl_0, nxl_s]); omega), nb_b1, eR8, reg_S hg hn10 bndR (by decide) (by (try simp only [List.length_append, List.length_cons, List.length_nil, nxl_0, nxl_s]); omega), nb_b1, if_pos (by decide), sxN, nb_b2]
    unfold df_X18_reckon_95
    rw [im_S hn20 mN (by decide) (by (try simp only [List.length_append, List.length_cons, List.length_nil, nxl_0, nxl_s]); omega), nb_b1, nb_b1]
    try unfold df_X18_second_238
    simp only [List.append_assoc, List.cons_append, List.nil_append, List.append_nil, nxl_0, nxl_s]
  exact ⟨_, _, _, _, _, by rw [eD, f3, key, tx]⟩
theorem rtx_79 {n : Nat} {B : St} {w a0 b0 : Int32} (hn : 30 < n) (hg : ∀ r : Nat, r < 32 → sR B 1 r = rgT r) (hm : MKp 79 w) : ∃ (k : Nat) (d a b f : Int32), df_X18_second n (RS B [] 0 0 w (fpt w 7 5) a0 b0 (fpt w 13 3)) = some (RS B (txL (fun c => tvA c w) 79 w) k 1 w d a b f) := by
  have hw : w &&& nI 4294966371 = nI 35841 := hm.2.trans (by decide +kernel)
  have hn10 : 10 < n := by omega
  have hn20 : 20 < n := by omega
  have f3 : fpt w 13 3 = nI 4 := pf_1 hw (by decide) (by decide) (by decide)
  obtain ⟨D, hD, eD⟩ := pt_n (w := w) (k := 7) (m := 5) (by decide) (by decide)
  have hD : D < 32 := hD
  have lD : (regL D).length ≤ 4 := rg_4 ⟨D, hD⟩
  have b12 : fpt w 12 1 = nI 0 := pf_1 hw (by decide) (by decide) (by decide)
  have c10 : fpt w 10 2 = nI 3 := pf_1 hw (by decide) (by decide) (by decide)
  have c5 : fpt w 5 2 = nI 0 := pf_1 hw (by decide) (by decide) (by decide)
  obtain ⟨P, hP, eP⟩ := pt_n (w := w) (k := 2) (m := 3) (by decide) (by decide)
  have bndP : 8 + P < 32 := by have : P < 8 := hP; omega
  have lP : (regL (8 + P)).length ≤ 4 := rg_4 ⟨8 + P, bndP⟩
  have eP8 : (8 : Int32) + fpt w 2 3 = nI (8 + P) := by rw [eP]; exact nI_add 8 P
  obtain ⟨R, hR, eR⟩ := pt_n (w := w) (k := 7) (m := 3) (by decide) (by decide)
  have bndR : 8 + R < 32 := by have : R < 8 := hR; omega
  have lR : (regL (8 + R)).length ≤ 4 := rg_4 ⟨8 + R, bndR⟩
  have eR8 : (8 : Int32) + fpt w 7 3 = nI (8 + R) := by rw [eR]; exact nI_add 8 R
  have w1 : ¬ w = 1 := fun z => by
    rw [show (1 : Int32) = nI 1 from rfl] at z
    rw [z] at f3
    exact absurd f3 (by decide +kernel)
  have tx : txL (fun c => tvA c w) 79 w = ([99, 46, 115, 117, 98] ++ ([32] ++ (regL (8 + R) ++ ([44, 32] ++ (regL (8 + P)))))) := by
    unfold txL sfxL
    rw [show strL (ko_w 79) = [99, 46, 115, 117, 98] from by decide +kernel, show strL (ko_f 79) = [113, 44, 112] from by decide +kernel, if_neg (show ¬ (ko_b 79 &&& 127 : Int32) = 47 by decide +kernel)]
    simp only [wrT, oc_44, (show oper 112 (tvA 112 w) = regL (8 + P) from or_1 (by decide) (by decide) (by show nI 8 + fpt w 2 3 = _; rw [eP, nI_add]) bndP), (show oper 113 (tvA 113 w) = regL (8 + R) from or_1 (by decide) (by decide) (by show nI 8 + fpt w 7 3 = _; rw [eR, nI_add]) bndR), ne_eq, reduceCtorEq, not_false_eq_true, not_true_eq_false, if_true, if_false, ↓reduceIte, List.append_assoc, List.cons_append, List.nil_append, List.append_nil, nxl_0, nxl_s]
  have key : df_X18_second n (RS B [] 0 0 w (nI D) a0 b0 (nI 4)) = some (RS B ([99, 46, 115, 117, 98] ++ ([32] ++ (regL (8 + R) ++ ([44, 32] ++ (regL (8 + P)))))) 2 1 w (nI D) a0 b0 (nI 4)) := by
    unfold df_X18_second df_X18_second_0
    rw [RS_3, if_neg w1, RS_7, if_neg (by decide), if_neg (by decide), if_neg (by decide), if_neg (by decide), if_neg (by decide), if_pos (by decide), show df_X18_part n 10 2 (RS B _ _ _ w _ _ _ _) = some (fpt w 10 2, _) from pt_S (q := 10) (m := 2) (by decide), nb_b2, c10]
    unfold df_X18_reckon df_X18_reckon_0
    rw [show df_X18_part n 2 3 (RS B _ _ _ w _ _ _ _) = some (fpt w 2 3, _) from pt_S (q := 2) (m := 3) (by decide), nb_b2, nb_let, show df_X18_part n 7 3 (RS B _ _ _ w _ _ _ _) = some (fpt w 7 3, _) from pt_S (q := 7) (m := 3) (by decide), nb_b2, nb_let, if_neg (by decide), show df_X18_part n 12 1 (RS B _ _ _ w _ _ _ _) = some (fpt w 12 1, _) from pt_S (q := 12) (m := 1) (by decide), nb_b2, b12, if_neg (by decide)]
    unfold df_X18_reckon_38
    rw [if_pos (by decide), show df_X18_part n 5 2 (RS B _ _ _ w _ _ _ _) = some (fpt w 5 2, _) from pt_S (q := 5) (m := 2) (by decide), nb_b2, c5, if_pos (by decide)]
    unfold df_X18_reckon_146
    rw [nw_422877277795 hn10 (by (try simp only [List.length_append, List.length_cons, List.length_nil, nxl_0, nxl_s]); omega), nb_b1, eR8, reg_S hg hn10 bndR (by decide) (by (try simp only [List.length_append, List.length_cons, List.length_nil, nxl_0, nxl_s]); omega), nb_b1, eP8, reg_S hg hn10 bndP (by decide) (by (try simp only [List.length_append, List.length_cons, List.length_nil, nxl_0, nxl_s]); omega), nb_b1, nb_b1]
    try unfold df_X18_second_238
    simp only [List.append_assoc, List.cons_append, List.nil_append, List.append_nil, nxl_0, nxl_s]
  exact ⟨_, _, _, _, _, by rw [eD, f3, key, tx]⟩
theorem rtx_80 {n : Nat} {B : St} {w a0 b0 : Int32} (hn : 30 < n) (hg : ∀ r : Nat, r < 32 → sR B 1 r = rgT r) (hm : MKp 80 w) : ∃ (k : Nat) (d a b f : Int32), df_X18_second n (RS B [] 0 0 w (fpt w 7 5) a0 b0 (fpt w 13 3)) = some (RS B (txL (fun c => tvA c w) 80 w) k 1 w d a b f) := by
  have hw : w &&& nI 4294966371 = nI 35873 := hm.2.trans (by decide +kernel)
  have hn10 : 10 < n := by omega
  have hn20 : 20 < n := by omega
  have f3 : fpt w 13 3 = nI 4 := pf_1 hw (by decide) (by decide) (by decide)
  obtain ⟨D, hD, eD⟩ := pt_n (w := w) (k := 7) (m := 5) (by decide) (by decide)
  have hD : D < 32 := hD
  have lD : (regL D).length ≤ 4 := rg_4 ⟨D, hD⟩
  have b12 : fpt w 12 1 = nI 0 := pf_1 hw (by decide) (by decide) (by decide)
  have c10 : fpt w 10 2 = nI 3 := pf_1 hw (by decide) (by decide) (by decide)
  have c5 : fpt w 5 2 = nI 1 := pf_1 hw (by decide) (by decide) (by decide)
  obtain ⟨P, hP, eP⟩ := pt_n (w := w) (k := 2) (m := 3) (by decide) (by decide)
  have bndP : 8 + P < 32 := by have : P < 8 := hP; omega
  have lP : (regL (8 + P)).length ≤ 4 := rg_4 ⟨8 + P, bndP⟩
  have eP8 : (8 : Int32) + fpt w 2 3 = nI (8 + P) := by rw [eP]; exact nI_add 8 P
  obtain ⟨R, hR, eR⟩ := pt_n (w := w) (k := 7) (m := 3) (by decide) (by decide)
  have bndR : 8 + R < 32 := by have : R < 8 := hR; omega
  have lR : (regL (8 + R)).length ≤ 4 := rg_4 ⟨8 + R, bndR⟩
  have eR8 : (8 : Int32) + fpt w 7 3 = nI (8 + R) := by rw [eR]; exact nI_add 8 R
  have w1 : ¬ w = 1 := fun z => by
    rw [show (1 : Int32) = nI 1 from rfl] at z
    rw [z] at f3
    exact absurd f3 (by decide +kernel)
  have tx : txL (fun c => tvA c w) 80 w = ([99, 46, 120, 111, 114] ++ ([32] ++ (regL (8 + R) ++ ([44, 32] ++ (regL (8 + P)))))) := by
    unfold txL sfxL
    rw [show strL (ko_w 80) = [99, 46, 120, 111, 114] from by decide +kernel, show strL (ko_f 80) = [113, 44, 112] from by decide +kernel, if_neg (show ¬ (ko_b 80 &&& 127 : Int32) = 47 by decide +kernel)]
    simp only [wrT, oc_44, (show oper 112 (tvA 112 w) = regL (8 + P) from or_1 (by decide) (by decide) (by show nI 8 + fpt w 2 3 = _; rw [eP, nI_add]) bndP), (show oper 113 (tvA 113 w) = regL (8 + R) from or_1 (by decide) (by decide) (by show nI 8 + fpt w 7 3 = _; rw [eR, nI_add]) bndR), ne_eq, reduceCtorEq, not_false_eq_true, not_true_eq_false, if_true, if_false, ↓reduceIte, List.append_assoc, List.cons_append, List.nil_append, List.append_nil, nxl_0, nxl_s]
  have key : df_X18_second n (RS B [] 0 0 w (nI D) a0 b0 (nI 4)) = some (RS B ([99, 46, 120, 111, 114] ++ ([32] ++ (regL (8 + R) ++ ([44, 32] ++ (regL (8 + P)))))) 2 1 w (nI D) a0 b0 (nI 4)) := by
    unfold df_X18_second df_X18_second_0
    rw [RS_3, if_neg w1, RS_7, if_neg (by decide), if_neg (by decide), if_neg (by decide), if_neg (by decide), if_neg (by decide), if_pos (by decide), show df_X18_part n 10 2 (RS B _ _ _ w _ _ _ _) = some (fpt w 10 2, _) from pt_S (q := 10) (m := 2) (by decide), nb_b2, c10]
    unfold df_X18_reckon df_X18_reckon_0
    rw [show df_X18_part n 2 3 (RS B _ _ _ w _ _ _ _) = some (fpt w 2 3, _) from pt_S (q := 2) (m := 3) (by decide), nb_b2, nb_let, show df_X18_part n 7 3 (RS B _ _ _ w _ _ _ _) = some (fpt w 7 3, _) from pt_S (q := 7) (m := 3) (by decide), nb_b2, nb_let, if_neg (by decide), show df_X18_part n 12 1 (RS B _ _ _ w _ _ _ _) = some (fpt w 12 1, _) from pt_S (q := 12) (m := 1) (by decide), nb_b2, b12, if_neg (by decide)]
    unfold df_X18_reckon_38
    rw [if_pos (by decide), show df_X18_part n 5 2 (RS B _ _ _ w _ _ _ _) = some (fpt w 5 2, _) from pt_S (q := 5) (m := 2) (by decide), nb_b2, c5, if_neg (by decide), if_pos (by decide)]
    unfold df_X18_reckon_146
    rw [nw_491496418915 hn10 (by (try simp only [List.length_append, List.length_cons, List.length_nil, nxl_0, nxl_s]); omega), nb_b1, eR8, reg_S hg hn10 bndR (by decide) (by (try simp only [List.length_append, List.length_cons, List.length_nil, nxl_0, nxl_s]); omega), nb_b1, eP8, reg_S hg hn10 bndP (by decide) (by (try simp only [List.length_append, List.length_cons, List.length_nil, nxl_0, nxl_s]); omega), nb_b1, nb_b1]
    try unfold df_X18_second_238
    simp only [List.append_assoc, List.cons_append, List.nil_append, List.append_nil, nxl_0, nxl_s]
  exact ⟨_, _, _, _, _, by rw [eD, f3, key, tx]⟩
theorem rtx_81 {n : Nat} {B : St} {w a0 b0 : Int32} (hn : 30 < n) (hg : ∀ r : Nat, r < 32 → sR B 1 r = rgT r) (hm : MKp 81 w) : ∃ (k : Nat) (d a b f : Int32), df_X18_second n (RS B [] 0 0 w (fpt w 7 5) a0 b0 (fpt w 13 3)) = some (RS B (txL (fun c => tvA c w) 81 w) k 1 w d a b f) := by
  have hw : w &&& nI 4294966371 = nI 35905 := hm.2.trans (by decide +kernel)
  have hn10 : 10 < n := by omega
  have hn20 : 20 < n := by omega
  have f3 : fpt w 13 3 = nI 4 := pf_1 hw (by decide) (by decide) (by decide)
  obtain ⟨D, hD, eD⟩ := pt_n (w := w) (k := 7) (m := 5) (by decide) (by decide)
  have hD : D < 32 := hD
  have lD : (regL D).length ≤ 4 := rg_4 ⟨D, hD⟩
  have b12 : fpt w 12 1 = nI 0 := pf_1 hw (by decide) (by decide) (by decide)
  have c10 : fpt w 10 2 = nI 3 := pf_1 hw (by decide) (by decide) (by decide)
  have c5 : fpt w 5 2 = nI 2 := pf_1 hw (by decide) (by decide) (by decide)
  obtain ⟨P, hP, eP⟩ := pt_n (w := w) (k := 2) (m := 3) (by decide) (by decide)
  have bndP : 8 + P < 32 := by have : P < 8 := hP; omega
  have lP : (regL (8 + P)).length ≤ 4 := rg_4 ⟨8 + P, bndP⟩
  have eP8 : (8 : Int32) + fpt w 2 3 = nI (8 + P) := by rw [eP]; exact nI_add 8 P
  obtain ⟨R, hR, eR⟩ := pt_n (w := w) (k := 7) (m := 3) (by decide) (by decide)
  have bndR : 8 + R < 32 := by have : R < 8 := hR; omega
  have lR : (regL (8 + R)).length ≤ 4 := rg_4 ⟨8 + R, bndR⟩
  have eR8 : (8 : Int32) + fpt w 7 3 = nI (8 + R) := by rw [eR]; exact nI_add 8 R
  have w1 : ¬ w = 1 := fun z => by
    rw [show (1 : Int32) = nI 1 from rfl] at z
    rw [z] at f3
    exact absurd f3 (by decide +kernel)
  have tx : txL (fun c => tvA c w) 81 w = ([99, 46, 111, 114] ++ ([32] ++ (regL (8 + R) ++ ([44, 32] ++ (regL (8 + P)))))) := by
    unfold txL sfxL
    rw [show strL (ko_w 81) = [99, 46, 111, 114] from by decide +kernel, show strL (ko_f 81) = [113, 44, 112] from by decide +kernel, if_neg (show ¬ (ko_b 81 &&& 127 : Int32) = 47 by decide +kernel)]
    simp only [wrT, oc_44, (show oper 112 (tvA 112 w) = regL (8 + P) from or_1 (by decide) (by decide) (by show nI 8 + fpt w 2 3 = _; rw [eP, nI_add]) bndP), (show oper 113 (tvA 113 w) = regL (8 + R) from or_1 (by decide) (by decide) (by show nI 8 + fpt w 7 3 = _; rw [eR, nI_add]) bndR), ne_eq, reduceCtorEq, not_false_eq_true, not_true_eq_false, if_true, if_false, ↓reduceIte, List.append_assoc, List.cons_append, List.nil_append, List.append_nil, nxl_0, nxl_s]
  have key : df_X18_second n (RS B [] 0 0 w (nI D) a0 b0 (nI 4)) = some (RS B ([99, 46, 111, 114] ++ ([32] ++ (regL (8 + R) ++ ([44, 32] ++ (regL (8 + P)))))) 2 1 w (nI D) a0 b0 (nI 4)) := by
    unfold df_X18_second df_X18_second_0
    rw [RS_3, if_neg w1, RS_7, if_neg (by decide), if_neg (by decide), if_neg (by decide), if_neg (by decide), if_neg (by decide), if_pos (by decide), show df_X18_part n 10 2 (RS B _ _ _ w _ _ _ _) = some (fpt w 10 2, _) from pt_S (q := 10) (m := 2) (by decide), nb_b2, c10]
    unfold df_X18_reckon df_X18_reckon_0
    rw [show df_X18_part n 2 3 (RS B _ _ _ w _ _ _ _) = some (fpt w 2 3, _) from pt_S (q := 2) (m := 3) (by decide), nb_b2, nb_let, show df_X18_part n 7 3 (RS B _ _ _ w _ _ _ _) = some (fpt w 7 3, _) from pt_S (q := 7) (m := 3) (by decide), nb_b2, nb_let, if_neg (by decide), show df_X18_part n 12 1 (RS B _ _ _ w _ _ _ _) = some (fpt w 12 1, _) from pt_S (q := 12) (m := 1) (by decide), nb_b2, b12, if_neg (by decide)]
    unfold df_X18_reckon_38
    rw [if_pos (by decide), show df_X18_part n 5 2 (RS B _ _ _ w _ _ _ _) = some (fpt w 5 2, _) from pt_S (q := 5) (m := 2) (by decide), nb_b2, c5, if_neg (by decide), if_neg (by decide), if_pos (by decide)]
    unfold df_X18_reckon_146
    rw [nw_1919888995 hn10 (by (try simp only [List.length_append, List.length_cons, List.length_nil, nxl_0, nxl_s]); omega), nb_b1, eR8, reg_S hg hn10 bndR (by decide) (by (try simp only [List.length_append, List.length_cons, List.length_nil, nxl_0, nxl_s]); omega), nb_b1, eP8, reg_S hg hn10 bndP (by decide) (by (try simp only [List.length_append, List.length_cons, List.length_nil, nxl_0, nxl_s]); omega), nb_b1, nb_b1]
    try unfold df_X18_second_238
    simp only [List.append_assoc, List.cons_append, List.nil_append, List.append_nil, nxl_0, nxl_s]
  exact ⟨_, _, _, _, _, by rw [eD, f3, key, tx]⟩
theorem rtx_82 {n : Nat} {B : St} {w a0 b0 : Int32} (hn : 30 < n) (hg : ∀ r : Nat, r < 32 → sR B 1 r = rgT r) (hm : MKp 82 w) : ∃ (k : Nat) (d a b f : Int32), df_X18_second n (RS B [] 0 0 w (fpt w 7 5) a0 b0 (fpt w 13 3)) = some (RS B (txL (fun c => tvA c w) 82 w) k 1 w d a b f) := by
  have hw : w &&& nI 4294966371 = nI 35937 := hm.2.trans (by decide +kernel)
  have hn10 : 10 < n := by omega
  have hn20 : 20 < n := by omega
  have f3 : fpt w 13 3 = nI 4 := pf_1 hw (by decide) (by decide) (by decide)
  obtain ⟨D, hD, eD⟩ := pt_n (w := w) (k := 7) (m := 5) (by decide) (by decide)
  have hD : D < 32 := hD
  have lD : (regL D).length ≤ 4 := rg_4 ⟨D, hD⟩
  have b12 : fpt w 12 1 = nI 0 := pf_1 hw (by decide) (by decide) (by decide)
  have c10 : fpt w 10 2 = nI 3 := pf_1 hw (by decide) (by decide) (by decide)
  have c5 : fpt w 5 2 = nI 3 := pf_1 hw (by decide) (by decide) (by decide)
  obtain ⟨P, hP, eP⟩ := pt_n (w := w) (k := 2) (m := 3) (by decide) (by decide)
  have bndP : 8 + P < 32 := by have : P < 8 := hP; omega
  have lP : (regL (8 + P)).length ≤ 4 := rg_4 ⟨8 + P, bndP⟩
  have eP8 : (8 : Int32) + fpt w 2 3 = nI (8 + P) := by rw [eP]; exact nI_add 8 P
  obtain ⟨R, hR, eR⟩ := pt_n (w := w) (k := 7) (m := 3) (by decide) (by decide)
  have bndR : 8 + R < 32 := by have : R < 8 := hR; omega
  have lR : (regL (8 + R)).length ≤ 4 := rg_4 ⟨8 + R, bndR⟩
  have eR8 : (8 : Int32) + fpt w 7 3 = nI (8 + R) := by rw [eR]; exact nI_add 8 R
  have w1 : ¬ w = 1 := fun z => by
    rw [show (1 : Int32) = nI 1 from rfl] at z
    rw [z] at f3
    exact absurd f3 (by decide +kernel)
  have tx : txL (fun c => tvA c w) 82 w = ([99, 46, 97, 110, 100] ++ ([32] ++ (regL (8 + R) ++ ([44, 32] ++ (regL (8 + P)))))) := by
    unfold txL sfxL
    rw [show strL (ko_w 82) = [99, 46, 97, 110, 100] from by decide +kernel, show strL (ko_f 82) = [113, 44, 112] from by decide +kernel, if_neg (show ¬ (ko_b 82 &&& 127 : Int32) = 47 by decide +kernel)]
    simp only [wrT, oc_44, (show oper 112 (tvA 112 w) = regL (8 + P) from or_1 (by decide) (by decide) (by show nI 8 + fpt w 2 3 = _; rw [eP, nI_add]) bndP), (show oper 113 (tvA 113 w) = regL (8 + R) from or_1 (by decide) (by decide) (by show nI 8 + fpt w 7 3 = _; rw [eR, nI_add]) bndR), ne_eq, reduceCtorEq, not_false_eq_true, not_true_eq_false, if_true, if_false, ↓reduceIte, List.append_assoc, List.cons_append, List.nil_append, List.append_nil, nxl_0, nxl_s]
  have key : df_X18_second n (RS B [] 0 0 w (nI D) a0 b0 (nI 4)) = some (RS B ([99, 46, 97, 110, 100] ++ ([32] ++ (regL (8 + R) ++ ([44, 32] ++ (regL (8 + P)))))) 2 1 w (nI D) a0 b0 (nI 4)) := by
    unfold df_X18_second df_X18_second_0
    rw [RS_3, if_neg w1, RS_7, if_neg (by decide), if_neg (by decide), if_neg (by decide), if_neg (by decide), if_neg (by decide), if_pos (by decide), show df_X18_part n 10 2 (RS B _ _ _ w _ _ _ _) = some (fpt w 10 2, _) from pt_S (q := 10) (m := 2) (by decide), nb_b2, c10]
    unfold df_X18_reckon df_X18_reckon_0
    rw [show df_X18_part n 2 3 (RS B _ _ _ w _ _ _ _) = some (fpt w 2 3, _) from pt_S (q := 2) (m := 3) (by decide), nb_b2, nb_let, show df_X18_part n 7 3 (RS B _ _ _ w _ _ _ _) = some (fpt w 7 3, _) from pt_S (q := 7) (m := 3) (by decide), nb_b2, nb_let, if_neg (by decide), show df_X18_part n 12 1 (RS B _ _ _ w _ _ _ _) = some (fpt w 12 1, _) from pt_S (q := 12) (m := 1) (by decide), nb_b2, b12, if_neg (by decide)]
    unfold df_X18_reckon_38
    rw [if_pos (by decide), show df_X18_part n 5 2 (RS B _ _ _ w _ _ _ _) = some (fpt w 5 2, _) from pt_S (q := 5) (m := 2) (by decide), nb_b2, c5, if_neg (by decide), if_neg (by decide), if_neg (by decide)]
    unfold df_X18_reckon_146
    rw [nw_431348592227 hn10 (by (try simp only [List.length_append, List.length_cons, List.length_nil, nxl_0, nxl_s]); omega), nb_b1, eR8, reg_S hg hn10 bndR (by decide) (by (try simp only [List.length_append, List.length_cons, List.length_nil, nxl_0, nxl_s]); omega), nb_b1, eP8, reg_S hg hn10 bndP (by decide) (by (try simp only [List.length_append, List.length_cons, List.length_nil, nxl_0, nxl_s]); omega), nb_b1, nb_b1]
    try unfold df_X18_second_238
    simp only [List.append_assoc, List.cons_append, List.nil_append, List.append_nil, nxl_0, nxl_s]
  exact ⟨_, _, _, _, _, by rw [eD, f3, key, tx]⟩
theorem rtx_83 {n : Nat} {B : St} {w a0 b0 : Int32} (hn : 30 < n) (hg : ∀ r : Nat, r < 32 → sR B 1 r = rgT r) (hm : MKp 83 w) : ∃ (k : Nat) (d a b f : Int32), df_X18_second n (RS B [] 0 0 w (fpt w 7 5) a0 b0 (fpt w 13 3)) = some (RS B (txL (fun c => tvA c w) 83 w) k 1 w d a b f) := by
  have hw : w &&& nI 4294959107 = nI 49153 := hm.2.trans (by decide +kernel)
  have hn10 : 10 < n := by omega
  have hn20 : 20 < n := by omega
  have f3 : fpt w 13 3 = nI 6 := pf_1 hw (by decide) (by decide) (by decide)
  obtain ⟨D, hD, eD⟩ := pt_n (w := w) (k := 7) (m := 5) (by decide) (by decide)
  have hD : D < 32 := hD
  have lD : (regL D).length ≤ 4 := rg_4 ⟨D, hD⟩
  obtain ⟨R, hR, eR⟩ := pt_n (w := w) (k := 7) (m := 3) (by decide) (by decide)
  have bndR : 8 + R < 32 := by have : R < 8 := hR; omega
  have lR : (regL (8 + R)).length ≤ 4 := rg_4 ⟨8 + R, bndR⟩
  have eR8 : (8 : Int32) + fpt w 7 3 = nI (8 + R) := by rw [eR]; exact nI_add 8 R
  have mL := nmv_L w
  have lL := de_l mL
  have vL : ((fpt w 3 2) <<< ((1 : Int32) &&& 31)) ||| ((fpt w 10 2) <<< ((3 : Int32) &&& 31)) ||| ((fpt w 2 1) <<< ((5 : Int32) &&& 31)) ||| ((fpt w 5 2) <<< ((6 : Int32) &&& 31)) ||| ((-(fpt w 12 1)) <<< ((8 : Int32) &&& 31)) = tvL w := by
    rw [show ((1 : Int32) &&& 31) = nI 1 from by decide, show ((3 : Int32) &&& 31) = nI 3 from by decide, show ((5 : Int32) &&& 31) = nI 5 from by decide, show ((6 : Int32) &&& 31) = nI 6 from by decide, show ((8 : Int32) &&& 31) = nI 8 from by decide]
    rfl
  have w1 : ¬ w = 1 := fun z => by
    rw [show (1 : Int32) = nI 1 from rfl] at z
    rw [z] at f3
    exact absurd f3 (by decide +kernel)
  have tx : txL (fun c => tvA c w) 83 w = ([99, 46, 98, 101, 113, 122] ++ ([32] ++ (regL (8 + R) ++ ([44, 32] ++ (tgL (tvL w)))))) := by
    unfold txL sfxL
    rw [show strL (ko_w 83) = [99, 46, 98, 101, 113, 122] from by decide +kernel, show strL (ko_f 83) = [113, 44, 76] from by decide +kernel, if_neg (show ¬ (ko_b 83 &&& 127 : Int32) = 47 by decide +kernel)]
    simp only [wrT, oc_44, (show oper 76 (tvA 76 w) = tgL (tvL w) from ot_1 _ (by decide) (by decide) (by decide)), (show oper 113 (tvA 113 w) = regL (8 + R) from or_1 (by decide) (by decide) (by show nI 8 + fpt w 7 3 = _; rw [eR, nI_add]) bndR), ne_eq, reduceCtorEq, not_false_eq_true, not_true_eq_false, if_true, if_false, ↓reduceIte, List.append_assoc, List.cons_append, List.nil_append, List.append_nil, nxl_0, nxl_s]
  have key : df_X18_second n (RS B [] 0 0 w (nI D) a0 b0 (nI 6)) = some (RS B ([99, 46, 98, 101, 113, 122] ++ ([32] ++ (regL (8 + R) ++ ([44, 32] ++ (tgL (tvL w)))))) 2 1 w (nI D) a0 b0 (nI 6)) := by
    unfold df_X18_second df_X18_second_0
    rw [RS_3, if_neg w1, RS_7, if_neg (by decide), if_neg (by decide), if_neg (by decide), if_neg (by decide), if_neg (by decide), if_neg (by decide), if_pos (by decide)]
    unfold df_X18_second_168
    rw [nw_134627450826339 hn10 (by (try simp only [List.length_append, List.length_cons, List.length_nil, nxl_0, nxl_s]); omega), nb_b1, show df_X18_part n 7 3 (RS B _ _ _ w _ _ _ _) = some (fpt w 7 3, _) from pt_S (q := 7) (m := 3) (by decide), nb_b2, eR8, reg_S hg hn10 bndR (by decide) (by (try simp only [List.length_append, List.length_cons, List.length_nil, nxl_0, nxl_s]); omega), nb_b1, show df_X18_part n 3 2 (RS B _ _ _ w _ _ _ _) = some (fpt w 3 2, _) from pt_S (q := 3) (m := 2) (by decide), nb_b2, show df_X18_part n 10 2 (RS B _ _ _ w _ _ _ _) = some (fpt w 10 2, _) from pt_S (q := 10) (m := 2) (by decide), nb_b2, show df_X18_part n 2 1 (RS B _ _ _ w _ _ _ _) = some (fpt w 2 1, _) from pt_S (q := 2) (m := 1) (by decide), nb_b2, show df_X18_part n 5 2 (RS B _ _ _ w _ _ _ _) = some (fpt w 5 2, _) from pt_S (q := 5) (m := 2) (by decide), nb_b2, show df_X18_part n 12 1 (RS B _ _ _ w _ _ _ _) = some (fpt w 12 1, _) from pt_S (q := 12) (m := 1) (by decide), nb_b2, vL, ta_S hn20 mL (by decide) (by (try simp only [List.length_append, List.length_cons, List.length_nil, nxl_0, nxl_s]); omega), nb_b1]
    try unfold df_X18_second_238
    simp only [List.append_assoc, List.cons_append, List.nil_append, List.append_nil, nxl_0, nxl_s]
  exact ⟨_, _, _, _, _, by rw [eD, f3, key, tx]⟩
theorem rtx_84 {n : Nat} {B : St} {w a0 b0 : Int32} (hn : 30 < n) (hg : ∀ r : Nat, r < 32 → sR B 1 r = rgT r) (hm : MKp 84 w) : ∃ (k : Nat) (d a b f : Int32), df_X18_second n (RS B [] 0 0 w (fpt w 7 5) a0 b0 (fpt w 13 3)) = some (RS B (txL (fun c => tvA c w) 84 w) k 1 w d a b f) := by
  have hw : w &&& nI 4294959107 = nI 57345 := hm.2.trans (by decide +kernel)
  have hn10 : 10 < n := by omega
  have hn20 : 20 < n := by omega
  have f3 : fpt w 13 3 = nI 7 := pf_1 hw (by decide) (by decide) (by decide)
  obtain ⟨D, hD, eD⟩ := pt_n (w := w) (k := 7) (m := 5) (by decide) (by decide)
  have hD : D < 32 := hD
  have lD : (regL D).length ≤ 4 := rg_4 ⟨D, hD⟩
  obtain ⟨R, hR, eR⟩ := pt_n (w := w) (k := 7) (m := 3) (by decide) (by decide)
  have bndR : 8 + R < 32 := by have : R < 8 := hR; omega
  have lR : (regL (8 + R)).length ≤ 4 := rg_4 ⟨8 + R, bndR⟩
  have eR8 : (8 : Int32) + fpt w 7 3 = nI (8 + R) := by rw [eR]; exact nI_add 8 R
  have mL := nmv_L w
  have lL := de_l mL
  have vL : ((fpt w 3 2) <<< ((1 : Int32) &&& 31)) ||| ((fpt w 10 2) <<< ((3 : Int32) &&& 31)) ||| ((fpt w 2 1) <<< ((5 : Int32) &&& 31)) ||| ((fpt w 5 2) <<< ((6 : Int32) &&& 31)) ||| ((-(fpt w 12 1)) <<< ((8 : Int32) &&& 31)) = tvL w := by
    rw [show ((1 : Int32) &&& 31) = nI 1 from by decide, show ((3 : Int32) &&& 31) = nI 3 from by decide, show ((5 : Int32) &&& 31) = nI 5 from by decide, show ((6 : Int32) &&& 31) = nI 6 from by decide, show ((8 : Int32) &&& 31) = nI 8 from by decide]
    rfl
  have w1 : ¬ w = 1 := fun z => by
    rw [show (1 : Int32) = nI 1 from rfl] at z
    rw [z] at f3
    exact absurd f3 (by decide +kernel)
  have tx : txL (fun c => tvA c w) 84 w = ([99, 46, 98, 110, 101, 122] ++ ([32] ++ (regL (8 + R) ++ ([44, 32] ++ (tgL (tvL w)))))) := by
    unfold txL sfxL
    rw [show strL (ko_w 84) = [99, 46, 98, 110, 101, 122] from by decide +kernel, show strL (ko_f 84) = [113, 44, 76] from by decide +kernel, if_neg (show ¬ (ko_b 84 &&& 127 : Int32) = 47 by decide +kernel)]
    simp only [wrT, oc_44, (show oper 76 (tvA 76 w) = tgL (tvL w) from ot_1 _ (by decide) (by decide) (by decide)), (show oper 113 (tvA 113 w) = regL (8 + R) from or_1 (by decide) (by decide) (by show nI 8 + fpt w 7 3 = _; rw [eR, nI_add]) bndR), ne_eq, reduceCtorEq, not_false_eq_true, not_true_eq_false, if_true, if_false, ↓reduceIte, List.append_assoc, List.cons_append, List.nil_append, List.append_nil, nxl_0, nxl_s]
  have key : df_X18_second n (RS B [] 0 0 w (nI D) a0 b0 (nI 7)) = some (RS B ([99, 46, 98, 110, 101, 122] ++ ([32] ++ (regL (8 + R) ++ ([44, 32] ++ (tgL (tvL w)))))) 2 1 w (nI D) a0 b0 (nI 7)) := by
    unfold df_X18_second df_X18_second_0
    rw [RS_3, if_neg w1, RS_7, if_neg (by decide), if_neg (by decide), if_neg (by decide), if_neg (by decide), if_neg (by decide), if_neg (by decide), if_neg (by decide)]
    unfold df_X18_second_168
    rw [nw_134576062213731 hn10 (by (try simp only [List.length_append, List.length_cons, List.length_nil, nxl_0, nxl_s]); omega), nb_b1, show df_X18_part n 7 3 (RS B _ _ _ w _ _ _ _) = some (fpt w 7 3, _) from pt_S (q := 7) (m := 3) (by decide), nb_b2, eR8, reg_S hg hn10 bndR (by decide) (by (try simp only [List.length_append, List.length_cons, List.length_nil, nxl_0, nxl_s]); omega), nb_b1, show df_X18_part n 3 2 (RS B _ _ _ w _ _ _ _) = some (fpt w 3 2, _) from pt_S (q := 3) (m := 2) (by decide), nb_b2, show df_X18_part n 10 2 (RS B _ _ _ w _ _ _ _) = some (fpt w 10 2, _) from pt_S (q := 10) (m := 2) (by decide), nb_b2, show df_X18_part n 2 1 (RS B _ _ _ w _ _ _ _) = some (fpt w 2 1, _) from pt_S (q := 2) (m := 1) (by decide), nb_b2, show df_X18_part n 5 2 (RS B _ _ _ w _ _ _ _) = some (fpt w 5 2, _) from pt_S (q := 5) (m := 2) (by decide), nb_b2, show df_X18_part n 12 1 (RS B _ _ _ w _ _ _ _) = some (fpt w 12 1, _) from pt_S (q := 12) (m := 1) (by decide), nb_b2, vL, ta_S hn20 mL (by decide) (by (try simp only [List.length_append, List.length_cons, List.length_nil, nxl_0, nxl_s]); omega), nb_b1]
    try unfold df_X18_second_238
    simp only [List.append_assoc, List.cons_append, List.nil_append, List.append_nil, nxl_0, nxl_s]
  exact ⟨_, _, _, _, _, by rw [eD, f3, key, tx]⟩
theorem rtx_85 {n : Nat} {B : St} {w a0 b0 : Int32} (hn : 30 < n) (hg : ∀ r : Nat, r < 32 → sR B 1 r = rgT r) (hm : MKp 85 w) : ∃ (k : Nat) (d a b f : Int32), df_X18_third n (RS B [] 0 0 w (fpt w 7 5) a0 b0 (fpt w 13 3)) = some (RS B (txL (fun c => tvA c w) 85 w) k 1 w d a b f) := by
  have hw : w &&& nI 4294963203 = nI 2 := hm.2.trans (by decide +kernel)
  have hn10 : 10 < n := by omega
  have hn20 : 20 < n := by omega
  have f3 : fpt w 13 3 = nI 0 := pf_1 hw (by decide) (by decide) (by decide)
  obtain ⟨D, hD, eD⟩ := pt_n (w := w) (k := 7) (m := 5) (by decide) (by decide)
  have hD : D < 32 := hD
  have lD : (regL D).length ≤ 4 := rg_4 ⟨D, hD⟩
  have b12 : fpt w 12 1 = nI 0 := pf_1 hw (by decide) (by decide) (by decide)
  have mV := nmv_V w
  have lV := de_l mV
  have vV : fpt w 2 5 = tvV w := rfl
  have tx : txL (fun c => tvA c w) 85 w = ([99, 46, 115, 108, 108, 105] ++ ([32] ++ (regL D ++ ([44, 32] ++ (decI (tvV w)))))) := by
    unfold txL sfxL
    rw [show strL (ko_w 85) = [99, 46, 115, 108, 108, 105] from by decide +kernel, show strL (ko_f 85) = [100, 44, 86] from by decide +kernel, if_neg (show ¬ (ko_b 85 &&& 127 : Int32) = 47 by decide +kernel)]
    simp only [wrT, oc_44, (show oper 86 (tvA 86 w) = decI (tvV w) from on_1 _ (by decide) (by decide) (by decide)), (show oper 100 (tvA 100 w) = regL D from or_1 (by decide) (by decide) eD hD), ne_eq, reduceCtorEq, not_false_eq_true, not_true_eq_false, if_true, if_false, ↓reduceIte, List.append_assoc, List.cons_append, List.nil_append, List.append_nil, nxl_0, nxl_s]
  have key : df_X18_third n (RS B [] 0 0 w (nI D) a0 b0 (nI 0)) = some (RS B ([99, 46, 115, 108, 108, 105] ++ ([32] ++ (regL D ++ ([44, 32] ++ (decI (tvV w)))))) 2 1 w (nI D) a0 (tvV w) (nI 0)) := by
    unfold df_X18_third df_X18_third_0
    rw [show df_X18_part n 12 1 (RS B _ _ _ w _ _ _ _) = some (fpt w 12 1, _) from pt_S (q := 12) (m := 1) (by decide), nb_b2, b12, if_neg (by decide)]
    unfold df_X18_third_16
    rw [show df_X18_part n 2 5 (RS B _ _ _ w _ _ _ _) = some (fpt w 2 5, _) from pt_S (q := 2) (m := 5) (by decide), nb_b2, nb_let, vV, RS_w6, RS_7]
    rw [if_pos (by decide), if_pos (by decide), nw_115914396872291 hn10 (by (try simp only [List.length_append, List.length_cons, List.length_nil, nxl_0, nxl_s]); omega), nb_b1, RS_4, reg_S hg hn10 hD (by decide) (by (try simp only [List.length_append, List.length_cons, List.length_nil, nxl_0, nxl_s]); omega), nb_b1, RS_6, im_S hn20 mV (by decide) (by (try simp only [List.length_append, List.length_cons, List.length_nil, nxl_0, nxl_s]); omega), nb_b1]
    try unfold df_X18_third_293
    simp only [List.append_assoc, List.cons_append, List.nil_append, List.append_nil, nxl_0, nxl_s]
  exact ⟨_, _, _, _, _, by rw [eD, f3, key, tx]⟩
theorem rtx_86 {n : Nat} {B : St} {w a0 b0 : Int32} (hn : 30 < n) (hg : ∀ r : Nat, r < 32 → sR B 1 r = rgT r) (hm : MKp 86 w) : ∃ (k : Nat) (d a b f : Int32), df_X18_third n (RS B [] 0 0 w (fpt w 7 5) a0 b0 (fpt w 13 3)) = some (RS B (txL (fun c => tvA c w) 86 w) k 1 w d a b f) := by
  have hw : w &&& nI 4294959107 = nI 16386 := hm.2.trans (by decide +kernel)
  have hn10 : 10 < n := by omega
  have hn20 : 20 < n := by omega
  have f3 : fpt w 13 3 = nI 2 := pf_1 hw (by decide) (by decide) (by decide)
  obtain ⟨D, hD, eD⟩ := pt_n (w := w) (k := 7) (m := 5) (by decide) (by decide)
  have hD : D < 32 := hD
  have lD : (regL D).length ≤ 4 := rg_4 ⟨D, hD⟩
  have mP := nmv_P w
  have lP := de_l mP
  have vP : ((fpt w 12 1) <<< ((5 : Int32) &&& 31)) ||| ((fpt w 4 3) <<< ((2 : Int32) &&& 31)) ||| ((fpt w 2 2) <<< ((6 : Int32) &&& 31)) = tvP w := by
    rw [show ((5 : Int32) &&& 31) = nI 5 from by decide, show ((2 : Int32) &&& 31) = nI 2 from by decide, show ((6 : Int32) &&& 31) = nI 6 from by decide]
    rfl
  have xn : ¬ fpt w 7 5 = 0 := nbdC (fb_m (c := 110) (by decide) _ hm.1 (by decide +kernel))
  rw [eD] at xn
  have tx : txL (fun c => tvA c w) 86 w = ([99, 46, 108, 119, 115, 112] ++ ([32] ++ (regL D ++ ([44, 32] ++ (decI (tvP w)))))) := by
    unfold txL sfxL
    rw [show strL (ko_w 86) = [99, 46, 108, 119, 115, 112] from by decide +kernel, show strL (ko_f 86) = [110, 44, 80] from by decide +kernel, if_neg (show ¬ (ko_b 86 &&& 127 : Int32) = 47 by decide +kernel)]
    simp only [wrT, oc_44, (show oper 80 (tvA 80 w) = decI (tvP w) from on_1 _ (by decide) (by decide) (by decide)), (show oper 110 (tvA 110 w) = regL D from or_1 (by decide) (by decide) eD hD), ne_eq, reduceCtorEq, not_false_eq_true, not_true_eq_false, if_true, if_false, ↓reduceIte, List.append_assoc, List.cons_append, List.nil_append, List.append_nil, nxl_0, nxl_s]
  have k16 : ∀ y : Int32, df_X18_third_16 n y (RS B [] 0 0 w (nI D) a0 b0 (nI 2)) = some (RS B ([99, 46, 108, 119, 115, 112] ++ ([32] ++ (regL D ++ ([44, 32] ++ (decI (tvP w)))))) 2 1 w (nI D) a0 (fpt w 2 5) (nI 2)) := fun y => by
    unfold df_X18_third_16
    rw [show df_X18_part n 2 5 (RS B _ _ _ w _ _ _ _) = some (fpt w 2 5, _) from pt_S (q := 2) (m := 5) (by decide), nb_b2, nb_let, RS_w6, RS_7]
    rw [if_neg (by decide)]
    unfold df_X18_third_64
    rw [RS_7, if_pos (by decide), RS_4, if_neg xn, nw_123641227128419 hn10 (by (try simp only [List.length_append, List.length_cons, List.length_nil, nxl_0, nxl_s]); omega), nb_b1, RS_4, reg_S hg hn10 hD (by decide) (by (try simp only [List.length_append, List.length_cons, List.length_nil, nxl_0, nxl_s]); omega), nb_b1, show df_X18_part n 12 1 (RS B _ _ _ w _ _ _ _) = some (fpt w 12 1, _) from pt_S (q := 12) (m := 1) (by decide), nb_b2, show df_X18_part n 4 3 (RS B _ _ _ w _ _ _ _) = some (fpt w 4 3, _) from pt_S (q := 4) (m := 3) (by decide), nb_b2, show df_X18_part n 2 2 (RS B _ _ _ w _ _ _ _) = some (fpt w 2 2, _) from pt_S (q := 2) (m := 2) (by decide), nb_b2, vP, im_S hn20 mP (by decide) (by (try simp only [List.length_append, List.length_cons, List.length_nil, nxl_0, nxl_s]); omega), nb_b1]
    unfold df_X18_third_293
    simp only [List.append_assoc, List.cons_append, List.nil_append, List.append_nil, nxl_0, nxl_s]
  have key : df_X18_third n (RS B [] 0 0 w (nI D) a0 b0 (nI 2)) = some (RS B ([99, 46, 108, 119, 115, 112] ++ ([32] ++ (regL D ++ ([44, 32] ++ (decI (tvP w)))))) 2 1 w (nI D) a0 (fpt w 2 5) (nI 2)) := by
    unfold df_X18_third df_X18_third_0
    rw [show df_X18_part n 12 1 (RS B _ _ _ w _ _ _ _) = some (fpt w 12 1, _) from pt_S (q := 12) (m := 1) (by decide), nb_b2, k16, k16, ite_self]
  exact ⟨_, _, _, _, _, by rw [eD, f3, key, tx]⟩
theorem rtx_87 {n : Nat} {B : St} {w a0 b0 : Int32} (hn : 30 < n) (hg : ∀ r : Nat, r < 32 → sR B 1 r = rgT r) (hm : MKp 87 w) : ∃ (k : Nat) (d a b f : Int32), df_X18_third n (RS B [] 0 0 w (fpt w 7 5) a0 b0 (fpt w 13 3)) = some (RS B (txL (fun c => tvA c w) 87 w) k 1 w d a b f) := by
  have hw : w &&& nI 4294963327 = nI 32770 := hm.2.trans (by decide +kernel)
  have hn10 : 10 < n := by omega
  have hn20 : 20 < n := by omega
  have f3 : fpt w 13 3 = nI 4 := pf_1 hw (by decide) (by decide) (by decide)
  obtain ⟨D, hD, eD⟩ := pt_n (w := w) (k := 7) (m := 5) (by decide) (by decide)
  have hD : D < 32 := hD
  have lD : (regL D).length ≤ 4 := rg_4 ⟨D, hD⟩
  have b12 : fpt w 12 1 = nI 0 := pf_1 hw (by decide) (by decide) (by decide)
  have z5 : fpt w 2 5 = nI 0 := pf_1 hw (by decide) (by decide) (by decide)
  have xn : ¬ fpt w 7 5 = 0 := nbdC (fb_m (c := 110) (by decide) _ hm.1 (by decide +kernel))
  rw [eD] at xn
  have tx : txL (fun c => tvA c w) 87 w = ([99, 46, 106, 114] ++ ([32] ++ (regL D))) := by
    unfold txL sfxL
    rw [show strL (ko_w 87) = [99, 46, 106, 114] from by decide +kernel, show strL (ko_f 87) = [110] from by decide +kernel, if_neg (show ¬ (ko_b 87 &&& 127 : Int32) = 47 by decide +kernel)]
    simp only [wrT, (show oper 110 (tvA 110 w) = regL D from or_1 (by decide) (by decide) eD hD), ne_eq, reduceCtorEq, not_false_eq_true, not_true_eq_false, if_true, if_false, ↓reduceIte, List.append_assoc, List.cons_append, List.nil_append, List.append_nil, nxl_0, nxl_s]
  have key : df_X18_third n (RS B [] 0 0 w (nI D) a0 b0 (nI 4)) = some (RS B ([99, 46, 106, 114] ++ ([32] ++ (regL D))) 1 1 w (nI D) a0 (nI 0) (nI 4)) := by
    unfold df_X18_third df_X18_third_0
    rw [show df_X18_part n 12 1 (RS B _ _ _ w _ _ _ _) = some (fpt w 12 1, _) from pt_S (q := 12) (m := 1) (by decide), nb_b2, b12, if_neg (by decide)]
    unfold df_X18_third_16
    rw [show df_X18_part n 2 5 (RS B _ _ _ w _ _ _ _) = some (fpt w 2 5, _) from pt_S (q := 2) (m := 5) (by decide), nb_b2, nb_let, z5, RS_w6, RS_7]
    rw [if_neg (by decide)]
    unfold df_X18_third_64
    rw [RS_7, if_neg (by decide)]
    unfold df_X18_third_129
    rw [RS_7, if_neg (by decide), if_pos (by decide), RS_6, if_pos (by decide)]
    unfold df_X18_third_231
    rw [RS_7, if_pos (by decide), RS_4, if_neg xn, if_pos (by decide)]
    unfold df_X18_third_260
    rw [nw_1919561315 hn10 (by (try simp only [List.length_append, List.length_cons, List.length_nil, nxl_0, nxl_s]); omega), nb_b1, RS_4, reg_S hg hn10 hD (by decide) (by (try simp only [List.length_append, List.length_cons, List.length_nil, nxl_0, nxl_s]); omega), nb_b1]
    try unfold df_X18_third_293
    simp only [List.append_assoc, List.cons_append, List.nil_append, List.append_nil, nxl_0, nxl_s]
  exact ⟨_, _, _, _, _, by rw [eD, f3, key, tx]⟩
theorem rtx_88 {n : Nat} {B : St} {w a0 b0 : Int32} (hn : 30 < n) (hg : ∀ r : Nat, r < 32 → sR B 1 r = rgT r) (hm : MKp 88 w) : ∃ (k : Nat) (d a b f : Int32), df_X18_third n (RS B [] 0 0 w (fpt w 7 5) a0 b0 (fpt w 13 3)) = some (RS B (txL (fun c => tvA c w) 88 w) k 1 w d a b f) := by
  have hw : w &&& nI 4294963203 = nI 32770 := hm.2.trans (by decide +kernel)
  have hn10 : 10 < n := by omega
  have hn20 : 20 < n := by omega
  have f3 : fpt w 13 3 = nI 4 := pf_1 hw (by decide) (by decide) (by decide)
  obtain ⟨D, hD, eD⟩ := pt_n (w := w) (k := 7) (m := 5) (by decide) (by decide)
  have hD : D < 32 := hD
  have lD : (regL D).length ≤ 4 := rg_4 ⟨D, hD⟩
  have b12 : fpt w 12 1 = nI 0 := pf_1 hw (by decide) (by decide) (by decide)
  obtain ⟨Z, hZ, eZ⟩ := pt_n (w := w) (k := 2) (m := 5) (by decide) (by decide)
  have hZ : Z < 32 := hZ
  have lZ : (regL Z).length ≤ 4 := rg_4 ⟨Z, hZ⟩
  have xz : ¬ fpt w 2 5 = 0 := nbdC (fb_m (c := 122) (by decide) _ hm.1 (by decide +kernel))
  rw [eZ] at xz
  have tx : txL (fun c => tvA c w) 88 w = ([99, 46, 109, 118] ++ ([32] ++ (regL D ++ ([44, 32] ++ (regL Z))))) := by
    unfold txL sfxL
    rw [show strL (ko_w 88) = [99, 46, 109, 118] from by decide +kernel, show strL (ko_f 88) = [100, 44, 122] from by decide +kernel, if_neg (show ¬ (ko_b 88 &&& 127 : Int32) = 47 by decide +kernel)]
    simp only [wrT, oc_44, (show oper 100 (tvA 100 w) = regL D from or_1 (by decide) (by decide) eD hD), (show oper 122 (tvA 122 w) = regL Z from or_1 (by decide) (by decide) eZ hZ), ne_eq, reduceCtorEq, not_false_eq_true, not_true_eq_false, if_true, if_false, ↓reduceIte, List.append_assoc, List.cons_append, List.nil_append, List.append_nil, nxl_0, nxl_s]
  have key : df_X18_third n (RS B [] 0 0 w (nI D) a0 b0 (nI 4)) = some (RS B ([99, 46, 109, 118] ++ ([32] ++ (regL D ++ ([44, 32] ++ (regL Z))))) 2 1 w (nI D) a0 (nI Z) (nI 4)) := by
    unfold df_X18_third df_X18_third_0
    rw [show df_X18_part n 12 1 (RS B _ _ _ w _ _ _ _) = some (fpt w 12 1, _) from pt_S (q := 12) (m := 1) (by decide), nb_b2, b12, if_neg (by decide)]
    unfold df_X18_third_16
    rw [show df_X18_part n 2 5 (RS B _ _ _ w _ _ _ _) = some (fpt w 2 5, _) from pt_S (q := 2) (m := 5) (by decide), nb_b2, nb_let, eZ, RS_w6, RS_7]
    rw [if_neg (by decide)]
    unfold df_X18_third_64
    rw [RS_7, if_neg (by decide)]
    unfold df_X18_third_129
    rw [RS_7, if_neg (by decide), if_pos (by decide), RS_6, if_neg xz, if_pos (by decide)]
    unfold df_X18_third_209
    rw [nw_1986866787 hn10 (by (try simp only [List.length_append, List.length_cons, List.length_nil, nxl_0, nxl_s]); omega), nb_b1, RS_4, reg_S hg hn10 hD (by decide) (by (try simp only [List.length_append, List.length_cons, List.length_nil, nxl_0, nxl_s]); omega), nb_b1, RS_6, reg_S hg hn10 hZ (by decide) (by (try simp only [List.length_append, List.length_cons, List.length_nil, nxl_0, nxl_s]); omega), nb_b1]
    try unfold df_X18_third_293
    simp only [List.append_assoc, List.cons_append, List.nil_append, List.append_nil, nxl_0, nxl_s]
  exact ⟨_, _, _, _, _, by rw [eD, f3, key, tx]⟩
theorem rtx_89 {n : Nat} {B : St} {w a0 b0 : Int32} (hn : 30 < n) (hg : ∀ r : Nat, r < 32 → sR B 1 r = rgT r) (hm : MKp 89 w) : ∃ (k : Nat) (d a b f : Int32), df_X18_third n (RS B [] 0 0 w (fpt w 7 5) a0 b0 (fpt w 13 3)) = some (RS B (txL (fun c => tvA c w) 89 w) k 1 w d a b f) := by
  have hw : w &&& nI 4294967295 = nI 36866 := hm.2.trans (by decide +kernel)
  have hn10 : 10 < n := by omega
  have hn20 : 20 < n := by omega
  have f3 : fpt w 13 3 = nI 4 := pf_1 hw (by decide) (by decide) (by decide)
  have eD : fpt w 7 5 = nI 0 := pf_1 hw (by decide) (by decide) (by decide)
  have b12 : fpt w 12 1 = nI 1 := pf_1 hw (by decide) (by decide) (by decide)
  have z5 : fpt w 2 5 = nI 0 := pf_1 hw (by decide) (by decide) (by decide)
  have hwx : w = nI 36866 := by
    have z := hw
    rw [show w &&& nI 4294967295 = w from by
      (apply gb_ext; apply all32; simp (disch := decide) only [gb_or, gb_and, gb_xor, gb_shl, gb_shr, gb_ush, gb_u, gb_n, gb_m, gb_hi, Nat.reduceAdd, Nat.reduceSub, Nat.reducePow, Nat.reduceLT, Nat.reduceLeDiff, Nat.testBit, Nat.reduceShiftRight, Nat.reduceBNe, Nat.reduceAnd, Nat.one_and_eq_mod_two, Nat.reduceMod, decide_true, decide_false, Bool.and_true, Bool.true_and, Bool.and_false, Bool.false_and, Bool.or_false, Bool.false_or, Bool.or_true, Bool.true_or, Bool.not_true, Bool.not_false, if_true, if_false, ↓reduceIte, and_self, bne_self_eq_false, Bool.or_self, Bool.and_self, Bool.not_not])] at z
    exact z
  have tx : txL (fun c => tvA c w) 89 w = ([99, 46, 101, 98, 114, 101, 97, 107]) := by
    unfold txL sfxL
    rw [show strL (ko_w 89) = [99, 46, 101, 98, 114, 101, 97, 107] from by decide +kernel, show strL (ko_f 89) = [] from by decide +kernel, if_neg (show ¬ (ko_b 89 &&& 127 : Int32) = 47 by decide +kernel)]
    simp only [wrT, oc_44, ne_eq, reduceCtorEq, not_false_eq_true, not_true_eq_false, if_true, if_false, ↓reduceIte, List.append_assoc, List.cons_append, List.nil_append, List.append_nil, nxl_0, nxl_s]
  have key : df_X18_third n (RS B [] 0 0 w (nI 0) a0 b0 (nI 4)) = some (RS B ([99, 46, 101, 98, 114, 101, 97, 107]) 0 1 w (nI 0) a0 (nI 0) (nI 4)) := by
    unfold df_X18_third df_X18_third_0
    rw [show df_X18_part n 12 1 (RS B _ _ _ w _ _ _ _) = some (fpt w 12 1, _) from pt_S (q := 12) (m := 1) (by decide), nb_b2, b12, if_pos (by decide)]
    unfold df_X18_third_16
    rw [show df_X18_part n 2 5 (RS B _ _ _ w _ _ _ _) = some (fpt w 2 5, _) from pt_S (q := 2) (m := 5) (by decide), nb_b2, nb_let, z5, RS_w6, RS_7]
    rw [if_neg (by decide)]
    unfold df_X18_third_64
    rw [RS_7, if_neg (by decide)]
    unfold df_X18_third_129
    rw [RS_7, if_neg (by decide), if_pos (by decide), RS_6, if_pos (by decide)]
    unfold df_X18_third_231
    rw [RS_7, if_pos (by decide), RS_4, if_pos (by decide)]
    unfold df_X18_third_274
    rw [RS_7, if_pos (by decide), if_neg (by decide), nw_7737577176750698083 hn10 (by (try simp only [List.length_append, List.length_cons, List.length_nil, nxl_0, nxl_s]); omega), nb_b1]
    try unfold df_X18_third_293
    simp only [List.append_assoc, List.cons_append, List.nil_append, List.append_nil, nxl_0, nxl_s]
  exact ⟨_, _, _, _, _, by rw [eD, f3, key, tx]⟩
theorem rtx_90 {n : Nat} {B : St} {w a0 b0 : Int32} (hn : 30 < n) (hg : ∀ r : Nat, r < 32 → sR B 1 r = rgT r) (hm : MKp 90 w) : ∃ (k : Nat) (d a b f : Int32), df_X18_third n (RS B [] 0 0 w (fpt w 7 5) a0 b0 (fpt w 13 3)) = some (RS B (txL (fun c => tvA c w) 90 w) k 1 w d a b f) := by
  have hw : w &&& nI 4294963327 = nI 36866 := hm.2.trans (by decide +kernel)
  have hn10 : 10 < n := by omega
  have hn20 : 20 < n := by omega
  have f3 : fpt w 13 3 = nI 4 := pf_1 hw (by decide) (by decide) (by decide)
  obtain ⟨D, hD, eD⟩ := pt_n (w := w) (k := 7) (m := 5) (by decide) (by decide)
  have hD : D < 32 := hD
  have lD : (regL D).length ≤ 4 := rg_4 ⟨D, hD⟩
  have b12 : fpt w 12 1 = nI 1 := pf_1 hw (by decide) (by decide) (by decide)
  have z5 : fpt w 2 5 = nI 0 := pf_1 hw (by decide) (by decide) (by decide)
  have xn : ¬ fpt w 7 5 = 0 := nbdC (fb_m (c := 110) (by decide) _ hm.1 (by decide +kernel))
  rw [eD] at xn
  have tx : txL (fun c => tvA c w) 90 w = ([99, 46, 106, 97, 108, 114] ++ ([32] ++ (regL D))) := by
    unfold txL sfxL
    rw [show strL (ko_w 90) = [99, 46, 106, 97, 108, 114] from by decide +kernel, show strL (ko_f 90) = [110] from by decide +kernel, if_neg (show ¬ (ko_b 90 &&& 127 : Int32) = 47 by decide +kernel)]
    simp only [wrT, (show oper 110 (tvA 110 w) = regL D from or_1 (by decide) (by decide) eD hD), ne_eq, reduceCtorEq, not_false_eq_true, not_true_eq_false, if_true, if_false, ↓reduceIte, List.append_assoc, List.cons_append, List.nil_append, List.append_nil, nxl_0, nxl_s]
  have key : df_X18_third n (RS B [] 0 0 w (nI D) a0 b0 (nI 4)) = some (RS B ([99, 46, 106, 97, 108, 114] ++ ([32] ++ (regL D))) 1 1 w (nI D) a0 (nI 0) (nI 4)) := by
    unfold df_X18_third df_X18_third_0
    rw [show df_X18_part n 12 1 (RS B _ _ _ w _ _ _ _) = some (fpt w 12 1, _) from pt_S (q := 12) (m := 1) (by decide), nb_b2, b12, if_pos (by decide)]
    unfold df_X18_third_16
    rw [show df_X18_part n 2 5 (RS B _ _ _ w _ _ _ _) = some (fpt w 2 5, _) from pt_S (q := 2) (m := 5) (by decide), nb_b2, nb_let, z5, RS_w6, RS_7]
    rw [if_neg (by decide)]
    unfold df_X18_third_64
    rw [RS_7, if_neg (by decide)]
    unfold df_X18_third_129
    rw [RS_7, if_neg (by decide), if_pos (by decide), RS_6, if_pos (by decide)]
    unfold df_X18_third_231
    rw [RS_7, if_pos (by decide), RS_4, if_neg xn, if_neg (by decide)]
    unfold df_X18_third_260
    rw [nw_125809816383075 hn10 (by (try simp only [List.length_append, List.length_cons, List.length_nil, nxl_0, nxl_s]); omega), nb_b1, RS_4, reg_S hg hn10 hD (by decide) (by (try simp only [List.length_append, List.length_cons, List.length_nil, nxl_0, nxl_s]); omega), nb_b1]
    try unfold df_X18_third_293
    simp only [List.append_assoc, List.cons_append, List.nil_append, List.append_nil, nxl_0, nxl_s]
  exact ⟨_, _, _, _, _, by rw [eD, f3, key, tx]⟩
theorem rtx_91 {n : Nat} {B : St} {w a0 b0 : Int32} (hn : 30 < n) (hg : ∀ r : Nat, r < 32 → sR B 1 r = rgT r) (hm : MKp 91 w) : ∃ (k : Nat) (d a b f : Int32), df_X18_third n (RS B [] 0 0 w (fpt w 7 5) a0 b0 (fpt w 13 3)) = some (RS B (txL (fun c => tvA c w) 91 w) k 1 w d a b f) := by
  have hw : w &&& nI 4294963203 = nI 36866 := hm.2.trans (by decide +kernel)
  have hn10 : 10 < n := by omega
  have hn20 : 20 < n := by omega
  have f3 : fpt w 13 3 = nI 4 := pf_1 hw (by decide) (by decide) (by decide)
  obtain ⟨D, hD, eD⟩ := pt_n (w := w) (k := 7) (m := 5) (by decide) (by decide)
  have hD : D < 32 := hD
  have lD : (regL D).length ≤ 4 := rg_4 ⟨D, hD⟩
  have b12 : fpt w 12 1 = nI 1 := pf_1 hw (by decide) (by decide) (by decide)
  obtain ⟨Z, hZ, eZ⟩ := pt_n (w := w) (k := 2) (m := 5) (by decide) (by decide)
  have hZ : Z < 32 := hZ
  have lZ : (regL Z).length ≤ 4 := rg_4 ⟨Z, hZ⟩
  have xz : ¬ fpt w 2 5 = 0 := nbdC (fb_m (c := 122) (by decide) _ hm.1 (by decide +kernel))
  rw [eZ] at xz
  have tx : txL (fun c => tvA c w) 91 w = ([99, 46, 97, 100, 100] ++ ([32] ++ (regL D ++ ([44, 32] ++ (regL Z))))) := by
    unfold txL sfxL
    rw [show strL (ko_w 91) = [99, 46, 97, 100, 100] from by decide +kernel, show strL (ko_f 91) = [100, 44, 122] from by decide +kernel, if_neg (show ¬ (ko_b 91 &&& 127 : Int32) = 47 by decide +kernel)]
    simp only [wrT, oc_44, (show oper 100 (tvA 100 w) = regL D from or_1 (by decide) (by decide) eD hD), (show oper 122 (tvA 122 w) = regL Z from or_1 (by decide) (by decide) eZ hZ), ne_eq, reduceCtorEq, not_false_eq_true, not_true_eq_false, if_true, if_false, ↓reduceIte, List.append_assoc, List.cons_append, List.nil_append, List.append_nil, nxl_0, nxl_s]
  have key : df_X18_third n (RS B [] 0 0 w (nI D) a0 b0 (nI 4)) = some (RS B ([99, 46, 97, 100, 100] ++ ([32] ++ (regL D ++ ([44, 32] ++ (regL Z))))) 2 1 w (nI D) a0 (nI Z) (nI 4)) := by
    unfold df_X18_third df_X18_third_0
    rw [show df_X18_part n 12 1 (RS B _ _ _ w _ _ _ _) = some (fpt w 12 1, _) from pt_S (q := 12) (m := 1) (by decide), nb_b2, b12, if_pos (by decide)]
    unfold df_X18_third_16
    rw [show df_X18_part n 2 5 (RS B _ _ _ w _ _ _ _) = some (fpt w 2 5, _) from pt_S (q := 2) (m := 5) (by decide), nb_b2, nb_let, eZ, RS_w6, RS_7]
    rw [if_neg (by decide)]
    unfold df_X18_third_64
    rw [RS_7, if_neg (by decide)]
    unfold df_X18_third_129
    rw [RS_7, if_neg (by decide), if_pos (by decide), RS_6, if_neg xz, if_neg (by decide)]
    unfold df_X18_third_209
    rw [nw_431180820067 hn10 (by (try simp only [List.length_append, List.length_cons, List.length_nil, nxl_0, nxl_s]); omega), nb_b1, RS_4, reg_S hg hn10 hD (by decide) (by (try simp only [List.length_append, List.length_cons, List.length_nil, nxl_0, nxl_s]); omega), nb_b1, RS_6, reg_S hg hn10 hZ (by decide) (by (try simp only [List.length_append, List.length_cons, List.length_nil, nxl_0, nxl_s]); omega), nb_b1]
    try unfold df_X18_third_293
    simp only [List.append_assoc, List.cons_append, List.nil_append, List.append_nil, nxl_0, nxl_s]
  exact ⟨_, _, _, _, _, by rw [eD, f3, key, tx]⟩
theorem rtx_92 {n : Nat} {B : St} {w a0 b0 : Int32} (hn : 30 < n) (hg : ∀ r : Nat, r < 32 → sR B 1 r = rgT r) (hm : MKp 92 w) : ∃ (k : Nat) (d a b f : Int32), df_X18_third n (RS B [] 0 0 w (fpt w 7 5) a0 b0 (fpt w 13 3)) = some (RS B (txL (fun c => tvA c w) 92 w) k 1 w d a b f) := by
  have hw : w &&& nI 4294959107 = nI 49154 := hm.2.trans (by decide +kernel)
  have hn10 : 10 < n := by omega
  have hn20 : 20 < n := by omega
  have f3 : fpt w 13 3 = nI 6 := pf_1 hw (by decide) (by decide) (by decide)
  obtain ⟨D, hD, eD⟩ := pt_n (w := w) (k := 7) (m := 5) (by decide) (by decide)
  have hD : D < 32 := hD
  have lD : (regL D).length ≤ 4 := rg_4 ⟨D, hD⟩
  obtain ⟨Z, hZ, eZ⟩ := pt_n (w := w) (k := 2) (m := 5) (by decide) (by decide)
  have hZ : Z < 32 := hZ
  have lZ : (regL Z).length ≤ 4 := rg_4 ⟨Z, hZ⟩
  have mQ := nmv_Q w
  have lQ := de_l mQ
  have vQ : ((fpt w 9 4) <<< ((2 : Int32) &&& 31)) ||| ((fpt w 7 2) <<< ((6 : Int32) &&& 31)) = tvQ w := by
    rw [show ((2 : Int32) &&& 31) = nI 2 from by decide, show ((6 : Int32) &&& 31) = nI 6 from by decide]
    rfl
  have tx : txL (fun c => tvA c w) 92 w = ([99, 46, 115, 119, 115, 112] ++ ([32] ++ (regL Z ++ ([44, 32] ++ (decI (tvQ w)))))) := by
    unfold txL sfxL
    rw [show strL (ko_w 92) = [99, 46, 115, 119, 115, 112] from by decide +kernel, show strL (ko_f 92) = [115, 44, 81] from by decide +kernel, if_neg (show ¬ (ko_b 92 &&& 127 : Int32) = 47 by decide +kernel)]
    simp only [wrT, oc_44, (show oper 81 (tvA 81 w) = decI (tvQ w) from on_1 _ (by decide) (by decide) (by decide)), (show oper 115 (tvA 115 w) = regL Z from or_1 (by decide) (by decide) eZ hZ), ne_eq, reduceCtorEq, not_false_eq_true, not_true_eq_false, if_true, if_false, ↓reduceIte, List.append_assoc, List.cons_append, List.nil_append, List.append_nil, nxl_0, nxl_s]
  have k16 : ∀ y : Int32, df_X18_third_16 n y (RS B [] 0 0 w (nI D) a0 b0 (nI 6)) = some (RS B ([99, 46, 115, 119, 115, 112] ++ ([32] ++ (regL Z ++ ([44, 32] ++ (decI (tvQ w)))))) 2 1 w (nI D) a0 (nI Z) (nI 6)) := fun y => by
    unfold df_X18_third_16
    rw [show df_X18_part n 2 5 (RS B _ _ _ w _ _ _ _) = some (fpt w 2 5, _) from pt_S (q := 2) (m := 5) (by decide), nb_b2, nb_let, eZ, RS_w6, RS_7]
    rw [if_neg (by decide)]
    unfold df_X18_third_64
    rw [RS_7, if_neg (by decide)]
    unfold df_X18_third_129
    rw [RS_7, if_pos (by decide), nw_123641227587171 hn10 (by (try simp only [List.length_append, List.length_cons, List.length_nil, nxl_0, nxl_s]); omega), nb_b1, RS_6, reg_S hg hn10 hZ (by decide) (by (try simp only [List.length_append, List.length_cons, List.length_nil, nxl_0, nxl_s]); omega), nb_b1, show df_X18_part n 9 4 (RS B _ _ _ w _ _ _ _) = some (fpt w 9 4, _) from pt_S (q := 9) (m := 4) (by decide), nb_b2, show df_X18_part n 7 2 (RS B _ _ _ w _ _ _ _) = some (fpt w 7 2, _) from pt_S (q := 7) (m := 2) (by decide), nb_b2, vQ, im_S hn20 mQ (by decide) (by (try simp only [List.length_append, List.length_cons, List.length_nil, nxl_0, nxl_s]); omega), nb_b1]
    unfold df_X18_third_293
    simp only [List.append_assoc, List.cons_append, List.nil_append, List.append_nil, nxl_0, nxl_s]
  have key : df_X18_third n (RS B [] 0 0 w (nI D) a0 b0 (nI 6)) = some (RS B ([99, 46, 115, 119, 115, 112] ++ ([32] ++ (regL Z ++ ([44, 32] ++ (decI (tvQ w)))))) 2 1 w (nI D) a0 (nI Z) (nI 6)) := by
    unfold df_X18_third df_X18_third_0
    rw [show df_X18_part n 12 1 (RS B _ _ _ w _ _ _ _) = some (fpt w 12 1, _) from pt_S (q := 12) (m := 1) (by decide), nb_b2, k16, k16, ite_self]
  exact ⟨_, _, _, _, _, by rw [eD, f3, key, tx]⟩

theorem lo_47 {n : Nat} {B : St} {L : List Nat} {k l : Nat} {w d a b f : Int32} {R : St} (hop : w &&& nI 127 = nI 47) (h : df_X18_atomic n (fpt w 27 5) (RS B L k l w (fpt w 7 5) (fpt w 15 5) (fpt w 20 5) (fpt w 12 3)) = some R) : df_X18_longOne n (RS B L k l w d a b f) = some R := by
  have hop : w &&& (127 : Int32) = 47 := hop
  unfold df_X18_longOne df_X18_longOne_0
  rw [show df_X18_part n 7 5 (RS B _ _ _ w _ _ _ _) = some (fpt w 7 5, _) from pt_S (q := 7) (m := 5) (by decide), nb_b2, nb_let, RS_w4, show df_X18_part n 12 3 (RS B _ _ _ w _ _ _ _) = some (fpt w 12 3, _) from pt_S (q := 12) (m := 3) (by decide), nb_b2, nb_let, RS_w7, show df_X18_part n 15 5 (RS B _ _ _ w _ _ _ _) = some (fpt w 15 5, _) from pt_S (q := 15) (m := 5) (by decide), nb_b2, nb_let, RS_w5, show df_X18_part n 20 5 (RS B _ _ _ w _ _ _ _) = some (fpt w 20 5, _) from pt_S (q := 20) (m := 5) (by decide), nb_b2, nb_let, RS_w6, show df_X18_part n 25 7 (RS B _ _ _ w _ _ _ _) = some (fpt w 25 7, _) from pt_S (q := 25) (m := 7) (by decide), nb_b2, RS_3, hop, if_neg (by decide), if_neg (by decide), if_neg (by decide), if_pos rfl, show df_X18_part n 27 5 (RS B _ _ _ w _ _ _ _) = some (fpt w 27 5, _) from pt_S (q := 27) (m := 5) (by decide), nb_b2, h, nb_b1]
  rfl
theorem a284_2 {n : Nat} {B : St} {w f : Int32} {D A Q : Nat} {L : List Nat} (hn10 : 10 < n) (hg : ∀ r : Nat, r < 32 → sR B 1 r = rgT r) (hD : D < 32) (hA : A < 32) (hQ : Q < 32) (hL : L.length ≤ 20) : df_X18_atomic_284 n (nI 2) (RS B L 0 1 w (nI D) (nI A) (nI Q) f) = some (RS B (L ++ ([32] ++ (regL D ++ ([44, 32] ++ ([40] ++ (regL A ++ ([41]))))))) 2 1 w (nI D) (nI A) (nI Q) f) := by
  have lD : (regL D).length ≤ 4 := rg_4 ⟨D, hD⟩
  have lA : (regL A).length ≤ 4 := rg_4 ⟨A, hA⟩
  have lQ : (regL Q).length ≤ 4 := rg_4 ⟨Q, hQ⟩
  unfold df_X18_atomic_284 df_X18_atomic_305
  rw [RS_4, reg_S hg hn10 hD (by decide) (by (try simp only [List.length_append, List.length_cons, List.length_nil, nxl_0, nxl_s]); omega), nb_b1, if_pos (by decide), nx_S (by decide) (by (try simp only [List.length_append, List.length_cons, List.length_nil, nxl_0, nxl_s]); omega), nb_b1, RS_5, br_S hg hn10 hA (by (try simp only [List.length_append, List.length_cons, List.length_nil, nxl_0, nxl_s]); omega), nb_b1]
  simp only [List.append_assoc, List.cons_append, List.nil_append, List.append_nil, nxl_0, nxl_s]
theorem a284_n {n : Nat} {B : St} {w f : Int32} {D A Q : Nat} {L : List Nat} (hn10 : 10 < n) (hg : ∀ r : Nat, r < 32 → sR B 1 r = rgT r) (hD : D < 32) (hA : A < 32) (hQ : Q < 32) {x : Int32} (hx : ¬ x = 2) (hL : L.length ≤ 20) : df_X18_atomic_284 n x (RS B L 0 1 w (nI D) (nI A) (nI Q) f) = some (RS B (L ++ ([32] ++ (regL D ++ ([44, 32] ++ (regL Q ++ ([44, 32] ++ ([40] ++ (regL A ++ ([41]))))))))) 3 1 w (nI D) (nI A) (nI Q) f) := by
  have lD : (regL D).length ≤ 4 := rg_4 ⟨D, hD⟩
  have lA : (regL A).length ≤ 4 := rg_4 ⟨A, hA⟩
  have lQ : (regL Q).length ≤ 4 := rg_4 ⟨Q, hQ⟩
  unfold df_X18_atomic_284 df_X18_atomic_305
  rw [RS_4, reg_S hg hn10 hD (by decide) (by (try simp only [List.length_append, List.length_cons, List.length_nil, nxl_0, nxl_s]); omega), nb_b1, if_neg hx, RS_6, reg_S hg hn10 hQ (by decide) (by (try simp only [List.length_append, List.length_cons, List.length_nil, nxl_0, nxl_s]); omega), nb_b1, nx_S (by decide) (by (try simp only [List.length_append, List.length_cons, List.length_nil, nxl_0, nxl_s]); omega), nb_b1, RS_5, br_S hg hn10 hA (by (try simp only [List.length_append, List.length_cons, List.length_nil, nxl_0, nxl_s]); omega), nb_b1]
  simp only [List.append_assoc, List.cons_append, List.nil_append, List.append_nil, nxl_0, nxl_s]
def sfR (v : Nat) : List Nat := if v = 0 then [] else if v = 1 then [46, 114, 108] else if v = 2 then [46, 97, 113] else [46, 97, 113, 114, 108]
theorem a226 {n : Nat} {B : St} {w f : Int32} {D A Q : Nat} {L : List Nat} (hn10 : 10 < n) (hg : ∀ r : Nat, r < 32 → sR B 1 r = rgT r) (hD : D < 32) (hA : A < 32) (hQ : Q < 32) {x : Int32} {v : Nat} (hv : v < 4) (eV : fpt w 25 2 = nI v) (hL : L.length ≤ 12) : df_X18_atomic_226 n x (RS B L 0 1 w (nI D) (nI A) (nI Q) f) = df_X18_atomic_284 n x (RS B (L ++ ([46, 119] ++ sfR v)) 0 1 w (nI D) (nI A) (nI Q) f) := by
  unfold df_X18_atomic_226
  rw [sw_30510 hn10 (by (try simp only [List.length_append, List.length_cons, List.length_nil, nxl_0, nxl_s]); omega), nb_b1, show df_X18_part n 25 2 (RS B _ _ _ w _ _ _ _) = some (fpt w 25 2, _) from pt_S (q := 25) (m := 2) (by decide), nb_b2, eV]
  obtain rfl | rfl | rfl | rfl : v = 0 ∨ v = 1 ∨ v = 2 ∨ v = 3 := by omega
  · rw [if_pos (by decide)]
    simp only [sfR, if_true, List.append_nil]
  · rw [if_neg (by decide), show df_X18_part n 25 2 (RS B _ _ _ w _ _ _ _) = some (fpt w 25 2, _) from pt_S (q := 25) (m := 2) (by decide), nb_b2, eV, if_pos (by decide)]
    unfold df_X18_atomic_281
    rw [sw_7107118 hn10 (by (try simp only [List.length_append, List.length_cons, List.length_nil, nxl_0, nxl_s]); omega), nb_b1, List.append_assoc]
    rfl
  · rw [if_neg (by decide), show df_X18_part n 25 2 (RS B _ _ _ w _ _ _ _) = some (fpt w 25 2, _) from pt_S (q := 25) (m := 2) (by decide), nb_b2, eV, if_neg (by decide), show df_X18_part n 25 2 (RS B _ _ _ w _ _ _ _) = some (fpt w 25 2, _) from pt_S (q := 25) (m := 2) (by decide), nb_b2, eV, if_pos (by decide)]
    unfold df_X18_atomic_281
    rw [sw_7430446 hn10 (by (try simp only [List.length_append, List.length_cons, List.length_nil, nxl_0, nxl_s]); omega), nb_b1, List.append_assoc]
    rfl
  · rw [if_neg (by decide), show df_X18_part n 25 2 (RS B _ _ _ w _ _ _ _) = some (fpt w 25 2, _) from pt_S (q := 25) (m := 2) (by decide), nb_b2, eV, if_neg (by decide), show df_X18_part n 25 2 (RS B _ _ _ w _ _ _ _) = some (fpt w 25 2, _) from pt_S (q := 25) (m := 2) (by decide), nb_b2, eV, if_neg (by decide)]
    unfold df_X18_atomic_281
    rw [sw_465776501038 hn10 (by (try simp only [List.length_append, List.length_cons, List.length_nil, nxl_0, nxl_s]); omega), nb_b1, List.append_assoc]
    rfl
theorem sf_p (w : Int32) : (fpt w 25 2) <<< nI 25 = w &&& nI 100663296 := by
  (apply gb_ext; apply all32; simp (disch := decide) only [ptO, nm31, gb_fpt, gb_or, gb_and, gb_xor, gb_shl, gb_shr, gb_ush, gb_u, gb_n, gb_m, gb_hi, Nat.reduceAdd, Nat.reduceSub, Nat.reducePow, Nat.reduceLT, Nat.reduceLeDiff, Nat.testBit, Nat.reduceShiftRight, Nat.reduceBNe, Nat.reduceAnd, Nat.one_and_eq_mod_two, Nat.reduceMod, decide_true, decide_false, Bool.and_true, Bool.true_and, Bool.and_false, Bool.false_and, Bool.or_false, Bool.false_or, Bool.or_true, Bool.true_or, Bool.not_true, Bool.not_false, if_true, if_false, ↓reduceIte, and_self, bne_self_eq_false, Bool.or_self, Bool.and_self, Bool.not_not])
theorem sf_1 {w : Int32} {i v : Nat} (hi : (ko_b i &&& 127 : Int32) = 47) (hv : v < 4) (eV : fpt w 25 2 = nI v) : sfxL i w = sfR v := by
  have p := sf_p w
  rw [eV] at p
  have p1 := sub_3 (K := 33554432) p.symm (by decide)
  have p2 := sub_3 (K := 67108864) p.symm (by decide)
  unfold sfxL
  rw [if_pos hi, show (100663296 : Int32) = nI 100663296 from rfl, show (33554432 : Int32) = nI 33554432 from rfl, show (67108864 : Int32) = nI 67108864 from rfl, ← p, p1, p2, st_12.2.2.2.1, st_12.2.2.2.2.1, st_12.2.2.2.2.2]
  obtain rfl | rfl | rfl | rfl : v = 0 ∨ v = 1 ∨ v = 2 ∨ v = 3 := by omega
  · rw [if_pos (by decide)]; rfl
  · rw [if_neg (by decide), if_neg (by decide), if_pos (by decide)]; rfl
  · rw [if_neg (by decide), if_pos (by decide)]; rfl
  · rw [if_neg (by decide), if_neg (by decide), if_neg (by decide)]; rfl
theorem sfl (v : Nat) : (sfR v).length ≤ 5 := by
  unfold sfR
  split
  · decide
  · split
    · decide
    · split <;> decide
theorem rtx_45 {n : Nat} {B : St} {w d0 a0 b0 f0 : Int32} (hn : 30 < n) (hg : ∀ r : Nat, r < 32 → sR B 1 r = rgT r) (hm : MKp 45 w) : ∃ (k : Nat) (d a b f : Int32), df_X18_longOne n (RS B [] 0 0 w d0 a0 b0 f0) = some (RS B (txL (fun c => tvA c w) 45 w) k 1 w d a b f) := by
  have hw : w &&& nI 4193284223 = nI 268443695 := hm.2.trans (by decide +kernel)
  have hn10 : 10 < n := by omega
  have hop : w &&& nI 127 = nI 47 := (sub_3 hw (by decide)).trans (by decide)
  have f3 : fpt w 12 3 = nI 2 := pf_1 hw (by decide) (by decide) (by decide)
  have g5 : fpt w 27 5 = nI 2 := pf_1 hw (by decide) (by decide) (by decide)
  obtain ⟨D, hD, eD⟩ := pt_n (w := w) (k := 7) (m := 5) (by decide) (by decide)
  have hD : D < 32 := hD
  obtain ⟨A, hA, eA⟩ := pt_n (w := w) (k := 15) (m := 5) (by decide) (by decide)
  have hA : A < 32 := hA
  have eQ : fpt w 20 5 = nI 0 := pf_1 hw (by decide) (by decide) (by decide)
  obtain ⟨v, hv, eV⟩ := pt_n (w := w) (k := 25) (m := 2) (by decide) (by decide)
  have hv : v < 4 := hv
  have tx : txL (fun c => tvA c w) 45 w = ([108, 114, 46, 119] ++ (sfR v ++ ([32] ++ (regL D ++ ([44, 32] ++ ([40] ++ (regL A ++ ([41])))))))) := by
    unfold txL
    rw [show strL (ko_w 45) = [108, 114, 46, 119] from by decide +kernel, show strL (ko_f 45) = [100, 44, 40, 97, 41] from by decide +kernel, sf_1 (by decide +kernel) hv eV]
    simp only [wrT, oc_40, oc_41, oc_44, (show oper 97 (tvA 97 w) = regL A from or_1 (by decide) (by decide) eA hA), (show oper 100 (tvA 100 w) = regL D from or_1 (by decide) (by decide) eD hD), ne_eq, reduceCtorEq, not_false_eq_true, not_true_eq_false, if_true, if_false, ↓reduceIte, List.append_assoc, List.cons_append, List.nil_append, List.append_nil, nxl_0, nxl_s]
  have key : df_X18_atomic n (nI 2) (RS B [] 0 0 w (nI D) (nI A) (nI 0) (nI 2)) = some (RS B ([108, 114, 46, 119] ++ (sfR v ++ ([32] ++ (regL D ++ ([44, 32] ++ ([40] ++ (regL A ++ ([41])))))))) 2 1 w (nI D) (nI A) (nI 0) (nI 2)) := by
    unfold df_X18_atomic df_X18_atomic_0
    rw [RS_7, if_pos (by decide), if_pos (by decide), RS_6, if_pos (by decide)]
    unfold df_X18_atomic_21
    rw [if_neg (by decide)]
    unfold df_X18_atomic_31
    rw [if_pos (by decide)]
    unfold df_X18_atomic_48 df_X18_atomic_49
    rw [if_pos (by decide)]
    unfold df_X18_atomic_71 df_X18_atomic_76
    rw [if_neg (by decide), if_pos (by decide)]
    unfold df_X18_atomic_110
    rw [nw_29292 hn10 (by (try simp only [List.length_append, List.length_cons, List.length_nil, nxl_0, nxl_s]); omega), nb_b1, nb_let, show (0 : Int32) = nI 0 from rfl, RS_w1, if_pos (by decide)]
    rw [a226 hn10 hg hD hA (by decide : (0 : Nat) < 32) hv eV (by (try simp only [List.length_append, List.length_cons, List.length_nil, nxl_0, nxl_s]); omega), a284_2 hn10 hg hD hA (by decide : (0 : Nat) < 32) (by simp only [List.length_append, List.length_cons, List.length_nil]; have := sfl v; omega)]
    simp only [List.append_assoc, List.cons_append, List.nil_append, List.append_nil, nxl_0, nxl_s]
  exact ⟨_, _, _, _, _, lo_47 hop (by rw [eD, eA, eQ, f3, g5, key, tx])⟩
theorem rtx_46 {n : Nat} {B : St} {w d0 a0 b0 f0 : Int32} (hn : 30 < n) (hg : ∀ r : Nat, r < 32 → sR B 1 r = rgT r) (hm : MKp 46 w) : ∃ (k : Nat) (d a b f : Int32), df_X18_longOne n (RS B [] 0 0 w d0 a0 b0 f0) = some (RS B (txL (fun c => tvA c w) 46 w) k 1 w d a b f) := by
  have hw : w &&& nI 4160778367 = nI 402661423 := hm.2.trans (by decide +kernel)
  have hn10 : 10 < n := by omega
  have hop : w &&& nI 127 = nI 47 := (sub_3 hw (by decide)).trans (by decide)
  have f3 : fpt w 12 3 = nI 2 := pf_1 hw (by decide) (by decide) (by decide)
  have g5 : fpt w 27 5 = nI 3 := pf_1 hw (by decide) (by decide) (by decide)
  obtain ⟨D, hD, eD⟩ := pt_n (w := w) (k := 7) (m := 5) (by decide) (by decide)
  have hD : D < 32 := hD
  obtain ⟨A, hA, eA⟩ := pt_n (w := w) (k := 15) (m := 5) (by decide) (by decide)
  have hA : A < 32 := hA
  obtain ⟨Q, hQ, eQ⟩ := pt_n (w := w) (k := 20) (m := 5) (by decide) (by decide)
  have hQ : Q < 32 := hQ
  obtain ⟨v, hv, eV⟩ := pt_n (w := w) (k := 25) (m := 2) (by decide) (by decide)
  have hv : v < 4 := hv
  have tx : txL (fun c => tvA c w) 46 w = ([115, 99, 46, 119] ++ (sfR v ++ ([32] ++ (regL D ++ ([44, 32] ++ (regL Q ++ ([44, 32] ++ ([40] ++ (regL A ++ ([41])))))))))) := by
    unfold txL
    rw [show strL (ko_w 46) = [115, 99, 46, 119] from by decide +kernel, show strL (ko_f 46) = [100, 44, 98, 44, 40, 97, 41] from by decide +kernel, sf_1 (by decide +kernel) hv eV]
    simp only [wrT, oc_40, oc_41, oc_44, (show oper 97 (tvA 97 w) = regL A from or_1 (by decide) (by decide) eA hA), (show oper 98 (tvA 98 w) = regL Q from or_1 (by decide) (by decide) eQ hQ), (show oper 100 (tvA 100 w) = regL D from or_1 (by decide) (by decide) eD hD), ne_eq, reduceCtorEq, not_false_eq_true, not_true_eq_false, if_true, if_false, ↓reduceIte, List.append_assoc, List.cons_append, List.nil_append, List.append_nil, nxl_0, nxl_s]
  have key : df_X18_atomic n (nI 3) (RS B [] 0 0 w (nI D) (nI A) (nI Q) (nI 2)) = some (RS B ([115, 99, 46, 119] ++ (sfR v ++ ([32] ++ (regL D ++ ([44, 32] ++ (regL Q ++ ([44, 32] ++ ([40] ++ (regL A ++ ([41])))))))))) 3 1 w (nI D) (nI A) (nI Q) (nI 2)) := by
    unfold df_X18_atomic df_X18_atomic_0
    rw [RS_7, if_pos (by decide), if_neg (by decide)]
    unfold df_X18_atomic_21
    rw [if_neg (by decide)]
    unfold df_X18_atomic_31
    rw [if_pos (by decide)]
    unfold df_X18_atomic_48 df_X18_atomic_49
    rw [if_pos (by decide)]
    unfold df_X18_atomic_71 df_X18_atomic_76
    rw [if_neg (by decide), if_neg (by decide), if_pos (by decide)]
    unfold df_X18_atomic_110
    rw [nw_25459 hn10 (by (try simp only [List.length_append, List.length_cons, List.length_nil, nxl_0, nxl_s]); omega), nb_b1, nb_let, show (0 : Int32) = nI 0 from rfl, RS_w1, if_neg (by decide), if_pos (by decide)]
    rw [a226 hn10 hg hD hA hQ hv eV (by (try simp only [List.length_append, List.length_cons, List.length_nil, nxl_0, nxl_s]); omega), a284_n hn10 hg hD hA hQ (by decide) (by simp only [List.length_append, List.length_cons, List.length_nil]; have := sfl v; omega)]
    simp only [List.append_assoc, List.cons_append, List.nil_append, List.append_nil, nxl_0, nxl_s]
  exact ⟨_, _, _, _, _, lo_47 hop (by rw [eD, eA, eQ, f3, g5, key, tx])⟩
theorem rtx_47 {n : Nat} {B : St} {w d0 a0 b0 f0 : Int32} (hn : 30 < n) (hg : ∀ r : Nat, r < 32 → sR B 1 r = rgT r) (hm : MKp 47 w) : ∃ (k : Nat) (d a b f : Int32), df_X18_longOne n (RS B [] 0 0 w d0 a0 b0 f0) = some (RS B (txL (fun c => tvA c w) 47 w) k 1 w d a b f) := by
  have hw : w &&& nI 4160778367 = nI 134225967 := hm.2.trans (by decide +kernel)
  have hn10 : 10 < n := by omega
  have hop : w &&& nI 127 = nI 47 := (sub_3 hw (by decide)).trans (by decide)
  have f3 : fpt w 12 3 = nI 2 := pf_1 hw (by decide) (by decide) (by decide)
  have g5 : fpt w 27 5 = nI 1 := pf_1 hw (by decide) (by decide) (by decide)
  obtain ⟨D, hD, eD⟩ := pt_n (w := w) (k := 7) (m := 5) (by decide) (by decide)
  have hD : D < 32 := hD
  obtain ⟨A, hA, eA⟩ := pt_n (w := w) (k := 15) (m := 5) (by decide) (by decide)
  have hA : A < 32 := hA
  obtain ⟨Q, hQ, eQ⟩ := pt_n (w := w) (k := 20) (m := 5) (by decide) (by decide)
  have hQ : Q < 32 := hQ
  obtain ⟨v, hv, eV⟩ := pt_n (w := w) (k := 25) (m := 2) (by decide) (by decide)
  have hv : v < 4 := hv
  have tx : txL (fun c => tvA c w) 47 w = ([97, 109, 111, 115, 119, 97, 112, 46, 119] ++ (sfR v ++ ([32] ++ (regL D ++ ([44, 32] ++ (regL Q ++ ([44, 32] ++ ([40] ++ (regL A ++ ([41])))))))))) := by
    unfold txL
    rw [show strL (ko_w 47) = [97, 109, 111, 115, 119, 97, 112, 46, 119] from by decide +kernel, show strL (ko_f 47) = [100, 44, 98, 44, 40, 97, 41] from by decide +kernel, sf_1 (by decide +kernel) hv eV]
    simp only [wrT, oc_40, oc_41, oc_44, (show oper 97 (tvA 97 w) = regL A from or_1 (by decide) (by decide) eA hA), (show oper 98 (tvA 98 w) = regL Q from or_1 (by decide) (by decide) eQ hQ), (show oper 100 (tvA 100 w) = regL D from or_1 (by decide) (by decide) eD hD), ne_eq, reduceCtorEq, not_false_eq_true, not_true_eq_false, if_true, if_false, ↓reduceIte, List.append_assoc, List.cons_append, List.nil_append, List.append_nil, nxl_0, nxl_s]
  have key : df_X18_atomic n (nI 1) (RS B [] 0 0 w (nI D) (nI A) (nI Q) (nI 2)) = some (RS B ([97, 109, 111, 115, 119, 97, 112, 46, 119] ++ (sfR v ++ ([32] ++ (regL D ++ ([44, 32] ++ (regL Q ++ ([44, 32] ++ ([40] ++ (regL A ++ ([41])))))))))) 3 1 w (nI D) (nI A) (nI Q) (nI 2)) := by
    unfold df_X18_atomic df_X18_atomic_0
    rw [RS_7, if_pos (by decide), if_neg (by decide)]
    unfold df_X18_atomic_21
    rw [if_pos (by decide)]
    unfold df_X18_atomic_31
    rw [if_pos (by decide)]
    unfold df_X18_atomic_48 df_X18_atomic_49
    rw [if_pos (by decide)]
    unfold df_X18_atomic_71 df_X18_atomic_76
    rw [if_neg (by decide), if_neg (by decide), if_neg (by decide)]
    unfold df_X18_atomic_110
    rw [nw_7302497 hn10 (by (try simp only [List.length_append, List.length_cons, List.length_nil, nxl_0, nxl_s]); omega), nb_b1, nb_let, show (0 : Int32) = nI 0 from rfl, RS_w1, if_neg (by decide), if_neg (by decide), if_neg (by decide)]
    unfold df_X18_atomic_223
    rw [sw_1885435763 hn10 (by (try simp only [List.length_append, List.length_cons, List.length_nil, nxl_0, nxl_s]); omega), nb_b1]
    rw [a226 hn10 hg hD hA hQ hv eV (by (try simp only [List.length_append, List.length_cons, List.length_nil, nxl_0, nxl_s]); omega), a284_n hn10 hg hD hA hQ (by decide) (by simp only [List.length_append, List.length_cons, List.length_nil]; have := sfl v; omega)]
    simp only [List.append_assoc, List.cons_append, List.nil_append, List.append_nil, nxl_0, nxl_s]
  exact ⟨_, _, _, _, _, lo_47 hop (by rw [eD, eA, eQ, f3, g5, key, tx])⟩
theorem rtx_48 {n : Nat} {B : St} {w d0 a0 b0 f0 : Int32} (hn : 30 < n) (hg : ∀ r : Nat, r < 32 → sR B 1 r = rgT r) (hm : MKp 48 w) : ∃ (k : Nat) (d a b f : Int32), df_X18_longOne n (RS B [] 0 0 w d0 a0 b0 f0) = some (RS B (txL (fun c => tvA c w) 48 w) k 1 w d a b f) := by
  have hw : w &&& nI 4160778367 = nI 8239 := hm.2.trans (by decide +kernel)
  have hn10 : 10 < n := by omega
  have hop : w &&& nI 127 = nI 47 := (sub_3 hw (by decide)).trans (by decide)
  have f3 : fpt w 12 3 = nI 2 := pf_1 hw (by decide) (by decide) (by decide)
  have g5 : fpt w 27 5 = nI 0 := pf_1 hw (by decide) (by decide) (by decide)
  obtain ⟨D, hD, eD⟩ := pt_n (w := w) (k := 7) (m := 5) (by decide) (by decide)
  have hD : D < 32 := hD
  obtain ⟨A, hA, eA⟩ := pt_n (w := w) (k := 15) (m := 5) (by decide) (by decide)
  have hA : A < 32 := hA
  obtain ⟨Q, hQ, eQ⟩ := pt_n (w := w) (k := 20) (m := 5) (by decide) (by decide)
  have hQ : Q < 32 := hQ
  obtain ⟨v, hv, eV⟩ := pt_n (w := w) (k := 25) (m := 2) (by decide) (by decide)
  have hv : v < 4 := hv
  have tx : txL (fun c => tvA c w) 48 w = ([97, 109, 111, 97, 100, 100, 46, 119] ++ (sfR v ++ ([32] ++ (regL D ++ ([44, 32] ++ (regL Q ++ ([44, 32] ++ ([40] ++ (regL A ++ ([41])))))))))) := by
    unfold txL
    rw [show strL (ko_w 48) = [97, 109, 111, 97, 100, 100, 46, 119] from by decide +kernel, show strL (ko_f 48) = [100, 44, 98, 44, 40, 97, 41] from by decide +kernel, sf_1 (by decide +kernel) hv eV]
    simp only [wrT, oc_40, oc_41, oc_44, (show oper 97 (tvA 97 w) = regL A from or_1 (by decide) (by decide) eA hA), (show oper 98 (tvA 98 w) = regL Q from or_1 (by decide) (by decide) eQ hQ), (show oper 100 (tvA 100 w) = regL D from or_1 (by decide) (by decide) eD hD), ne_eq, reduceCtorEq, not_false_eq_true, not_true_eq_false, if_true, if_false, ↓reduceIte, List.append_assoc, List.cons_append, List.nil_append, List.append_nil, nxl_0, nxl_s]
  have key : df_X18_atomic n (nI 0) (RS B [] 0 0 w (nI D) (nI A) (nI Q) (nI 2)) = some (RS B ([97, 109, 111, 97, 100, 100, 46, 119] ++ (sfR v ++ ([32] ++ (regL D ++ ([44, 32] ++ (regL Q ++ ([44, 32] ++ ([40] ++ (regL A ++ ([41])))))))))) 3 1 w (nI D) (nI A) (nI Q) (nI 2)) := by
    unfold df_X18_atomic df_X18_atomic_0
    rw [RS_7, if_pos (by decide), if_neg (by decide)]
    unfold df_X18_atomic_21
    rw [if_neg (by decide)]
    unfold df_X18_atomic_31
    rw [if_pos (by decide)]
    unfold df_X18_atomic_48 df_X18_atomic_49
    rw [if_pos (by decide)]
    unfold df_X18_atomic_71 df_X18_atomic_76
    rw [if_neg (by decide), if_neg (by decide), if_neg (by decide)]
    unfold df_X18_atomic_110
    rw [nw_7302497 hn10 (by (try simp only [List.length_append, List.length_cons, List.length_nil, nxl_0, nxl_s]); omega), nb_b1, nb_let, show (0 : Int32) = nI 0 from rfl, RS_w1, if_neg (by decide), if_neg (by decide), if_pos (by decide), if_pos (by decide)]
    unfold df_X18_atomic_223
    rw [sw_6579297 hn10 (by (try simp only [List.length_append, List.length_cons, List.length_nil, nxl_0, nxl_s]); omega), nb_b1]
    rw [a226 hn10 hg hD hA hQ hv eV (by (try simp only [List.length_append, List.length_cons, List.length_nil, nxl_0, nxl_s]); omega), a284_n hn10 hg hD hA hQ (by decide) (by simp only [List.length_append, List.length_cons, List.length_nil]; have := sfl v; omega)]
    simp only [List.append_assoc, List.cons_append, List.nil_append, List.append_nil, nxl_0, nxl_s]
  exact ⟨_, _, _, _, _, lo_47 hop (by rw [eD, eA, eQ, f3, g5, key, tx])⟩
theorem rtx_49 {n : Nat} {B : St} {w d0 a0 b0 f0 : Int32} (hn : 30 < n) (hg : ∀ r : Nat, r < 32 → sR B 1 r = rgT r) (hm : MKp 49 w) : ∃ (k : Nat) (d a b f : Int32), df_X18_longOne n (RS B [] 0 0 w d0 a0 b0 f0) = some (RS B (txL (fun c => tvA c w) 49 w) k 1 w d a b f) := by
  have hw : w &&& nI 4160778367 = nI 536879151 := hm.2.trans (by decide +kernel)
  have hn10 : 10 < n := by omega
  have hop : w &&& nI 127 = nI 47 := (sub_3 hw (by decide)).trans (by decide)
  have f3 : fpt w 12 3 = nI 2 := pf_1 hw (by decide) (by decide) (by decide)
  have g5 : fpt w 27 5 = nI 4 := pf_1 hw (by decide) (by decide) (by decide)
  obtain ⟨D, hD, eD⟩ := pt_n (w := w) (k := 7) (m := 5) (by decide) (by decide)
  have hD : D < 32 := hD
  obtain ⟨A, hA, eA⟩ := pt_n (w := w) (k := 15) (m := 5) (by decide) (by decide)
  have hA : A < 32 := hA
  obtain ⟨Q, hQ, eQ⟩ := pt_n (w := w) (k := 20) (m := 5) (by decide) (by decide)
  have hQ : Q < 32 := hQ
  obtain ⟨v, hv, eV⟩ := pt_n (w := w) (k := 25) (m := 2) (by decide) (by decide)
  have hv : v < 4 := hv
  have tx : txL (fun c => tvA c w) 49 w = ([97, 109, 111, 120, 111, 114, 46, 119] ++ (sfR v ++ ([32] ++ (regL D ++ ([44, 32] ++ (regL Q ++ ([44, 32] ++ ([40] ++ (regL A ++ ([41])))))))))) := by
    unfold txL
    rw [show strL (ko_w 49) = [97, 109, 111, 120, 111, 114, 46, 119] from by decide +kernel, show strL (ko_f 49) = [100, 44, 98, 44, 40, 97, 41] from by decide +kernel, sf_1 (by decide +kernel) hv eV]
    simp only [wrT, oc_40, oc_41, oc_44, (show oper 97 (tvA 97 w) = regL A from or_1 (by decide) (by decide) eA hA), (show oper 98 (tvA 98 w) = regL Q from or_1 (by decide) (by decide) eQ hQ), (show oper 100 (tvA 100 w) = regL D from or_1 (by decide) (by decide) eD hD), ne_eq, reduceCtorEq, not_false_eq_true, not_true_eq_false, if_true, if_false, ↓reduceIte, List.append_assoc, List.cons_append, List.nil_append, List.append_nil, nxl_0, nxl_s]
  have key : df_X18_atomic n (nI 4) (RS B [] 0 0 w (nI D) (nI A) (nI Q) (nI 2)) = some (RS B ([97, 109, 111, 120, 111, 114, 46, 119] ++ (sfR v ++ ([32] ++ (regL D ++ ([44, 32] ++ (regL Q ++ ([44, 32] ++ ([40] ++ (regL A ++ ([41])))))))))) 3 1 w (nI D) (nI A) (nI Q) (nI 2)) := by
    unfold df_X18_atomic df_X18_atomic_0
    rw [RS_7, if_pos (by decide), if_neg (by decide)]
    unfold df_X18_atomic_21
    rw [if_neg (by decide)]
    unfold df_X18_atomic_31
    rw [if_pos (by decide)]
    unfold df_X18_atomic_48 df_X18_atomic_49
    rw [if_pos (by decide)]
    unfold df_X18_atomic_71 df_X18_atomic_76
    rw [if_neg (by decide), if_neg (by decide), if_neg (by decide)]
    unfold df_X18_atomic_110
    rw [nw_7302497 hn10 (by (try simp only [List.length_append, List.length_cons, List.length_nil, nxl_0, nxl_s]); omega), nb_b1, nb_let, show (0 : Int32) = nI 0 from rfl, RS_w1, if_neg (by decide), if_neg (by decide), if_pos (by decide), if_neg (by decide), if_pos (by decide)]
    unfold df_X18_atomic_223
    rw [sw_7499640 hn10 (by (try simp only [List.length_append, List.length_cons, List.length_nil, nxl_0, nxl_s]); omega), nb_b1]
    rw [a226 hn10 hg hD hA hQ hv eV (by (try simp only [List.length_append, List.length_cons, List.length_nil, nxl_0, nxl_s]); omega), a284_n hn10 hg hD hA hQ (by decide) (by simp only [List.length_append, List.length_cons, List.length_nil]; have := sfl v; omega)]
    simp only [List.append_assoc, List.cons_append, List.nil_append, List.append_nil, nxl_0, nxl_s]
  exact ⟨_, _, _, _, _, lo_47 hop (by rw [eD, eA, eQ, f3, g5, key, tx])⟩
theorem rtx_50 {n : Nat} {B : St} {w d0 a0 b0 f0 : Int32} (hn : 30 < n) (hg : ∀ r : Nat, r < 32 → sR B 1 r = rgT r) (hm : MKp 50 w) : ∃ (k : Nat) (d a b f : Int32), df_X18_longOne n (RS B [] 0 0 w d0 a0 b0 f0) = some (RS B (txL (fun c => tvA c w) 50 w) k 1 w d a b f) := by
  have hw : w &&& nI 4160778367 = nI 1610620975 := hm.2.trans (by decide +kernel)
  have hn10 : 10 < n := by omega
  have hop : w &&& nI 127 = nI 47 := (sub_3 hw (by decide)).trans (by decide)
  have f3 : fpt w 12 3 = nI 2 := pf_1 hw (by decide) (by decide) (by decide)
  have g5 : fpt w 27 5 = nI 12 := pf_1 hw (by decide) (by decide) (by decide)
  obtain ⟨D, hD, eD⟩ := pt_n (w := w) (k := 7) (m := 5) (by decide) (by decide)
  have hD : D < 32 := hD
  obtain ⟨A, hA, eA⟩ := pt_n (w := w) (k := 15) (m := 5) (by decide) (by decide)
  have hA : A < 32 := hA
  obtain ⟨Q, hQ, eQ⟩ := pt_n (w := w) (k := 20) (m := 5) (by decide) (by decide)
  have hQ : Q < 32 := hQ
  obtain ⟨v, hv, eV⟩ := pt_n (w := w) (k := 25) (m := 2) (by decide) (by decide)
  have hv : v < 4 := hv
  have tx : txL (fun c => tvA c w) 50 w = ([97, 109, 111, 97, 110, 100, 46, 119] ++ (sfR v ++ ([32] ++ (regL D ++ ([44, 32] ++ (regL Q ++ ([44, 32] ++ ([40] ++ (regL A ++ ([41])))))))))) := by
    unfold txL
    rw [show strL (ko_w 50) = [97, 109, 111, 97, 110, 100, 46, 119] from by decide +kernel, show strL (ko_f 50) = [100, 44, 98, 44, 40, 97, 41] from by decide +kernel, sf_1 (by decide +kernel) hv eV]
    simp only [wrT, oc_40, oc_41, oc_44, (show oper 97 (tvA 97 w) = regL A from or_1 (by decide) (by decide) eA hA), (show oper 98 (tvA 98 w) = regL Q from or_1 (by decide) (by decide) eQ hQ), (show oper 100 (tvA 100 w) = regL D from or_1 (by decide) (by decide) eD hD), ne_eq, reduceCtorEq, not_false_eq_true, not_true_eq_false, if_true, if_false, ↓reduceIte, List.append_assoc, List.cons_append, List.nil_append, List.append_nil, nxl_0, nxl_s]
  have key : df_X18_atomic n (nI 12) (RS B [] 0 0 w (nI D) (nI A) (nI Q) (nI 2)) = some (RS B ([97, 109, 111, 97, 110, 100, 46, 119] ++ (sfR v ++ ([32] ++ (regL D ++ ([44, 32] ++ (regL Q ++ ([44, 32] ++ ([40] ++ (regL A ++ ([41])))))))))) 3 1 w (nI D) (nI A) (nI Q) (nI 2)) := by
    unfold df_X18_atomic df_X18_atomic_0
    rw [RS_7, if_pos (by decide), if_neg (by decide)]
    unfold df_X18_atomic_21
    rw [if_neg (by decide)]
    unfold df_X18_atomic_31
    rw [if_pos (by decide)]
    unfold df_X18_atomic_48 df_X18_atomic_49
    rw [if_neg (by decide), if_neg (by decide), if_pos (by decide)]
    unfold df_X18_atomic_71 df_X18_atomic_76
    rw [if_neg (by decide), if_neg (by decide), if_neg (by decide)]
    unfold df_X18_atomic_110
    rw [nw_7302497 hn10 (by (try simp only [List.length_append, List.length_cons, List.length_nil, nxl_0, nxl_s]); omega), nb_b1, nb_let, show (0 : Int32) = nI 0 from rfl, RS_w1, if_neg (by decide), if_neg (by decide), if_pos (by decide), if_neg (by decide), if_neg (by decide), if_pos (by decide)]
    unfold df_X18_atomic_223
    rw [sw_6581857 hn10 (by (try simp only [List.length_append, List.length_cons, List.length_nil, nxl_0, nxl_s]); omega), nb_b1]
    rw [a226 hn10 hg hD hA hQ hv eV (by (try simp only [List.length_append, List.length_cons, List.length_nil, nxl_0, nxl_s]); omega), a284_n hn10 hg hD hA hQ (by decide) (by simp only [List.length_append, List.length_cons, List.length_nil]; have := sfl v; omega)]
    simp only [List.append_assoc, List.cons_append, List.nil_append, List.append_nil, nxl_0, nxl_s]
  exact ⟨_, _, _, _, _, lo_47 hop (by rw [eD, eA, eQ, f3, g5, key, tx])⟩
theorem rtx_51 {n : Nat} {B : St} {w d0 a0 b0 f0 : Int32} (hn : 30 < n) (hg : ∀ r : Nat, r < 32 → sR B 1 r = rgT r) (hm : MKp 51 w) : ∃ (k : Nat) (d a b f : Int32), df_X18_longOne n (RS B [] 0 0 w d0 a0 b0 f0) = some (RS B (txL (fun c => tvA c w) 51 w) k 1 w d a b f) := by
  have hw : w &&& nI 4160778367 = nI 1073750063 := hm.2.trans (by decide +kernel)
  have hn10 : 10 < n := by omega
  have hop : w &&& nI 127 = nI 47 := (sub_3 hw (by decide)).trans (by decide)
  have f3 : fpt w 12 3 = nI 2 := pf_1 hw (by decide) (by decide) (by decide)
  have g5 : fpt w 27 5 = nI 8 := pf_1 hw (by decide) (by decide) (by decide)
  obtain ⟨D, hD, eD⟩ := pt_n (w := w) (k := 7) (m := 5) (by decide) (by decide)
  have hD : D < 32 := hD
  obtain ⟨A, hA, eA⟩ := pt_n (w := w) (k := 15) (m := 5) (by decide) (by decide)
  have hA : A < 32 := hA
  obtain ⟨Q, hQ, eQ⟩ := pt_n (w := w) (k := 20) (m := 5) (by decide) (by decide)
  have hQ : Q < 32 := hQ
  obtain ⟨v, hv, eV⟩ := pt_n (w := w) (k := 25) (m := 2) (by decide) (by decide)
  have hv : v < 4 := hv
  have tx : txL (fun c => tvA c w) 51 w = ([97, 109, 111, 111, 114, 46, 119] ++ (sfR v ++ ([32] ++ (regL D ++ ([44, 32] ++ (regL Q ++ ([44, 32] ++ ([40] ++ (regL A ++ ([41])))))))))) := by
    unfold txL
    rw [show strL (ko_w 51) = [97, 109, 111, 111, 114, 46, 119] from by decide +kernel, show strL (ko_f 51) = [100, 44, 98, 44, 40, 97, 41] from by decide +kernel, sf_1 (by decide +kernel) hv eV]
    simp only [wrT, oc_40, oc_41, oc_44, (show oper 97 (tvA 97 w) = regL A from or_1 (by decide) (by decide) eA hA), (show oper 98 (tvA 98 w) = regL Q from or_1 (by decide) (by decide) eQ hQ), (show oper 100 (tvA 100 w) = regL D from or_1 (by decide) (by decide) eD hD), ne_eq, reduceCtorEq, not_false_eq_true, not_true_eq_false, if_true, if_false, ↓reduceIte, List.append_assoc, List.cons_append, List.nil_append, List.append_nil, nxl_0, nxl_s]
  have key : df_X18_atomic n (nI 8) (RS B [] 0 0 w (nI D) (nI A) (nI Q) (nI 2)) = some (RS B ([97, 109, 111, 111, 114, 46, 119] ++ (sfR v ++ ([32] ++ (regL D ++ ([44, 32] ++ (regL Q ++ ([44, 32] ++ ([40] ++ (regL A ++ ([41])))))))))) 3 1 w (nI D) (nI A) (nI Q) (nI 2)) := by
    unfold df_X18_atomic df_X18_atomic_0
    rw [RS_7, if_pos (by decide), if_neg (by decide)]
    unfold df_X18_atomic_21
    rw [if_neg (by decide)]
    unfold df_X18_atomic_31
    rw [if_pos (by decide)]
    unfold df_X18_atomic_48 df_X18_atomic_49
    rw [if_neg (by decide), if_pos (by decide)]
    unfold df_X18_atomic_71 df_X18_atomic_76
    rw [if_neg (by decide), if_neg (by decide), if_neg (by decide)]
    unfold df_X18_atomic_110
    rw [nw_7302497 hn10 (by (try simp only [List.length_append, List.length_cons, List.length_nil, nxl_0, nxl_s]); omega), nb_b1, nb_let, show (0 : Int32) = nI 0 from rfl, RS_w1, if_neg (by decide), if_neg (by decide), if_pos (by decide), if_neg (by decide), if_neg (by decide), if_neg (by decide), if_pos (by decide)]
    unfold df_X18_atomic_223
    rw [sw_29295 hn10 (by (try simp only [List.length_append, List.length_cons, List.length_nil, nxl_0, nxl_s]); omega), nb_b1]
    rw [a226 hn10 hg hD hA hQ hv eV (by (try simp only [List.length_append, List.length_cons, List.length_nil, nxl_0, nxl_s]); omega), a284_n hn10 hg hD hA hQ (by decide) (by simp only [List.length_append, List.length_cons, List.length_nil]; have := sfl v; omega)]
    simp only [List.append_assoc, List.cons_append, List.nil_append, List.append_nil, nxl_0, nxl_s]
  exact ⟨_, _, _, _, _, lo_47 hop (by rw [eD, eA, eQ, f3, g5, key, tx])⟩
theorem rtx_52 {n : Nat} {B : St} {w d0 a0 b0 f0 : Int32} (hn : 30 < n) (hg : ∀ r : Nat, r < 32 → sR B 1 r = rgT r) (hm : MKp 52 w) : ∃ (k : Nat) (d a b f : Int32), df_X18_longOne n (RS B [] 0 0 w d0 a0 b0 f0) = some (RS B (txL (fun c => tvA c w) 52 w) k 1 w d a b f) := by
  have hw : w &&& nI 4160778367 = nI 2147491887 := hm.2.trans (by decide +kernel)
  have hn10 : 10 < n := by omega
  have hop : w &&& nI 127 = nI 47 := (sub_3 hw (by decide)).trans (by decide)
  have f3 : fpt w 12 3 = nI 2 := pf_1 hw (by decide) (by decide) (by decide)
  have g5 : fpt w 27 5 = nI 16 := pf_1 hw (by decide) (by decide) (by decide)
  obtain ⟨D, hD, eD⟩ := pt_n (w := w) (k := 7) (m := 5) (by decide) (by decide)
  have hD : D < 32 := hD
  obtain ⟨A, hA, eA⟩ := pt_n (w := w) (k := 15) (m := 5) (by decide) (by decide)
  have hA : A < 32 := hA
  obtain ⟨Q, hQ, eQ⟩ := pt_n (w := w) (k := 20) (m := 5) (by decide) (by decide)
  have hQ : Q < 32 := hQ
  obtain ⟨v, hv, eV⟩ := pt_n (w := w) (k := 25) (m := 2) (by decide) (by decide)
  have hv : v < 4 := hv
  have tx : txL (fun c => tvA c w) 52 w = ([97, 109, 111, 109, 105, 110, 46, 119] ++ (sfR v ++ ([32] ++ (regL D ++ ([44, 32] ++ (regL Q ++ ([44, 32] ++ ([40] ++ (regL A ++ ([41])))))))))) := by
    unfold txL
    rw [show strL (ko_w 52) = [97, 109, 111, 109, 105, 110, 46, 119] from by decide +kernel, show strL (ko_f 52) = [100, 44, 98, 44, 40, 97, 41] from by decide +kernel, sf_1 (by decide +kernel) hv eV]
    simp only [wrT, oc_40, oc_41, oc_44, (show oper 97 (tvA 97 w) = regL A from or_1 (by decide) (by decide) eA hA), (show oper 98 (tvA 98 w) = regL Q from or_1 (by decide) (by decide) eQ hQ), (show oper 100 (tvA 100 w) = regL D from or_1 (by decide) (by decide) eD hD), ne_eq, reduceCtorEq, not_false_eq_true, not_true_eq_false, if_true, if_false, ↓reduceIte, List.append_assoc, List.cons_append, List.nil_append, List.append_nil, nxl_0, nxl_s]
  have key : df_X18_atomic n (nI 16) (RS B [] 0 0 w (nI D) (nI A) (nI Q) (nI 2)) = some (RS B ([97, 109, 111, 109, 105, 110, 46, 119] ++ (sfR v ++ ([32] ++ (regL D ++ ([44, 32] ++ (regL Q ++ ([44, 32] ++ ([40] ++ (regL A ++ ([41])))))))))) 3 1 w (nI D) (nI A) (nI Q) (nI 2)) := by
    unfold df_X18_atomic df_X18_atomic_0
    rw [RS_7, if_pos (by decide), if_neg (by decide)]
    unfold df_X18_atomic_21
    rw [if_neg (by decide)]
    unfold df_X18_atomic_31
    rw [if_neg (by decide), if_pos (by decide)]
    unfold df_X18_atomic_49
    rw [if_neg (by decide), if_neg (by decide), if_neg (by decide), if_neg (by decide)]
    unfold df_X18_atomic_71 df_X18_atomic_76
    rw [if_neg (by decide), if_neg (by decide), if_neg (by decide)]
    unfold df_X18_atomic_110
    rw [nw_7302497 hn10 (by (try simp only [List.length_append, List.length_cons, List.length_nil, nxl_0, nxl_s]); omega), nb_b1, nb_let, show (0 : Int32) = nI 0 from rfl, RS_w1, if_neg (by decide), if_neg (by decide), if_pos (by decide), if_neg (by decide), if_neg (by decide), if_neg (by decide), if_neg (by decide), if_pos (by decide)]
    unfold df_X18_atomic_223
    rw [sw_7235949 hn10 (by (try simp only [List.length_append, List.length_cons, List.length_nil, nxl_0, nxl_s]); omega), nb_b1]
    rw [a226 hn10 hg hD hA hQ hv eV (by (try simp only [List.length_append, List.length_cons, List.length_nil, nxl_0, nxl_s]); omega), a284_n hn10 hg hD hA hQ (by decide) (by simp only [List.length_append, List.length_cons, List.length_nil]; have := sfl v; omega)]
    simp only [List.append_assoc, List.cons_append, List.nil_append, List.append_nil, nxl_0, nxl_s]
  exact ⟨_, _, _, _, _, lo_47 hop (by rw [eD, eA, eQ, f3, g5, key, tx])⟩
theorem rtx_53 {n : Nat} {B : St} {w d0 a0 b0 f0 : Int32} (hn : 30 < n) (hg : ∀ r : Nat, r < 32 → sR B 1 r = rgT r) (hm : MKp 53 w) : ∃ (k : Nat) (d a b f : Int32), df_X18_longOne n (RS B [] 0 0 w d0 a0 b0 f0) = some (RS B (txL (fun c => tvA c w) 53 w) k 1 w d a b f) := by
  have hw : w &&& nI 4160778367 = nI 2684362799 := hm.2.trans (by decide +kernel)
  have hn10 : 10 < n := by omega
  have hop : w &&& nI 127 = nI 47 := (sub_3 hw (by decide)).trans (by decide)
  have f3 : fpt w 12 3 = nI 2 := pf_1 hw (by decide) (by decide) (by decide)
  have g5 : fpt w 27 5 = nI 20 := pf_1 hw (by decide) (by decide) (by decide)
  obtain ⟨D, hD, eD⟩ := pt_n (w := w) (k := 7) (m := 5) (by decide) (by decide)
  have hD : D < 32 := hD
  obtain ⟨A, hA, eA⟩ := pt_n (w := w) (k := 15) (m := 5) (by decide) (by decide)
  have hA : A < 32 := hA
  obtain ⟨Q, hQ, eQ⟩ := pt_n (w := w) (k := 20) (m := 5) (by decide) (by decide)
  have hQ : Q < 32 := hQ
  obtain ⟨v, hv, eV⟩ := pt_n (w := w) (k := 25) (m := 2) (by decide) (by decide)
  have hv : v < 4 := hv
  have tx : txL (fun c => tvA c w) 53 w = ([97, 109, 111, 109, 97, 120, 46, 119] ++ (sfR v ++ ([32] ++ (regL D ++ ([44, 32] ++ (regL Q ++ ([44, 32] ++ ([40] ++ (regL A ++ ([41])))))))))) := by
    unfold txL
    rw [show strL (ko_w 53) = [97, 109, 111, 109, 97, 120, 46, 119] from by decide +kernel, show strL (ko_f 53) = [100, 44, 98, 44, 40, 97, 41] from by decide +kernel, sf_1 (by decide +kernel) hv eV]
    simp only [wrT, oc_40, oc_41, oc_44, (show oper 97 (tvA 97 w) = regL A from or_1 (by decide) (by decide) eA hA), (show oper 98 (tvA 98 w) = regL Q from or_1 (by decide) (by decide) eQ hQ), (show oper 100 (tvA 100 w) = regL D from or_1 (by decide) (by decide) eD hD), ne_eq, reduceCtorEq, not_false_eq_true, not_true_eq_false, if_true, if_false, ↓reduceIte, List.append_assoc, List.cons_append, List.nil_append, List.append_nil, nxl_0, nxl_s]
  have key : df_X18_atomic n (nI 20) (RS B [] 0 0 w (nI D) (nI A) (nI Q) (nI 2)) = some (RS B ([97, 109, 111, 109, 97, 120, 46, 119] ++ (sfR v ++ ([32] ++ (regL D ++ ([44, 32] ++ (regL Q ++ ([44, 32] ++ ([40] ++ (regL A ++ ([41])))))))))) 3 1 w (nI D) (nI A) (nI Q) (nI 2)) := by
    unfold df_X18_atomic df_X18_atomic_0
    rw [RS_7, if_pos (by decide), if_neg (by decide)]
    unfold df_X18_atomic_21
    rw [if_neg (by decide)]
    unfold df_X18_atomic_31
    rw [if_neg (by decide), if_pos (by decide)]
    unfold df_X18_atomic_49
    rw [if_neg (by decide), if_neg (by decide), if_neg (by decide), if_neg (by decide)]
    unfold df_X18_atomic_71 df_X18_atomic_76
    rw [if_neg (by decide), if_neg (by decide), if_neg (by decide)]
    unfold df_X18_atomic_110
    rw [nw_7302497 hn10 (by (try simp only [List.length_append, List.length_cons, List.length_nil, nxl_0, nxl_s]); omega), nb_b1, nb_let, show (0 : Int32) = nI 0 from rfl, RS_w1, if_neg (by decide), if_neg (by decide), if_pos (by decide), if_neg (by decide), if_neg (by decide), if_neg (by decide), if_neg (by decide), if_neg (by decide), if_pos (by decide)]
    unfold df_X18_atomic_223
    rw [sw_7889261 hn10 (by (try simp only [List.length_append, List.length_cons, List.length_nil, nxl_0, nxl_s]); omega), nb_b1]
    rw [a226 hn10 hg hD hA hQ hv eV (by (try simp only [List.length_append, List.length_cons, List.length_nil, nxl_0, nxl_s]); omega), a284_n hn10 hg hD hA hQ (by decide) (by simp only [List.length_append, List.length_cons, List.length_nil]; have := sfl v; omega)]
    simp only [List.append_assoc, List.cons_append, List.nil_append, List.append_nil, nxl_0, nxl_s]
  exact ⟨_, _, _, _, _, lo_47 hop (by rw [eD, eA, eQ, f3, g5, key, tx])⟩
theorem rtx_54 {n : Nat} {B : St} {w d0 a0 b0 f0 : Int32} (hn : 30 < n) (hg : ∀ r : Nat, r < 32 → sR B 1 r = rgT r) (hm : MKp 54 w) : ∃ (k : Nat) (d a b f : Int32), df_X18_longOne n (RS B [] 0 0 w d0 a0 b0 f0) = some (RS B (txL (fun c => tvA c w) 54 w) k 1 w d a b f) := by
  have hw : w &&& nI 4160778367 = nI 3221233711 := hm.2.trans (by decide +kernel)
  have hn10 : 10 < n := by omega
  have hop : w &&& nI 127 = nI 47 := (sub_3 hw (by decide)).trans (by decide)
  have f3 : fpt w 12 3 = nI 2 := pf_1 hw (by decide) (by decide) (by decide)
  have g5 : fpt w 27 5 = nI 24 := pf_1 hw (by decide) (by decide) (by decide)
  obtain ⟨D, hD, eD⟩ := pt_n (w := w) (k := 7) (m := 5) (by decide) (by decide)
  have hD : D < 32 := hD
  obtain ⟨A, hA, eA⟩ := pt_n (w := w) (k := 15) (m := 5) (by decide) (by decide)
  have hA : A < 32 := hA
  obtain ⟨Q, hQ, eQ⟩ := pt_n (w := w) (k := 20) (m := 5) (by decide) (by decide)
  have hQ : Q < 32 := hQ
  obtain ⟨v, hv, eV⟩ := pt_n (w := w) (k := 25) (m := 2) (by decide) (by decide)
  have hv : v < 4 := hv
  have tx : txL (fun c => tvA c w) 54 w = ([97, 109, 111, 109, 105, 110, 117, 46, 119] ++ (sfR v ++ ([32] ++ (regL D ++ ([44, 32] ++ (regL Q ++ ([44, 32] ++ ([40] ++ (regL A ++ ([41])))))))))) := by
    unfold txL
    rw [show strL (ko_w 54) = [97, 109, 111, 109, 105, 110, 117, 46, 119] from by decide +kernel, show strL (ko_f 54) = [100, 44, 98, 44, 40, 97, 41] from by decide +kernel, sf_1 (by decide +kernel) hv eV]
    simp only [wrT, oc_40, oc_41, oc_44, (show oper 97 (tvA 97 w) = regL A from or_1 (by decide) (by decide) eA hA), (show oper 98 (tvA 98 w) = regL Q from or_1 (by decide) (by decide) eQ hQ), (show oper 100 (tvA 100 w) = regL D from or_1 (by decide) (by decide) eD hD), ne_eq, reduceCtorEq, not_false_eq_true, not_true_eq_false, if_true, if_false, ↓reduceIte, List.append_assoc, List.cons_append, List.nil_append, List.append_nil, nxl_0, nxl_s]
  have key : df_X18_atomic n (nI 24) (RS B [] 0 0 w (nI D) (nI A) (nI Q) (nI 2)) = some (RS B ([97, 109, 111, 109, 105, 110, 117, 46, 119] ++ (sfR v ++ ([32] ++ (regL D ++ ([44, 32] ++ (regL Q ++ ([44, 32] ++ ([40] ++ (regL A ++ ([41])))))))))) 3 1 w (nI D) (nI A) (nI Q) (nI 2)) := by
    unfold df_X18_atomic df_X18_atomic_0
    rw [RS_7, if_pos (by decide), if_neg (by decide)]
    unfold df_X18_atomic_21
    rw [if_neg (by decide)]
    unfold df_X18_atomic_31
    rw [if_neg (by decide), if_pos (by decide)]
    unfold df_X18_atomic_49
    rw [if_neg (by decide), if_neg (by decide), if_neg (by decide), if_neg (by decide)]
    unfold df_X18_atomic_71 df_X18_atomic_76
    rw [if_neg (by decide), if_neg (by decide), if_neg (by decide)]
    unfold df_X18_atomic_110
    rw [nw_7302497 hn10 (by (try simp only [List.length_append, List.length_cons, List.length_nil, nxl_0, nxl_s]); omega), nb_b1, nb_let, show (0 : Int32) = nI 0 from rfl, RS_w1, if_neg (by decide), if_neg (by decide), if_pos (by decide), if_neg (by decide), if_neg (by decide), if_neg (by decide), if_neg (by decide), if_neg (by decide), if_neg (by decide), if_pos (by decide)]
    unfold df_X18_atomic_223
    rw [sw_1970170221 hn10 (by (try simp only [List.length_append, List.length_cons, List.length_nil, nxl_0, nxl_s]); omega), nb_b1]
    rw [a226 hn10 hg hD hA hQ hv eV (by (try simp only [List.length_append, List.length_cons, List.length_nil, nxl_0, nxl_s]); omega), a284_n hn10 hg hD hA hQ (by decide) (by simp only [List.length_append, List.length_cons, List.length_nil]; have := sfl v; omega)]
    simp only [List.append_assoc, List.cons_append, List.nil_append, List.append_nil, nxl_0, nxl_s]
  exact ⟨_, _, _, _, _, lo_47 hop (by rw [eD, eA, eQ, f3, g5, key, tx])⟩
theorem rtx_55 {n : Nat} {B : St} {w d0 a0 b0 f0 : Int32} (hn : 30 < n) (hg : ∀ r : Nat, r < 32 → sR B 1 r = rgT r) (hm : MKp 55 w) : ∃ (k : Nat) (d a b f : Int32), df_X18_longOne n (RS B [] 0 0 w d0 a0 b0 f0) = some (RS B (txL (fun c => tvA c w) 55 w) k 1 w d a b f) := by
  have hw : w &&& nI 4160778367 = nI 3758104623 := hm.2.trans (by decide +kernel)
  have hn10 : 10 < n := by omega
  have hop : w &&& nI 127 = nI 47 := (sub_3 hw (by decide)).trans (by decide)
  have f3 : fpt w 12 3 = nI 2 := pf_1 hw (by decide) (by decide) (by decide)
  have g5 : fpt w 27 5 = nI 28 := pf_1 hw (by decide) (by decide) (by decide)
  obtain ⟨D, hD, eD⟩ := pt_n (w := w) (k := 7) (m := 5) (by decide) (by decide)
  have hD : D < 32 := hD
  obtain ⟨A, hA, eA⟩ := pt_n (w := w) (k := 15) (m := 5) (by decide) (by decide)
  have hA : A < 32 := hA
  obtain ⟨Q, hQ, eQ⟩ := pt_n (w := w) (k := 20) (m := 5) (by decide) (by decide)
  have hQ : Q < 32 := hQ
  obtain ⟨v, hv, eV⟩ := pt_n (w := w) (k := 25) (m := 2) (by decide) (by decide)
  have hv : v < 4 := hv
  have tx : txL (fun c => tvA c w) 55 w = ([97, 109, 111, 109, 97, 120, 117, 46, 119] ++ (sfR v ++ ([32] ++ (regL D ++ ([44, 32] ++ (regL Q ++ ([44, 32] ++ ([40] ++ (regL A ++ ([41])))))))))) := by
    unfold txL
    rw [show strL (ko_w 55) = [97, 109, 111, 109, 97, 120, 117, 46, 119] from by decide +kernel, show strL (ko_f 55) = [100, 44, 98, 44, 40, 97, 41] from by decide +kernel, sf_1 (by decide +kernel) hv eV]
    simp only [wrT, oc_40, oc_41, oc_44, (show oper 97 (tvA 97 w) = regL A from or_1 (by decide) (by decide) eA hA), (show oper 98 (tvA 98 w) = regL Q from or_1 (by decide) (by decide) eQ hQ), (show oper 100 (tvA 100 w) = regL D from or_1 (by decide) (by decide) eD hD), ne_eq, reduceCtorEq, not_false_eq_true, not_true_eq_false, if_true, if_false, ↓reduceIte, List.append_assoc, List.cons_append, List.nil_append, List.append_nil, nxl_0, nxl_s]
  have key : df_X18_atomic n (nI 28) (RS B [] 0 0 w (nI D) (nI A) (nI Q) (nI 2)) = some (RS B ([97, 109, 111, 109, 97, 120, 117, 46, 119] ++ (sfR v ++ ([32] ++ (regL D ++ ([44, 32] ++ (regL Q ++ ([44, 32] ++ ([40] ++ (regL A ++ ([41])))))))))) 3 1 w (nI D) (nI A) (nI Q) (nI 2)) := by
    unfold df_X18_atomic df_X18_atomic_0
    rw [RS_7, if_pos (by decide), if_neg (by decide)]
    unfold df_X18_atomic_21
    rw [if_neg (by decide)]
    unfold df_X18_atomic_31
    rw [if_neg (by decide), if_pos (by decide)]
    unfold df_X18_atomic_49
    rw [if_neg (by decide), if_neg (by decide), if_neg (by decide), if_neg (by decide)]
    unfold df_X18_atomic_71 df_X18_atomic_76
    rw [if_neg (by decide), if_neg (by decide), if_neg (by decide)]
    unfold df_X18_atomic_110
    rw [nw_7302497 hn10 (by (try simp only [List.length_append, List.length_cons, List.length_nil, nxl_0, nxl_s]); omega), nb_b1, nb_let, show (0 : Int32) = nI 0 from rfl, RS_w1, if_neg (by decide), if_neg (by decide), if_pos (by decide), if_neg (by decide), if_neg (by decide), if_neg (by decide), if_neg (by decide), if_neg (by decide), if_neg (by decide), if_neg (by decide)]
    unfold df_X18_atomic_223
    rw [sw_1970823533 hn10 (by (try simp only [List.length_append, List.length_cons, List.length_nil, nxl_0, nxl_s]); omega), nb_b1]
    rw [a226 hn10 hg hD hA hQ hv eV (by (try simp only [List.length_append, List.length_cons, List.length_nil, nxl_0, nxl_s]); omega), a284_n hn10 hg hD hA hQ (by decide) (by simp only [List.length_append, List.length_cons, List.length_nil]; have := sfl v; omega)]
    simp only [List.append_assoc, List.cons_append, List.nil_append, List.append_nil, nxl_0, nxl_s]
  exact ⟨_, _, _, _, _, lo_47 hop (by rw [eD, eA, eQ, f3, g5, key, tx])⟩

theorem mand2 {w : Int32} {N1 B1 N2 B2 : Nat} (h1 : w &&& nI N1 = nI B1) (h2 : w &&& nI N2 = nI B2) : w &&& nI (N1 ||| N2) = nI (B1 ||| B2) := by
  rw [nI_or, nI_or, ← h1, ← h2]
  apply gb_ext
  intro i hi
  rw [gb_and, gb_or, gb_or, gb_and, gb_and, Bool.and_or_distrib_left]
theorem fptA {w : Int32} {k m v : Nat} (hk : k < 32) (hm : 0 < m) (h : fpt w k m = nI v) : w &&& nI ((2 ^ m - 1) <<< k) = nI (v <<< k) := by
  apply gb_ext
  intro i hi
  rw [gb_and, gb_n hi, gb_n hi, Nat.testBit_shiftLeft, Nat.testBit_shiftLeft, tbq_1]
  by_cases c : k ≤ i
  · have z : gb (fpt w k m) (i - k) = gb (nI v) (i - k) := by rw [h]
    rw [gb_fpt hk (by omega), gb_n (by omega), show k + (i - k) = i by omega] at z
    rw [decide_eq_true (show i ≥ k from c), Bool.true_and, Bool.true_and]
    exact z
  · rw [decide_eq_false (show ¬ i ≥ k from c), Bool.false_and, Bool.false_and, Bool.and_false]
theorem mkpI {i N Bv : Nat} {w : Int32} (h : w &&& nI N = nI Bv) (e1 : kmT i = N) (e2 : ko_b i = nI Bv) (e3 : mkB w (strL (ko_f i)) = true) : MKp i w := ⟨e3, by rw [e1, e2]; exact h⟩
theorem znkE {G k : Nat} {K : Int32} (h : G ≠ k) (hG : G < 2 ^ 31) (hk : k < 2 ^ 31) (e : K = nI k) : ¬ nI G = K := fun z => by
  rw [e] at z
  have z := congrArg Int32.toInt z
  rw [nI_toInt hG, nI_toInt hk] at z
  omega
theorem np_plain {n : Nat} {B : St} {w : Int32} {F : Nat} {d a b : Int32} {G : Nat} (hop : w &&& nI 127 = nI 51) (hG : G < 128) (g7 : fpt w 25 7 = nI G) (h : ∀ t : Nat, t < 93 → ¬ MKp t w) (hF : F < 8) (f3 : fpt w 12 3 = nI F) : df_X18_plain n (nI G) (RS B [] 0 0 w d a b (nI F)) = some (RS B [] 0 0 w d a b (nI F)) := by
  have n0 : G ≠ 0 := fun z => by
    subst z
    obtain rfl | rfl | rfl | rfl | rfl | rfl | rfl | rfl : F = 0 ∨ F = 1 ∨ F = 2 ∨ F = 3 ∨ F = 4 ∨ F = 5 ∨ F = 6 ∨ F = 7 := by omega
    · exact h 0 (by decide) (mkpI (mand2 hop (mand2 (fptA (by decide) (by decide) f3) (fptA (by decide) (by decide) g7))) (by decide +kernel) (by decide +kernel) (by rw [show strL (ko_f 0) = [100, 44, 97, 44, 98] from by decide +kernel]; rfl))
    · exact h 2 (by decide) (mkpI (mand2 hop (mand2 (fptA (by decide) (by decide) f3) (fptA (by decide) (by decide) g7))) (by decide +kernel) (by decide +kernel) (by rw [show strL (ko_f 2) = [100, 44, 97, 44, 98] from by decide +kernel]; rfl))
    · exact h 3 (by decide) (mkpI (mand2 hop (mand2 (fptA (by decide) (by decide) f3) (fptA (by decide) (by decide) g7))) (by decide +kernel) (by decide +kernel) (by rw [show strL (ko_f 3) = [100, 44, 97, 44, 98] from by decide +kernel]; rfl))
    · exact h 4 (by decide) (mkpI (mand2 hop (mand2 (fptA (by decide) (by decide) f3) (fptA (by decide) (by decide) g7))) (by decide +kernel) (by decide +kernel) (by rw [show strL (ko_f 4) = [100, 44, 97, 44, 98] from by decide +kernel]; rfl))
    · exact h 5 (by decide) (mkpI (mand2 hop (mand2 (fptA (by decide) (by decide) f3) (fptA (by decide) (by decide) g7))) (by decide +kernel) (by decide +kernel) (by rw [show strL (ko_f 5) = [100, 44, 97, 44, 98] from by decide +kernel]; rfl))
    · exact h 6 (by decide) (mkpI (mand2 hop (mand2 (fptA (by decide) (by decide) f3) (fptA (by decide) (by decide) g7))) (by decide +kernel) (by decide +kernel) (by rw [show strL (ko_f 6) = [100, 44, 97, 44, 98] from by decide +kernel]; rfl))
    · exact h 8 (by decide) (mkpI (mand2 hop (mand2 (fptA (by decide) (by decide) f3) (fptA (by decide) (by decide) g7))) (by decide +kernel) (by decide +kernel) (by rw [show strL (ko_f 8) = [100, 44, 97, 44, 98] from by decide +kernel]; rfl))
    · exact h 9 (by decide) (mkpI (mand2 hop (mand2 (fptA (by decide) (by decide) f3) (fptA (by decide) (by decide) g7))) (by decide +kernel) (by decide +kernel) (by rw [show strL (ko_f 9) = [100, 44, 97, 44, 98] from by decide +kernel]; rfl))
  have n1 : G ≠ 1 := fun z => by
    subst z
    obtain rfl | rfl | rfl | rfl | rfl | rfl | rfl | rfl : F = 0 ∨ F = 1 ∨ F = 2 ∨ F = 3 ∨ F = 4 ∨ F = 5 ∨ F = 6 ∨ F = 7 := by omega
    · exact h 10 (by decide) (mkpI (mand2 hop (mand2 (fptA (by decide) (by decide) f3) (fptA (by decide) (by decide) g7))) (by decide +kernel) (by decide +kernel) (by rw [show strL (ko_f 10) = [100, 44, 97, 44, 98] from by decide +kernel]; rfl))
    · exact h 11 (by decide) (mkpI (mand2 hop (mand2 (fptA (by decide) (by decide) f3) (fptA (by decide) (by decide) g7))) (by decide +kernel) (by decide +kernel) (by rw [show strL (ko_f 11) = [100, 44, 97, 44, 98] from by decide +kernel]; rfl))
    · exact h 12 (by decide) (mkpI (mand2 hop (mand2 (fptA (by decide) (by decide) f3) (fptA (by decide) (by decide) g7))) (by decide +kernel) (by decide +kernel) (by rw [show strL (ko_f 12) = [100, 44, 97, 44, 98] from by decide +kernel]; rfl))
    · exact h 13 (by decide) (mkpI (mand2 hop (mand2 (fptA (by decide) (by decide) f3) (fptA (by decide) (by decide) g7))) (by decide +kernel) (by decide +kernel) (by rw [show strL (ko_f 13) = [100, 44, 97, 44, 98] from by decide +kernel]; rfl))
    · exact h 14 (by decide) (mkpI (mand2 hop (mand2 (fptA (by decide) (by decide) f3) (fptA (by decide) (by decide) g7))) (by decide +kernel) (by decide +kernel) (by rw [show strL (ko_f 14) = [100, 44, 97, 44, 98] from by decide +kernel]; rfl))
    · exact h 15 (by decide) (mkpI (mand2 hop (mand2 (fptA (by decide) (by decide) f3) (fptA (by decide) (by decide) g7))) (by decide +kernel) (by decide +kernel) (by rw [show strL (ko_f 15) = [100, 44, 97, 44, 98] from by decide +kernel]; rfl))
    · exact h 16 (by decide) (mkpI (mand2 hop (mand2 (fptA (by decide) (by decide) f3) (fptA (by decide) (by decide) g7))) (by decide +kernel) (by decide +kernel) (by rw [show strL (ko_f 16) = [100, 44, 97, 44, 98] from by decide +kernel]; rfl))
    · exact h 17 (by decide) (mkpI (mand2 hop (mand2 (fptA (by decide) (by decide) f3) (fptA (by decide) (by decide) g7))) (by decide +kernel) (by decide +kernel) (by rw [show strL (ko_f 17) = [100, 44, 97, 44, 98] from by decide +kernel]; rfl))
  unfold df_X18_plain df_X18_plain_0 df_X18_plain_266
  rw [if_neg (znkE n0 (by omega) (by decide) (by rfl)), if_neg (znkE n1 (by omega) (by decide) (by rfl))]
  by_cases c : G = 32
  · subst c
    have m0 : F ≠ 0 := fun z => by subst z; exact h 1 (by decide) (mkpI (mand2 hop (mand2 (fptA (by decide) (by decide) f3) (fptA (by decide) (by decide) g7))) (by decide +kernel) (by decide +kernel) (by rw [show strL (ko_f 1) = [100, 44, 97, 44, 98] from by decide +kernel]; rfl))
    have m5 : F ≠ 5 := fun z => by subst z; exact h 7 (by decide) (mkpI (mand2 hop (mand2 (fptA (by decide) (by decide) f3) (fptA (by decide) (by decide) g7))) (by decide +kernel) (by decide +kernel) (by rw [show strL (ko_f 7) = [100, 44, 97, 44, 98] from by decide +kernel]; rfl))
    rw [if_pos (by decide), RS_7, if_neg (znkE m0 (by omega) (by decide) (by rfl)), if_neg (znkE m5 (by omega) (by decide) (by rfl))]
  · rw [if_neg (znkE c (by omega) (by decide) (by rfl))]
theorem np_twos {n : Nat} {B : St} {w : Int32} {F : Nat} {d a b : Int32} {G : Nat} (hop : w &&& nI 127 = nI 19) (hG : G < 128) (g7 : fpt w 25 7 = nI G) (h : ∀ t : Nat, t < 93 → ¬ MKp t w) (hF : F < 8) (f3 : fpt w 12 3 = nI F) : df_X18_twos n (nI G) (RS B [] 0 0 w d a b (nI F)) = some (RS B [] 0 0 w d a b (nI F)) := by
  have m0 : F ≠ 0 := fun z => by subst z; exact h 18 (by decide) (mkpI (mand2 hop (fptA (by decide) (by decide) f3)) (by decide +kernel) (by decide +kernel) (by rw [show strL (ko_f 18) = [100, 44, 97, 44, 73] from by decide +kernel]; rfl))
  have m2 : F ≠ 2 := fun z => by subst z; exact h 19 (by decide) (mkpI (mand2 hop (fptA (by decide) (by decide) f3)) (by decide +kernel) (by decide +kernel) (by rw [show strL (ko_f 19) = [100, 44, 97, 44, 73] from by decide +kernel]; rfl))
  have m3 : F ≠ 3 := fun z => by subst z; exact h 20 (by decide) (mkpI (mand2 hop (fptA (by decide) (by decide) f3)) (by decide +kernel) (by decide +kernel) (by rw [show strL (ko_f 20) = [100, 44, 97, 44, 73] from by decide +kernel]; rfl))
  have m4 : F ≠ 4 := fun z => by subst z; exact h 21 (by decide) (mkpI (mand2 hop (fptA (by decide) (by decide) f3)) (by decide +kernel) (by decide +kernel) (by rw [show strL (ko_f 21) = [100, 44, 97, 44, 73] from by decide +kernel]; rfl))
  have m6 : F ≠ 6 := fun z => by subst z; exact h 22 (by decide) (mkpI (mand2 hop (fptA (by decide) (by decide) f3)) (by decide +kernel) (by decide +kernel) (by rw [show strL (ko_f 22) = [100, 44, 97, 44, 73] from by decide +kernel]; rfl))
  have m7 : F ≠ 7 := fun z => by subst z; exact h 23 (by decide) (mkpI (mand2 hop (fptA (by decide) (by decide) f3)) (by decide +kernel) (by decide +kernel) (by rw [show strL (ko_f 23) = [100, 44, 97, 44, 73] from by decide +kernel]; rfl))
  unfold df_X18_twos df_X18_twos_0
  obtain rfl | rfl : F = 1 ∨ F = 5 := by omega
  · have n0 : G ≠ 0 := fun z => by subst z; exact h 24 (by decide) (mkpI (mand2 hop (mand2 (fptA (by decide) (by decide) f3) (fptA (by decide) (by decide) g7))) (by decide +kernel) (by decide +kernel) (by rw [show strL (ko_f 24) = [100, 44, 97, 44, 72] from by decide +kernel]; rfl))
    rw [RS_7, if_pos (by decide)]
    unfold df_X18_twos_16 df_X18_twos_21
    rw [if_neg (by decide), if_neg (znkE n0 (by omega) (by decide) (by rfl))]
    by_cases c : G = 32
    · rw [if_pos (by rw [c]; rfl), RS_7, if_pos (by decide)]
      rfl
    · rw [if_neg (znkE c (by omega) (by decide) (by rfl))]
      rfl
  · have n0 : G ≠ 0 := fun z => by subst z; exact h 25 (by decide) (mkpI (mand2 hop (mand2 (fptA (by decide) (by decide) f3) (fptA (by decide) (by decide) g7))) (by decide +kernel) (by decide +kernel) (by rw [show strL (ko_f 25) = [100, 44, 97, 44, 72] from by decide +kernel]; rfl))
    have n32 : G ≠ 32 := fun z => by subst z; exact h 26 (by decide) (mkpI (mand2 hop (mand2 (fptA (by decide) (by decide) f3) (fptA (by decide) (by decide) g7))) (by decide +kernel) (by decide +kernel) (by rw [show strL (ko_f 26) = [100, 44, 97, 44, 72] from by decide +kernel]; rfl))
    rw [RS_7, if_neg (by decide), if_pos (by decide)]
    unfold df_X18_twos_16 df_X18_twos_21
    rw [if_neg (by decide), if_neg (znkE n0 (by omega) (by decide) (by rfl)), if_neg (znkE n32 (by omega) (by decide) (by rfl))]
    rfl
theorem np_loads {n : Nat} {B : St} {w : Int32} {F : Nat} {d a b : Int32} (hop : w &&& nI 127 = nI 3) (h : ∀ t : Nat, t < 93 → ¬ MKp t w) (hF : F < 8) (f3 : fpt w 12 3 = nI F) : df_X18_loads n (RS B [] 0 0 w d a b (nI F)) = some (RS B [] 0 0 w d a b (nI F)) := by
  have m0 : F ≠ 0 := fun z => by subst z; exact h 27 (by decide) (mkpI (mand2 hop (fptA (by decide) (by decide) f3)) (by decide +kernel) (by decide +kernel) (by rw [show strL (ko_f 27) = [100, 44, 73, 40, 97, 41] from by decide +kernel]; rfl))
  have m1 : F ≠ 1 := fun z => by subst z; exact h 28 (by decide) (mkpI (mand2 hop (fptA (by decide) (by decide) f3)) (by decide +kernel) (by decide +kernel) (by rw [show strL (ko_f 28) = [100, 44, 73, 40, 97, 41] from by decide +kernel]; rfl))
  have m2 : F ≠ 2 := fun z => by subst z; exact h 29 (by decide) (mkpI (mand2 hop (fptA (by decide) (by decide) f3)) (by decide +kernel) (by decide +kernel) (by rw [show strL (ko_f 29) = [100, 44, 73, 40, 97, 41] from by decide +kernel]; rfl))
  have m4 : F ≠ 4 := fun z => by subst z; exact h 30 (by decide) (mkpI (mand2 hop (fptA (by decide) (by decide) f3)) (by decide +kernel) (by decide +kernel) (by rw [show strL (ko_f 30) = [100, 44, 73, 40, 97, 41] from by decide +kernel]; rfl))
  have m5 : F ≠ 5 := fun z => by subst z; exact h 31 (by decide) (mkpI (mand2 hop (fptA (by decide) (by decide) f3)) (by decide +kernel) (by decide +kernel) (by rw [show strL (ko_f 31) = [100, 44, 73, 40, 97, 41] from by decide +kernel]; rfl))
  unfold df_X18_loads df_X18_loads_0 df_X18_loads_16
  obtain rfl | rfl | rfl : F = 3 ∨ F = 6 ∨ F = 7 := by omega
  · rw [RS_7, if_pos (by decide)]
  · rw [RS_7, if_neg (by decide), if_neg (by decide)]
  · rw [RS_7, if_neg (by decide), if_neg (by decide)]
theorem np_stores {n : Nat} {B : St} {w : Int32} {F : Nat} {d a b : Int32} (hop : w &&& nI 127 = nI 35) (h : ∀ t : Nat, t < 93 → ¬ MKp t w) (hF : F < 8) (f3 : fpt w 12 3 = nI F) : df_X18_stores n (RS B [] 0 0 w d a b (nI F)) = some (RS B [] 0 0 w d a b (nI F)) := by
  have m0 : F ≠ 0 := fun z => by subst z; exact h 33 (by decide) (mkpI (mand2 hop (fptA (by decide) (by decide) f3)) (by decide +kernel) (by decide +kernel) (by rw [show strL (ko_f 33) = [98, 44, 83, 40, 97, 41] from by decide +kernel]; rfl))
  have m1 : F ≠ 1 := fun z => by subst z; exact h 34 (by decide) (mkpI (mand2 hop (fptA (by decide) (by decide) f3)) (by decide +kernel) (by decide +kernel) (by rw [show strL (ko_f 34) = [98, 44, 83, 40, 97, 41] from by decide +kernel]; rfl))
  have m2 : F ≠ 2 := fun z => by subst z; exact h 35 (by decide) (mkpI (mand2 hop (fptA (by decide) (by decide) f3)) (by decide +kernel) (by decide +kernel) (by rw [show strL (ko_f 35) = [98, 44, 83, 40, 97, 41] from by decide +kernel]; rfl))
  unfold df_X18_stores df_X18_stores_0
  rw [RS_7, if_neg (show ¬ nI F ≤ 2 from znle (b := 2) (by omega) (by omega))]
theorem np_branches {n : Nat} {B : St} {w : Int32} {F : Nat} {d a b : Int32} (hop : w &&& nI 127 = nI 99) (h : ∀ t : Nat, t < 93 → ¬ MKp t w) (hF : F < 8) (f3 : fpt w 12 3 = nI F) : df_X18_branches n (RS B [] 0 0 w d a b (nI F)) = some (RS B [] 0 0 w d a b (nI F)) := by
  have m0 : F ≠ 0 := fun z => by subst z; exact h 38 (by decide) (mkpI (mand2 hop (fptA (by decide) (by decide) f3)) (by decide +kernel) (by decide +kernel) (by rw [show strL (ko_f 38) = [97, 44, 98, 44, 84] from by decide +kernel]; rfl))
  have m1 : F ≠ 1 := fun z => by subst z; exact h 39 (by decide) (mkpI (mand2 hop (fptA (by decide) (by decide) f3)) (by decide +kernel) (by decide +kernel) (by rw [show strL (ko_f 39) = [97, 44, 98, 44, 84] from by decide +kernel]; rfl))
  have m4 : F ≠ 4 := fun z => by subst z; exact h 40 (by decide) (mkpI (mand2 hop (fptA (by decide) (by decide) f3)) (by decide +kernel) (by decide +kernel) (by rw [show strL (ko_f 40) = [97, 44, 98, 44, 84] from by decide +kernel]; rfl))
  have m5 : F ≠ 5 := fun z => by subst z; exact h 41 (by decide) (mkpI (mand2 hop (fptA (by decide) (by decide) f3)) (by decide +kernel) (by decide +kernel) (by rw [show strL (ko_f 41) = [97, 44, 98, 44, 84] from by decide +kernel]; rfl))
  have m6 : F ≠ 6 := fun z => by subst z; exact h 42 (by decide) (mkpI (mand2 hop (fptA (by decide) (by decide) f3)) (by decide +kernel) (by decide +kernel) (by rw [show strL (ko_f 42) = [97, 44, 98, 44, 84] from by decide +kernel]; rfl))
  have m7 : F ≠ 7 := fun z => by subst z; exact h 43 (by decide) (mkpI (mand2 hop (fptA (by decide) (by decide) f3)) (by decide +kernel) (by decide +kernel) (by rw [show strL (ko_f 43) = [97, 44, 98, 44, 84] from by decide +kernel]; rfl))
  unfold df_X18_branches df_X18_branches_0 df_X18_branches_16
  obtain rfl | rfl : F = 2 ∨ F = 3 := by omega
  · rw [RS_7, if_pos (by decide)]
  · rw [RS_7, if_neg (by decide), if_pos (by decide)]
theorem np_atomic {n : Nat} {B : St} {w : Int32} {F : Nat} {d a : Int32} {C Q : Nat} (hop : w &&& nI 127 = nI 47) (hC : C < 32) (c5 : fpt w 27 5 = nI C) (hQ : Q < 32) (eQ : fpt w 20 5 = nI Q) (h : ∀ t : Nat, t < 93 → ¬ MKp t w) (hF : F < 8) (f3 : fpt w 12 3 = nI F) : df_X18_atomic n (nI C) (RS B [] 0 0 w d a (nI Q) (nI F)) = some (RS B [] 0 0 w d a (nI Q) (nI F)) := by
  unfold df_X18_atomic df_X18_atomic_0 df_X18_atomic_20
  rw [RS_7]
  by_cases cF : F = 2
  · subst cF
    rw [if_pos (by decide), RS_6]
    have m0 : C ≠ 0 := fun z => by subst z; exact h 48 (by decide) (mkpI (mand2 hop (mand2 (fptA (by decide) (by decide) f3) (fptA (by decide) (by decide) c5))) (by decide +kernel) (by decide +kernel) (by rw [show strL (ko_f 48) = [100, 44, 98, 44, 40, 97, 41] from by decide +kernel]; rfl))
    have m1 : C ≠ 1 := fun z => by subst z; exact h 47 (by decide) (mkpI (mand2 hop (mand2 (fptA (by decide) (by decide) f3) (fptA (by decide) (by decide) c5))) (by decide +kernel) (by decide +kernel) (by rw [show strL (ko_f 47) = [100, 44, 98, 44, 40, 97, 41] from by decide +kernel]; rfl))
    have m3 : C ≠ 3 := fun z => by subst z; exact h 46 (by decide) (mkpI (mand2 hop (mand2 (fptA (by decide) (by decide) f3) (fptA (by decide) (by decide) c5))) (by decide +kernel) (by decide +kernel) (by rw [show strL (ko_f 46) = [100, 44, 98, 44, 40, 97, 41] from by decide +kernel]; rfl))
    have m4 : C ≠ 4 := fun z => by subst z; exact h 49 (by decide) (mkpI (mand2 hop (mand2 (fptA (by decide) (by decide) f3) (fptA (by decide) (by decide) c5))) (by decide +kernel) (by decide +kernel) (by rw [show strL (ko_f 49) = [100, 44, 98, 44, 40, 97, 41] from by decide +kernel]; rfl))
    have m8 : C ≠ 8 := fun z => by subst z; exact h 51 (by decide) (mkpI (mand2 hop (mand2 (fptA (by decide) (by decide) f3) (fptA (by decide) (by decide) c5))) (by decide +kernel) (by decide +kernel) (by rw [show strL (ko_f 51) = [100, 44, 98, 44, 40, 97, 41] from by decide +kernel]; rfl))
    have m12 : C ≠ 12 := fun z => by subst z; exact h 50 (by decide) (mkpI (mand2 hop (mand2 (fptA (by decide) (by decide) f3) (fptA (by decide) (by decide) c5))) (by decide +kernel) (by decide +kernel) (by rw [show strL (ko_f 50) = [100, 44, 98, 44, 40, 97, 41] from by decide +kernel]; rfl))
    have m16 : C ≠ 16 := fun z => by subst z; exact h 52 (by decide) (mkpI (mand2 hop (mand2 (fptA (by decide) (by decide) f3) (fptA (by decide) (by decide) c5))) (by decide +kernel) (by decide +kernel) (by rw [show strL (ko_f 52) = [100, 44, 98, 44, 40, 97, 41] from by decide +kernel]; rfl))
    have m20 : C ≠ 20 := fun z => by subst z; exact h 53 (by decide) (mkpI (mand2 hop (mand2 (fptA (by decide) (by decide) f3) (fptA (by decide) (by decide) c5))) (by decide +kernel) (by decide +kernel) (by rw [show strL (ko_f 53) = [100, 44, 98, 44, 40, 97, 41] from by decide +kernel]; rfl))
    have m24 : C ≠ 24 := fun z => by subst z; exact h 54 (by decide) (mkpI (mand2 hop (mand2 (fptA (by decide) (by decide) f3) (fptA (by decide) (by decide) c5))) (by decide +kernel) (by decide +kernel) (by rw [show strL (ko_f 54) = [100, 44, 98, 44, 40, 97, 41] from by decide +kernel]; rfl))
    have m28 : C ≠ 28 := fun z => by subst z; exact h 55 (by decide) (mkpI (mand2 hop (mand2 (fptA (by decide) (by decide) f3) (fptA (by decide) (by decide) c5))) (by decide +kernel) (by decide +kernel) (by rw [show strL (ko_f 55) = [100, 44, 98, 44, 40, 97, 41] from by decide +kernel]; rfl))
    by_cases c2 : C = 2
    · subst c2
      have q0 : Q ≠ 0 := fun z => by subst z; exact h 45 (by decide) (mkpI (mand2 hop (mand2 (fptA (by decide) (by decide) f3) (mand2 (fptA (by decide) (by decide) c5) (fptA (by decide) (by decide) eQ)))) (by decide +kernel) (by decide +kernel) (by rw [show strL (ko_f 45) = [100, 44, 40, 97, 41] from by decide +kernel]; rfl))
      rw [if_pos (by decide), if_neg (znkE q0 (by omega) (by decide) (by rfl))]
    · rw [if_neg (znkE c2 (by omega) (by decide) (by rfl))]
      unfold df_X18_atomic_21
      rw [if_neg (znkE m1 (by omega) (by decide) (by rfl))]
      unfold df_X18_atomic_31 df_X18_atomic_48 df_X18_atomic_49 df_X18_atomic_76
      obtain rfl | rfl | rfl | rfl | rfl | rfl | rfl | rfl | rfl | rfl | rfl | rfl | rfl | rfl | rfl | rfl | rfl | rfl | rfl | rfl | rfl : C = 5 ∨ C = 6 ∨ C = 7 ∨ C = 9 ∨ C = 10 ∨ C = 11 ∨ C = 13 ∨ C = 14 ∨ C = 15 ∨ C = 17 ∨ C = 18 ∨ C = 19 ∨ C = 21 ∨ C = 22 ∨ C = 23 ∨ C = 25 ∨ C = 26 ∨ C = 27 ∨ C = 29 ∨ C = 30 ∨ C = 31 := by omega
      · rw [if_pos (by decide), if_neg (by decide), if_neg (by decide), if_neg (by decide), if_pos rfl, if_pos rfl]
      · rw [if_pos (by decide), if_neg (by decide), if_neg (by decide), if_neg (by decide), if_pos rfl, if_pos rfl]
      · rw [if_pos (by decide), if_neg (by decide), if_neg (by decide), if_neg (by decide), if_pos rfl, if_pos rfl]
      · rw [if_pos (by decide), if_neg (by decide), if_neg (by decide), if_neg (by decide), if_pos rfl, if_pos rfl]
      · rw [if_pos (by decide), if_neg (by decide), if_neg (by decide), if_neg (by decide), if_pos rfl, if_pos rfl]
      · rw [if_pos (by decide), if_neg (by decide), if_neg (by decide), if_neg (by decide), if_pos rfl, if_pos rfl]
      · rw [if_pos (by decide), if_neg (by decide), if_neg (by decide), if_neg (by decide), if_pos rfl, if_pos rfl]
      · rw [if_pos (by decide), if_neg (by decide), if_neg (by decide), if_neg (by decide), if_pos rfl, if_pos rfl]
      · rw [if_pos (by decide), if_neg (by decide), if_neg (by decide), if_neg (by decide), if_pos rfl, if_pos rfl]
      · rw [if_neg (by decide), if_neg (by decide), if_neg (by decide), if_neg (by decide), if_neg (by decide), if_pos rfl, if_pos rfl]
      · rw [if_neg (by decide), if_neg (by decide), if_neg (by decide), if_neg (by decide), if_neg (by decide), if_pos rfl, if_pos rfl]
      · rw [if_neg (by decide), if_neg (by decide), if_neg (by decide), if_neg (by decide), if_neg (by decide), if_pos rfl, if_pos rfl]
      · rw [if_neg (by decide), if_neg (by decide), if_neg (by decide), if_neg (by decide), if_neg (by decide), if_pos rfl, if_pos rfl]
      · rw [if_neg (by decide), if_neg (by decide), if_neg (by decide), if_neg (by decide), if_neg (by decide), if_pos rfl, if_pos rfl]
      · rw [if_neg (by decide), if_neg (by decide), if_neg (by decide), if_neg (by decide), if_neg (by decide), if_pos rfl, if_pos rfl]
      · rw [if_neg (by decide), if_neg (by decide), if_neg (by decide), if_neg (by decide), if_neg (by decide), if_pos rfl, if_pos rfl]
      · rw [if_neg (by decide), if_neg (by decide), if_neg (by decide), if_neg (by decide), if_neg (by decide), if_pos rfl, if_pos rfl]
      · rw [if_neg (by decide), if_neg (by decide), if_neg (by decide), if_neg (by decide), if_neg (by decide), if_pos rfl, if_pos rfl]
      · rw [if_neg (by decide), if_neg (by decide), if_neg (by decide), if_neg (by decide), if_neg (by decide), if_pos rfl, if_pos rfl]
      · rw [if_neg (by decide), if_neg (by decide), if_neg (by decide), if_neg (by decide), if_neg (by decide), if_pos rfl, if_pos rfl]
      · rw [if_neg (by decide), if_neg (by decide), if_neg (by decide), if_neg (by decide), if_neg (by decide), if_pos rfl, if_pos rfl]
  · rw [if_neg (znkE cF (by omega) (by decide) (by rfl))]
theorem np_system {n : Nat} {B : St} {w : Int32} {F : Nat} {d b : Int32} {C A : Nat} (hop : w &&& nI 127 = nI 115) (hC : C < 4096) (n12 : fpt w 20 12 = nI C) (hA : A < 32) (eA : fpt w 15 5 = nI A) (h : ∀ t : Nat, t < 93 → ¬ MKp t w) (hF : F < 8) (f3 : fpt w 12 3 = nI F) : df_X18_system n (RS B [] 0 0 w d (nI A) b (nI F)) = some (RS B [] 0 0 w d (nI A) b (nI F)) := by
  have w1 : ¬ w = 115 := fun z => h 64 (by decide) (mkpI (show w &&& nI 4294967295 = nI 115 by rw [z]; decide) (by decide +kernel) (by decide +kernel) (by rw [show strL (ko_f 64) = [] from by decide +kernel]; rfl))
  have w2 : ¬ w = 1048691 := fun z => h 65 (by decide) (mkpI (show w &&& nI 4294967295 = nI 1048691 by rw [z]; decide) (by decide +kernel) (by decide +kernel) (by rw [show strL (ko_f 65) = [] from by decide +kernel]; rfl))
  unfold df_X18_system df_X18_system_0
  rw [RS_3, if_neg w1, if_neg w2]
  unfold df_X18_system_40 df_X18_system_92
  rw [show df_X18_part n 20 12 (RS B _ _ _ w _ _ _ _) = some (fpt w 20 12, _) from pt_S (q := 20) (m := 12) (by decide), nb_b2, n12, nb_let, RS_7]
  by_cases cF : F = 2
  · subst cF
    rw [if_pos (by decide), RS_5]
    by_cases cA : A = 0
    · subst cA
      rw [if_pos (by decide)]
      have m3072 : C ≠ 3072 := fun z => by subst z; exact h 56 (by decide) (mkpI (mand2 hop (mand2 (fptA (by decide) (by decide) f3) (mand2 (fptA (by decide) (by decide) eA) (fptA (by decide) (by decide) n12)))) (by decide +kernel) (by decide +kernel) (by rw [show strL (ko_f 56) = [100] from by decide +kernel]; rfl))
      have m3073 : C ≠ 3073 := fun z => by subst z; exact h 57 (by decide) (mkpI (mand2 hop (mand2 (fptA (by decide) (by decide) f3) (mand2 (fptA (by decide) (by decide) eA) (fptA (by decide) (by decide) n12)))) (by decide +kernel) (by decide +kernel) (by rw [show strL (ko_f 57) = [100] from by decide +kernel]; rfl))
      have m3074 : C ≠ 3074 := fun z => by subst z; exact h 58 (by decide) (mkpI (mand2 hop (mand2 (fptA (by decide) (by decide) f3) (mand2 (fptA (by decide) (by decide) eA) (fptA (by decide) (by decide) n12)))) (by decide +kernel) (by decide +kernel) (by rw [show strL (ko_f 58) = [100] from by decide +kernel]; rfl))
      have m3200 : C ≠ 3200 := fun z => by subst z; exact h 59 (by decide) (mkpI (mand2 hop (mand2 (fptA (by decide) (by decide) f3) (mand2 (fptA (by decide) (by decide) eA) (fptA (by decide) (by decide) n12)))) (by decide +kernel) (by decide +kernel) (by rw [show strL (ko_f 59) = [100] from by decide +kernel]; rfl))
      have m3201 : C ≠ 3201 := fun z => by subst z; exact h 60 (by decide) (mkpI (mand2 hop (mand2 (fptA (by decide) (by decide) f3) (mand2 (fptA (by decide) (by decide) eA) (fptA (by decide) (by decide) n12)))) (by decide +kernel) (by decide +kernel) (by rw [show strL (ko_f 60) = [100] from by decide +kernel]; rfl))
      have m3202 : C ≠ 3202 := fun z => by subst z; exact h 61 (by decide) (mkpI (mand2 hop (mand2 (fptA (by decide) (by decide) f3) (mand2 (fptA (by decide) (by decide) eA) (fptA (by decide) (by decide) n12)))) (by decide +kernel) (by decide +kernel) (by rw [show strL (ko_f 61) = [100] from by decide +kernel]; rfl))
      have e1 : nI C &&& (127 : Int32) = nI (C % 128) := nm_m127 (by omega)
      have e2 : nI C - nI (C % 128) = nI (C - C % 128) := pk_sub (by omega)
      rw [e1, e2]
      have go : ∀ K : Nat, K = 3072 ∨ K = 3200 → C - C % 128 = K → df_X18_system_87 n (nI C) (nI (C % 128)) (RS B [] 0 0 w d (nI 0) b (nI 2)) = some (RS B [] 0 0 w d (nI 0) b (nI 2)) := fun K hK e => by
        unfold df_X18_system_87 df_X18_system_92
        rw [if_neg (show ¬ nI (C % 128) ≤ 2 from znle (b := 2) (by omega) (by omega))]
      by_cases k1 : C - C % 128 = 3072
      · rw [if_pos (by rw [k1]; rfl), go 3072 (Or.inl rfl) k1]
      · rw [if_neg (znkE k1 (by omega) (by decide) (by rfl))]
        by_cases k2 : C - C % 128 = 3200
        · rw [if_pos (by rw [k2]; rfl), go 3200 (Or.inr rfl) k2]
        · rw [if_neg (znkE k2 (by omega) (by decide) (by rfl))]
    · rw [if_neg (znkE cA (by omega) (by decide) (by rfl))]
  · rw [if_neg (znkE cF (by omega) (by decide) (by rfl))]
theorem np_others {n : Nat} {B : St} {w : Int32} {F : Nat} {d a b : Int32}  (h : ∀ t : Nat, t < 93 → ¬ MKp t w) (hF : F < 8) (f3 : fpt w 12 3 = nI F) : df_X18_others n (RS B [] 0 0 w d a b (nI F)) = some (RS B [] 0 0 w d a b (nI F)) := by
  have m55 : ¬ w &&& (127 : Int32) = 55 := fun z => h 36 (by decide) (mkpI (show w &&& nI 127 = nI 55 from z) (by decide +kernel) (by decide +kernel) (by rw [show strL (ko_f 36) = [100, 44, 85] from by decide +kernel]; rfl))
  have m23 : ¬ w &&& (127 : Int32) = 23 := fun z => h 37 (by decide) (mkpI (show w &&& nI 127 = nI 23 from z) (by decide +kernel) (by decide +kernel) (by rw [show strL (ko_f 37) = [100, 44, 85] from by decide +kernel]; rfl))
  have m111 : ¬ w &&& (127 : Int32) = 111 := fun z => h 44 (by decide) (mkpI (show w &&& nI 127 = nI 111 from z) (by decide +kernel) (by decide +kernel) (by rw [show strL (ko_f 44) = [100, 44, 74] from by decide +kernel]; rfl))
  have w1 : ¬ w = 267386895 := fun z => h 62 (by decide) (mkpI (show w &&& nI 4294967295 = nI 267386895 by rw [z]; decide) (by decide +kernel) (by decide +kernel) (by rw [show strL (ko_f 62) = [] from by decide +kernel]; rfl))
  have w2 : ¬ w = 4111 := fun z => h 63 (by decide) (mkpI (show w &&& nI 4294967295 = nI 4111 by rw [z]; decide) (by decide +kernel) (by decide +kernel) (by rw [show strL (ko_f 63) = [] from by decide +kernel]; rfl))
  have o1 : df_X18_others_107 n (w &&& 127) (RS B [] 0 0 w d a b (nI F)) = some (RS B [] 0 0 w d a b (nI F)) := by
    unfold df_X18_others_107 df_X18_others_215
    rw [if_neg m111, RS_3, if_neg w1, if_neg w2]
  unfold df_X18_others df_X18_others_0
  rw [RS_3, nb_let, if_neg m55, if_neg m23, o1, RS_7]
  by_cases c : w &&& (127 : Int32) = 103
  · have m0 : F ≠ 0 := fun z => by subst z; exact h 32 (by decide) (mkpI (mand2 (show w &&& nI 127 = nI 103 from c) (fptA (by decide) (by decide) f3)) (by decide +kernel) (by decide +kernel) (by rw [show strL (ko_f 32) = [100, 44, 73, 40, 97, 41] from by decide +kernel]; rfl))
    rw [if_pos c, if_neg (znkE m0 (by omega) (by decide) (by rfl))]
  · rw [if_neg c]
theorem lo_e {n : Nat} {B : St} {L : List Nat} {k l : Nat} {w d a b f : Int32} {R : St} (m3 : ¬ w &&& (127 : Int32) = 3) (m19 : ¬ w &&& (127 : Int32) = 19) (m35 : ¬ w &&& (127 : Int32) = 35) (m47 : ¬ w &&& (127 : Int32) = 47) (m51 : ¬ w &&& (127 : Int32) = 51) (m99 : ¬ w &&& (127 : Int32) = 99) (m115 : ¬ w &&& (127 : Int32) = 115) (h : df_X18_others n (RS B L k l w (fpt w 7 5) (fpt w 15 5) (fpt w 20 5) (fpt w 12 3)) = some R) : df_X18_longOne n (RS B L k l w d a b f) = some R := by
  unfold df_X18_longOne df_X18_longOne_0
  rw [show df_X18_part n 7 5 (RS B _ _ _ w _ _ _ _) = some (fpt w 7 5, _) from pt_S (q := 7) (m := 5) (by decide), nb_b2, nb_let, RS_w4, show df_X18_part n 12 3 (RS B _ _ _ w _ _ _ _) = some (fpt w 12 3, _) from pt_S (q := 12) (m := 3) (by decide), nb_b2, nb_let, RS_w7, show df_X18_part n 15 5 (RS B _ _ _ w _ _ _ _) = some (fpt w 15 5, _) from pt_S (q := 15) (m := 5) (by decide), nb_b2, nb_let, RS_w5, show df_X18_part n 20 5 (RS B _ _ _ w _ _ _ _) = some (fpt w 20 5, _) from pt_S (q := 20) (m := 5) (by decide), nb_b2, nb_let, RS_w6, show df_X18_part n 25 7 (RS B _ _ _ w _ _ _ _) = some (fpt w 25 7, _) from pt_S (q := 25) (m := 7) (by decide), nb_b2, RS_3, if_neg m3, if_neg m19, if_neg m35, if_neg m47, if_neg m51, if_neg m99, if_neg m115, h, nb_b1]
  rfl
theorem np_long {n : Nat} {B : St} {w d a b f : Int32} (h : ∀ t : Nat, t < 93 → ¬ MKp t w) : df_X18_longOne n (RS B [] 0 0 w d a b f) = some (RS B [] 0 0 w (fpt w 7 5) (fpt w 15 5) (fpt w 20 5) (fpt w 12 3)) := by
  obtain ⟨F, hF, eF⟩ := pt_n (w := w) (k := 12) (m := 3) (by decide) (by decide)
  have hF : F < 8 := hF
  obtain ⟨G, hG, eG⟩ := pt_n (w := w) (k := 25) (m := 7) (by decide) (by decide)
  have hG : G < 128 := hG
  obtain ⟨C, hC, eC⟩ := pt_n (w := w) (k := 27) (m := 5) (by decide) (by decide)
  have hC : C < 32 := hC
  obtain ⟨Q, hQ, eQ⟩ := pt_n (w := w) (k := 20) (m := 5) (by decide) (by decide)
  have hQ : Q < 32 := hQ
  obtain ⟨A, hA, eA⟩ := pt_n (w := w) (k := 15) (m := 5) (by decide) (by decide)
  have hA : A < 32 := hA
  obtain ⟨I, hI, eI⟩ := pt_n (w := w) (k := 20) (m := 12) (by decide) (by decide)
  have hI : I < 4096 := hI
  by_cases c3 : w &&& (127 : Int32) = 3
  · have hop : w &&& nI 127 = nI 3 := c3
    exact lo_3 hop (by rw [eF]; exact np_loads hop h hF eF)
  by_cases c19 : w &&& (127 : Int32) = 19
  · have hop : w &&& nI 127 = nI 19 := c19
    exact lo_19 hop (by rw [eF, eG]; exact np_twos hop hG eG h hF eF)
  by_cases c35 : w &&& (127 : Int32) = 35
  · have hop : w &&& nI 127 = nI 35 := c35
    exact lo_35 hop (by rw [eF]; exact np_stores hop h hF eF)
  by_cases c47 : w &&& (127 : Int32) = 47
  · have hop : w &&& nI 127 = nI 47 := c47
    exact lo_47 hop (by rw [eF, eC, eQ]; exact np_atomic hop hC eC hQ eQ h hF eF)
  by_cases c51 : w &&& (127 : Int32) = 51
  · have hop : w &&& nI 127 = nI 51 := c51
    exact lo_51 hop (by rw [eF, eG]; exact np_plain hop hG eG h hF eF)
  by_cases c99 : w &&& (127 : Int32) = 99
  · have hop : w &&& nI 127 = nI 99 := c99
    exact lo_99 hop (by rw [eF]; exact np_branches hop h hF eF)
  by_cases c115 : w &&& (127 : Int32) = 115
  · have hop : w &&& nI 127 = nI 115 := c115
    exact lo_115 hop (by rw [eF, eA]; exact np_system hop hI eI hA eA h hF eF)
  exact lo_e c3 c19 c35 c47 c51 c99 c115 (by rw [eF]; exact np_others h hF eF)

theorem nq_first {n : Nat} {B : St} {w a b : Int32} (hs : w &&& nI 4294901760 = nI 0) (hq : w &&& nI 3 = nI 0) (h : ∀ t : Nat, t < 93 → ¬ MKp t w) {F D : Nat} (hF : F < 8) (f3 : fpt w 13 3 = nI F) (hD : D < 32) (eD : fpt w 7 5 = nI D) : df_X18_first n (RS B [] 0 0 w (nI D) a b (nI F)) = some (RS B [] 0 0 w (nI D) a b (nI F)) := by
  have vX : ((fpt w 11 2) <<< ((4 : Int32) &&& 31)) ||| ((fpt w 7 4) <<< ((6 : Int32) &&& 31)) ||| ((fpt w 6 1) <<< ((2 : Int32) &&& 31)) ||| ((fpt w 5 1) <<< ((3 : Int32) &&& 31)) = tvX w := by
    rw [show ((4 : Int32) &&& 31) = nI 4 from by decide, show ((6 : Int32) &&& 31) = nI 6 from by decide, show ((2 : Int32) &&& 31) = nI 2 from by decide, show ((3 : Int32) &&& 31) = nI 3 from by decide]
    rfl
  have vW : ((fpt w 10 3) <<< ((3 : Int32) &&& 31)) ||| ((fpt w 6 1) <<< ((2 : Int32) &&& 31)) ||| ((fpt w 5 1) <<< ((6 : Int32) &&& 31)) = tvW w := by
    rw [show ((3 : Int32) &&& 31) = nI 3 from by decide, show ((2 : Int32) &&& 31) = nI 2 from by decide, show ((6 : Int32) &&& 31) = nI 6 from by decide]
    rfl
  have m2 : F ≠ 2 := fun z => by subst z; exact h 67 (by decide) (mkpI (mand2 hs (mand2 hq (fptA (by decide) (by decide) f3))) (by decide +kernel) (by decide +kernel) (by rw [show strL (ko_f 67) = [112, 44, 87, 40, 113, 41] from by decide +kernel]; rfl))
  have m6 : F ≠ 6 := fun z => by subst z; exact h 68 (by decide) (mkpI (mand2 hs (mand2 hq (fptA (by decide) (by decide) f3))) (by decide +kernel) (by decide +kernel) (by rw [show strL (ko_f 68) = [112, 44, 87, 40, 113, 41] from by decide +kernel]; rfl))
  have t : df_X18_first_130 n (8 + fpt w 2 3) (8 + fpt w 7 3) (tvW w) (RS B [] 0 0 w (nI D) a b (nI F)) = some (RS B [] 0 0 w (nI D) a b (nI F)) := by
    unfold df_X18_first_130 df_X18_first_180
    rw [RS_7, if_neg (znkE m2 (by omega) (by decide) (by rfl)), if_neg (znkE m6 (by omega) (by decide) (by rfl))]
  unfold df_X18_first df_X18_first_0
  rw [show df_X18_part n 2 3 (RS B _ _ _ w _ _ _ _) = some (fpt w 2 3, _) from pt_S (q := 2) (m := 3) (by decide), nb_b2, nb_let, show df_X18_part n 7 3 (RS B _ _ _ w _ _ _ _) = some (fpt w 7 3, _) from pt_S (q := 7) (m := 3) (by decide), nb_b2, nb_let, show df_X18_part n 11 2 (RS B _ _ _ w _ _ _ _) = some (fpt w 11 2, _) from pt_S (q := 11) (m := 2) (by decide), nb_b2, show df_X18_part n 7 4 (RS B _ _ _ w _ _ _ _) = some (fpt w 7 4, _) from pt_S (q := 7) (m := 4) (by decide), nb_b2, show df_X18_part n 6 1 (RS B _ _ _ w _ _ _ _) = some (fpt w 6 1, _) from pt_S (q := 6) (m := 1) (by decide), nb_b2, show df_X18_part n 5 1 (RS B _ _ _ w _ _ _ _) = some (fpt w 5 1, _) from pt_S (q := 5) (m := 1) (by decide), nb_b2, nb_let, show df_X18_part n 10 3 (RS B _ _ _ w _ _ _ _) = some (fpt w 10 3, _) from pt_S (q := 10) (m := 3) (by decide), nb_b2, show df_X18_part n 6 1 (RS B _ _ _ w _ _ _ _) = some (fpt w 6 1, _) from pt_S (q := 6) (m := 1) (by decide), nb_b2, show df_X18_part n 5 1 (RS B _ _ _ w _ _ _ _) = some (fpt w 5 1, _) from pt_S (q := 5) (m := 1) (by decide), nb_b2, nb_let, RS_7, vX, vW, t]
  by_cases c : F = 0
  · subst c
    have x0 : tvX w = 0 := Decidable.byContradiction fun z => h 66 (by decide) (mkpI (mand2 hs (mand2 hq (fptA (by decide) (by decide) f3))) (by decide +kernel) (by decide +kernel) (by rw [show strL (ko_f 66) = [112, 44, 88] from by decide +kernel]; exact (show ((!decide (tvX w = 0)) && true) = true from by rw [decide_eq_false z]; rfl)))
    rw [if_pos (by decide), x0, if_pos (by decide)]
  · rw [if_neg (znkE c (by omega) (by decide) (by rfl))]
theorem nq_second {n : Nat} {B : St} {w a b : Int32} (hs : w &&& nI 4294901760 = nI 0) (hq : w &&& nI 3 = nI 1) (h : ∀ t : Nat, t < 93 → ¬ MKp t w) {F D : Nat} (hF : F < 8) (f3 : fpt w 13 3 = nI F) (hD : D < 32) (eD : fpt w 7 5 = nI D) : df_X18_second n (RS B [] 0 0 w (nI D) a b (nI F)) = some (RS B [] 0 0 w (nI D) a b (nI F)) := by
  have w1 : ¬ w = 1 := fun z => h 69 (by decide) (mkpI (show w &&& nI 4294967295 = nI 1 by rw [z]; decide) (by decide +kernel) (by decide +kernel) (by rw [show strL (ko_f 69) = [] from by decide +kernel]; rfl))
  have m0 : F ≠ 0 := fun z => by subst z; exact h 70 (by decide) (mkpI (mand2 hs (mand2 hq (fptA (by decide) (by decide) f3))) (by decide +kernel) (by decide +kernel) (by rw [show strL (ko_f 70) = [100, 44, 78] from by decide +kernel]; rfl))
  have m2 : F ≠ 2 := fun z => by subst z; exact h 73 (by decide) (mkpI (mand2 hs (mand2 hq (fptA (by decide) (by decide) f3))) (by decide +kernel) (by decide +kernel) (by rw [show strL (ko_f 73) = [100, 44, 78] from by decide +kernel]; rfl))
  have m1 : F ≠ 1 := fun z => by subst z; exact h 71 (by decide) (mkpI (mand2 hs (mand2 hq (fptA (by decide) (by decide) f3))) (by decide +kernel) (by decide +kernel) (by rw [show strL (ko_f 71) = [75] from by decide +kernel]; rfl))
  have m5 : F ≠ 5 := fun z => by subst z; exact h 72 (by decide) (mkpI (mand2 hs (mand2 hq (fptA (by decide) (by decide) f3))) (by decide +kernel) (by decide +kernel) (by rw [show strL (ko_f 72) = [75] from by decide +kernel]; rfl))
  have m6 : F ≠ 6 := fun z => by subst z; exact h 83 (by decide) (mkpI (mand2 hs (mand2 hq (fptA (by decide) (by decide) f3))) (by decide +kernel) (by decide +kernel) (by rw [show strL (ko_f 83) = [113, 44, 76] from by decide +kernel]; rfl))
  have m7 : F ≠ 7 := fun z => by subst z; exact h 84 (by decide) (mkpI (mand2 hs (mand2 hq (fptA (by decide) (by decide) f3))) (by decide +kernel) (by decide +kernel) (by rw [show strL (ko_f 84) = [113, 44, 76] from by decide +kernel]; rfl))
  unfold df_X18_second df_X18_second_0
  rw [RS_3, if_neg w1, RS_7]
  obtain rfl | rfl : F = 3 ∨ F = 4 := by omega
  · rw [if_neg (by decide), if_neg (by decide), if_neg (by decide), if_neg (by decide), if_pos (by decide)]
    have u : df_X18_upper n (RS B [] 0 0 w (nI D) a b (nI 3)) = some (RS B [] 0 0 w (nI D) a b (nI 3)) := by
      have vY : ((fpt w 6 1) <<< ((4 : Int32) &&& 31)) ||| ((fpt w 5 1) <<< ((6 : Int32) &&& 31)) ||| ((fpt w 3 2) <<< ((7 : Int32) &&& 31)) ||| ((fpt w 2 1) <<< ((5 : Int32) &&& 31)) ||| ((-(fpt w 12 1)) <<< ((9 : Int32) &&& 31)) = tvY w := by
        rw [show ((4 : Int32) &&& 31) = nI 4 from by decide, show ((6 : Int32) &&& 31) = nI 6 from by decide, show ((7 : Int32) &&& 31) = nI 7 from by decide, show ((5 : Int32) &&& 31) = nI 5 from by decide, show ((9 : Int32) &&& 31) = nI 9 from by decide]
        rfl
      unfold df_X18_upper df_X18_upper_0 df_X18_upper_73
      rw [show df_X18_part n 6 1 (RS B _ _ _ w _ _ _ _) = some (fpt w 6 1, _) from pt_S (q := 6) (m := 1) (by decide), nb_b2, show df_X18_part n 5 1 (RS B _ _ _ w _ _ _ _) = some (fpt w 5 1, _) from pt_S (q := 5) (m := 1) (by decide), nb_b2, show df_X18_part n 3 2 (RS B _ _ _ w _ _ _ _) = some (fpt w 3 2, _) from pt_S (q := 3) (m := 2) (by decide), nb_b2, show df_X18_part n 2 1 (RS B _ _ _ w _ _ _ _) = some (fpt w 2 1, _) from pt_S (q := 2) (m := 1) (by decide), nb_b2, show df_X18_part n 12 1 (RS B _ _ _ w _ _ _ _) = some (fpt w 12 1, _) from pt_S (q := 12) (m := 1) (by decide), nb_b2, nb_let, vY, RS_4]
      by_cases c : D = 2
      · subst c
        have y0 : tvY w = 0 := Decidable.byContradiction fun z => h 74 (by decide) (mkpI (mand2 hs (mand2 hq (mand2 (fptA (by decide) (by decide) f3) (fptA (by decide) (by decide) eD)))) (by decide +kernel) (by decide +kernel) (by rw [show strL (ko_f 74) = [89] from by decide +kernel]; exact (show ((!decide (tvY w = 0)) && true) = true from by rw [decide_eq_false z]; rfl)))
        rw [if_pos (by decide), y0, if_pos (by decide)]
      · have nd : ¬ fpt w 7 5 = nI 2 := by rw [eD]; exact znkE c (by omega) (by decide) rfl
        have y0 : tvM w = 0 := Decidable.byContradiction fun z => h 75 (by decide) (mkpI (mand2 hs (mand2 hq (fptA (by decide) (by decide) f3))) (by decide +kernel) (by decide +kernel) (by rw [show strL (ko_f 75) = [109, 44, 77] from by decide +kernel]; exact (show ((!decide (fpt w 7 5 = nI 2)) && ((!decide (tvM w = 0)) && true)) = true from by rw [decide_eq_false nd, decide_eq_false z]; rfl)))
        rw [if_neg (znkE c (by omega) (by decide) (by rfl)), sxM, nb_b2, y0, if_pos (by decide)]
    rw [u, nb_b1]
    rfl
  · rw [if_neg (by decide), if_neg (by decide), if_neg (by decide), if_neg (by decide), if_neg (by decide), if_pos (by decide), show df_X18_part n 10 2 (RS B _ _ _ w _ _ _ _) = some (fpt w 10 2, _) from pt_S (q := 10) (m := 2) (by decide), nb_b2]
    obtain ⟨C, hC, c10⟩ := pt_n (w := w) (k := 10) (m := 2) (by decide) (by decide)
    have hC : C < 4 := hC
    obtain ⟨E, hE, b12⟩ := pt_n (w := w) (k := 12) (m := 1) (by decide) (by decide)
    have hE : E < 2 := hE
    obtain ⟨X, hX, c5⟩ := pt_n (w := w) (k := 5) (m := 2) (by decide) (by decide)
    have hX : X < 4 := hX
    have n2 : C ≠ 2 := fun z => by subst z; exact h 78 (by decide) (mkpI (mand2 hs (mand2 hq (mand2 (fptA (by decide) (by decide) f3) (fptA (by decide) (by decide) c10)))) (by decide +kernel) (by decide +kernel) (by rw [show strL (ko_f 78) = [113, 44, 78] from by decide +kernel]; rfl))
    have e1 : E = 1 := Decidable.byContradiction fun z => by
      obtain rfl : E = 0 := by omega
      obtain rfl | rfl | rfl : C = 0 ∨ C = 1 ∨ C = 3 := by omega
      · exact h 76 (by decide) (mkpI (mand2 hs (mand2 hq (mand2 (fptA (by decide) (by decide) f3) (mand2 (fptA (by decide) (by decide) c10) (fptA (by decide) (by decide) b12))))) (by decide +kernel) (by decide +kernel) (by rw [show strL (ko_f 76) = [113, 44, 86] from by decide +kernel]; rfl))
      · exact h 77 (by decide) (mkpI (mand2 hs (mand2 hq (mand2 (fptA (by decide) (by decide) f3) (mand2 (fptA (by decide) (by decide) c10) (fptA (by decide) (by decide) b12))))) (by decide +kernel) (by decide +kernel) (by rw [show strL (ko_f 77) = [113, 44, 86] from by decide +kernel]; rfl))
      · obtain rfl | rfl | rfl | rfl : X = 0 ∨ X = 1 ∨ X = 2 ∨ X = 3 := by omega
        · exact h 79 (by decide) (mkpI (mand2 hs (mand2 hq (mand2 (fptA (by decide) (by decide) f3) (mand2 (fptA (by decide) (by decide) c10) (mand2 (fptA (by decide) (by decide) b12) (fptA (by decide) (by decide) c5)))))) (by decide +kernel) (by decide +kernel) (by rw [show strL (ko_f 79) = [113, 44, 112] from by decide +kernel]; rfl))
        · exact h 80 (by decide) (mkpI (mand2 hs (mand2 hq (mand2 (fptA (by decide) (by decide) f3) (mand2 (fptA (by decide) (by decide) c10) (mand2 (fptA (by decide) (by decide) b12) (fptA (by decide) (by decide) c5)))))) (by decide +kernel) (by decide +kernel) (by rw [show strL (ko_f 80) = [113, 44, 112] from by decide +kernel]; rfl))
        · exact h 81 (by decide) (mkpI (mand2 hs (mand2 hq (mand2 (fptA (by decide) (by decide) f3) (mand2 (fptA (by decide) (by decide) c10) (mand2 (fptA (by decide) (by decide) b12) (fptA (by decide) (by decide) c5)))))) (by decide +kernel) (by decide +kernel) (by rw [show strL (ko_f 81) = [113, 44, 112] from by decide +kernel]; rfl))
        · exact h 82 (by decide) (mkpI (mand2 hs (mand2 hq (mand2 (fptA (by decide) (by decide) f3) (mand2 (fptA (by decide) (by decide) c10) (mand2 (fptA (by decide) (by decide) b12) (fptA (by decide) (by decide) c5)))))) (by decide +kernel) (by decide +kernel) (by rw [show strL (ko_f 82) = [113, 44, 112] from by decide +kernel]; rfl))
    subst e1
    unfold df_X18_reckon df_X18_reckon_0
    rw [show df_X18_part n 2 3 (RS B _ _ _ w _ _ _ _) = some (fpt w 2 3, _) from pt_S (q := 2) (m := 3) (by decide), nb_b2, nb_let, show df_X18_part n 7 3 (RS B _ _ _ w _ _ _ _) = some (fpt w 7 3, _) from pt_S (q := 7) (m := 3) (by decide), nb_b2, nb_let, c10, if_neg (znkE n2 (by omega) (by decide) (by rfl)), show df_X18_part n 12 1 (RS B _ _ _ w _ _ _ _) = some (fpt w 12 1, _) from pt_S (q := 12) (m := 1) (by decide), nb_b2, b12, if_pos (by decide), nb_b1]
    rfl
theorem t231f {n : Nat} {B : St} {w a x : Int32} {D Z F : Nat} (hF : F < 8) (m4 : F ≠ 4) : df_X18_third_231 n x (RS B [] 0 0 w (nI D) a (nI Z) (nI F)) = some (RS B [] 0 0 w (nI D) a (nI Z) (nI F)) := by
  unfold df_X18_third_231 df_X18_third_274 df_X18_third_293
  rw [RS_7, if_neg (znkE m4 (by omega) (by decide) (by rfl)), if_neg (znkE m4 (by omega) (by decide) (by rfl))]
theorem t129f {n : Nat} {B : St} {w a x : Int32} {D Z F : Nat} (hF : F < 8) (m4 : F ≠ 4) (m6 : F ≠ 6) : df_X18_third_129 n x (RS B [] 0 0 w (nI D) a (nI Z) (nI F)) = some (RS B [] 0 0 w (nI D) a (nI Z) (nI F)) := by
  unfold df_X18_third_129
  rw [RS_7, if_neg (znkE m6 (by omega) (by decide) (by rfl)), if_neg (znkE m4 (by omega) (by decide) (by rfl))]
  exact t231f hF m4
theorem nq_third {n : Nat} {B : St} {w a b : Int32} {Z : Nat} (hZ : Z < 32) (eZ : fpt w 2 5 = nI Z) (hs : w &&& nI 4294901760 = nI 0) (hq : w &&& nI 3 = nI 2) (h : ∀ t : Nat, t < 93 → ¬ MKp t w) {F D : Nat} (hF : F < 8) (f3 : fpt w 13 3 = nI F) (hD : D < 32) (eD : fpt w 7 5 = nI D) : df_X18_third n (RS B [] 0 0 w (nI D) a b (nI F)) = some (RS B [] 0 0 w (nI D) a (nI Z) (nI F)) := by
  have m6 : F ≠ 6 := fun z => by subst z; exact h 92 (by decide) (mkpI (mand2 hs (mand2 hq (fptA (by decide) (by decide) f3))) (by decide +kernel) (by decide +kernel) (by rw [show strL (ko_f 92) = [115, 44, 81] from by decide +kernel]; rfl))
  obtain ⟨E, hE, b12⟩ := pt_n (w := w) (k := 12) (m := 1) (by decide) (by decide)
  have hE : E < 2 := hE
  have k16 : df_X18_third_16 n (nI E) (RS B [] 0 0 w (nI D) a b (nI F)) = some (RS B [] 0 0 w (nI D) a (nI Z) (nI F)) := by
    unfold df_X18_third_16
    rw [show df_X18_part n 2 5 (RS B _ _ _ w _ _ _ _) = some (fpt w 2 5, _) from pt_S (q := 2) (m := 5) (by decide), nb_b2, nb_let, eZ, RS_w6, RS_7]
    have k64 : (F = 0 → E = 1) → df_X18_third_64 n (nI E) (RS B [] 0 0 w (nI D) a (nI Z) (nI F)) = some (RS B [] 0 0 w (nI D) a (nI Z) (nI F)) := fun hE1 => by
      unfold df_X18_third_64
      rw [RS_7]
      by_cases c2 : F = 2
      · subst c2
        have d0 : D = 0 := Decidable.byContradiction fun z0 => by
          have nd : ¬ fpt w 7 5 = 0 := by rw [eD]; exact znkE z0 (by omega) (by decide) rfl
          exact h 86 (by decide) (mkpI (mand2 hs (mand2 hq (fptA (by decide) (by decide) f3))) (by decide +kernel) (by decide +kernel) (by rw [show strL (ko_f 86) = [110, 44, 80] from by decide +kernel]; exact (show ((!decide (fpt w 7 5 = 0)) && true) = true from by rw [decide_eq_false nd]; rfl)))
        subst d0
        rw [if_pos (by decide), RS_4, if_pos (by decide)]
        exact t129f (by decide) (by decide) (by decide)
      · rw [if_neg (znkE c2 (by omega) (by decide) (by rfl))]
        by_cases c4 : F = 4
        · subst c4
          have z0 : Z = 0 := Decidable.byContradiction fun zz => by
            have nz : ¬ fpt w 2 5 = 0 := by rw [eZ]; exact znkE zz (by omega) (by decide) rfl
            obtain rfl | rfl : E = 0 ∨ E = 1 := by omega
            · exact h 88 (by decide) (mkpI (mand2 hs (mand2 hq (mand2 (fptA (by decide) (by decide) f3) (fptA (by decide) (by decide) b12)))) (by decide +kernel) (by decide +kernel) (by rw [show strL (ko_f 88) = [100, 44, 122] from by decide +kernel]; exact (show ((!decide (fpt w 2 5 = 0)) && true) = true from by rw [decide_eq_false nz]; rfl)))
            · exact h 91 (by decide) (mkpI (mand2 hs (mand2 hq (mand2 (fptA (by decide) (by decide) f3) (fptA (by decide) (by decide) b12)))) (by decide +kernel) (by decide +kernel) (by rw [show strL (ko_f 91) = [100, 44, 122] from by decide +kernel]; exact (show ((!decide (fpt w 2 5 = 0)) && true) = true from by rw [decide_eq_false nz]; rfl)))
          subst z0
          have d0 : D = 0 := Decidable.byContradiction fun z0 => by
            have nd : ¬ fpt w 7 5 = 0 := by rw [eD]; exact znkE z0 (by omega) (by decide) rfl
            obtain rfl | rfl : E = 0 ∨ E = 1 := by omega
            · exact h 87 (by decide) (mkpI (mand2 hs (mand2 hq (mand2 (fptA (by decide) (by decide) f3) (mand2 (fptA (by decide) (by decide) b12) (fptA (by decide) (by decide) eZ))))) (by decide +kernel) (by decide +kernel) (by rw [show strL (ko_f 87) = [110] from by decide +kernel]; exact (show ((!decide (fpt w 7 5 = 0)) && true) = true from by rw [decide_eq_false nd]; rfl)))
            · exact h 90 (by decide) (mkpI (mand2 hs (mand2 hq (mand2 (fptA (by decide) (by decide) f3) (mand2 (fptA (by decide) (by decide) b12) (fptA (by decide) (by decide) eZ))))) (by decide +kernel) (by decide +kernel) (by rw [show strL (ko_f 90) = [110] from by decide +kernel]; exact (show ((!decide (fpt w 7 5 = 0)) && true) = true from by rw [decide_eq_false nd]; rfl)))
          subst d0
          have e0 : E = 0 := Decidable.byContradiction fun z => by
            obtain rfl : E = 1 := by omega
            exact h 89 (by decide) (mkpI (mand2 hs (mand2 hq (mand2 (fptA (by decide) (by decide) f3) (mand2 (fptA (by decide) (by decide) b12) (mand2 (fptA (by decide) (by decide) eZ) (fptA (by decide) (by decide) eD)))))) (by decide +kernel) (by decide +kernel) (by rw [show strL (ko_f 89) = [] from by decide +kernel]; rfl))
          subst e0
          unfold df_X18_third_129
          rw [RS_7, if_neg (by decide), if_pos (by decide), RS_6, if_pos (by decide)]
          unfold df_X18_third_231 df_X18_third_274 df_X18_third_293
          rw [RS_7, if_pos (by decide), RS_4, if_pos (by decide), if_pos (by decide), if_pos (by decide)]
        · exact t129f hF c4 m6
    by_cases c0 : F = 0
    · have e1 : E = 1 := Decidable.byContradiction fun z => by
        obtain rfl : E = 0 := by omega
        subst c0
        exact h 85 (by decide) (mkpI (mand2 hs (mand2 hq (mand2 (fptA (by decide) (by decide) f3) (fptA (by decide) (by decide) b12)))) (by decide +kernel) (by decide +kernel) (by rw [show strL (ko_f 85) = [100, 44, 86] from by decide +kernel]; rfl))
      rw [if_pos (by rw [c0]; rfl), if_neg (by rw [e1]; decide)]
      exact k64 (fun _ => e1)
    · rw [if_neg (znkE c0 (by omega) (by decide) (by rfl))]
      exact k64 (fun z => absurd z c0)
  unfold df_X18_third df_X18_third_0
  rw [show df_X18_part n 12 1 (RS B _ _ _ w _ _ _ _) = some (fpt w 12 1, _) from pt_S (q := 12) (m := 1) (by decide), nb_b2, b12]
  obtain rfl | rfl : E = 0 ∨ E = 1 := by omega
  · rw [if_neg (by decide)]
    exact k16
  · rw [if_pos (by decide)]
    exact k16

