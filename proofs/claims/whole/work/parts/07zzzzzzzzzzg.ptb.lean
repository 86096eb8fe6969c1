theorem grl_4 (n : Nat) : df_X1_growingLetter n 1 4 () = some (74, ()) := by
  unfold df_X1_growingLetter df_X1_growingLetter_0 df_X1_growingLetter_17 df_X1_growingLetter_40
  rw [if_pos rfl, if_neg (show ¬ (4 : Int32) = 2 by decide)]; exact nar_z (by decide)
theorem hi_9 (n : Nat) (v : Int32) : df_X9_high n v () = some (hiO v, ()) := rfl
theorem by2_l (w : Int32) : (by2 w).length = 2 := rfl
theorem by4_l (w : Int32) : (by4 w).length = 4 := rfl
theorem ptG {n : Nat} {M Q U P : St} {cs nl ns : Nat} {C A NM NR LB : Nat → Int32} (hn : 70000 < n) (hU : URD U cs nl ns C A NM NR LB) (h2 : sI Q 2 = 0) {i : Nat} (hi : i < 8194) {ad l kd : Nat} {b cd z : Int32} {ms dv : Bool} (r2 : sR Q 0 (8 * i + 2) = nI ad) (r3 : sR Q 0 (8 * i + 3) = nI (2 * 2 ^ l)) (r4 : sR Q 0 (8 * i + 4) = nI kd) (r5 : sR Q 0 (8 * i + 5) = b) (r6 : sR Q 0 (8 * i + 6) = cd) (hk : (kd = 1 ∧ l ≤ 1 ∧ (b = 111 ∨ b = 239)) ∨ (kd = 2 ∧ l ≤ 2)) (ha : ad + 2 * 2 ^ l ≤ 32768) (hev : ∃ S' : Nat → Int32, df_X9_evaluate n cd (nI ad) U = some (z, vC U 1 (trO ms dv) S')) (f : Nat → Int32) : PUTD M Q P cs nl ns C A NM NR LB ad (vF ms dv (lfO (hpO (decide (kd = 1)) l) (offO l (z - nI ad)))) (if kd = 1 then hopL l ((b >>> ((7 : Int32) &&& 31)) &&& 31) (z - nI ad) else brnC l b (z - nI ad)) U f (df_X1_putGrown n (nI (8 * i)) (M, ((Q, U), pR P 0 f))) := by
  obtain ⟨S', e1⟩ := hev
  have hUv := URD_v hU 1 (trO ms dv) S'
  have t171 : ∀ (w : Int32) (kd len lt : Nat), ad + len ≤ 32768 → df_X1_growingLetter n (nI kd) (nI len) () = some (nI lt, ()) → ltO lt = true → df_X1_putGrown_171 n w (nI ad) (nI len) (nI kd) (z - nI ad) (M, ((pI Q 2 (trO ms dv), vC U 1 (trO ms dv) S'), pR P 0 f)) = some (M, ((pI Q 2 (nI (vF ms dv (lfO lt (z - nI ad)))), vC U 1 (trO ms dv) S'), pR P 0 (wrC f ad (byK (w ||| lbO lt (z - nI ad)) len 0)))) := fun w kd len lt ha hg hl => by
    unfold df_X1_putGrown_171
    rw [hg, nb_b2, show df_X1_checked n (nI lt) (z - nI ad) ((M, ((pI Q 2 (trO ms dv), vC U 1 (trO ms dv) S'), pR P 0 f)) : St × (St × St) × St).2.1 = _ from ckC hl (z - nI ad), nb_b2, nb_let]
    exact (congrArg (fun o => nd_b1 o (fun (s25 : St × (St × (St)) × (St)) => some s25)) (ptC hn (w ||| lbO lt (z - nI ad)) ha f)).trans nb_b1
  have eQ : sR ((M, ((Q, U), pR P 0 f)) : St × (St × St) × St).2.1.1 0 = sR Q 0 := rfl
  unfold df_X1_putGrown df_X1_putGrown_0 df_X1_putGrown_142
  rw [show nI (8 * i) + 5 = nI (8 * i + 5) from nI_add (8 * i) 5, show nI (8 * i) + 2 = nI (8 * i + 2) from nI_add (8 * i) 2, show nI (8 * i) + 3 = nI (8 * i + 3) from nI_add (8 * i) 3, show nI (8 * i) + 4 = nI (8 * i + 4) from nI_add (8 * i) 4, show nI (8 * i) + 6 = nI (8 * i + 6) from nI_add (8 * i) 6]
  rw [nm_ck (by omega) (by omega), nI_clamp (by omega), eQ, r5, nb_let, nm_ck (by omega) (by omega), nI_clamp (by omega), r2, nb_let, nm_ck (by omega) (by omega), nI_clamp (by omega), r3, nb_let, nm_ck (by omega) (by omega), nI_clamp (by omega), r4, nb_let, nm_ck (by omega) (by omega), nI_clamp (by omega), r6]
  rw [show df_X1_worked n cd (nI ad) ((M, ((Q, U), pR P 0 f)) : St × (St × St) × St).2.1 = _ from wkC h2 e1, nb_b2, nb_let, nb_let]
  rcases hk with ⟨k1, k2, k3⟩ | ⟨k1, k2⟩
  · subst k1
    rw [if_pos rfl, decide_eq_true rfl]
    have : l = 0 ∨ l = 1 := by omega
    rcases this with u | u <;> subst u
    · rw [if_neg (show ¬ nI (2 * 2 ^ 0) = 8 by decide), if_pos (show nI (2 * 2 ^ 0) = 2 from rfl), if_pos (show nI 1 = 1 from rfl)]
      rcases k3 with u | u <;> subst u
      · rw [if_pos (show ((111 : Int32) >>> ((7 : Int32) &&& 31)) &&& 31 = 0 by decide)]
        refine ⟨_, _, t171 40961 1 2 75 ha (grl n).1 rfl, hUv, rfl, rfl, fun _ => ?_⟩
        rw [by2_K]
        rfl
      · rw [if_neg (show ¬ ((239 : Int32) >>> ((7 : Int32) &&& 31)) &&& 31 = 0 by decide)]
        refine ⟨_, _, t171 8193 1 2 75 ha (grl n).1 rfl, hUv, rfl, rfl, fun _ => ?_⟩
        rw [by2_K]
        rfl
    · rw [if_neg (show ¬ nI (2 * 2 ^ 1) = 8 by decide), if_neg (show ¬ nI (2 * 2 ^ 1) = 2 by decide)]
      refine ⟨_, _, t171 b 1 4 74 ha (grl_4 n) rfl, hUv, rfl, rfl, fun _ => ?_⟩
      rw [by4_K]
      rcases k3 with u | u <;> subst u <;> rfl
  · subst k1
    rw [if_neg (show ¬ (2 : Nat) = 1 by decide), decide_eq_false (show ¬ (2 : Nat) = 1 by decide)]
    have : l = 0 ∨ l = 1 ∨ l = 2 := by omega
    rcases this with u | u | u <;> subst u
    · rw [if_neg (show ¬ nI (2 * 2 ^ 0) = 8 by decide), if_pos (show nI (2 * 2 ^ 0) = 2 from rfl), if_neg (show ¬ nI 2 = 1 by decide), plr_q, nb_b2, nb_let]
      refine ⟨_, _, t171 _ 2 2 76 ha (grl n).2.1 rfl, hUv, rfl, rfl, fun _ => ?_⟩
      rw [by2_K]
      rfl
    · rw [if_neg (show ¬ nI (2 * 2 ^ 1) = 8 by decide), if_neg (show ¬ nI (2 * 2 ^ 1) = 2 by decide)]
      refine ⟨_, _, t171 b 2 4 84 ha (grl n).2.2 rfl, hUv, rfl, rfl, fun _ => ?_⟩
      rw [by4_K]
      rfl
    · rw [if_pos (show nI (2 * 2 ^ 2) = 8 from rfl), (pl_T n 8).1, nb_b2]
      have ha8 : ad + 8 ≤ 32768 := ha
      rw [show df_X1_put n (nI ad) 4 ((b ^^^ 4096) ||| plT 8) (M, ((pI Q 2 (trO ms dv), vC U 1 (trO ms dv) S'), pR P 0 f)) = _ from ptC (len := 4) hn _ (by omega) f, nb_b1]
      rw [show df_X1_checked n 74 (z - nI ad - 4) ((M, ((pI Q 2 (trO ms dv), vC U 1 (trO ms dv) S'), pR P 0 (wrC f ad (byK ((b ^^^ 4096) ||| plT 8) 4 0)))) : St × (St × St) × St).2.1 = _ from ckC (l := 74) rfl (z - nI ad - 4), nb_b2, nb_let]
      rw [show nI ad + 4 = nI (ad + 4) from nI_add ad 4]
      refine ⟨vC U 1 (trO ms dv) S', wrC (wrC f ad (byK ((b ^^^ 4096) ||| plT 8) 4 0)) (ad + 4) (byK (111 ||| lbO 74 (z - nI ad - 4)) 4 0), ?_, hUv, rfl, rfl, fun _ => ?_⟩
      · exact (congrArg (fun o => nd_b1 o (fun (s25 : St × (St × (St)) × (St)) => some s25)) (ptC (len := 4) hn (111 ||| lbO 74 (z - nI ad - 4)) (by omega) _)).trans nb_b1
      · rw [by4_K, by4_K]
        exact (wrC_a (by4 ((b ^^^ 4096) ||| plT 8)) (by4 (111 ||| plJ (z - nI ad - 4))) f ad).symm
theorem ptA {n : Nat} {M Q U P : St} {cs nl ns : Nat} {C A NM NR LB : Nat → Int32} (hn : 70000 < n) (hU : URD U cs nl ns C A NM NR LB) (h2 : sI Q 2 = 0) {i : Nat} (hi : i < 8194) {ad : Nat} {b cd z : Int32} {ms dv : Bool} (r2 : sR Q 0 (8 * i + 2) = nI ad) (r5 : sR Q 0 (8 * i + 5) = b) (r6 : sR Q 0 (8 * i + 6) = cd) (ha : ad + 8 ≤ 32768) (hev : ∃ S' : Nat → Int32, df_X9_evaluate n cd (nI ad) U = some (z, vC U 1 (trO ms dv) S')) (f : Nat → Int32) : PUTD M Q P cs nl ns C A NM NR LB ad (vF ms dv true) (by4 (b ||| hiO (z - nI ad) <<< ((12 : Int32) &&& 31)) ++ by4 ((19 ||| ((b >>> ((7 : Int32) &&& 31)) &&& 31) <<< ((7 : Int32) &&& 31)) ||| ((b >>> ((7 : Int32) &&& 31)) &&& 31) <<< ((15 : Int32) &&& 31) ||| loO (z - nI ad) <<< ((20 : Int32) &&& 31))) U f (df_X1_putAddress n (nI (8 * i)) (M, ((Q, U), pR P 0 f))) := by
  obtain ⟨S', e1⟩ := hev
  have hUv := URD_v hU 1 (trO ms dv) S'
  have eQ : sR ((M, ((Q, U), pR P 0 f)) : St × (St × St) × St).2.1.1 0 = sR Q 0 := rfl
  unfold df_X1_putAddress df_X1_putAddress_0
  rw [show nI (8 * i) + 5 = nI (8 * i + 5) from nI_add (8 * i) 5, show nI (8 * i) + 2 = nI (8 * i + 2) from nI_add (8 * i) 2, show nI (8 * i) + 6 = nI (8 * i + 6) from nI_add (8 * i) 6]
  rw [nm_ck (by omega) (by omega), nI_clamp (by omega), eQ, r2, nb_let, nm_ck (by omega) (by omega), nI_clamp (by omega), r5, nb_let, nm_ck (by omega) (by omega), nI_clamp (by omega), r6]
  rw [show df_X1_worked n cd (nI ad) ((M, ((Q, U), pR P 0 f)) : St × (St × St) × St).2.1 = _ from wkC h2 e1, nb_b2, nb_let, nb_let, nm_ck (by omega) (by omega), hi_9, nb_b2, plr_U, nb_b2]
  rw [show sR ((M, ((pI Q 2 (trO ms dv), vC U 1 (trO ms dv) S'), pR P 0 f)) : St × (St × St) × St).2.1.1 0 (8 * i + 5) = b from r5]
  rw [show df_X1_put n (nI ad) 4 (b ||| hiO (z - nI ad) <<< ((12 : Int32) &&& 31)) (M, ((pI Q 2 (trO ms dv), vC U 1 (trO ms dv) S'), pR P 0 f)) = _ from ptC (len := 4) hn _ (by omega) f, nb_b1, lo_9, nb_b2, plr_I, nb_b2, show nI ad + 4 = nI (ad + 4) from nI_add ad 4]
  refine ⟨vC U 1 (trO ms dv) S', wrC (wrC f ad (byK (b ||| hiO (z - nI ad) <<< ((12 : Int32) &&& 31)) 4 0)) (ad + 4) (byK ((19 ||| ((b >>> ((7 : Int32) &&& 31)) &&& 31) <<< ((7 : Int32) &&& 31)) ||| ((b >>> ((7 : Int32) &&& 31)) &&& 31) <<< ((15 : Int32) &&& 31) ||| loO (z - nI ad) <<< ((20 : Int32) &&& 31)) 4 0), ?_, hUv, rfl, rfl, fun _ => ?_⟩
  · rw [← vF_t]
    exact (congrArg (fun o => nd_b1 o (fun (s25 : St × (St × (St)) × (St)) => some s25)) (ptC (len := 4) hn _ (by omega) _)).trans nb_b1
  · rw [by4_K, by4_K]
    exact (wrC_a (by4 _) (by4 _) f ad).symm
theorem ptN {n : Nat} {M Q U P : St} {cs nl ns : Nat} {C A NM NR LB : Nat → Int32} (hn : 70000 < n) (hU : URD U cs nl ns C A NM NR LB) (h2 : sI Q 2 = 0) {i : Nat} (hi : i < 8194) {ad : Nat} {b v : Int32} (r2 : sR Q 0 (8 * i + 2) = nI ad) (r3 : sR Q 0 (8 * i + 3) = nI (numB b v).length) (r5 : sR Q 0 (8 * i + 5) = b) (r6 : sR Q 0 (8 * i + 6) = v) (ha : ad + (numB b v).length ≤ 32768) (f : Nat → Int32) : PUTD M Q P cs nl ns C A NM NR LB ad 0 (numB b v) U f (df_X1_putNumber n (nI (8 * i)) (M, ((Q, U), pR P 0 f))) := by
  have eQ : sR ((M, ((Q, U), pR P 0 f)) : St × (St × St) × St).2.1.1 0 = sR Q 0 := rfl
  have fin : ∀ f' : Nat → Int32, f' = wrC f ad (numB b v) → PUTD M Q P cs nl ns C A NM NR LB ad 0 (numB b v) U f (some (M, ((Q, U), pR P 0 f'))) := fun f' h => ⟨U, f', by rw [show nI 0 = 0 from rfl, pI_z2 h2], hU, rfl, rfl, fun _ => h⟩
  unfold df_X1_putNumber df_X1_putNumber_0 df_X1_putNumber_176
  rw [show nI (8 * i) + 5 = nI (8 * i + 5) from nI_add (8 * i) 5, show nI (8 * i) + 2 = nI (8 * i + 2) from nI_add (8 * i) 2, show nI (8 * i) + 3 = nI (8 * i + 3) from nI_add (8 * i) 3, show nI (8 * i) + 6 = nI (8 * i + 6) from nI_add (8 * i) 6]
  rw [nm_ck (by omega) (by omega), nI_clamp (by omega), eQ, r2, nb_let, nm_ck (by omega) (by omega), nI_clamp (by omega), r3, nb_let, nm_ck (by omega) (by omega), nI_clamp (by omega), r5, nb_let, nm_ck (by omega) (by omega), nI_clamp (by omega), r6, nb_let]
  by_cases c1 : fzO (-32) 31 1 v = true ∧ ¬ b = 0
  · have e : numB b v = by2 ((16385 ||| b <<< ((7 : Int32) &&& 31)) ||| plN v) := if_pos c1
    have e2 : (numB b v).length = 2 := by rw [e]; rfl
    rw [e2] at ha
    rw [e2, if_pos (show nI 2 = 2 from rfl), (pl_N n v).1, nb_b2]
    rw [show df_X1_put n (nI ad) 2 ((16385 ||| b <<< ((7 : Int32) &&& 31)) ||| plN v) (M, ((Q, U), pR P 0 f)) = _ from ptC (len := 2) hn _ ha f, nb_b1]
    exact fin _ (by rw [e, by2_K])
  · by_cases c2 : fzO (-2048) 2047 1 v = true
    · have e : numB b v = by4 ((19 ||| b <<< ((7 : Int32) &&& 31)) ||| v <<< ((20 : Int32) &&& 31)) := (if_neg c1).trans (if_pos c2)
      have e2 : (numB b v).length = 4 := by rw [e]; rfl
      rw [e2] at ha
      rw [e2, if_neg (show ¬ nI 4 = 2 by decide), fit_I, nb_b2, c2, if_neg (show ¬ bI true = 0 by decide), plr_I, nb_b2]
      rw [show df_X1_put n (nI ad) 4 ((19 ||| b <<< ((7 : Int32) &&& 31)) ||| v <<< ((20 : Int32) &&& 31)) (M, ((Q, U), pR P 0 f)) = _ from ptC (len := 4) hn _ ha f, nb_b1]
      exact fin _ (by rw [e, by4_K])
    · have e : numB b v = by4 ((55 ||| b <<< ((7 : Int32) &&& 31)) ||| hiO v <<< ((12 : Int32) &&& 31)) ++ (if loO v = 0 then [] else by4 ((19 ||| b <<< ((7 : Int32) &&& 31)) ||| b <<< ((15 : Int32) &&& 31) ||| loO v <<< ((20 : Int32) &&& 31))) := (if_neg c1).trans (if_neg c2)
      have c3 : fzO (-2048) 2047 1 v = false := by
        cases h : fzO (-2048) 2047 1 v
        · rfl
        · exact absurd h c2
      by_cases c4 : loO v = 0
      · rw [if_pos c4, List.append_nil] at e
        have e2 : (numB b v).length = 4 := by rw [e]; rfl
        rw [e2] at ha
        rw [e2, if_neg (show ¬ nI 4 = 2 by decide), fit_I, nb_b2, c3, if_pos (show bI false = 0 from rfl), hi_9, nb_b2, plr_U, nb_b2]
        rw [show df_X1_put n (nI ad) 4 ((55 ||| b <<< ((7 : Int32) &&& 31)) ||| hiO v <<< ((12 : Int32) &&& 31)) (M, ((Q, U), pR P 0 f)) = _ from ptC (len := 4) hn _ ha f, nb_b1, if_neg (show ¬ nI 4 = 8 by decide)]
        exact fin _ (by rw [e, by4_K])
      · rw [if_neg c4] at e
        have e2 : (numB b v).length = 8 := by rw [e]; rfl
        rw [e2] at ha
        rw [e2, if_neg (show ¬ nI 8 = 2 by decide), fit_I, nb_b2, c3, if_pos (show bI false = 0 from rfl), hi_9, nb_b2, plr_U, nb_b2]
        rw [show df_X1_put n (nI ad) 4 ((55 ||| b <<< ((7 : Int32) &&& 31)) ||| hiO v <<< ((12 : Int32) &&& 31)) (M, ((Q, U), pR P 0 f)) = _ from ptC (len := 4) hn _ (by omega) f, nb_b1, if_pos (show nI 8 = 8 from rfl), lo_9, nb_b2, plr_I, nb_b2, show nI ad + 4 = nI (ad + 4) from nI_add ad 4]
        rw [show df_X1_put n (nI (ad + 4)) 4 ((19 ||| b <<< ((7 : Int32) &&& 31)) ||| b <<< ((15 : Int32) &&& 31) ||| loO v <<< ((20 : Int32) &&& 31)) (M, ((Q, U), pR P 0 (wrC f ad (byK ((55 ||| b <<< ((7 : Int32) &&& 31)) ||| hiO v <<< ((12 : Int32) &&& 31)) 4 0)))) = _ from ptC (len := 4) hn _ (by omega) _, nb_b1]
        exact fin _ (by rw [e, by4_K, by4_K]; exact (wrC_a (by4 _) (by4 _) f ad).symm)
