set_option maxHeartbeats 40000000 in
set_option maxRecDepth 100000 in
theorem db_X2_evaluate_71 {p : Program} {l : Launch} {e : Env} {s : State} {m : MethodId} {args : Array Value} {below : List Frame} {meth : Method} {c : Code} {Q : State → Prop} {A : Nat → Prop} {dC : Nat → ClassId} {dI : Nat → Nat → Nat} {a : Nat → Nat} {ac : Nat → ClassId} {n : Nat} {r : Int64 × (St × (St) × (St × (St)))} (C : nd_C p l s m args c A (dC, dI) cX2_evaluate 8 RX2 ow_dm_X2_evaluate (dk_X2m ac)) (K : nd_Kl p l e (headSpec ow_dm_X2_evaluate ({ frames := 3, cells := 0, slots := 0, locals := 75 })).room s m args below meth c Q A (dC, dI) cX2_evaluate (St × (St) × (St × (St))) (dw_X2m a ac) r) {g13 : Int32 → Int32 → Int32 → (St × (St) × (St × (St))) → Option (Int64 × (St × (St) × (St × (St))))} (J13 : dj_X2_evaluate_13 p l e s m args below meth c Q A dC dI a ac g13 r) : dj_X2_evaluate_71 p l e s m args below meth c Q A dC dI a ac (df_X2_evaluate_71 n g13) r := by
  obtain ⟨hlt, hx, hb, hml, hown, hts, hN, hA, hK⟩ := id C
  intro x2 x4 x5 x6 s0 H locs ls h hP hD hS hl
  unfold df_X2_evaluate_71 at h
  refine lv_iload hx hb dX2_evaluate_71 (lv_at hl 5 rfl) ?_
  refine lv_bipush (v := 23) hx hb dX2_evaluate_73 (by decide) ?_
  refine lv_icmp_ne (tgt := 118) hx hb dX2_evaluate_75 (by decide) (fun c9 => ?_) (fun c9 => ?_)
  · have h := nd_neg h c9
    refine lv_aload_n hx hb dX2_evaluate_118 rfl (lv_at hl 0 rfl) ?_
    refine va_get (D := (dC, dI)) (ci := 3) (v := .int (sI s0.2.1 1)) (C := RX2) (T := TX2) (N := 20) hx hb hts hi_dm_X2_evaluate_X2 hown hK hP 0 rfl rfl 4 (by decide) (hts (.fieldLink RX2 55 "TimeMachine$Condition" "top" "I") (List.mem_of_getElem? (i := 2) rfl)) (fun _ h9 => h9) rfl dX2_evaluate_119 ?_
    refine lv_iconst (v := 1) hx hb dX2_evaluate_122 (by decide) ?_
    refine lv_icmp_lt (tgt := 141) hx hb dX2_evaluate_123 (by decide) (fun c10 => ?_) (fun c10 => ?_)
    · have h := nd_pos h c10
      exact (db_X2_evaluate_141 C K J13) (x2) (x4) (x5) s0 _ _ _ h hP hD hS (lv_sub hl [0, 1, 2, 3, 4] rfl)
    · have h := nd_neg h c10
      refine lv_iload hx hb dX2_evaluate_126 (lv_at hl 5 rfl) ?_
      refine lv_bipush (v := 19) hx hb dX2_evaluate_128 (by decide) ?_
      refine lv_icmp_ge (tgt := 149) hx hb dX2_evaluate_130 (by decide) (fun c13 => ?_) (fun c13 => ?_)
      · have h := nd_pos h c13
        exact (db_X2_evaluate_149 C K J13) (x2) (x4) (x5) (x6) s0 _ _ _ h hP hD hS (lv_sub hl [0, 1, 2, 3, 4, 5] rfl)
      · have h := nd_neg h c13
        refine lv_aload_n hx hb dX2_evaluate_133 rfl (lv_at hl 0 rfl) ?_
        refine va_get (D := (dC, dI)) (ci := 3) (v := .int (sI s0.2.1 1)) (C := RX2) (T := TX2) (N := 20) hx hb hts hi_dm_X2_evaluate_X2 hown hK hP 0 rfl rfl 4 (by decide) (hts (.fieldLink RX2 55 "TimeMachine$Condition" "top" "I") (List.mem_of_getElem? (i := 2) rfl)) (fun _ h9 => h9) rfl dX2_evaluate_134 ?_
        refine lv_iconst (v := 2) hx hb dX2_evaluate_137 (by decide) ?_
        refine lv_icmp_ge (tgt := 149) hx hb dX2_evaluate_138 (by decide) (fun c43 => ?_) (fun c43 => ?_)
        · have h := nd_pos h c43
          exact (db_X2_evaluate_149 C K J13) (x2) (x4) (x5) (x6) s0 _ _ _ h hP hD hS (lv_sub hl [0, 1, 2, 3, 4, 5] rfl)
        · have h := nd_neg h c43
          exact (db_X2_evaluate_141 C K J13) (x2) (x4) (x5) s0 _ _ _ h hP hD hS (lv_sub hl [0, 1, 2, 3, 4] rfl)
  · have h := nd_pos h c9
    refine lv_aload_n hx hb dX2_evaluate_78 rfl (lv_at hl 0 rfl) ?_
    refine va_get (D := (dC, dI)) (ci := 3) (v := .ref (a 2)) (C := RX2) (T := TX2) (N := 20) hx hb hts hi_dm_X2_evaluate_X2 hown hK hP 0 rfl rfl 1 (by decide) (hts (.fieldLink RX2 13 "TimeMachine$Condition" "argument" "[J") (List.mem_of_getElem? (i := 5) rfl)) (fun _ h9 => h9) rfl dX2_evaluate_79 ?_
    refine lv_iload hx hb dX2_evaluate_82 (lv_at hl 4 rfl) ?_
    obtain ⟨i44, h⟩ := nd_ck_e h
    refine va_lald (i := x5) hx hb hK hP 2 1 rfl rfl i44 dX2_evaluate_84 ?_
    refine lv_l2i hx hb dX2_evaluate_85 rfl ?_
    refine lv_topi (fun z45 ez45 => ?_)
    have h := nd_at h ez45
    refine lv_istore (lv' := [(7, .int z45), (0, .ref (a 0)), (1, .ref (a 9)), (2, .int x2), (4, .int x4), (5, .int x5), (6, .int x6)]) hx hb dX2_evaluate_86 hl (by decide) rfl (fun ls hl => ?_)
    refine lv_aload_n hx hb dX2_evaluate_88 rfl (lv_at hl 1 rfl) ?_
    refine lv_aload_n hx hb dX2_evaluate_89 rfl (lv_at hl 1 rfl) ?_
    refine va_get (D := (dC, dI)) (ci := 3) (v := .ref (a 8)) (C := RX2) (T := TX2) (N := 20) hx hb hts hi_dm_X2_evaluate_X2 hown hK hP 0 rfl rfl 9 (by decide) (hts (.fieldLink RX2 32 "TimeMachine$Condition" "oldValue" "[J") (List.mem_of_getElem? (i := 17) rfl)) (fun _ h9 => h9) rfl dX2_evaluate_90 ?_
    refine lv_iload hx hb dX2_evaluate_93 (lv_at hl 0 rfl) ?_
    obtain ⟨i46, h⟩ := nd_ck_e h
    refine va_lald (i := z45) hx hb hK hP 8 7 rfl rfl i46 dX2_evaluate_95 ?_
    obtain ⟨s48, hq, h⟩ := nd_b1_e h
    have hPc := dp_X2m_0 hP
    have hDc := dd_X2m_0 hD
    have hKc := dy_X2m_0 hK
    have hFc := nd_rs hDc hS hA
    have hzA : ∀ q : Nat, H.size ≤ q → A q := fun q h => hA q (Nat.le_trans hS.1 h)
    refine nd_cVv (As := [.long (sQ s0.2.1 2 (Int32.toNatClampNeg z45))]) (rest := []) (w' := dw_X2c (fun k => a (k + 0)) (fun k => ac (k + 0)) s48) ⟨hx, hb, hml, hown, hts⟩ (fun sz => dm_X2_put l hlt dC dI (fun k => a (k + 0)) (fun k => ac (k + 0)) n ((sQ s0.2.1 2 (Int32.toNatClampNeg z45))) s0.2.1 hq sz) (cwV 1 hts gi_dm_X2_evaluate_2 rfl rfl rfl (by decide +kernel) ⟨Nat.le_of_ble_eq_true rfl, Nat.le_of_ble_eq_true rfl⟩) hPc hDc hKc hS hA hN (va_recv hKc hPc (ci := 3) (q0 := 0) rfl rfl) rfl hl.1 rfl (Nat.le_of_ble_eq_true rfl) dX2_evaluate_96 (fun H locs hP1 hD1 hk1 hS => ?_)
    obtain ⟨hP, hD⟩ := dn_X2m_0 hP hD hzA hk1 hP1 hD1
    obtain ⟨s50, es50, h⟩ := nd_let_e h
    have hP : va_P (dC, dI) vwCl (dw_X2m a ac s50) H := by rw [es50]; exact hP
    have hD : va_D A (dw_X2m a ac s50) := by rw [es50]; exact hD
    refine lv_iload hx hb dX2_evaluate_99 (lv_at hl 5 rfl) ?_
    refine lv_aload_n hx hb dX2_evaluate_101 rfl (lv_at hl 1 rfl) ?_
    refine va_get (D := (dC, dI)) (ci := 3) (v := .ref (a 7)) (C := RX2) (T := TX2) (N := 20) hx hb hts hi_dm_X2_evaluate_X2 hown hK hP 0 rfl rfl 8 (by decide) (hts (.fieldLink RX2 29 "TimeMachine$Condition" "oldTo" "[I") (List.mem_of_getElem? (i := 21) rfl)) (fun _ h9 => h9) rfl dX2_evaluate_102 ?_
    refine lv_iload hx hb dX2_evaluate_105 (lv_at hl 0 rfl) ?_
    obtain ⟨i51, h⟩ := nd_ck_e h
    refine va_iald (i := z45) hx hb hK hP 7 6 rfl rfl i51 dX2_evaluate_107 ?_
    refine lv_iconst (v := 1) hx hb dX2_evaluate_108 (by decide) ?_
    refine lv_isub hx hb dX2_evaluate_109 ?_
    refine va_mmax hx hb (by rw [hml]; exact hl.1.symm) hown (hts (.methodLink RX2 211 Lib.Math.max.name) (List.mem_of_getElem? (i := 6) rfl)) (hts (.static Lib.Math.max.name) (List.mem_of_getElem? (i := 7) rfl)) (hts (.initialized "java/lang/Math") (List.mem_of_getElem? (i := 8) rfl)) (hts (.code Lib.Math.max.name Lib.Math.max.code 2 (some .int)) (List.mem_of_getElem? (i := 9) rfl)) (Nat.le_of_ble_eq_true rfl) (Nat.le_of_ble_eq_true rfl) (by decide +kernel) (by decide +kernel) dX2_evaluate_110 ?_
    refine lv_topi (fun z52 ez52 => ?_)
    have h := nd_at h ez52
    refine lv_istore (lv' := [(5, .int z52), (7, .int z45), (0, .ref (a 0)), (1, .ref (a 9)), (2, .int x2), (4, .int x4), (6, .int x6)]) hx hb dX2_evaluate_113 hl (by decide) rfl (fun ls hl => ?_)
    refine lv_goto (tgt := 349) hx hb dX2_evaluate_115 (by decide) ?_
    exact (db_X2_evaluate_349 C K J13) (x2) (x4) (z52) s50 _ _ _ h hP hD hS (lv_sub hl [2, 3, 4, 5, 0] rfl)
set_option maxHeartbeats 40000000 in
set_option maxRecDepth 100000 in
theorem dB_X2_evaluate_13 {p : Program} {l : Launch} {e : Env} {s : State} {m : MethodId} {args : Array Value} {below : List Frame} {meth : Method} {c : Code} {Q : State → Prop} {A : Nat → Prop} {dC : Nat → ClassId} {dI : Nat → Nat → Nat} {a : Nat → Nat} {ac : Nat → ClassId} {n : Nat} {r : Int64 × (St × (St) × (St × (St)))} (C : nd_C p l s m args c A (dC, dI) cX2_evaluate 8 RX2 ow_dm_X2_evaluate (dk_X2m ac)) (K : nd_Kl p l e (headSpec ow_dm_X2_evaluate ({ frames := 3, cells := 0, slots := 0, locals := 75 })).room s m args below meth c Q A (dC, dI) cX2_evaluate (St × (St) × (St × (St))) (dw_X2m a ac) r) {g13 : Int32 → Int32 → Int32 → (St × (St) × (St × (St))) → Option (Int64 × (St × (St) × (St × (St))))} (J13 : dj_X2_evaluate_13 p l e s m args below meth c Q A dC dI a ac g13 r) : dj_X2_evaluate_13 p l e s m args below meth c Q A dC dI a ac (dF_X2_evaluate_13 n g13) r := by
  obtain ⟨hlt, hx, hb, hml, hown, hts, hN, hA, hK⟩ := id C
  intro x2 x4 x5 s0 H locs ls h hP hD hS hl
  unfold dF_X2_evaluate_13 at h
  refine lv_iload hx hb dX2_evaluate_13 (lv_at hl 4 rfl) ?_
  refine lv_iload hx hb dX2_evaluate_15 (lv_at hl 3 rfl) ?_
  refine lv_icmp_ge (tgt := 355) hx hb dX2_evaluate_17 (by decide) (fun c3 => ?_) (fun c3 => ?_)
  · have h := nd_pos h c3
    exact (db_X2_evaluate_355 C K)  s0 _ _ _ h hP hD hS (lv_sub hl [0] rfl)
  · have h := nd_neg h c3
    refine lv_aload_n hx hb dX2_evaluate_20 rfl (lv_at hl 0 rfl) ?_
    refine va_get (D := (dC, dI)) (ci := 3) (v := .int (sI s0.2.1 3)) (C := RX2) (T := TX2) (N := 20) hx hb hts hi_dm_X2_evaluate_X2 hown hK hP 0 rfl rfl 11 (by decide) (hts (.fieldLink RX2 199 "TimeMachine$Condition" "failed" "Z") (List.mem_of_getElem? (i := 1) rfl)) (fun _ h9 => h9) rfl dX2_evaluate_21 ?_
    refine lv_if_ne (tgt := 355) hx hb dX2_evaluate_24 (by decide) (fun c5 => ?_) (fun c5 => ?_)
    · have h := nd_neg h c5
      exact (db_X2_evaluate_355 C K)  s0 _ _ _ h hP hD hS (lv_sub hl [0] rfl)
    · have h := nd_pos h c5
      refine lv_aload_n hx hb dX2_evaluate_27 rfl (lv_at hl 0 rfl) ?_
      refine va_get (D := (dC, dI)) (ci := 3) (v := .ref (a 1)) (C := RX2) (T := TX2) (N := 20) hx hb hts hi_dm_X2_evaluate_X2 hown hK hP 0 rfl rfl 0 (by decide) (hts (.fieldLink RX2 9 "TimeMachine$Condition" "code" "[I") (List.mem_of_getElem? (i := 4) rfl)) (fun _ h9 => h9) rfl dX2_evaluate_28 ?_
      refine lv_iload hx hb dX2_evaluate_31 (lv_at hl 4 rfl) ?_
      obtain ⟨i6, h⟩ := nd_ck_e h
      refine va_iald (i := x5) hx hb hK hP 1 0 rfl rfl i6 dX2_evaluate_33 ?_
      refine lv_topi (fun z7 ez7 => ?_)
      have h := nd_at h ez7
      refine lv_istore (lv' := [(6, .int z7), (0, .ref (a 0)), (1, .ref (a 9)), (2, .int x2), (4, .int x4), (5, .int x5)]) hx hb dX2_evaluate_34 hl (by decide) rfl (fun ls hl => ?_)
      refine lv_iload hx hb dX2_evaluate_36 (lv_at hl 0 rfl) ?_
      refine lv_bipush (v := 30) hx hb dX2_evaluate_38 (by decide) ?_
      refine lv_icmp_lt (tgt := 71) hx hb dX2_evaluate_40 (by decide) (fun c8 => ?_) (fun c8 => ?_)
      · have h := nd_pos h c8
        exact (db_X2_evaluate_71 C K J13) (x2) (x4) (x5) (z7) s0 _ _ _ h hP hD hS (lv_sub hl [1, 2, 3, 4, 5, 0] rfl)
      · have h := nd_neg h c8
        refine lv_iload hx hb dX2_evaluate_43 (lv_at hl 0 rfl) ?_
        refine lv_bipush (v := 33) hx hb dX2_evaluate_45 (by decide) ?_
        refine lv_icmp_gt (tgt := 71) hx hb dX2_evaluate_47 (by decide) (fun c53 => ?_) (fun c53 => ?_)
        · have h := nd_pos h c53
          exact (db_X2_evaluate_71 C K J13) (x2) (x4) (x5) (z7) s0 _ _ _ h hP hD hS (lv_sub hl [1, 2, 3, 4, 5, 0] rfl)
        · have h := nd_neg h c53
          refine lv_aload_n hx hb dX2_evaluate_50 rfl (lv_at hl 1 rfl) ?_
          refine lv_aload_n hx hb dX2_evaluate_51 rfl (lv_at hl 2 rfl) ?_
          refine lv_iload_n hx hb dX2_evaluate_52 rfl (lv_at hl 3 rfl) ?_
          refine lv_iload hx hb dX2_evaluate_53 (lv_at hl 0 rfl) ?_
          refine lv_aload_n hx hb dX2_evaluate_55 rfl (lv_at hl 1 rfl) ?_
          refine va_get (D := (dC, dI)) (ci := 3) (v := .ref (a 2)) (C := RX2) (T := TX2) (N := 20) hx hb hts hi_dm_X2_evaluate_X2 hown hK hP 0 rfl rfl 1 (by decide) (hts (.fieldLink RX2 13 "TimeMachine$Condition" "argument" "[J") (List.mem_of_getElem? (i := 5) rfl)) (fun _ h9 => h9) rfl dX2_evaluate_56 ?_
          refine lv_iload hx hb dX2_evaluate_59 (lv_at hl 5 rfl) ?_
          obtain ⟨i54, h⟩ := nd_ck_e h
          refine va_lald (i := x5) hx hb hK hP 2 1 rfl rfl i54 dX2_evaluate_61 ?_
          obtain ⟨q55, s56, hq, h⟩ := nd_b2_e h
          have hPc := dp_X2m_9 hP
          have hDc := dd_X2m_9 hD
          have hKc := dy_X2m_9 hK
          have hFc := nd_rs hDc hS hA
          have hzA : ∀ q : Nat, H.size ≤ q → A q := fun q h => hA q (Nat.le_trans hS.1 h)
          refine nd_cSl (As := [.ref (a 9), .int x2, .int z7, .long (sQ s0.2.1 0 (Int32.toNatClampNeg x5))]) (rest := [.ref (a 0)]) (q := q55) (w' := dw_X6 (fun k => a (k + 9)) (fun k => ac (k + 9)) s56) ⟨hx, hb, hml, hown, hts⟩ (fun sz => dm_X2_operand l hlt dC dI (fun k => a (k + 9)) (fun k => ac (k + 9)) n (x2) (z7) ((sQ s0.2.1 0 (Int32.toNatClampNeg x5))) s0.2.2 hq sz) (cwS 4 hts gi_dm_X2_evaluate_3 rfl rfl rfl (by decide +kernel) ⟨Nat.le_of_ble_eq_true rfl, Nat.le_of_ble_eq_true rfl⟩) hPc hDc hKc hS hA hN rfl hl.1 rfl (Nat.le_of_ble_eq_true rfl) dX2_evaluate_62 (fun H locs hP1 hD1 hk1 hS => ?_)
          obtain ⟨hP, hD⟩ := dn_X2m_9 hP hD hzA hk1 hP1 hD1
          obtain ⟨s58, es58, h⟩ := nd_let_e h
          have hP : va_P (dC, dI) vwCl (dw_X2m a ac s58) H := by rw [es58]; exact hP
          have hD : va_D A (dw_X2m a ac s58) := by rw [es58]; exact hD
          obtain ⟨s60, hq, h⟩ := nd_b1_e h
          have hPc := dp_X2m_0 hP
          have hDc := dd_X2m_0 hD
          have hKc := dy_X2m_0 hK
          have hFc := nd_rs hDc hS hA
          have hzA : ∀ q : Nat, H.size ≤ q → A q := fun q h => hA q (Nat.le_trans hS.1 h)
          refine nd_cVv (As := [.long q55]) (rest := []) (w' := dw_X2c (fun k => a (k + 0)) (fun k => ac (k + 0)) s60) ⟨hx, hb, hml, hown, hts⟩ (fun sz => dm_X2_put l hlt dC dI (fun k => a (k + 0)) (fun k => ac (k + 0)) n (q55) s58.2.1 hq sz) (cwV 1 hts gi_dm_X2_evaluate_2 rfl rfl rfl (by decide +kernel) ⟨Nat.le_of_ble_eq_true rfl, Nat.le_of_ble_eq_true rfl⟩) hPc hDc hKc hS hA hN (va_recv hKc hPc (ci := 3) (q0 := 0) rfl rfl) rfl hl.1 rfl (Nat.le_of_ble_eq_true rfl) dX2_evaluate_65 (fun H locs hP1 hD1 hk1 hS => ?_)
          obtain ⟨hP, hD⟩ := dn_X2m_0 hP hD hzA hk1 hP1 hD1
          obtain ⟨s62, es62, h⟩ := nd_let_e h
          have hP : va_P (dC, dI) vwCl (dw_X2m a ac s62) H := by rw [es62]; exact hP
          have hD : va_D A (dw_X2m a ac s62) := by rw [es62]; exact hD
          refine lv_goto (tgt := 349) hx hb dX2_evaluate_68 (by decide) ?_
          exact (db_X2_evaluate_349 C K J13) (x2) (x4) (x5) s62 _ _ _ h hP hD hS (lv_sub hl [1, 2, 3, 4, 5] rfl)
set_option maxHeartbeats 40000000 in
set_option maxRecDepth 100000 in
theorem db_X2_evaluate_13 {p : Program} {l : Launch} {e : Env} {s : State} {m : MethodId} {args : Array Value} {below : List Frame} {meth : Method} {c : Code} {Q : State → Prop} {A : Nat → Prop} {dC : Nat → ClassId} {dI : Nat → Nat → Nat} {a : Nat → Nat} {ac : Nat → ClassId} {n : Nat} {r : Int64 × (St × (St) × (St × (St)))} (C : nd_C p l s m args c A (dC, dI) cX2_evaluate 8 RX2 ow_dm_X2_evaluate (dk_X2m ac)) (K : nd_Kl p l e (headSpec ow_dm_X2_evaluate ({ frames := 3, cells := 0, slots := 0, locals := 75 })).room s m args below meth c Q A (dC, dI) cX2_evaluate (St × (St) × (St × (St))) (dw_X2m a ac) r) (k : Nat) : dj_X2_evaluate_13 p l e s m args below meth c Q A dC dI a ac (df_X2_evaluate_13 n k) r := by
  induction k with
  | zero => intro x2 x4 x5 s0 H locs ls h; exact nomatch (show (none : Option (Int64 × (St × (St) × (St × (St))))) = some r from h)
  | succ k ih => exact dB_X2_evaluate_13 C K ih
set_option maxHeartbeats 40000000 in
set_option maxRecDepth 100000 in
theorem db_X2_evaluate_0 {p : Program} {l : Launch} {e : Env} {s : State} {m : MethodId} {args : Array Value} {below : List Frame} {meth : Method} {c : Code} {Q : State → Prop} {A : Nat → Prop} {dC : Nat → ClassId} {dI : Nat → Nat → Nat} {a : Nat → Nat} {ac : Nat → ClassId} {n : Nat} {r : Int64 × (St × (St) × (St × (St)))} (C : nd_C p l s m args c A (dC, dI) cX2_evaluate 8 RX2 ow_dm_X2_evaluate (dk_X2m ac)) (K : nd_Kl p l e (headSpec ow_dm_X2_evaluate ({ frames := 3, cells := 0, slots := 0, locals := 75 })).room s m args below meth c Q A (dC, dI) cX2_evaluate (St × (St) × (St × (St))) (dw_X2m a ac) r) : dj_X2_evaluate_0 p l e s m args below meth c Q A dC dI a ac (df_X2_evaluate_0 n) r := by
  obtain ⟨hlt, hx, hb, hml, hown, hts, hN, hA, hK⟩ := id C
  intro v1 v2 v3 s0 H locs ls h hP hD hS hl
  unfold df_X2_evaluate_0 at h
  refine lv_aload_n hx hb dX2_evaluate_0 rfl (lv_at hl 0 rfl) ?_
  refine lv_iconst (v := 0) hx hb dX2_evaluate_1 (by decide) ?_
  refine va_put (D := (dC, dI)) (ci := 3) (v := .int 0) (ty := .boolean) (C := RX2) (T := TX2) (N := 20) hx hb hts hi_dm_X2_evaluate_X2 tyX2 tyX2_ok nmX2 hown hK hP hD hS 0 rfl rfl 11 (by decide) (hts (.fieldLink RX2 199 "TimeMachine$Condition" "failed" "Z") (List.mem_of_getElem? (i := 1) rfl)) (fun _ h9 => h9) rfl (by decide +kernel) (by first | rfl | decide) rfl (Nat.le_of_ble_eq_true rfl) dX2_evaluate_2 (fun H locs hP hD hS => ?_)
  obtain ⟨s1, es1, h⟩ := nd_let_e h
  have hP : va_P (dC, dI) vwCl (dw_X2m a ac s1) H := by rw [es1]; exact hP
  have hD : va_D A (dw_X2m a ac s1) := by rw [es1]; exact hD
  refine lv_aload_n hx hb dX2_evaluate_5 rfl (lv_at hl 0 rfl) ?_
  refine lv_iconst (v := 0) hx hb dX2_evaluate_6 (by decide) ?_
  refine va_put (D := (dC, dI)) (ci := 3) (v := .int 0) (ty := .int) (C := RX2) (T := TX2) (N := 20) hx hb hts hi_dm_X2_evaluate_X2 tyX2 tyX2_ok nmX2 hown hK hP hD hS 0 rfl rfl 4 (by decide) (hts (.fieldLink RX2 55 "TimeMachine$Condition" "top" "I") (List.mem_of_getElem? (i := 2) rfl)) (fun _ h9 => h9) rfl (by decide +kernel) rfl rfl (Nat.le_of_ble_eq_true rfl) dX2_evaluate_7 (fun H locs hP hD hS => ?_)
  obtain ⟨s2, es2, h⟩ := nd_let_e h
  have hP : va_P (dC, dI) vwCl (dw_X2m a ac s2) H := by rw [es2]; exact hP
  have hD : va_D A (dw_X2m a ac s2) := by rw [es2]; exact hD
  refine lv_iload_n hx hb dX2_evaluate_10 rfl (lv_at hl 3 rfl) ?_
  refine lv_istore (lv' := [(5, .int v2), (0, .ref (a 0)), (1, .ref (a 9)), (2, .int v1), (3, .int v2), (4, .int v3)]) hx hb dX2_evaluate_11 hl (by decide) rfl (fun ls hl => ?_)
  exact (db_X2_evaluate_13 C K n) (v1) (v3) (v2) s2 _ _ _ h hP hD hS (lv_sub hl [1, 2, 3, 5, 0] rfl)
set_option maxHeartbeats 40000000 in
set_option maxRecDepth 100000 in
theorem dm_X2_evaluate (l : Launch) (hlt : l.stackTraces = false) (dC : Nat → ClassId) (dI : Nat → Nat → Nat) (a : Nat → Nat) (ac : Nat → ClassId) (n : Nat) (v1 : Int32) (v2 : Int32) (v3 : Int32) (s0 : St × (St) × (St × (St))) {r : Int64 × (St × (St) × (St × (St)))} (h : df_X2_evaluate n v1 v2 v3 s0 = some r) (sz : Nat) : Met l yX2_evaluate ow_dm_X2_evaluate ({ frames := 3, cells := 0, slots := 0, locals := 75 }) (va_Pc [.ref (a 0), .ref (a 9), .int v1, .int v2, .int v3] (fun U => U.heap.size = sz ∧ va_P (dC, dI) vwCl (dw_X2m a ac s0) U.heap ∧ va_K (dC, dI) vwCl (dk_X2m ac) U ∧ va_D (fun _ => True) (dw_X2m a ac s0) ∧ nv_E (va_A (dw_X2m a ac s0) sz) U)) (va_Ql (fun x _ => x = r.1) (fun (_ : Unit) t => va_P (dC, dI) vwCl (dw_X2m a ac r.2) t.heap ∧ va_K (dC, dI) vwCl (dk_X2m ac) t ∧ va_D (va_A (dw_X2m a ac s0) sz) (dw_X2m a ac r.2)) (va_A (dw_X2m a ac s0) sz)) 0 0 (va_A (dw_X2m a ac s0) sz) := by
  refine Met.ofW (cc := cX2_evaluate) (maxL := 8) (ret := (some .long)) (by decide) rfl ?_
  intro p e s m args below meth c s₁ B hml hv
  obtain ⟨rfl, hsz, hP, hK, hD0, hN⟩ := hv
  have hx := B.exec
  have hb := B.bytes
  have hr := B.returns
  have hts := atoms_spec (ws := ow_dm_X2_evaluate) B.pre
  have hown : s.vm.findClass RX2 = some m.cls := findClass_of_methodNamed B.named
  have hlocks := B.notSynchronized
  subst hsz
  have hD := hD0.self (sz := s.heap.size)
  generalize hAe : va_A (dw_X2m a ac s0) s.heap.size = A at hD hN ⊢
  have hA : ∀ q : Nat, s.heap.size ≤ q → A q := fun q h => by rw [← hAe]; exact Or.inr h
  have hl := lv_entry ([.ref (a 0), .ref (a 9), .int v1, .int v2, .int v3]) (n := 8) (Nat.le_of_ble_eq_true rfl)
  rw [lg_entry_eq]
  generalize (lg_sl ([.ref (a 0), .ref (a 9), .int v1, .int v2, .int v3]) ++ List.replicate (8 - (lg_sl ([.ref (a 0), .ref (a 9), .int v1, .int v2, .int v3])).length) Slot.unset).toArray = ls at hl ⊢
  have hl : lv_has ls 8 [(0, .ref (a 0)), (1, .ref (a 9)), (2, .int v1), (3, .int v2), (4, .int v3)] := hl
  exact db_X2_evaluate_0 (dC := dC) (dI := dI) (a := a) (ac := ac) (n := n) (r := r) ⟨hlt, hx, hb, hml, hown, hts, hN, hA, hK⟩ (fun pc v τ H locs ls d er hP hD hS => by subst er; exact W.lret (v := v) hx hb hr (fun t ht hW => ⟨⟨v, (), rfl, rfl, by rw [ht]; exact hP, va_K.moved hW.alike hK, hD⟩, hS.F ht⟩) hS.2.2 d) v1 v2 v3 s0 _ _ _ h hP hD va_S.rf (lv_sub hl [0, 1, 2, 3, 4] rfl)
def ow_dm_X2_worth : List Cond := .code yX2_worth cX2_worth 5 (some .long) :: ([.fieldLink RX2 52 "TimeMachine$Condition" "codes" "I", .methodLink RX2 195 yX2_evaluate, .instanceMethod yX2_evaluate, .selects RX2 yX2_evaluate yX2_evaluate, .initialized RX2, .fieldLink RX2 199 "TimeMachine$Condition" "failed" "Z"] ++ (u_ws RX2 TX2 20 ++ (ow_dm_X2_evaluate ++ [])))
theorem gd_dm_X2_worth : ∀ w ∈ ow_dm_X2_worth, (w.onTables && w.keeps) = true ∨ ∃ ty, w = Cond.arrayClass ty := List.forall_mem_cons.mpr ⟨good_of_word rfl, List.forall_mem_append.mpr ⟨fun w h => good_of_word (List.all_eq_true.mp (by decide +kernel) w h), List.forall_mem_append.mpr ⟨gu_X2, List.forall_mem_append.mpr ⟨gd_dm_X2_evaluate, fun _ h => nomatch h⟩⟩⟩⟩
theorem hi_dm_X2_worth_X2 : ∀ w ∈ u_ws RX2 TX2 20, w ∈ ow_dm_X2_worth := fun w h => List.mem_cons_of_mem _ (List.mem_append_right _ (List.mem_append_left _ h))
theorem gi_dm_X2_worth_0 : GoodIn ow_dm_X2_worth (wsV RX2 195 RX2 yX2_evaluate ow_dm_X2_evaluate) := goodIn_app (goodIn_of _ (by decide +kernel)) (fun w h => ⟨List.mem_cons_of_mem _ (List.mem_append_right _ (List.mem_append_right _ (List.mem_append_left _ h))), gd_dm_X2_evaluate w h⟩)
def dj_X2_worth_24 (p : Program) (l : Launch) (e : Env) (s : State) (m : MethodId) (args : Array Value) (below : List Frame) (meth : Method) (c : Code) (Q : State → Prop) (A : Nat → Prop) (dC : Nat → ClassId) (dI : Nat → Nat → Nat) (a : Nat → Nat) (ac : Nat → ClassId) (g : Int64 → (St × (St) × (St × (St))) → Option (Int64 × (St × (St) × (St × (St))))) (r : Int64 × (St × (St) × (St × (St)))) : Prop := ∀ (y0 : Int64) (s0 : St × (St) × (St × (St))) (H : Heap) (locs : List Loc) (ls : Array Slot), g y0 s0 = some r → va_P (dC, dI) vwCl (dw_X2m a ac s0) H → va_D A (dw_X2m a ac s0) → va_S A s.heap H locs → lv_has ls 5 [] → W p l e (headSpec ow_dm_X2_worth ({ frames := 4, cells := 0, slots := 0, locals := 102 })).room s m args below meth c H locs 0 0 Q (F0 m 24 ls [.long y0])
def dj_X2_worth_0 (p : Program) (l : Launch) (e : Env) (s : State) (m : MethodId) (args : Array Value) (below : List Frame) (meth : Method) (c : Code) (Q : State → Prop) (A : Nat → Prop) (dC : Nat → ClassId) (dI : Nat → Nat → Nat) (a : Nat → Nat) (ac : Nat → ClassId) (g : Int32 → (St × (St) × (St × (St))) → Option (Int64 × (St × (St) × (St × (St))))) (r : Int64 × (St × (St) × (St × (St)))) : Prop := ∀ (v1 : Int32) (s0 : St × (St) × (St × (St))) (H : Heap) (locs : List Loc) (ls : Array Slot), g v1 s0 = some r → va_P (dC, dI) vwCl (dw_X2m a ac s0) H → va_D A (dw_X2m a ac s0) → va_S A s.heap H locs → lv_has ls 5 [(0, .ref (a 0)), (1, .ref (a 9)), (2, .int v1)] → W p l e (headSpec ow_dm_X2_worth ({ frames := 4, cells := 0, slots := 0, locals := 102 })).room s m args below meth c H locs 0 0 Q (F0 m 0 ls [])
set_option maxHeartbeats 40000000 in
set_option maxRecDepth 100000 in
theorem db_X2_worth_24 {p : Program} {l : Launch} {e : Env} {s : State} {m : MethodId} {args : Array Value} {below : List Frame} {meth : Method} {c : Code} {Q : State → Prop} {A : Nat → Prop} {dC : Nat → ClassId} {dI : Nat → Nat → Nat} {a : Nat → Nat} {ac : Nat → ClassId} {n : Nat} {r : Int64 × (St × (St) × (St × (St)))} (C : nd_C p l s m args c A (dC, dI) cX2_worth 5 RX2 ow_dm_X2_worth (dk_X2m ac)) (K : nd_Kl p l e (headSpec ow_dm_X2_worth ({ frames := 4, cells := 0, slots := 0, locals := 102 })).room s m args below meth c Q A (dC, dI) cX2_worth (St × (St) × (St × (St))) (dw_X2m a ac) r) : dj_X2_worth_24 p l e s m args below meth c Q A dC dI a ac (df_X2_worth_24 n) r := by
  obtain ⟨hlt, hx, hb, hml, hown, hts, hN, hA, hK⟩ := id C
  intro y0 s0 H locs ls h hP hD hS hl
  unfold df_X2_worth_24 at h
  exact K _ _ _ _ _ _ dX2_worth_24 (Option.some.inj h).symm hP hD hS
set_option maxHeartbeats 40000000 in
set_option maxRecDepth 100000 in
theorem db_X2_worth_0 {p : Program} {l : Launch} {e : Env} {s : State} {m : MethodId} {args : Array Value} {below : List Frame} {meth : Method} {c : Code} {Q : State → Prop} {A : Nat → Prop} {dC : Nat → ClassId} {dI : Nat → Nat → Nat} {a : Nat → Nat} {ac : Nat → ClassId} {n : Nat} {r : Int64 × (St × (St) × (St × (St)))} (C : nd_C p l s m args c A (dC, dI) cX2_worth 5 RX2 ow_dm_X2_worth (dk_X2m ac)) (K : nd_Kl p l e (headSpec ow_dm_X2_worth ({ frames := 4, cells := 0, slots := 0, locals := 102 })).room s m args below meth c Q A (dC, dI) cX2_worth (St × (St) × (St × (St))) (dw_X2m a ac) r) : dj_X2_worth_0 p l e s m args below meth c Q A dC dI a ac (df_X2_worth_0 n) r := by
  obtain ⟨hlt, hx, hb, hml, hown, hts, hN, hA, hK⟩ := id C
  intro v1 s0 H locs ls h hP hD hS hl
  unfold df_X2_worth_0 at h
  refine lv_aload_n hx hb dX2_worth_0 rfl (lv_at hl 0 rfl) ?_
  refine lv_aload_n hx hb dX2_worth_1 rfl (lv_at hl 1 rfl) ?_
  refine lv_iload_n hx hb dX2_worth_2 rfl (lv_at hl 2 rfl) ?_
  refine lv_iconst (v := 0) hx hb dX2_worth_3 (by decide) ?_
  refine lv_aload_n hx hb dX2_worth_4 rfl (lv_at hl 0 rfl) ?_
  refine va_get (D := (dC, dI)) (ci := 3) (v := .int (sI s0.2.1 0)) (C := RX2) (T := TX2) (N := 20) hx hb hts hi_dm_X2_worth_X2 hown hK hP 0 rfl rfl 2 (by decide) (hts (.fieldLink RX2 52 "TimeMachine$Condition" "codes" "I") (List.mem_of_getElem? (i := 1) rfl)) (fun _ h9 => h9) rfl dX2_worth_5 ?_
  obtain ⟨q1, s2, hq, h⟩ := nd_b2_e h
  have hPc := hP
  have hDc := hD
  have hKc := hK
  have hFc := nd_rs hD hS hA
  refine nd_cVl (As := [.ref (a 9), .int v1, .int 0, .int (sI s0.2.1 0)]) (rest := []) (q := q1) (w' := dw_X2m a ac s2) ⟨hx, hb, hml, hown, hts⟩ (fun sz => dm_X2_evaluate l hlt dC dI a ac n (v1) (0) ((sI s0.2.1 0)) s0 hq sz) (cwV 4 hts gi_dm_X2_worth_0 rfl rfl rfl (by decide +kernel) ⟨Nat.le_of_ble_eq_true rfl, Nat.le_of_ble_eq_true rfl⟩) hPc hDc hKc hS hA hN (va_recv hKc hPc (ci := 3) (q0 := 0) rfl rfl) rfl hl.1 rfl (Nat.le_of_ble_eq_true rfl) dX2_worth_8 (fun H locs hP1 hD1 hk1 hS => ?_)
  have hP := hP1
  have hD := hD1.weaken (fun k q _ h => hFc q.1 h)
  refine lv_lstore_n (lv' := [(3, .long q1), (0, .ref (a 0)), (1, .ref (a 9)), (2, .int v1)]) hx hb dX2_worth_11 rfl hl (by decide) rfl (fun ls hl => ?_)
  refine lv_aload_n hx hb dX2_worth_12 rfl (lv_at hl 1 rfl) ?_
  refine va_get (D := (dC, dI)) (ci := 3) (v := .int (sI s2.2.1 3)) (C := RX2) (T := TX2) (N := 20) hx hb hts hi_dm_X2_worth_X2 hown hK hP 0 rfl rfl 11 (by decide) (hts (.fieldLink RX2 199 "TimeMachine$Condition" "failed" "Z") (List.mem_of_getElem? (i := 6) rfl)) (fun _ h9 => h9) rfl dX2_worth_13 ?_
  refine lv_if_eq (tgt := 23) hx hb dX2_worth_16 (by decide) (fun c4 => ?_) (fun c4 => ?_)
  · have h := nd_pos h c4
    refine lv_lload_n hx hb dX2_worth_23 rfl (lv_at hl 0 rfl) ?_
    exact (db_X2_worth_24 C K) (q1) s2 _ _ _ h hP hD hS (lv_sub hl [] rfl)
  · have h := nd_neg h c4
    refine lv_lconst (v := 0) hx hb dX2_worth_19 (by decide) ?_
    refine lv_goto (tgt := 24) hx hb dX2_worth_20 (by decide) ?_
    exact (db_X2_worth_24 C K) (0) s2 _ _ _ h hP hD hS (lv_sub hl [] rfl)
set_option maxHeartbeats 40000000 in
set_option maxRecDepth 100000 in
theorem dm_X2_worth (l : Launch) (hlt : l.stackTraces = false) (dC : Nat → ClassId) (dI : Nat → Nat → Nat) (a : Nat → Nat) (ac : Nat → ClassId) (n : Nat) (v1 : Int32) (s0 : St × (St) × (St × (St))) {r : Int64 × (St × (St) × (St × (St)))} (h : df_X2_worth n v1 s0 = some r) (sz : Nat) : Met l yX2_worth ow_dm_X2_worth ({ frames := 4, cells := 0, slots := 0, locals := 102 }) (va_Pc [.ref (a 0), .ref (a 9), .int v1] (fun U => U.heap.size = sz ∧ va_P (dC, dI) vwCl (dw_X2m a ac s0) U.heap ∧ va_K (dC, dI) vwCl (dk_X2m ac) U ∧ va_D (fun _ => True) (dw_X2m a ac s0) ∧ nv_E (va_A (dw_X2m a ac s0) sz) U)) (va_Ql (fun x _ => x = r.1) (fun (_ : Unit) t => va_P (dC, dI) vwCl (dw_X2m a ac r.2) t.heap ∧ va_K (dC, dI) vwCl (dk_X2m ac) t ∧ va_D (va_A (dw_X2m a ac s0) sz) (dw_X2m a ac r.2)) (va_A (dw_X2m a ac s0) sz)) 0 0 (va_A (dw_X2m a ac s0) sz) := by
  refine Met.ofW (cc := cX2_worth) (maxL := 5) (ret := (some .long)) (by decide) rfl ?_
  intro p e s m args below meth c s₁ B hml hv
  obtain ⟨rfl, hsz, hP, hK, hD0, hN⟩ := hv
  have hx := B.exec
  have hb := B.bytes
  have hr := B.returns
  have hts := atoms_spec (ws := ow_dm_X2_worth) B.pre
  have hown : s.vm.findClass RX2 = some m.cls := findClass_of_methodNamed B.named
  have hlocks := B.notSynchronized
  subst hsz
  have hD := hD0.self (sz := s.heap.size)
  generalize hAe : va_A (dw_X2m a ac s0) s.heap.size = A at hD hN ⊢
  have hA : ∀ q : Nat, s.heap.size ≤ q → A q := fun q h => by rw [← hAe]; exact Or.inr h
  have hl := lv_entry ([.ref (a 0), .ref (a 9), .int v1]) (n := 5) (Nat.le_of_ble_eq_true rfl)
  rw [lg_entry_eq]
  generalize (lg_sl ([.ref (a 0), .ref (a 9), .int v1]) ++ List.replicate (5 - (lg_sl ([.ref (a 0), .ref (a 9), .int v1])).length) Slot.unset).toArray = ls at hl ⊢
  have hl : lv_has ls 5 [(0, .ref (a 0)), (1, .ref (a 9)), (2, .int v1)] := hl
  exact db_X2_worth_0 (dC := dC) (dI := dI) (a := a) (ac := ac) (n := n) (r := r) ⟨hlt, hx, hb, hml, hown, hts, hN, hA, hK⟩ (fun pc v τ H locs ls d er hP hD hS => by subst er; exact W.lret (v := v) hx hb hr (fun t ht hW => ⟨⟨v, (), rfl, rfl, by rw [ht]; exact hP, va_K.moved hW.alike hK, hD⟩, hS.F ht⟩) hS.2.2 d) v1 s0 _ _ _ h hP hD va_S.rf (lv_sub hl [0, 1, 2] rfl)
def ow_dm_X2_remember : List Cond := .code yX2_remember cX2_remember 6 none :: ([.fieldLink RX2 58 "TimeMachine$Condition" "olds" "I", .fieldLink RX2 26 "TimeMachine$Condition" "oldFrom" "[I", .fieldLink RX2 29 "TimeMachine$Condition" "oldTo" "[I", .methodLink RX2 195 yX2_evaluate, .instanceMethod yX2_evaluate, .selects RX2 yX2_evaluate yX2_evaluate, .initialized RX2, .fieldLink RX2 32 "TimeMachine$Condition" "oldValue" "[J", .fieldLink RX2 199 "TimeMachine$Condition" "failed" "Z"] ++ (u_ws RX2 TX2 20 ++ (ow_dm_X2_evaluate ++ [])))
theorem gd_dm_X2_remember : ∀ w ∈ ow_dm_X2_remember, (w.onTables && w.keeps) = true ∨ ∃ ty, w = Cond.arrayClass ty := List.forall_mem_cons.mpr ⟨good_of_word rfl, List.forall_mem_append.mpr ⟨fun w h => good_of_word (List.all_eq_true.mp (by decide +kernel) w h), List.forall_mem_append.mpr ⟨gu_X2, List.forall_mem_append.mpr ⟨gd_dm_X2_evaluate, fun _ h => nomatch h⟩⟩⟩⟩
theorem hi_dm_X2_remember_X2 : ∀ w ∈ u_ws RX2 TX2 20, w ∈ ow_dm_X2_remember := fun w h => List.mem_cons_of_mem _ (List.mem_append_right _ (List.mem_append_left _ h))
theorem gi_dm_X2_remember_0 : GoodIn ow_dm_X2_remember (wsV RX2 195 RX2 yX2_evaluate ow_dm_X2_evaluate) := goodIn_app (goodIn_of _ (by decide +kernel)) (fun w h => ⟨List.mem_cons_of_mem _ (List.mem_append_right _ (List.mem_append_right _ (List.mem_append_left _ h))), gd_dm_X2_evaluate w h⟩)
def dj_X2_remember_48 (p : Program) (l : Launch) (e : Env) (s : State) (m : MethodId) (args : Array Value) (below : List Frame) (meth : Method) (c : Code) (Q : State → Prop) (A : Nat → Prop) (dC : Nat → ClassId) (dI : Nat → Nat → Nat) (a : Nat → Nat) (ac : Nat → ClassId) (g : Int32 → Int32 → Int32 → Int64 → (St × (St) × (St × (St))) → Option (St × (St) × (St × (St)))) (r : St × (St) × (St × (St))) : Prop := ∀ (x2 : Int32) (x3 : Int32) (y1 : Int32) (y2 : Int64) (s0 : St × (St) × (St × (St))) (H : Heap) (locs : List Loc) (ls : Array Slot), g x2 x3 y1 y2 s0 = some r → va_P (dC, dI) vwCl (dw_X2m a ac s0) H → va_D A (dw_X2m a ac s0) → va_S A s.heap H locs → lv_has ls 6 [(0, .ref (a 0)), (1, .ref (a 9)), (2, .int x2), (3, .int x3)] → W p l e (headSpec ow_dm_X2_remember ({ frames := 4, cells := 0, slots := 0, locals := 102 })).room s m args below meth c H locs 0 0 Q (F0 m 48 ls [.long y2, .int y1, .ref (a 8)])
def dj_X2_remember_2 (p : Program) (l : Launch) (e : Env) (s : State) (m : MethodId) (args : Array Value) (below : List Frame) (meth : Method) (c : Code) (Q : State → Prop) (A : Nat → Prop) (dC : Nat → ClassId) (dI : Nat → Nat → Nat) (a : Nat → Nat) (ac : Nat → ClassId) (g : Int32 → Int32 → (St × (St) × (St × (St))) → Option (St × (St) × (St × (St)))) (r : St × (St) × (St × (St))) : Prop := ∀ (x2 : Int32) (x3 : Int32) (s0 : St × (St) × (St × (St))) (H : Heap) (locs : List Loc) (ls : Array Slot), g x2 x3 s0 = some r → va_P (dC, dI) vwCl (dw_X2m a ac s0) H → va_D A (dw_X2m a ac s0) → va_S A s.heap H locs → lv_has ls 6 [(0, .ref (a 0)), (1, .ref (a 9)), (2, .int x2), (3, .int x3)] → W p l e (headSpec ow_dm_X2_remember ({ frames := 4, cells := 0, slots := 0, locals := 102 })).room s m args below meth c H locs 0 0 Q (F0 m 2 ls [])
def dj_X2_remember_0 (p : Program) (l : Launch) (e : Env) (s : State) (m : MethodId) (args : Array Value) (below : List Frame) (meth : Method) (c : Code) (Q : State → Prop) (A : Nat → Prop) (dC : Nat → ClassId) (dI : Nat → Nat → Nat) (a : Nat → Nat) (ac : Nat → ClassId) (g : Int32 → (St × (St) × (St × (St))) → Option (St × (St) × (St × (St)))) (r : St × (St) × (St × (St))) : Prop := ∀ (v1 : Int32) (s0 : St × (St) × (St × (St))) (H : Heap) (locs : List Loc) (ls : Array Slot), g v1 s0 = some r → va_P (dC, dI) vwCl (dw_X2m a ac s0) H → va_D A (dw_X2m a ac s0) → va_S A s.heap H locs → lv_has ls 6 [(0, .ref (a 0)), (1, .ref (a 9)), (2, .int v1)] → W p l e (headSpec ow_dm_X2_remember ({ frames := 4, cells := 0, slots := 0, locals := 102 })).room s m args below meth c H locs 0 0 Q (F0 m 0 ls [])
set_option maxHeartbeats 40000000 in
set_option maxRecDepth 100000 in
theorem db_X2_remember_48 {p : Program} {l : Launch} {e : Env} {s : State} {m : MethodId} {args : Array Value} {below : List Frame} {meth : Method} {c : Code} {Q : State → Prop} {A : Nat → Prop} {dC : Nat → ClassId} {dI : Nat → Nat → Nat} {a : Nat → Nat} {ac : Nat → ClassId} {n : Nat} {r : St × (St) × (St × (St))} (C : nd_C p l s m args c A (dC, dI) cX2_remember 6 RX2 ow_dm_X2_remember (dk_X2m ac)) (K : nd_Kv p l e (headSpec ow_dm_X2_remember ({ frames := 4, cells := 0, slots := 0, locals := 102 })).room s m args below meth c Q A (dC, dI) cX2_remember (St × (St) × (St × (St))) (dw_X2m a ac) r) {g2 : Int32 → Int32 → (St × (St) × (St × (St))) → Option (St × (St) × (St × (St)))} (J2 : dj_X2_remember_2 p l e s m args below meth c Q A dC dI a ac g2 r) : dj_X2_remember_48 p l e s m args below meth c Q A dC dI a ac (df_X2_remember_48 n g2) r := by
  obtain ⟨hlt, hx, hb, hml, hown, hts, hN, hA, hK⟩ := id C
  intro x2 x3 y1 y2 s0 H locs ls h hP hD hS hl
  unfold df_X2_remember_48 at h
  obtain ⟨i8, h⟩ := nd_ck_e h
  refine va_last (i := y1) (x := y2) hx hb hK hP hD hS 8 7 rfl rfl i8 dX2_remember_48 (fun H locs hP hD hS => ?_)
  obtain ⟨s9, es9, h⟩ := nd_let_e h
  have hP : va_P (dC, dI) vwCl (dw_X2m a ac s9) H := by rw [es9]; exact hP
  have hD : va_D A (dw_X2m a ac s9) := by rw [es9]; exact hD
  obtain ⟨z10, ez10, h⟩ := nd_let_e h
  refine lv_iinc (v := z10) (lv' := [(3, .int z10), (0, .ref (a 0)), (1, .ref (a 9)), (2, .int x2)]) hx hb dX2_remember_49 hl (k := 3) rfl (by rw [ez10]) (by decide) rfl (fun ls hl => ?_)
  refine lv_goto (tgt := 2) hx hb dX2_remember_52 (by decide) ?_
  exact (J2) (x2) (z10) s9 _ _ _ h hP hD hS (lv_sub hl [1, 2, 3, 0] rfl)
set_option maxHeartbeats 40000000 in
set_option maxRecDepth 100000 in
theorem dB_X2_remember_2 {p : Program} {l : Launch} {e : Env} {s : State} {m : MethodId} {args : Array Value} {below : List Frame} {meth : Method} {c : Code} {Q : State → Prop} {A : Nat → Prop} {dC : Nat → ClassId} {dI : Nat → Nat → Nat} {a : Nat → Nat} {ac : Nat → ClassId} {n : Nat} {r : St × (St) × (St × (St))} (C : nd_C p l s m args c A (dC, dI) cX2_remember 6 RX2 ow_dm_X2_remember (dk_X2m ac)) (K : nd_Kv p l e (headSpec ow_dm_X2_remember ({ frames := 4, cells := 0, slots := 0, locals := 102 })).room s m args below meth c Q A (dC, dI) cX2_remember (St × (St) × (St × (St))) (dw_X2m a ac) r) {g2 : Int32 → Int32 → (St × (St) × (St × (St))) → Option (St × (St) × (St × (St)))} (J2 : dj_X2_remember_2 p l e s m args below meth c Q A dC dI a ac g2 r) : dj_X2_remember_2 p l e s m args below meth c Q A dC dI a ac (dF_X2_remember_2 n g2) r := by
  obtain ⟨hlt, hx, hb, hml, hown, hts, hN, hA, hK⟩ := id C
  intro x2 x3 s0 H locs ls h hP hD hS hl
  unfold dF_X2_remember_2 at h
  refine lv_iload_n hx hb dX2_remember_2 rfl (lv_at hl 3 rfl) ?_
  refine lv_aload_n hx hb dX2_remember_3 rfl (lv_at hl 0 rfl) ?_
  refine va_get (D := (dC, dI)) (ci := 3) (v := .int (sI s0.2.1 2)) (C := RX2) (T := TX2) (N := 20) hx hb hts hi_dm_X2_remember_X2 hown hK hP 0 rfl rfl 10 (by decide) (hts (.fieldLink RX2 58 "TimeMachine$Condition" "olds" "I") (List.mem_of_getElem? (i := 1) rfl)) (fun _ h9 => h9) rfl dX2_remember_4 ?_
  refine lv_icmp_ge (tgt := 55) hx hb dX2_remember_7 (by decide) (fun c1 => ?_) (fun c1 => ?_)
  · have h := nd_pos h c1
    exact K _ _ _ _ _ dX2_remember_55 (Option.some.inj h).symm hP hD hS
  · have h := nd_neg h c1
    refine lv_aload_n hx hb dX2_remember_10 rfl (lv_at hl 0 rfl) ?_
    refine lv_aload_n hx hb dX2_remember_11 rfl (lv_at hl 1 rfl) ?_
    refine lv_iload_n hx hb dX2_remember_12 rfl (lv_at hl 2 rfl) ?_
    refine lv_aload_n hx hb dX2_remember_13 rfl (lv_at hl 0 rfl) ?_
    refine va_get (D := (dC, dI)) (ci := 3) (v := .ref (a 6)) (C := RX2) (T := TX2) (N := 20) hx hb hts hi_dm_X2_remember_X2 hown hK hP 0 rfl rfl 7 (by decide) (hts (.fieldLink RX2 26 "TimeMachine$Condition" "oldFrom" "[I") (List.mem_of_getElem? (i := 2) rfl)) (fun _ h9 => h9) rfl dX2_remember_14 ?_
    refine lv_iload_n hx hb dX2_remember_17 rfl (lv_at hl 3 rfl) ?_
    obtain ⟨i2, h⟩ := nd_ck_e h
    refine va_iald (i := x3) hx hb hK hP 6 5 rfl rfl i2 dX2_remember_18 ?_
    refine lv_aload_n hx hb dX2_remember_19 rfl (lv_at hl 0 rfl) ?_
    refine va_get (D := (dC, dI)) (ci := 3) (v := .ref (a 7)) (C := RX2) (T := TX2) (N := 20) hx hb hts hi_dm_X2_remember_X2 hown hK hP 0 rfl rfl 8 (by decide) (hts (.fieldLink RX2 29 "TimeMachine$Condition" "oldTo" "[I") (List.mem_of_getElem? (i := 3) rfl)) (fun _ h9 => h9) rfl dX2_remember_20 ?_
    refine lv_iload_n hx hb dX2_remember_23 rfl (lv_at hl 3 rfl) ?_
    obtain ⟨i3, h⟩ := nd_ck_e h
    refine va_iald (i := x3) hx hb hK hP 7 6 rfl rfl i3 dX2_remember_24 ?_
    obtain ⟨q4, s5, hq, h⟩ := nd_b2_e h
    have hPc := hP
    have hDc := hD
    have hKc := hK
    have hFc := nd_rs hD hS hA
    refine nd_cVl (As := [.ref (a 9), .int x2, .int (sR s0.2.1 3 (Int32.toNatClampNeg x3)), .int (sR s0.2.1 4 (Int32.toNatClampNeg x3))]) (rest := []) (q := q4) (w' := dw_X2m a ac s5) ⟨hx, hb, hml, hown, hts⟩ (fun sz => dm_X2_evaluate l hlt dC dI a ac n (x2) ((sR s0.2.1 3 (Int32.toNatClampNeg x3))) ((sR s0.2.1 4 (Int32.toNatClampNeg x3))) s0 hq sz) (cwV 4 hts gi_dm_X2_remember_0 rfl rfl rfl (by decide +kernel) ⟨Nat.le_of_ble_eq_true rfl, Nat.le_of_ble_eq_true rfl⟩) hPc hDc hKc hS hA hN (va_recv hKc hPc (ci := 3) (q0 := 0) rfl rfl) rfl hl.1 rfl (Nat.le_of_ble_eq_true rfl) dX2_remember_25 (fun H locs hP1 hD1 hk1 hS => ?_)
    have hP := hP1
    have hD := hD1.weaken (fun k q _ h => hFc q.1 h)
    refine lv_lstore (lv' := [(4, .long q4), (0, .ref (a 0)), (1, .ref (a 9)), (2, .int x2), (3, .int x3)]) hx hb dX2_remember_28 hl (by decide) rfl (fun ls hl => ?_)
    refine lv_aload_n hx hb dX2_remember_30 rfl (lv_at hl 1 rfl) ?_
    refine va_get (D := (dC, dI)) (ci := 3) (v := .ref (a 8)) (C := RX2) (T := TX2) (N := 20) hx hb hts hi_dm_X2_remember_X2 hown hK hP 0 rfl rfl 9 (by decide) (hts (.fieldLink RX2 32 "TimeMachine$Condition" "oldValue" "[J") (List.mem_of_getElem? (i := 8) rfl)) (fun _ h9 => h9) rfl dX2_remember_31 ?_
    refine lv_iload_n hx hb dX2_remember_34 rfl (lv_at hl 4 rfl) ?_
    refine lv_aload_n hx hb dX2_remember_35 rfl (lv_at hl 1 rfl) ?_
    refine va_get (D := (dC, dI)) (ci := 3) (v := .int (sI s5.2.1 3)) (C := RX2) (T := TX2) (N := 20) hx hb hts hi_dm_X2_remember_X2 hown hK hP 0 rfl rfl 11 (by decide) (hts (.fieldLink RX2 199 "TimeMachine$Condition" "failed" "Z") (List.mem_of_getElem? (i := 9) rfl)) (fun _ h9 => h9) rfl dX2_remember_36 ?_
    refine lv_if_eq (tgt := 46) hx hb dX2_remember_39 (by decide) (fun c7 => ?_) (fun c7 => ?_)
    · have h := nd_pos h c7
      refine lv_lload hx hb dX2_remember_46 (lv_at hl 0 rfl) ?_
      exact (db_X2_remember_48 C K J2) (x2) (x3) (x3) (q4) s5 _ _ _ h hP hD hS (lv_sub hl [1, 2, 3, 4] rfl)
    · have h := nd_neg h c7
      refine lv_lconst (v := 0) hx hb dX2_remember_42 (by decide) ?_
      refine lv_goto (tgt := 48) hx hb dX2_remember_43 (by decide) ?_
      exact (db_X2_remember_48 C K J2) (x2) (x3) (x3) (0) s5 _ _ _ h hP hD hS (lv_sub hl [1, 2, 3, 4] rfl)
set_option maxHeartbeats 40000000 in
set_option maxRecDepth 100000 in
theorem db_X2_remember_2 {p : Program} {l : Launch} {e : Env} {s : State} {m : MethodId} {args : Array Value} {below : List Frame} {meth : Method} {c : Code} {Q : State → Prop} {A : Nat → Prop} {dC : Nat → ClassId} {dI : Nat → Nat → Nat} {a : Nat → Nat} {ac : Nat → ClassId} {n : Nat} {r : St × (St) × (St × (St))} (C : nd_C p l s m args c A (dC, dI) cX2_remember 6 RX2 ow_dm_X2_remember (dk_X2m ac)) (K : nd_Kv p l e (headSpec ow_dm_X2_remember ({ frames := 4, cells := 0, slots := 0, locals := 102 })).room s m args below meth c Q A (dC, dI) cX2_remember (St × (St) × (St × (St))) (dw_X2m a ac) r) (k : Nat) : dj_X2_remember_2 p l e s m args below meth c Q A dC dI a ac (df_X2_remember_2 n k) r := by
  induction k with
  | zero => intro x2 x3 s0 H locs ls h; exact nomatch (show (none : Option (St × (St) × (St × (St)))) = some r from h)
  | succ k ih => exact dB_X2_remember_2 C K ih
set_option maxHeartbeats 40000000 in
set_option maxRecDepth 100000 in
theorem db_X2_remember_0 {p : Program} {l : Launch} {e : Env} {s : State} {m : MethodId} {args : Array Value} {below : List Frame} {meth : Method} {c : Code} {Q : State → Prop} {A : Nat → Prop} {dC : Nat → ClassId} {dI : Nat → Nat → Nat} {a : Nat → Nat} {ac : Nat → ClassId} {n : Nat} {r : St × (St) × (St × (St))} (C : nd_C p l s m args c A (dC, dI) cX2_remember 6 RX2 ow_dm_X2_remember (dk_X2m ac)) (K : nd_Kv p l e (headSpec ow_dm_X2_remember ({ frames := 4, cells := 0, slots := 0, locals := 102 })).room s m args below meth c Q A (dC, dI) cX2_remember (St × (St) × (St × (St))) (dw_X2m a ac) r) : dj_X2_remember_0 p l e s m args below meth c Q A dC dI a ac (df_X2_remember_0 n) r := by
  obtain ⟨hlt, hx, hb, hml, hown, hts, hN, hA, hK⟩ := id C
  intro v1 s0 H locs ls h hP hD hS hl
  unfold df_X2_remember_0 at h
  refine lv_iconst (v := 0) hx hb dX2_remember_0 (by decide) ?_
  refine lv_istore_n (lv' := [(3, .int 0), (0, .ref (a 0)), (1, .ref (a 9)), (2, .int v1)]) hx hb dX2_remember_1 rfl hl (by decide) rfl (fun ls hl => ?_)
  exact (db_X2_remember_2 C K n) (v1) (0) s0 _ _ _ h hP hD hS (lv_sub hl [1, 2, 3, 0] rfl)
set_option maxHeartbeats 40000000 in
set_option maxRecDepth 100000 in
theorem dm_X2_remember (l : Launch) (hlt : l.stackTraces = false) (dC : Nat → ClassId) (dI : Nat → Nat → Nat) (a : Nat → Nat) (ac : Nat → ClassId) (n : Nat) (v1 : Int32) (s0 : St × (St) × (St × (St))) {r : St × (St) × (St × (St))} (h : df_X2_remember n v1 s0 = some r) (sz : Nat) : Met l yX2_remember ow_dm_X2_remember ({ frames := 4, cells := 0, slots := 0, locals := 102 }) (va_Pc [.ref (a 0), .ref (a 9), .int v1] (fun U => U.heap.size = sz ∧ va_P (dC, dI) vwCl (dw_X2m a ac s0) U.heap ∧ va_K (dC, dI) vwCl (dk_X2m ac) U ∧ va_D (fun _ => True) (dw_X2m a ac s0) ∧ nv_E (va_A (dw_X2m a ac s0) sz) U)) (va_Qv (fun _ => True) (fun (_ : Unit) t => va_P (dC, dI) vwCl (dw_X2m a ac r) t.heap ∧ va_K (dC, dI) vwCl (dk_X2m ac) t ∧ va_D (va_A (dw_X2m a ac s0) sz) (dw_X2m a ac r)) (va_A (dw_X2m a ac s0) sz)) 0 0 (va_A (dw_X2m a ac s0) sz) := by
  refine Met.ofW (cc := cX2_remember) (maxL := 6) (ret := none) (by decide) rfl ?_
  intro p e s m args below meth c s₁ B hml hv
  obtain ⟨rfl, hsz, hP, hK, hD0, hN⟩ := hv
  have hx := B.exec
  have hb := B.bytes
  have hr := B.returns
  have hts := atoms_spec (ws := ow_dm_X2_remember) B.pre
  have hown : s.vm.findClass RX2 = some m.cls := findClass_of_methodNamed B.named
  have hlocks := B.notSynchronized
  subst hsz
  have hD := hD0.self (sz := s.heap.size)
  generalize hAe : va_A (dw_X2m a ac s0) s.heap.size = A at hD hN ⊢
  have hA : ∀ q : Nat, s.heap.size ≤ q → A q := fun q h => by rw [← hAe]; exact Or.inr h
  have hl := lv_entry ([.ref (a 0), .ref (a 9), .int v1]) (n := 6) (Nat.le_of_ble_eq_true rfl)
  rw [lg_entry_eq]
  generalize (lg_sl ([.ref (a 0), .ref (a 9), .int v1]) ++ List.replicate (6 - (lg_sl ([.ref (a 0), .ref (a 9), .int v1])).length) Slot.unset).toArray = ls at hl ⊢
  have hl : lv_has ls 6 [(0, .ref (a 0)), (1, .ref (a 9)), (2, .int v1)] := hl
  exact db_X2_remember_0 (dC := dC) (dI := dI) (a := a) (ac := ac) (n := n) (r := r) ⟨hlt, hx, hb, hml, hown, hts, hN, hA, hK⟩ (fun pc τ H locs ls d er hP hD hS => by subst er; exact W.vret hx hb hr (fun t ht hW => ⟨⟨(), rfl, trivial, by rw [ht]; exact hP, va_K.moved hW.alike hK, hD⟩, hS.F ht⟩) hS.2.2 d) v1 s0 _ _ _ h hP hD va_S.rf (lv_sub hl [0, 1, 2] rfl)
def ow_dm_X5_argument : List Cond := .code yX5_argument cX5_argument 3 (some .int) :: ([.fieldLink RX5 33 "TimeMachine$Kernel" "reg" "[I"] ++ (u_ws RX5 TX5 8 ++ []))
theorem gd_dm_X5_argument : ∀ w ∈ ow_dm_X5_argument, (w.onTables && w.keeps) = true ∨ ∃ ty, w = Cond.arrayClass ty := List.forall_mem_cons.mpr ⟨good_of_word rfl, List.forall_mem_append.mpr ⟨fun w h => good_of_word (List.all_eq_true.mp (by decide +kernel) w h), List.forall_mem_append.mpr ⟨gu_X5, fun _ h => nomatch h⟩⟩⟩
theorem hi_dm_X5_argument_X5 : ∀ w ∈ u_ws RX5 TX5 8, w ∈ ow_dm_X5_argument := fun w h => List.mem_cons_of_mem _ (List.mem_append_right _ (List.mem_append_left _ h))
def dj_X5_argument_0 (p : Program) (l : Launch) (e : Env) (s : State) (m : MethodId) (args : Array Value) (below : List Frame) (meth : Method) (c : Code) (Q : State → Prop) (A : Nat → Prop) (dC : Nat → ClassId) (dI : Nat → Nat → Nat) (a : Nat → Nat) (ac : Nat → ClassId) (g : Int32 → Int32 → (St × (St × (St × (St)))) → Option (Int32 × (St × (St × (St × (St)))))) (r : Int32 × (St × (St × (St × (St))))) : Prop := ∀ (v0 : Int32) (v1 : Int32) (s0 : St × (St × (St × (St)))) (H : Heap) (locs : List Loc) (ls : Array Slot), g v0 v1 s0 = some r → va_P (dC, dI) vwCl (dw_X5 a ac s0) H → va_D A (dw_X5 a ac s0) → va_S A s.heap H locs → lv_has ls 3 [(0, .ref (a 0)), (1, .int v0), (2, .int v1)] → W p l e (headSpec ow_dm_X5_argument ({ frames := 0, cells := 0, slots := 0, locals := 0 })).room s m args below meth c H locs 0 0 Q (F0 m 0 ls [])
set_option maxHeartbeats 40000000 in
set_option maxRecDepth 100000 in
theorem db_X5_argument_0 {p : Program} {l : Launch} {e : Env} {s : State} {m : MethodId} {args : Array Value} {below : List Frame} {meth : Method} {c : Code} {Q : State → Prop} {A : Nat → Prop} {dC : Nat → ClassId} {dI : Nat → Nat → Nat} {a : Nat → Nat} {ac : Nat → ClassId} {n : Nat} {r : Int32 × (St × (St × (St × (St))))} (C : nd_C p l s m args c A (dC, dI) cX5_argument 3 RX5 ow_dm_X5_argument (dk_X5 ac)) (K : nd_Ki p l e (headSpec ow_dm_X5_argument ({ frames := 0, cells := 0, slots := 0, locals := 0 })).room s m args below meth c Q A (dC, dI) cX5_argument .int (St × (St × (St × (St)))) (dw_X5 a ac) r) : dj_X5_argument_0 p l e s m args below meth c Q A dC dI a ac (df_X5_argument_0 n) r := by
  obtain ⟨hlt, hx, hb, hml, hown, hts, hN, hA, hK⟩ := id C
  intro v0 v1 s0 H locs ls h hP hD hS hl
  unfold df_X5_argument_0 at h
  refine lv_aload_n hx hb dX5_argument_0 rfl (lv_at hl 0 rfl) ?_
  refine va_get (D := (dC, dI)) (ci := 6) (v := .ref (a 8)) (C := RX5) (T := TX5) (N := 8) hx hb hts hi_dm_X5_argument_X5 hown hK hP 0 rfl rfl 2 (by decide) (hts (.fieldLink RX5 33 "TimeMachine$Kernel" "reg" "[I") (List.mem_of_getElem? (i := 1) rfl)) (fun _ h9 => h9) rfl dX5_argument_1 ?_
  refine lv_iload_n hx hb dX5_argument_4 rfl (lv_at hl 1 rfl) ?_
  refine lv_bipush (v := 33) hx hb dX5_argument_5 (by decide) ?_
  refine lv_imul hx hb dX5_argument_7 ?_
  refine lv_iload_n hx hb dX5_argument_8 rfl (lv_at hl 2 rfl) ?_
  refine lv_iadd hx hb dX5_argument_9 ?_
  obtain ⟨i1, h⟩ := nd_ck_e h
  refine va_iald (i := ((v0 * 33) + v1)) hx hb hK hP 8 5 rfl rfl i1 dX5_argument_10 ?_
  exact K _ _ _ _ _ _ dX5_argument_11 rfl (Option.some.inj h).symm hP hD hS
set_option maxHeartbeats 40000000 in
set_option maxRecDepth 100000 in
theorem dm_X5_argument (l : Launch) (hlt : l.stackTraces = false) (dC : Nat → ClassId) (dI : Nat → Nat → Nat) (a : Nat → Nat) (ac : Nat → ClassId) (n : Nat) (v0 : Int32) (v1 : Int32) (s0 : St × (St × (St × (St)))) {r : Int32 × (St × (St × (St × (St))))} (h : df_X5_argument n v0 v1 s0 = some r) (sz : Nat) : Met l yX5_argument ow_dm_X5_argument ({ frames := 0, cells := 0, slots := 0, locals := 0 }) (va_Pc [.ref (a 0), .int v0, .int v1] (fun U => U.heap.size = sz ∧ va_P (dC, dI) vwCl (dw_X5 a ac s0) U.heap ∧ va_K (dC, dI) vwCl (dk_X5 ac) U ∧ va_D (fun _ => True) (dw_X5 a ac s0) ∧ nv_E (va_A (dw_X5 a ac s0) sz) U)) (va_Qi (fun x _ => x = r.1) (fun (_ : Unit) t => va_P (dC, dI) vwCl (dw_X5 a ac r.2) t.heap ∧ va_K (dC, dI) vwCl (dk_X5 ac) t ∧ va_D (va_A (dw_X5 a ac s0) sz) (dw_X5 a ac r.2)) (va_A (dw_X5 a ac s0) sz)) 0 0 (va_A (dw_X5 a ac s0) sz) := by
  refine Met.ofW (cc := cX5_argument) (maxL := 3) (ret := (some .int)) (by decide) rfl ?_
  intro p e s m args below meth c s₁ B hml hv
  obtain ⟨rfl, hsz, hP, hK, hD0, hN⟩ := hv
  have hx := B.exec
  have hb := B.bytes
  have hr := B.returns
  have hts := atoms_spec (ws := ow_dm_X5_argument) B.pre
  have hown : s.vm.findClass RX5 = some m.cls := findClass_of_methodNamed B.named
  have hlocks := B.notSynchronized
  subst hsz
  have hD := hD0.self (sz := s.heap.size)
  generalize hAe : va_A (dw_X5 a ac s0) s.heap.size = A at hD hN ⊢
  have hA : ∀ q : Nat, s.heap.size ≤ q → A q := fun q h => by rw [← hAe]; exact Or.inr h
  have hl := lv_entry ([.ref (a 0), .int v0, .int v1]) (n := 3) (Nat.le_of_ble_eq_true rfl)
  rw [lg_entry_eq]
  generalize (lg_sl ([.ref (a 0), .int v0, .int v1]) ++ List.replicate (3 - (lg_sl ([.ref (a 0), .int v0, .int v1])).length) Slot.unset).toArray = ls at hl ⊢
  have hl : lv_has ls 3 [(0, .ref (a 0)), (1, .int v0), (2, .int v1)] := hl
  exact db_X5_argument_0 (dC := dC) (dI := dI) (a := a) (ac := ac) (n := n) (r := r) ⟨hlt, hx, hb, hml, hown, hts, hN, hA, hK⟩ (fun pc v τ H locs ls d z er hP hD hS => by subst er; exact W.zret (v := v) hx hb hr z (fun t ht hW => ⟨⟨v, (), rfl, rfl, by rw [ht]; exact hP, va_K.moved hW.alike hK, hD⟩, hS.F ht⟩) hS.2.2 d) v0 v1 s0 _ _ _ h hP hD va_S.rf (lv_sub hl [0, 1, 2] rfl)
def ow_dm_X5_mustWait : List Cond := .code yX5_mustWait cX5_mustWait 4 (some .boolean) :: ([.methodLink RX5 115 yX5_argument, .instanceMethod yX5_argument, .selects RX5 yX5_argument yX5_argument, .initialized RX5, .fieldLink RX5 18 "TimeMachine$Kernel" "machine" "LTimeMachine$Machine;", .methodLink RX5 119 yX6_leastChild, .instanceMethod yX6_leastChild, .selects RX6 yX6_leastChild yX6_leastChild, .initialized RX6, .fieldLink RX5 28 "TimeMachine$Kernel" "things" "LTimeMachine$Things;", .methodLink RX5 123 yX10_openingOf, .instanceMethod yX10_openingOf, .selects RX10 yX10_openingOf yX10_openingOf, .initialized RX10, .methodLink RX5 126 yX10_readWaits, .instanceMethod yX10_readWaits, .selects RX10 yX10_readWaits yX10_readWaits, .methodLink RX5 130 yX10_writeWaits, .instanceMethod yX10_writeWaits, .selects RX10 yX10_writeWaits yX10_writeWaits, .fieldLink RX5 133 "TimeMachine$Machine" "clock" "J", .fieldLink RX5 137 "TimeMachine$Machine" "sleep" "[J", .fieldLink RX5 141 "TimeMachine$Machine" "randoms" "I"] ++ (u_ws RX5 TX5 8 ++ (u_ws RX6 TX6 20 ++ (ow_dm_X5_argument ++ (ow_dm_X6_leastChild ++ (ow_dm_X10_openingOf ++ (ow_dm_X10_readWaits ++ (ow_dm_X10_writeWaits ++ []))))))))
theorem gd_dm_X5_mustWait : ∀ w ∈ ow_dm_X5_mustWait, (w.onTables && w.keeps) = true ∨ ∃ ty, w = Cond.arrayClass ty := List.forall_mem_cons.mpr ⟨good_of_word rfl, List.forall_mem_append.mpr ⟨fun w h => good_of_word (List.all_eq_true.mp (by decide +kernel) w h), List.forall_mem_append.mpr ⟨gu_X5, List.forall_mem_append.mpr ⟨gu_X6, List.forall_mem_append.mpr ⟨gd_dm_X5_argument, List.forall_mem_append.mpr ⟨gd_dm_X6_leastChild, List.forall_mem_append.mpr ⟨gd_dm_X10_openingOf, List.forall_mem_append.mpr ⟨gd_dm_X10_readWaits, List.forall_mem_append.mpr ⟨gd_dm_X10_writeWaits, fun _ h => nomatch h⟩⟩⟩⟩⟩⟩⟩⟩⟩
theorem hi_dm_X5_mustWait_X5 : ∀ w ∈ u_ws RX5 TX5 8, w ∈ ow_dm_X5_mustWait := fun w h => List.mem_cons_of_mem _ (List.mem_append_right _ (List.mem_append_left _ h))
theorem hi_dm_X5_mustWait_X6 : ∀ w ∈ u_ws RX6 TX6 20, w ∈ ow_dm_X5_mustWait := fun w h => List.mem_cons_of_mem _ (List.mem_append_right _ (List.mem_append_right _ (List.mem_append_left _ h)))
theorem gi_dm_X5_mustWait_0 : GoodIn ow_dm_X5_mustWait (wsV RX5 115 RX5 yX5_argument ow_dm_X5_argument) := goodIn_app (goodIn_of _ (by decide +kernel)) (fun w h => ⟨List.mem_cons_of_mem _ (List.mem_append_right _ (List.mem_append_right _ (List.mem_append_right _ (List.mem_append_left _ h)))), gd_dm_X5_argument w h⟩)
theorem gi_dm_X5_mustWait_1 : GoodIn ow_dm_X5_mustWait (wsV RX5 119 RX6 yX6_leastChild ow_dm_X6_leastChild) := goodIn_app (goodIn_of _ (by decide +kernel)) (fun w h => ⟨List.mem_cons_of_mem _ (List.mem_append_right _ (List.mem_append_right _ (List.mem_append_right _ (List.mem_append_right _ (List.mem_append_left _ h))))), gd_dm_X6_leastChild w h⟩)
theorem gi_dm_X5_mustWait_2 : GoodIn ow_dm_X5_mustWait (wsV RX5 123 RX10 yX10_openingOf ow_dm_X10_openingOf) := goodIn_app (goodIn_of _ (by decide +kernel)) (fun w h => ⟨List.mem_cons_of_mem _ (List.mem_append_right _ (List.mem_append_right _ (List.mem_append_right _ (List.mem_append_right _ (List.mem_append_right _ (List.mem_append_left _ h)))))), gd_dm_X10_openingOf w h⟩)
theorem gi_dm_X5_mustWait_3 : GoodIn ow_dm_X5_mustWait (wsV RX5 126 RX10 yX10_readWaits ow_dm_X10_readWaits) := goodIn_app (goodIn_of _ (by decide +kernel)) (fun w h => ⟨List.mem_cons_of_mem _ (List.mem_append_right _ (List.mem_append_right _ (List.mem_append_right _ (List.mem_append_right _ (List.mem_append_right _ (List.mem_append_right _ (List.mem_append_left _ h))))))), gd_dm_X10_readWaits w h⟩)
theorem gi_dm_X5_mustWait_4 : GoodIn ow_dm_X5_mustWait (wsV RX5 130 RX10 yX10_writeWaits ow_dm_X10_writeWaits) := goodIn_app (goodIn_of _ (by decide +kernel)) (fun w h => ⟨List.mem_cons_of_mem _ (List.mem_append_right _ (List.mem_append_right _ (List.mem_append_right _ (List.mem_append_right _ (List.mem_append_right _ (List.mem_append_right _ (List.mem_append_right _ (List.mem_append_left _ h)))))))), gd_dm_X10_writeWaits w h⟩)
def dj_X5_mustWait_101 (p : Program) (l : Launch) (e : Env) (s : State) (m : MethodId) (args : Array Value) (below : List Frame) (meth : Method) (c : Code) (Q : State → Prop) (A : Nat → Prop) (dC : Nat → ClassId) (dI : Nat → Nat → Nat) (a : Nat → Nat) (ac : Nat → ClassId) (g : Int32 → (St × (St × (St × (St)))) → Option (Int32 × (St × (St × (St × (St)))))) (r : Int32 × (St × (St × (St × (St))))) : Prop := ∀ (y0 : Int32) (s0 : St × (St × (St × (St)))) (H : Heap) (locs : List Loc) (ls : Array Slot), g y0 s0 = some r → va_P (dC, dI) vwCl (dw_X5 a ac s0) H → va_D A (dw_X5 a ac s0) → va_S A s.heap H locs → lv_has ls 4 [] → W p l e (headSpec ow_dm_X5_mustWait ({ frames := 1, cells := 0, slots := 0, locals := 24 })).room s m args below meth c H locs 0 0 Q (F0 m 101 ls [.int y0])
def dj_X5_mustWait_100 (p : Program) (l : Launch) (e : Env) (s : State) (m : MethodId) (args : Array Value) (below : List Frame) (meth : Method) (c : Code) (Q : State → Prop) (A : Nat → Prop) (dC : Nat → ClassId) (dI : Nat → Nat → Nat) (a : Nat → Nat) (ac : Nat → ClassId) (g : (St × (St × (St × (St)))) → Option (Int32 × (St × (St × (St × (St)))))) (r : Int32 × (St × (St × (St × (St))))) : Prop := ∀ (s0 : St × (St × (St × (St)))) (H : Heap) (locs : List Loc) (ls : Array Slot), g s0 = some r → va_P (dC, dI) vwCl (dw_X5 a ac s0) H → va_D A (dw_X5 a ac s0) → va_S A s.heap H locs → lv_has ls 4 [] → W p l e (headSpec ow_dm_X5_mustWait ({ frames := 1, cells := 0, slots := 0, locals := 24 })).room s m args below meth c H locs 0 0 Q (F0 m 100 ls [])
def dj_X5_mustWait_163 (p : Program) (l : Launch) (e : Env) (s : State) (m : MethodId) (args : Array Value) (below : List Frame) (meth : Method) (c : Code) (Q : State → Prop) (A : Nat → Prop) (dC : Nat → ClassId) (dI : Nat → Nat → Nat) (a : Nat → Nat) (ac : Nat → ClassId) (g : Int32 → (St × (St × (St × (St)))) → Option (Int32 × (St × (St × (St × (St)))))) (r : Int32 × (St × (St × (St × (St))))) : Prop := ∀ (y0 : Int32) (s0 : St × (St × (St × (St)))) (H : Heap) (locs : List Loc) (ls : Array Slot), g y0 s0 = some r → va_P (dC, dI) vwCl (dw_X5 a ac s0) H → va_D A (dw_X5 a ac s0) → va_S A s.heap H locs → lv_has ls 4 [] → W p l e (headSpec ow_dm_X5_mustWait ({ frames := 1, cells := 0, slots := 0, locals := 24 })).room s m args below meth c H locs 0 0 Q (F0 m 163 ls [.int y0])
def dj_X5_mustWait_179 (p : Program) (l : Launch) (e : Env) (s : State) (m : MethodId) (args : Array Value) (below : List Frame) (meth : Method) (c : Code) (Q : State → Prop) (A : Nat → Prop) (dC : Nat → ClassId) (dI : Nat → Nat → Nat) (a : Nat → Nat) (ac : Nat → ClassId) (g : Int32 → (St × (St × (St × (St)))) → Option (Int32 × (St × (St × (St × (St)))))) (r : Int32 × (St × (St × (St × (St))))) : Prop := ∀ (y0 : Int32) (s0 : St × (St × (St × (St)))) (H : Heap) (locs : List Loc) (ls : Array Slot), g y0 s0 = some r → va_P (dC, dI) vwCl (dw_X5 a ac s0) H → va_D A (dw_X5 a ac s0) → va_S A s.heap H locs → lv_has ls 4 [] → W p l e (headSpec ow_dm_X5_mustWait ({ frames := 1, cells := 0, slots := 0, locals := 24 })).room s m args below meth c H locs 0 0 Q (F0 m 179 ls [.int y0])
def dj_X5_mustWait_0 (p : Program) (l : Launch) (e : Env) (s : State) (m : MethodId) (args : Array Value) (below : List Frame) (meth : Method) (c : Code) (Q : State → Prop) (A : Nat → Prop) (dC : Nat → ClassId) (dI : Nat → Nat → Nat) (a : Nat → Nat) (ac : Nat → ClassId) (g : Int32 → (St × (St × (St × (St)))) → Option (Int32 × (St × (St × (St × (St)))))) (r : Int32 × (St × (St × (St × (St))))) : Prop := ∀ (v0 : Int32) (s0 : St × (St × (St × (St)))) (H : Heap) (locs : List Loc) (ls : Array Slot), g v0 s0 = some r → va_P (dC, dI) vwCl (dw_X5 a ac s0) H → va_D A (dw_X5 a ac s0) → va_S A s.heap H locs → lv_has ls 4 [(0, .ref (a 0)), (1, .int v0)] → W p l e (headSpec ow_dm_X5_mustWait ({ frames := 1, cells := 0, slots := 0, locals := 24 })).room s m args below meth c H locs 0 0 Q (F0 m 0 ls [])
set_option maxHeartbeats 40000000 in
set_option maxRecDepth 100000 in
theorem db_X5_mustWait_101 {p : Program} {l : Launch} {e : Env} {s : State} {m : MethodId} {args : Array Value} {below : List Frame} {meth : Method} {c : Code} {Q : State → Prop} {A : Nat → Prop} {dC : Nat → ClassId} {dI : Nat → Nat → Nat} {a : Nat → Nat} {ac : Nat → ClassId} {n : Nat} {r : Int32 × (St × (St × (St × (St))))} (C : nd_C p l s m args c A (dC, dI) cX5_mustWait 4 RX5 ow_dm_X5_mustWait (dk_X5 ac)) (K : nd_Ki p l e (headSpec ow_dm_X5_mustWait ({ frames := 1, cells := 0, slots := 0, locals := 24 })).room s m args below meth c Q A (dC, dI) cX5_mustWait .boolean (St × (St × (St × (St)))) (dw_X5 a ac) r) : dj_X5_mustWait_101 p l e s m args below meth c Q A dC dI a ac (df_X5_mustWait_101 n) r := by
  obtain ⟨hlt, hx, hb, hml, hown, hts, hN, hA, hK⟩ := id C
  intro y0 s0 H locs ls h hP hD hS hl
  unfold df_X5_mustWait_101 at h
  obtain ⟨n16, h⟩ := nd_z_e ⟨_, rfl⟩ h
  exact K _ _ _ _ _ _ dX5_mustWait_101 n16 (Option.some.inj h).symm hP hD hS
set_option maxHeartbeats 40000000 in
set_option maxRecDepth 100000 in
theorem db_X5_mustWait_100 {p : Program} {l : Launch} {e : Env} {s : State} {m : MethodId} {args : Array Value} {below : List Frame} {meth : Method} {c : Code} {Q : State → Prop} {A : Nat → Prop} {dC : Nat → ClassId} {dI : Nat → Nat → Nat} {a : Nat → Nat} {ac : Nat → ClassId} {n : Nat} {r : Int32 × (St × (St × (St × (St))))} (C : nd_C p l s m args c A (dC, dI) cX5_mustWait 4 RX5 ow_dm_X5_mustWait (dk_X5 ac)) (K : nd_Ki p l e (headSpec ow_dm_X5_mustWait ({ frames := 1, cells := 0, slots := 0, locals := 24 })).room s m args below meth c Q A (dC, dI) cX5_mustWait .boolean (St × (St × (St × (St)))) (dw_X5 a ac) r) : dj_X5_mustWait_100 p l e s m args below meth c Q A dC dI a ac (df_X5_mustWait_100 n) r := by
  obtain ⟨hlt, hx, hb, hml, hown, hts, hN, hA, hK⟩ := id C
  intro s0 H locs ls h hP hD hS hl
  unfold df_X5_mustWait_100 at h
  refine lv_iconst (v := 0) hx hb dX5_mustWait_100 (by decide) ?_
  exact (db_X5_mustWait_101 C K) (0) s0 _ _ _ h hP hD hS (lv_sub hl [] rfl)
set_option maxHeartbeats 40000000 in
set_option maxRecDepth 100000 in
theorem db_X5_mustWait_163 {p : Program} {l : Launch} {e : Env} {s : State} {m : MethodId} {args : Array Value} {below : List Frame} {meth : Method} {c : Code} {Q : State → Prop} {A : Nat → Prop} {dC : Nat → ClassId} {dI : Nat → Nat → Nat} {a : Nat → Nat} {ac : Nat → ClassId} {n : Nat} {r : Int32 × (St × (St × (St × (St))))} (C : nd_C p l s m args c A (dC, dI) cX5_mustWait 4 RX5 ow_dm_X5_mustWait (dk_X5 ac)) (K : nd_Ki p l e (headSpec ow_dm_X5_mustWait ({ frames := 1, cells := 0, slots := 0, locals := 24 })).room s m args below meth c Q A (dC, dI) cX5_mustWait .boolean (St × (St × (St × (St)))) (dw_X5 a ac) r) : dj_X5_mustWait_163 p l e s m args below meth c Q A dC dI a ac (df_X5_mustWait_163 n) r := by
  obtain ⟨hlt, hx, hb, hml, hown, hts, hN, hA, hK⟩ := id C
  intro y0 s0 H locs ls h hP hD hS hl
  unfold df_X5_mustWait_163 at h
  obtain ⟨n45, h⟩ := nd_z_e ⟨_, rfl⟩ h
  exact K _ _ _ _ _ _ dX5_mustWait_163 n45 (Option.some.inj h).symm hP hD hS
set_option maxHeartbeats 40000000 in
set_option maxRecDepth 100000 in
theorem db_X5_mustWait_179 {p : Program} {l : Launch} {e : Env} {s : State} {m : MethodId} {args : Array Value} {below : List Frame} {meth : Method} {c : Code} {Q : State → Prop} {A : Nat → Prop} {dC : Nat → ClassId} {dI : Nat → Nat → Nat} {a : Nat → Nat} {ac : Nat → ClassId} {n : Nat} {r : Int32 × (St × (St × (St × (St))))} (C : nd_C p l s m args c A (dC, dI) cX5_mustWait 4 RX5 ow_dm_X5_mustWait (dk_X5 ac)) (K : nd_Ki p l e (headSpec ow_dm_X5_mustWait ({ frames := 1, cells := 0, slots := 0, locals := 24 })).room s m args below meth c Q A (dC, dI) cX5_mustWait .boolean (St × (St × (St × (St)))) (dw_X5 a ac) r) : dj_X5_mustWait_179 p l e s m args below meth c Q A dC dI a ac (df_X5_mustWait_179 n) r := by
  obtain ⟨hlt, hx, hb, hml, hown, hts, hN, hA, hK⟩ := id C
  intro y0 s0 H locs ls h hP hD hS hl
  unfold df_X5_mustWait_179 at h
  obtain ⟨n48, h⟩ := nd_z_e ⟨_, rfl⟩ h
  exact K _ _ _ _ _ _ dX5_mustWait_179 n48 (Option.some.inj h).symm hP hD hS
set_option maxHeartbeats 40000000 in
set_option maxRecDepth 100000 in
theorem db_X5_mustWait_0 {p : Program} {l : Launch} {e : Env} {s : State} {m : MethodId} {args : Array Value} {below : List Frame} {meth : Method} {c : Code} {Q : State → Prop} {A : Nat → Prop} {dC : Nat → ClassId} {dI : Nat → Nat → Nat} {a : Nat → Nat} {ac : Nat → ClassId} {n : Nat} {r : Int32 × (St × (St × (St × (St))))} (C : nd_C p l s m args c A (dC, dI) cX5_mustWait 4 RX5 ow_dm_X5_mustWait (dk_X5 ac)) (K : nd_Ki p l e (headSpec ow_dm_X5_mustWait ({ frames := 1, cells := 0, slots := 0, locals := 24 })).room s m args below meth c Q A (dC, dI) cX5_mustWait .boolean (St × (St × (St × (St)))) (dw_X5 a ac) r) : dj_X5_mustWait_0 p l e s m args below meth c Q A dC dI a ac (df_X5_mustWait_0 n) r := by
  obtain ⟨hlt, hx, hb, hml, hown, hts, hN, hA, hK⟩ := id C
  intro v0 s0 H locs ls h hP hD hS hl
  unfold df_X5_mustWait_0 at h
  refine lv_aload_n hx hb dX5_mustWait_0 rfl (lv_at hl 0 rfl) ?_
  refine lv_iload_n hx hb dX5_mustWait_1 rfl (lv_at hl 1 rfl) ?_
  refine lv_bipush (v := 10) hx hb dX5_mustWait_2 (by decide) ?_
  obtain ⟨q1, s2, hq, h⟩ := nd_b2_e h
  have hPc := hP
  have hDc := hD
  have hKc := hK
  have hFc := nd_rs hD hS hA
  refine nd_cVi (As := [.int v0, .int 10]) (rest := []) (q := q1) (w' := dw_X5 a ac s2) ⟨hx, hb, hml, hown, hts⟩ (fun sz => dm_X5_argument l hlt dC dI a ac n (v0) (10) s0 hq sz) (cwV 2 hts gi_dm_X5_mustWait_0 rfl rfl rfl (by decide +kernel) ⟨Nat.le_of_ble_eq_true rfl, Nat.le_of_ble_eq_true rfl⟩) hPc hDc hKc hS hA hN (va_recv hKc hPc (ci := 6) (q0 := 0) rfl rfl) rfl hl.1 rfl (Nat.le_of_ble_eq_true rfl) dX5_mustWait_4 (fun H locs hP1 hD1 hk1 hS => ?_)
  have hP := hP1
  have hD := hD1.weaken (fun k q _ h => hFc q.1 h)
  refine lv_istore_n (lv' := [(2, .int q1), (0, .ref (a 0)), (1, .int v0)]) hx hb dX5_mustWait_7 rfl hl (by decide) rfl (fun ls hl => ?_)
  refine lv_aload_n hx hb dX5_mustWait_8 rfl (lv_at hl 1 rfl) ?_
  refine lv_iload_n hx hb dX5_mustWait_9 rfl (lv_at hl 2 rfl) ?_
  refine lv_bipush (v := 12) hx hb dX5_mustWait_10 (by decide) ?_
  obtain ⟨q4, s5, hq, h⟩ := nd_b2_e h
  have hPc := hP
  have hDc := hD
  have hKc := hK
  have hFc := nd_rs hD hS hA
  refine nd_cVi (As := [.int v0, .int 12]) (rest := []) (q := q4) (w' := dw_X5 a ac s5) ⟨hx, hb, hml, hown, hts⟩ (fun sz => dm_X5_argument l hlt dC dI a ac n (v0) (12) s2 hq sz) (cwV 2 hts gi_dm_X5_mustWait_0 rfl rfl rfl (by decide +kernel) ⟨Nat.le_of_ble_eq_true rfl, Nat.le_of_ble_eq_true rfl⟩) hPc hDc hKc hS hA hN (va_recv hKc hPc (ci := 6) (q0 := 0) rfl rfl) rfl hl.1 rfl (Nat.le_of_ble_eq_true rfl) dX5_mustWait_12 (fun H locs hP1 hD1 hk1 hS => ?_)
  have hP := hP1
  have hD := hD1.weaken (fun k q _ h => hFc q.1 h)
  refine lv_istore_n (lv' := [(3, .int q4), (2, .int q1), (0, .ref (a 0)), (1, .int v0)]) hx hb dX5_mustWait_15 rfl hl (by decide) rfl (fun ls hl => ?_)
  refine lv_aload_n hx hb dX5_mustWait_16 rfl (lv_at hl 2 rfl) ?_
  refine lv_iload_n hx hb dX5_mustWait_17 rfl (lv_at hl 3 rfl) ?_
  refine lv_bipush (v := 17) hx hb dX5_mustWait_18 (by decide) ?_
  obtain ⟨q7, s8, hq, h⟩ := nd_b2_e h
  have hPc := hP
  have hDc := hD
  have hKc := hK
  have hFc := nd_rs hD hS hA
  refine nd_cVi (As := [.int v0, .int 17]) (rest := []) (q := q7) (w' := dw_X5 a ac s8) ⟨hx, hb, hml, hown, hts⟩ (fun sz => dm_X5_argument l hlt dC dI a ac n (v0) (17) s5 hq sz) (cwV 2 hts gi_dm_X5_mustWait_0 rfl rfl rfl (by decide +kernel) ⟨Nat.le_of_ble_eq_true rfl, Nat.le_of_ble_eq_true rfl⟩) hPc hDc hKc hS hA hN (va_recv hKc hPc (ci := 6) (q0 := 0) rfl rfl) rfl hl.1 rfl (Nat.le_of_ble_eq_true rfl) dX5_mustWait_20 (fun H locs hP1 hD1 hk1 hS => ?_)
  have hP := hP1
  have hD := hD1.weaken (fun k q _ h => hFc q.1 h)
  by_cases c10 : q7 = 3
  · have h := nd_pos h c10
    refine lv_lookup (off := 49) (tgt := 72) hx hb dX5_mustWait_23 (by decide) (by rw [c10]; decide) (by decide) ?_
    refine lv_aload_n hx hb dX5_mustWait_72 rfl (lv_at hl 2 rfl) ?_
    refine va_get (D := (dC, dI)) (ci := 6) (v := .ref (a 4)) (C := RX5) (T := TX5) (N := 8) hx hb hts hi_dm_X5_mustWait_X5 hown hK hP 0 rfl rfl 0 (by decide) (hts (.fieldLink RX5 18 "TimeMachine$Kernel" "machine" "LTimeMachine$Machine;") (List.mem_of_getElem? (i := 5) rfl)) (fun _ h9 => h9) rfl dX5_mustWait_73 ?_
    refine lv_iload_n hx hb dX5_mustWait_76 rfl (lv_at hl 3 rfl) ?_
    refine lv_iconst (v := 1) hx hb dX5_mustWait_77 (by decide) ?_
    obtain ⟨q11, s12, hq, h⟩ := nd_b2_e h
    have hPc := dp_X5_4 hP
    have hDc := dd_X5_4 hD
    have hKc := dy_X5_4 hK
    have hFc := nd_rs hDc hS hA
    have hzA : ∀ q : Nat, H.size ≤ q → A q := fun q h => hA q (Nat.le_trans hS.1 h)
    refine nd_cVi (As := [.int v0, .int 1]) (rest := []) (q := q11) (w' := dw_X6 (fun k => a (k + 4)) (fun k => ac (k + 4)) s12) ⟨hx, hb, hml, hown, hts⟩ (fun sz => dm_X6_leastChild l hlt dC dI (fun k => a (k + 4)) (fun k => ac (k + 4)) n (v0) (1) s8.2.2 hq sz) (cwV 2 hts gi_dm_X5_mustWait_1 rfl rfl rfl (by decide +kernel) ⟨Nat.le_of_ble_eq_true rfl, Nat.le_of_ble_eq_true rfl⟩) hPc hDc hKc hS hA hN (va_recv hKc hPc (ci := 7) (q0 := 0) rfl rfl) rfl hl.1 rfl (Nat.le_of_ble_eq_true rfl) dX5_mustWait_78 (fun H locs hP1 hD1 hk1 hS => ?_)
    obtain ⟨hP, hD⟩ := dn_X5_4 hP hD hzA hk1 hP1 hD1
    obtain ⟨s14, es14, h⟩ := nd_let_e h
    have hP : va_P (dC, dI) vwCl (dw_X5 a ac s14) H := by rw [es14]; exact hP
    have hD : va_D A (dw_X5 a ac s14) := by rw [es14]; exact hD
    refine lv_if_lt (tgt := 100) hx hb dX5_mustWait_81 (by decide) (fun c15 => ?_) (fun c15 => ?_)
    · have h := nd_pos h c15
      exact (db_X5_mustWait_100 C K)  s14 _ _ _ h hP hD hS (lv_sub hl [] rfl)
    · have h := nd_neg h c15
      refine lv_aload_n hx hb dX5_mustWait_84 rfl (lv_at hl 2 rfl) ?_
      refine va_get (D := (dC, dI)) (ci := 6) (v := .ref (a 4)) (C := RX5) (T := TX5) (N := 8) hx hb hts hi_dm_X5_mustWait_X5 hown hK hP 0 rfl rfl 0 (by decide) (hts (.fieldLink RX5 18 "TimeMachine$Kernel" "machine" "LTimeMachine$Machine;") (List.mem_of_getElem? (i := 5) rfl)) (fun _ h9 => h9) rfl dX5_mustWait_85 ?_
      refine lv_iload_n hx hb dX5_mustWait_88 rfl (lv_at hl 3 rfl) ?_
      refine lv_iconst (v := 0) hx hb dX5_mustWait_89 (by decide) ?_
      obtain ⟨q17, s18, hq, h⟩ := nd_b2_e h
      have hPc := dp_X5_4 hP
      have hDc := dd_X5_4 hD
      have hKc := dy_X5_4 hK
      have hFc := nd_rs hDc hS hA
      have hzA : ∀ q : Nat, H.size ≤ q → A q := fun q h => hA q (Nat.le_trans hS.1 h)
      refine nd_cVi (As := [.int v0, .int 0]) (rest := []) (q := q17) (w' := dw_X6 (fun k => a (k + 4)) (fun k => ac (k + 4)) s18) ⟨hx, hb, hml, hown, hts⟩ (fun sz => dm_X6_leastChild l hlt dC dI (fun k => a (k + 4)) (fun k => ac (k + 4)) n (v0) (0) s14.2.2 hq sz) (cwV 2 hts gi_dm_X5_mustWait_1 rfl rfl rfl (by decide +kernel) ⟨Nat.le_of_ble_eq_true rfl, Nat.le_of_ble_eq_true rfl⟩) hPc hDc hKc hS hA hN (va_recv hKc hPc (ci := 7) (q0 := 0) rfl rfl) rfl hl.1 rfl (Nat.le_of_ble_eq_true rfl) dX5_mustWait_90 (fun H locs hP1 hD1 hk1 hS => ?_)
      obtain ⟨hP, hD⟩ := dn_X5_4 hP hD hzA hk1 hP1 hD1
      obtain ⟨s20, es20, h⟩ := nd_let_e h
      have hP : va_P (dC, dI) vwCl (dw_X5 a ac s20) H := by rw [es20]; exact hP
      have hD : va_D A (dw_X5 a ac s20) := by rw [es20]; exact hD
      refine lv_if_ge (tgt := 100) hx hb dX5_mustWait_93 (by decide) (fun c21 => ?_) (fun c21 => ?_)
      · have h := nd_pos h c21
        exact (db_X5_mustWait_100 C K)  s20 _ _ _ h hP hD hS (lv_sub hl [] rfl)
      · have h := nd_neg h c21
        refine lv_iconst (v := 1) hx hb dX5_mustWait_96 (by decide) ?_
        refine lv_goto (tgt := 101) hx hb dX5_mustWait_97 (by decide) ?_
        exact (db_X5_mustWait_101 C K) (1) s20 _ _ _ h hP hD hS (lv_sub hl [] rfl)
  have h := nd_neg h c10
  by_cases c22 : q7 = 6
  · have h := nd_pos h c22
    refine lv_lookup (off := 79) (tgt := 102) hx hb dX5_mustWait_23 (by decide) (by rw [c22]; decide) (by decide) ?_
    refine lv_aload_n hx hb dX5_mustWait_102 rfl (lv_at hl 2 rfl) ?_
    refine va_get (D := (dC, dI)) (ci := 6) (v := .ref (a 14)) (C := RX5) (T := TX5) (N := 8) hx hb hts hi_dm_X5_mustWait_X5 hown hK hP 0 rfl rfl 1 (by decide) (hts (.fieldLink RX5 28 "TimeMachine$Kernel" "things" "LTimeMachine$Things;") (List.mem_of_getElem? (i := 10) rfl)) (fun _ h9 => h9) rfl dX5_mustWait_103 ?_
    refine lv_aload_n hx hb dX5_mustWait_106 rfl (lv_at hl 2 rfl) ?_
    refine va_get (D := (dC, dI)) (ci := 6) (v := .ref (a 14)) (C := RX5) (T := TX5) (N := 8) hx hb hts hi_dm_X5_mustWait_X5 hown hK hP 0 rfl rfl 1 (by decide) (hts (.fieldLink RX5 28 "TimeMachine$Kernel" "things" "LTimeMachine$Things;") (List.mem_of_getElem? (i := 10) rfl)) (fun _ h9 => h9) rfl dX5_mustWait_107 ?_
    refine lv_iload_n hx hb dX5_mustWait_110 rfl (lv_at hl 3 rfl) ?_
    refine lv_iload_n hx hb dX5_mustWait_111 rfl (lv_at hl 1 rfl) ?_
    obtain ⟨q23, s24, hq, h⟩ := nd_b2_e h
    have hPc := dp_X5_14 hP
    have hDc := dd_X5_14 hD
    have hKc := dy_X5_14 hK
    have hFc := nd_rs hDc hS hA
    have hzA : ∀ q : Nat, H.size ≤ q → A q := fun q h => hA q (Nat.le_trans hS.1 h)
    refine nd_cVi (As := [.int v0, .int q1]) (rest := [.ref (a 14)]) (q := q23) (w' := dw_X10 (fun k => a (k + 14)) (fun k => ac (k + 14)) s24) ⟨hx, hb, hml, hown, hts⟩ (fun sz => dm_X10_openingOf l hlt dC dI (fun k => a (k + 14)) (fun k => ac (k + 14)) n (v0) (q1) s8.2.2.2 hq sz) (cwV 2 hts gi_dm_X5_mustWait_2 rfl rfl rfl (by decide +kernel) ⟨Nat.le_of_ble_eq_true rfl, Nat.le_of_ble_eq_true rfl⟩) hPc hDc hKc hS hA hN (va_recv hKc hPc (ci := 11) (q0 := 0) rfl rfl) rfl hl.1 rfl (Nat.le_of_ble_eq_true rfl) dX5_mustWait_112 (fun H locs hP1 hD1 hk1 hS => ?_)
    obtain ⟨hP, hD⟩ := dn_X5_14 hP hD hzA hk1 hP1 hD1
    obtain ⟨s26, es26, h⟩ := nd_let_e h
    have hP : va_P (dC, dI) vwCl (dw_X5 a ac s26) H := by rw [es26]; exact hP
    have hD : va_D A (dw_X5 a ac s26) := by rw [es26]; exact hD
    refine lv_iload_n hx hb dX5_mustWait_115 rfl (lv_at hl 0 rfl) ?_
    obtain ⟨q27, s28, hq, h⟩ := nd_b2_e h
    have hPc := dp_X5_14 hP
    have hDc := dd_X5_14 hD
    have hKc := dy_X5_14 hK
    have hFc := nd_rs hDc hS hA
    have hzA : ∀ q : Nat, H.size ≤ q → A q := fun q h => hA q (Nat.le_trans hS.1 h)
    refine nd_cVi (As := [.int q23, .int q4]) (rest := []) (q := q27) (w' := dw_X10 (fun k => a (k + 14)) (fun k => ac (k + 14)) s28) ⟨hx, hb, hml, hown, hts⟩ (fun sz => dm_X10_readWaits l hlt dC dI (fun k => a (k + 14)) (fun k => ac (k + 14)) n (q23) (q4) s26.2.2.2 hq sz) (cwV 2 hts gi_dm_X5_mustWait_3 rfl rfl rfl (by decide +kernel) ⟨Nat.le_of_ble_eq_true rfl, Nat.le_of_ble_eq_true rfl⟩) hPc hDc hKc hS hA hN (va_recv hKc hPc (ci := 11) (q0 := 0) rfl rfl) rfl hl.1 rfl (Nat.le_of_ble_eq_true rfl) dX5_mustWait_116 (fun H locs hP1 hD1 hk1 hS => ?_)
    obtain ⟨hP, hD⟩ := dn_X5_14 hP hD hzA hk1 hP1 hD1
    obtain ⟨s30, es30, h⟩ := nd_let_e h
    have hP : va_P (dC, dI) vwCl (dw_X5 a ac s30) H := by rw [es30]; exact hP
    have hD : va_D A (dw_X5 a ac s30) := by rw [es30]; exact hD
    obtain ⟨n31, h⟩ := nd_z_e ⟨_, rfl⟩ h
    exact K _ _ _ _ _ _ dX5_mustWait_119 n31 (Option.some.inj h).symm hP hD hS
  have h := nd_neg h c22
  by_cases c32 : q7 = 7
  · have h := nd_pos h c32
    refine lv_lookup (off := 97) (tgt := 120) hx hb dX5_mustWait_23 (by decide) (by rw [c32]; decide) (by decide) ?_
    refine lv_aload_n hx hb dX5_mustWait_120 rfl (lv_at hl 2 rfl) ?_
    refine va_get (D := (dC, dI)) (ci := 6) (v := .ref (a 14)) (C := RX5) (T := TX5) (N := 8) hx hb hts hi_dm_X5_mustWait_X5 hown hK hP 0 rfl rfl 1 (by decide) (hts (.fieldLink RX5 28 "TimeMachine$Kernel" "things" "LTimeMachine$Things;") (List.mem_of_getElem? (i := 10) rfl)) (fun _ h9 => h9) rfl dX5_mustWait_121 ?_
    refine lv_aload_n hx hb dX5_mustWait_124 rfl (lv_at hl 2 rfl) ?_
    refine va_get (D := (dC, dI)) (ci := 6) (v := .ref (a 14)) (C := RX5) (T := TX5) (N := 8) hx hb hts hi_dm_X5_mustWait_X5 hown hK hP 0 rfl rfl 1 (by decide) (hts (.fieldLink RX5 28 "TimeMachine$Kernel" "things" "LTimeMachine$Things;") (List.mem_of_getElem? (i := 10) rfl)) (fun _ h9 => h9) rfl dX5_mustWait_125 ?_
    refine lv_iload_n hx hb dX5_mustWait_128 rfl (lv_at hl 3 rfl) ?_
    refine lv_iload_n hx hb dX5_mustWait_129 rfl (lv_at hl 1 rfl) ?_
    obtain ⟨q33, s34, hq, h⟩ := nd_b2_e h
    have hPc := dp_X5_14 hP
    have hDc := dd_X5_14 hD
    have hKc := dy_X5_14 hK
    have hFc := nd_rs hDc hS hA
    have hzA : ∀ q : Nat, H.size ≤ q → A q := fun q h => hA q (Nat.le_trans hS.1 h)
    refine nd_cVi (As := [.int v0, .int q1]) (rest := [.ref (a 14)]) (q := q33) (w' := dw_X10 (fun k => a (k + 14)) (fun k => ac (k + 14)) s34) ⟨hx, hb, hml, hown, hts⟩ (fun sz => dm_X10_openingOf l hlt dC dI (fun k => a (k + 14)) (fun k => ac (k + 14)) n (v0) (q1) s8.2.2.2 hq sz) (cwV 2 hts gi_dm_X5_mustWait_2 rfl rfl rfl (by decide +kernel) ⟨Nat.le_of_ble_eq_true rfl, Nat.le_of_ble_eq_true rfl⟩) hPc hDc hKc hS hA hN (va_recv hKc hPc (ci := 11) (q0 := 0) rfl rfl) rfl hl.1 rfl (Nat.le_of_ble_eq_true rfl) dX5_mustWait_130 (fun H locs hP1 hD1 hk1 hS => ?_)
    obtain ⟨hP, hD⟩ := dn_X5_14 hP hD hzA hk1 hP1 hD1
    obtain ⟨s36, es36, h⟩ := nd_let_e h
    have hP : va_P (dC, dI) vwCl (dw_X5 a ac s36) H := by rw [es36]; exact hP
    have hD : va_D A (dw_X5 a ac s36) := by rw [es36]; exact hD
    refine lv_iload_n hx hb dX5_mustWait_133 rfl (lv_at hl 0 rfl) ?_
    obtain ⟨q37, s38, hq, h⟩ := nd_b2_e h
    have hPc := dp_X5_14 hP
    have hDc := dd_X5_14 hD
    have hKc := dy_X5_14 hK
    have hFc := nd_rs hDc hS hA
    have hzA : ∀ q : Nat, H.size ≤ q → A q := fun q h => hA q (Nat.le_trans hS.1 h)
    refine nd_cVi (As := [.int q33, .int q4]) (rest := []) (q := q37) (w' := dw_X10 (fun k => a (k + 14)) (fun k => ac (k + 14)) s38) ⟨hx, hb, hml, hown, hts⟩ (fun sz => dm_X10_writeWaits l hlt dC dI (fun k => a (k + 14)) (fun k => ac (k + 14)) n (q33) (q4) s36.2.2.2 hq sz) (cwV 2 hts gi_dm_X5_mustWait_4 rfl rfl rfl (by decide +kernel) ⟨Nat.le_of_ble_eq_true rfl, Nat.le_of_ble_eq_true rfl⟩) hPc hDc hKc hS hA hN (va_recv hKc hPc (ci := 11) (q0 := 0) rfl rfl) rfl hl.1 rfl (Nat.le_of_ble_eq_true rfl) dX5_mustWait_134 (fun H locs hP1 hD1 hk1 hS => ?_)
    obtain ⟨hP, hD⟩ := dn_X5_14 hP hD hzA hk1 hP1 hD1
    obtain ⟨s40, es40, h⟩ := nd_let_e h
    have hP : va_P (dC, dI) vwCl (dw_X5 a ac s40) H := by rw [es40]; exact hP
    have hD : va_D A (dw_X5 a ac s40) := by rw [es40]; exact hD
    obtain ⟨n41, h⟩ := nd_z_e ⟨_, rfl⟩ h
    exact K _ _ _ _ _ _ dX5_mustWait_137 n41 (Option.some.inj h).symm hP hD hS
  have h := nd_neg h c32
  by_cases c42 : q7 = 19
  · have h := nd_pos h c42
    refine lv_lookup (off := 115) (tgt := 138) hx hb dX5_mustWait_23 (by decide) (by rw [c42]; decide) (by decide) ?_
    refine lv_aload_n hx hb dX5_mustWait_138 rfl (lv_at hl 2 rfl) ?_
    refine va_get (D := (dC, dI)) (ci := 6) (v := .ref (a 4)) (C := RX5) (T := TX5) (N := 8) hx hb hts hi_dm_X5_mustWait_X5 hown hK hP 0 rfl rfl 0 (by decide) (hts (.fieldLink RX5 18 "TimeMachine$Kernel" "machine" "LTimeMachine$Machine;") (List.mem_of_getElem? (i := 5) rfl)) (fun _ h9 => h9) rfl dX5_mustWait_139 ?_
    refine va_get (D := (dC, dI)) (ci := 7) (v := .long (sL s8.2.2.1 0)) (C := RX6) (T := TX6) (N := 20) hx hb hts hi_dm_X5_mustWait_X6 hown hK hP 4 rfl rfl 17 (by decide) (hts (.fieldLink RX5 133 "TimeMachine$Machine" "clock" "J") (List.mem_of_getElem? (i := 21) rfl)) (fun _ h9 => h9) rfl dX5_mustWait_142 ?_
    refine lv_aload_n hx hb dX5_mustWait_145 rfl (lv_at hl 2 rfl) ?_
    refine va_get (D := (dC, dI)) (ci := 6) (v := .ref (a 4)) (C := RX5) (T := TX5) (N := 8) hx hb hts hi_dm_X5_mustWait_X5 hown hK hP 0 rfl rfl 0 (by decide) (hts (.fieldLink RX5 18 "TimeMachine$Kernel" "machine" "LTimeMachine$Machine;") (List.mem_of_getElem? (i := 5) rfl)) (fun _ h9 => h9) rfl dX5_mustWait_146 ?_
    refine va_get (D := (dC, dI)) (ci := 7) (v := .ref (a 12)) (C := RX6) (T := TX6) (N := 20) hx hb hts hi_dm_X5_mustWait_X6 hown hK hP 4 rfl rfl 8 (by decide) (hts (.fieldLink RX5 137 "TimeMachine$Machine" "sleep" "[J") (List.mem_of_getElem? (i := 22) rfl)) (fun _ h9 => h9) rfl dX5_mustWait_149 ?_
    refine lv_iload_n hx hb dX5_mustWait_152 rfl (lv_at hl 3 rfl) ?_
    obtain ⟨i43, h⟩ := nd_ck_e h
    refine va_lald (i := v0) hx hb hK hP 12 9 rfl rfl i43 dX5_mustWait_153 ?_
    refine W.lcmp hx hb dX5_mustWait_154 ?_
    refine lv_if_ge (tgt := 162) hx hb dX5_mustWait_155 (by decide) (fun c44 => ?_) (fun c44 => ?_)
    · have h := nd_pos h c44
      refine lv_iconst (v := 0) hx hb dX5_mustWait_162 (by decide) ?_
      exact (db_X5_mustWait_163 C K) (0) s8 _ _ _ h hP hD hS (lv_sub hl [] rfl)
    · have h := nd_neg h c44
      refine lv_iconst (v := 1) hx hb dX5_mustWait_158 (by decide) ?_
      refine lv_goto (tgt := 163) hx hb dX5_mustWait_159 (by decide) ?_
      exact (db_X5_mustWait_163 C K) (1) s8 _ _ _ h hP hD hS (lv_sub hl [] rfl)
  have h := nd_neg h c42
  by_cases c46 : q7 = 21
  · have h := nd_pos h c46
    refine lv_lookup (off := 141) (tgt := 164) hx hb dX5_mustWait_23 (by decide) (by rw [c46]; decide) (by decide) ?_
    refine lv_aload_n hx hb dX5_mustWait_164 rfl (lv_at hl 2 rfl) ?_
    refine va_get (D := (dC, dI)) (ci := 6) (v := .ref (a 4)) (C := RX5) (T := TX5) (N := 8) hx hb hts hi_dm_X5_mustWait_X5 hown hK hP 0 rfl rfl 0 (by decide) (hts (.fieldLink RX5 18 "TimeMachine$Kernel" "machine" "LTimeMachine$Machine;") (List.mem_of_getElem? (i := 5) rfl)) (fun _ h9 => h9) rfl dX5_mustWait_165 ?_
    refine va_get (D := (dC, dI)) (ci := 7) (v := .int (sI s8.2.2.1 1)) (C := RX6) (T := TX6) (N := 20) hx hb hts hi_dm_X5_mustWait_X6 hown hK hP 4 rfl rfl 10 (by decide) (hts (.fieldLink RX5 141 "TimeMachine$Machine" "randoms" "I") (List.mem_of_getElem? (i := 23) rfl)) (fun _ h9 => h9) rfl dX5_mustWait_168 ?_
    refine lv_if_ne (tgt := 178) hx hb dX5_mustWait_171 (by decide) (fun c47 => ?_) (fun c47 => ?_)
    · have h := nd_neg h c47
      refine lv_iconst (v := 0) hx hb dX5_mustWait_178 (by decide) ?_
      exact (db_X5_mustWait_179 C K) (0) s8 _ _ _ h hP hD hS (lv_sub hl [] rfl)
    · have h := nd_pos h c47
      refine lv_iconst (v := 1) hx hb dX5_mustWait_174 (by decide) ?_
      refine lv_goto (tgt := 179) hx hb dX5_mustWait_175 (by decide) ?_
      exact (db_X5_mustWait_179 C K) (1) s8 _ _ _ h hP hD hS (lv_sub hl [] rfl)
  have h := nd_neg h c46
  refine lv_lookup (off := 157) (tgt := 180) hx hb dX5_mustWait_23 (by decide) (show Op.lookupswitch.offset [(3, 49), (6, 79), (7, 97), (19, 115), (21, 141)] 157 (q7 : Int32).toInt = 157 by rw [lv_osw c10 (by decide), lv_osw c22 (by decide), lv_osw c32 (by decide), lv_osw c42 (by decide), lv_osw c46 (by decide)] <;> rfl) (by decide) ?_
  refine lv_iconst (v := 0) hx hb dX5_mustWait_180 (by decide) ?_
  exact K _ _ _ _ _ _ dX5_mustWait_181 (by first | rfl | decide) (Option.some.inj h).symm hP hD hS
set_option maxHeartbeats 40000000 in
set_option maxRecDepth 100000 in
theorem dm_X5_mustWait (l : Launch) (hlt : l.stackTraces = false) (dC : Nat → ClassId) (dI : Nat → Nat → Nat) (a : Nat → Nat) (ac : Nat → ClassId) (n : Nat) (v0 : Int32) (s0 : St × (St × (St × (St)))) {r : Int32 × (St × (St × (St × (St))))} (h : df_X5_mustWait n v0 s0 = some r) (sz : Nat) : Met l yX5_mustWait ow_dm_X5_mustWait ({ frames := 1, cells := 0, slots := 0, locals := 24 }) (va_Pc [.ref (a 0), .int v0] (fun U => U.heap.size = sz ∧ va_P (dC, dI) vwCl (dw_X5 a ac s0) U.heap ∧ va_K (dC, dI) vwCl (dk_X5 ac) U ∧ va_D (fun _ => True) (dw_X5 a ac s0) ∧ nv_E (va_A (dw_X5 a ac s0) sz) U)) (va_Qi (fun x _ => x = r.1) (fun (_ : Unit) t => va_P (dC, dI) vwCl (dw_X5 a ac r.2) t.heap ∧ va_K (dC, dI) vwCl (dk_X5 ac) t ∧ va_D (va_A (dw_X5 a ac s0) sz) (dw_X5 a ac r.2)) (va_A (dw_X5 a ac s0) sz)) 0 0 (va_A (dw_X5 a ac s0) sz) := by
  refine Met.ofW (cc := cX5_mustWait) (maxL := 4) (ret := (some .boolean)) (by decide) rfl ?_
  intro p e s m args below meth c s₁ B hml hv
  obtain ⟨rfl, hsz, hP, hK, hD0, hN⟩ := hv
  have hx := B.exec
  have hb := B.bytes
  have hr := B.returns
  have hts := atoms_spec (ws := ow_dm_X5_mustWait) B.pre
  have hown : s.vm.findClass RX5 = some m.cls := findClass_of_methodNamed B.named
  have hlocks := B.notSynchronized
  subst hsz
  have hD := hD0.self (sz := s.heap.size)
  generalize hAe : va_A (dw_X5 a ac s0) s.heap.size = A at hD hN ⊢
  have hA : ∀ q : Nat, s.heap.size ≤ q → A q := fun q h => by rw [← hAe]; exact Or.inr h
  have hl := lv_entry ([.ref (a 0), .int v0]) (n := 4) (Nat.le_of_ble_eq_true rfl)
  rw [lg_entry_eq]
  generalize (lg_sl ([.ref (a 0), .int v0]) ++ List.replicate (4 - (lg_sl ([.ref (a 0), .int v0])).length) Slot.unset).toArray = ls at hl ⊢
  have hl : lv_has ls 4 [(0, .ref (a 0)), (1, .int v0)] := hl
  exact db_X5_mustWait_0 (dC := dC) (dI := dI) (a := a) (ac := ac) (n := n) (r := r) ⟨hlt, hx, hb, hml, hown, hts, hN, hA, hK⟩ (fun pc v τ H locs ls d z er hP hD hS => by subst er; exact W.zret (v := v) hx hb hr z (fun t ht hW => ⟨⟨v, (), rfl, rfl, by rw [ht]; exact hP, va_K.moved hW.alike hK, hD⟩, hS.F ht⟩) hS.2.2 d) v0 s0 _ _ _ h hP hD va_S.rf (lv_sub hl [0, 1] rfl)
def ow_dm_X5_settle : List Cond := .code yX5_settle cX5_settle 2 none :: ([.fieldLink RX5 18 "TimeMachine$Kernel" "machine" "LTimeMachine$Machine;", .methodLink RX5 112 yX6_chooseCurrent, .instanceMethod yX6_chooseCurrent, .selects RX6 yX6_chooseCurrent yX6_chooseCurrent, .initialized RX6, .fieldLink RX5 102 "TimeMachine$Machine" "waiting" "I", .methodLink RX5 105 yX6_status, .instanceMethod yX6_status, .selects RX6 yX6_status yX6_status, .methodLink RX5 64 yX6_takeable, .instanceMethod yX6_takeable, .selects RX6 yX6_takeable yX6_takeable, .fieldLink RX5 37 "TimeMachine$Kernel" "self" "[I", .methodLink RX5 108 yX5_mustWait, .instanceMethod yX5_mustWait, .selects RX5 yX5_mustWait yX5_mustWait, .initialized RX5] ++ (u_ws RX5 TX5 8 ++ (u_ws RX6 TX6 20 ++ (ow_dm_X6_chooseCurrent ++ (ow_dm_X6_status ++ (ow_dm_X6_takeable ++ (ow_dm_X5_mustWait ++ [])))))))
theorem gd_dm_X5_settle : ∀ w ∈ ow_dm_X5_settle, (w.onTables && w.keeps) = true ∨ ∃ ty, w = Cond.arrayClass ty := List.forall_mem_cons.mpr ⟨good_of_word rfl, List.forall_mem_append.mpr ⟨fun w h => good_of_word (List.all_eq_true.mp (by decide +kernel) w h), List.forall_mem_append.mpr ⟨gu_X5, List.forall_mem_append.mpr ⟨gu_X6, List.forall_mem_append.mpr ⟨gd_dm_X6_chooseCurrent, List.forall_mem_append.mpr ⟨gd_dm_X6_status, List.forall_mem_append.mpr ⟨gd_dm_X6_takeable, List.forall_mem_append.mpr ⟨gd_dm_X5_mustWait, fun _ h => nomatch h⟩⟩⟩⟩⟩⟩⟩⟩
theorem hi_dm_X5_settle_X5 : ∀ w ∈ u_ws RX5 TX5 8, w ∈ ow_dm_X5_settle := fun w h => List.mem_cons_of_mem _ (List.mem_append_right _ (List.mem_append_left _ h))
theorem hi_dm_X5_settle_X6 : ∀ w ∈ u_ws RX6 TX6 20, w ∈ ow_dm_X5_settle := fun w h => List.mem_cons_of_mem _ (List.mem_append_right _ (List.mem_append_right _ (List.mem_append_left _ h)))
theorem gi_dm_X5_settle_0 : GoodIn ow_dm_X5_settle (wsV RX5 112 RX6 yX6_chooseCurrent ow_dm_X6_chooseCurrent) := goodIn_app (goodIn_of _ (by decide +kernel)) (fun w h => ⟨List.mem_cons_of_mem _ (List.mem_append_right _ (List.mem_append_right _ (List.mem_append_right _ (List.mem_append_left _ h)))), gd_dm_X6_chooseCurrent w h⟩)
theorem gi_dm_X5_settle_1 : GoodIn ow_dm_X5_settle (wsV RX5 105 RX6 yX6_status ow_dm_X6_status) := goodIn_app (goodIn_of _ (by decide +kernel)) (fun w h => ⟨List.mem_cons_of_mem _ (List.mem_append_right _ (List.mem_append_right _ (List.mem_append_right _ (List.mem_append_right _ (List.mem_append_left _ h))))), gd_dm_X6_status w h⟩)
theorem gi_dm_X5_settle_2 : GoodIn ow_dm_X5_settle (wsV RX5 64 RX6 yX6_takeable ow_dm_X6_takeable) := goodIn_app (goodIn_of _ (by decide +kernel)) (fun w h => ⟨List.mem_cons_of_mem _ (List.mem_append_right _ (List.mem_append_right _ (List.mem_append_right _ (List.mem_append_right _ (List.mem_append_right _ (List.mem_append_left _ h)))))), gd_dm_X6_takeable w h⟩)
theorem gi_dm_X5_settle_3 : GoodIn ow_dm_X5_settle (wsV RX5 108 RX5 yX5_mustWait ow_dm_X5_mustWait) := goodIn_app (goodIn_of _ (by decide +kernel)) (fun w h => ⟨List.mem_cons_of_mem _ (List.mem_append_right _ (List.mem_append_right _ (List.mem_append_right _ (List.mem_append_right _ (List.mem_append_right _ (List.mem_append_right _ (List.mem_append_left _ h))))))), gd_dm_X5_mustWait w h⟩)
def dj_X5_settle_80 (p : Program) (l : Launch) (e : Env) (s : State) (m : MethodId) (args : Array Value) (below : List Frame) (meth : Method) (c : Code) (Q : State → Prop) (A : Nat → Prop) (dC : Nat → ClassId) (dI : Nat → Nat → Nat) (a : Nat → Nat) (ac : Nat → ClassId) (g : (St × (St × (St × (St)))) → Option (St × (St × (St × (St))))) (r : St × (St × (St × (St)))) : Prop := ∀ (s0 : St × (St × (St × (St)))) (H : Heap) (locs : List Loc) (ls : Array Slot), g s0 = some r → va_P (dC, dI) vwCl (dw_X5 a ac s0) H → va_D A (dw_X5 a ac s0) → va_S A s.heap H locs → lv_has ls 2 [(0, .ref (a 0))] → W p l e (headSpec ow_dm_X5_settle ({ frames := 2, cells := 0, slots := 0, locals := 47 })).room s m args below meth c H locs 0 0 Q (F0 m 80 ls [])
def dj_X5_settle_74 (p : Program) (l : Launch) (e : Env) (s : State) (m : MethodId) (args : Array Value) (below : List Frame) (meth : Method) (c : Code) (Q : State → Prop) (A : Nat → Prop) (dC : Nat → ClassId) (dI : Nat → Nat → Nat) (a : Nat → Nat) (ac : Nat → ClassId) (g : Int32 → (St × (St × (St × (St)))) → Option (St × (St × (St × (St))))) (r : St × (St × (St × (St)))) : Prop := ∀ (x1 : Int32) (s0 : St × (St × (St × (St)))) (H : Heap) (locs : List Loc) (ls : Array Slot), g x1 s0 = some r → va_P (dC, dI) vwCl (dw_X5 a ac s0) H → va_D A (dw_X5 a ac s0) → va_S A s.heap H locs → lv_has ls 2 [(0, .ref (a 0)), (1, .int x1)] → W p l e (headSpec ow_dm_X5_settle ({ frames := 2, cells := 0, slots := 0, locals := 47 })).room s m args below meth c H locs 0 0 Q (F0 m 74 ls [])
def dj_X5_settle_49 (p : Program) (l : Launch) (e : Env) (s : State) (m : MethodId) (args : Array Value) (below : List Frame) (meth : Method) (c : Code) (Q : State → Prop) (A : Nat → Prop) (dC : Nat → ClassId) (dI : Nat → Nat → Nat) (a : Nat → Nat) (ac : Nat → ClassId) (g : Int32 → (St × (St × (St × (St)))) → Option (St × (St × (St × (St))))) (r : St × (St × (St × (St)))) : Prop := ∀ (x1 : Int32) (s0 : St × (St × (St × (St)))) (H : Heap) (locs : List Loc) (ls : Array Slot), g x1 s0 = some r → va_P (dC, dI) vwCl (dw_X5 a ac s0) H → va_D A (dw_X5 a ac s0) → va_S A s.heap H locs → lv_has ls 2 [(0, .ref (a 0)), (1, .int x1)] → W p l e (headSpec ow_dm_X5_settle ({ frames := 2, cells := 0, slots := 0, locals := 47 })).room s m args below meth c H locs 0 0 Q (F0 m 49 ls [])
def dj_X5_settle_2 (p : Program) (l : Launch) (e : Env) (s : State) (m : MethodId) (args : Array Value) (below : List Frame) (meth : Method) (c : Code) (Q : State → Prop) (A : Nat → Prop) (dC : Nat → ClassId) (dI : Nat → Nat → Nat) (a : Nat → Nat) (ac : Nat → ClassId) (g : Int32 → (St × (St × (St × (St)))) → Option (St × (St × (St × (St))))) (r : St × (St × (St × (St)))) : Prop := ∀ (x1 : Int32) (s0 : St × (St × (St × (St)))) (H : Heap) (locs : List Loc) (ls : Array Slot), g x1 s0 = some r → va_P (dC, dI) vwCl (dw_X5 a ac s0) H → va_D A (dw_X5 a ac s0) → va_S A s.heap H locs → lv_has ls 2 [(0, .ref (a 0)), (1, .int x1)] → W p l e (headSpec ow_dm_X5_settle ({ frames := 2, cells := 0, slots := 0, locals := 47 })).room s m args below meth c H locs 0 0 Q (F0 m 2 ls [])
def dj_X5_settle_0 (p : Program) (l : Launch) (e : Env) (s : State) (m : MethodId) (args : Array Value) (below : List Frame) (meth : Method) (c : Code) (Q : State → Prop) (A : Nat → Prop) (dC : Nat → ClassId) (dI : Nat → Nat → Nat) (a : Nat → Nat) (ac : Nat → ClassId) (g : (St × (St × (St × (St)))) → Option (St × (St × (St × (St))))) (r : St × (St × (St × (St)))) : Prop := ∀ (s0 : St × (St × (St × (St)))) (H : Heap) (locs : List Loc) (ls : Array Slot), g s0 = some r → va_P (dC, dI) vwCl (dw_X5 a ac s0) H → va_D A (dw_X5 a ac s0) → va_S A s.heap H locs → lv_has ls 2 [(0, .ref (a 0))] → W p l e (headSpec ow_dm_X5_settle ({ frames := 2, cells := 0, slots := 0, locals := 47 })).room s m args below meth c H locs 0 0 Q (F0 m 0 ls [])
set_option maxHeartbeats 40000000 in
set_option maxRecDepth 100000 in
theorem db_X5_settle_80 {p : Program} {l : Launch} {e : Env} {s : State} {m : MethodId} {args : Array Value} {below : List Frame} {meth : Method} {c : Code} {Q : State → Prop} {A : Nat → Prop} {dC : Nat → ClassId} {dI : Nat → Nat → Nat} {a : Nat → Nat} {ac : Nat → ClassId} {n : Nat} {r : St × (St × (St × (St)))} (C : nd_C p l s m args c A (dC, dI) cX5_settle 2 RX5 ow_dm_X5_settle (dk_X5 ac)) (K : nd_Kv p l e (headSpec ow_dm_X5_settle ({ frames := 2, cells := 0, slots := 0, locals := 47 })).room s m args below meth c Q A (dC, dI) cX5_settle (St × (St × (St × (St)))) (dw_X5 a ac) r) : dj_X5_settle_80 p l e s m args below meth c Q A dC dI a ac (df_X5_settle_80 n) r := by
  obtain ⟨hlt, hx, hb, hml, hown, hts, hN, hA, hK⟩ := id C
  intro s0 H locs ls h hP hD hS hl
  unfold df_X5_settle_80 at h
  refine lv_aload_n hx hb dX5_settle_80 rfl (lv_at hl 0 rfl) ?_
  refine va_get (D := (dC, dI)) (ci := 6) (v := .ref (a 4)) (C := RX5) (T := TX5) (N := 8) hx hb hts hi_dm_X5_settle_X5 hown hK hP 0 rfl rfl 0 (by decide) (hts (.fieldLink RX5 18 "TimeMachine$Kernel" "machine" "LTimeMachine$Machine;") (List.mem_of_getElem? (i := 1) rfl)) (fun _ h9 => h9) rfl dX5_settle_81 ?_
  obtain ⟨s3, hq, h⟩ := nd_b1_e h
  have hPc := dp_X5_4 hP
  have hDc := dd_X5_4 hD
  have hKc := dy_X5_4 hK
  have hFc := nd_rs hDc hS hA
  have hzA : ∀ q : Nat, H.size ≤ q → A q := fun q h => hA q (Nat.le_trans hS.1 h)
  refine nd_cVv (As := []) (rest := []) (w' := dw_X6 (fun k => a (k + 4)) (fun k => ac (k + 4)) s3) ⟨hx, hb, hml, hown, hts⟩ (fun sz => dm_X6_chooseCurrent l hlt dC dI (fun k => a (k + 4)) (fun k => ac (k + 4)) n  s0.2.2 hq sz) (cwV 0 hts gi_dm_X5_settle_0 rfl rfl rfl (by decide +kernel) ⟨Nat.le_of_ble_eq_true rfl, Nat.le_of_ble_eq_true rfl⟩) hPc hDc hKc hS hA hN (va_recv hKc hPc (ci := 7) (q0 := 0) rfl rfl) rfl hl.1 rfl (Nat.le_of_ble_eq_true rfl) dX5_settle_84 (fun H locs hP1 hD1 hk1 hS => ?_)
  obtain ⟨hP, hD⟩ := dn_X5_4 hP hD hzA hk1 hP1 hD1
  obtain ⟨s5, es5, h⟩ := nd_let_e h
  have hP : va_P (dC, dI) vwCl (dw_X5 a ac s5) H := by rw [es5]; exact hP
  have hD : va_D A (dw_X5 a ac s5) := by rw [es5]; exact hD
  exact K _ _ _ _ _ dX5_settle_87 (Option.some.inj h).symm hP hD hS
set_option maxHeartbeats 40000000 in
set_option maxRecDepth 100000 in
theorem db_X5_settle_74 {p : Program} {l : Launch} {e : Env} {s : State} {m : MethodId} {args : Array Value} {below : List Frame} {meth : Method} {c : Code} {Q : State → Prop} {A : Nat → Prop} {dC : Nat → ClassId} {dI : Nat → Nat → Nat} {a : Nat → Nat} {ac : Nat → ClassId} {n : Nat} {r : St × (St × (St × (St)))} (C : nd_C p l s m args c A (dC, dI) cX5_settle 2 RX5 ow_dm_X5_settle (dk_X5 ac)) (K : nd_Kv p l e (headSpec ow_dm_X5_settle ({ frames := 2, cells := 0, slots := 0, locals := 47 })).room s m args below meth c Q A (dC, dI) cX5_settle (St × (St × (St × (St)))) (dw_X5 a ac) r) {g2 : Int32 → (St × (St × (St × (St)))) → Option (St × (St × (St × (St))))} (J2 : dj_X5_settle_2 p l e s m args below meth c Q A dC dI a ac g2 r) : dj_X5_settle_74 p l e s m args below meth c Q A dC dI a ac (df_X5_settle_74 n g2) r := by
  obtain ⟨hlt, hx, hb, hml, hown, hts, hN, hA, hK⟩ := id C
  intro x1 s0 H locs ls h hP hD hS hl
  unfold df_X5_settle_74 at h
  obtain ⟨z12, ez12, h⟩ := nd_let_e h
  refine lv_iinc (v := z12) (lv' := [(1, .int z12), (0, .ref (a 0))]) hx hb dX5_settle_74 hl (k := 1) rfl (by rw [ez12]) (by decide) rfl (fun ls hl => ?_)
  refine lv_goto (tgt := 2) hx hb dX5_settle_77 (by decide) ?_
  exact (J2) (z12) s0 _ _ _ h hP hD hS (lv_sub hl [1, 0] rfl)
set_option maxHeartbeats 40000000 in
set_option maxRecDepth 100000 in
theorem db_X5_settle_49 {p : Program} {l : Launch} {e : Env} {s : State} {m : MethodId} {args : Array Value} {below : List Frame} {meth : Method} {c : Code} {Q : State → Prop} {A : Nat → Prop} {dC : Nat → ClassId} {dI : Nat → Nat → Nat} {a : Nat → Nat} {ac : Nat → ClassId} {n : Nat} {r : St × (St × (St × (St)))} (C : nd_C p l s m args c A (dC, dI) cX5_settle 2 RX5 ow_dm_X5_settle (dk_X5 ac)) (K : nd_Kv p l e (headSpec ow_dm_X5_settle ({ frames := 2, cells := 0, slots := 0, locals := 47 })).room s m args below meth c Q A (dC, dI) cX5_settle (St × (St × (St × (St)))) (dw_X5 a ac) r) {g2 : Int32 → (St × (St × (St × (St)))) → Option (St × (St × (St × (St))))} (J2 : dj_X5_settle_2 p l e s m args below meth c Q A dC dI a ac g2 r) : dj_X5_settle_49 p l e s m args below meth c Q A dC dI a ac (df_X5_settle_49 n g2) r := by
  obtain ⟨hlt, hx, hb, hml, hown, hts, hN, hA, hK⟩ := id C
  intro x1 s0 H locs ls h hP hD hS hl
  unfold df_X5_settle_49 at h
  refine lv_aload_n hx hb dX5_settle_49 rfl (lv_at hl 0 rfl) ?_
  refine va_get (D := (dC, dI)) (ci := 6) (v := .ref (a 11)) (C := RX5) (T := TX5) (N := 8) hx hb hts hi_dm_X5_settle_X5 hown hK hP 0 rfl rfl 3 (by decide) (hts (.fieldLink RX5 37 "TimeMachine$Kernel" "self" "[I") (List.mem_of_getElem? (i := 13) rfl)) (fun _ h9 => h9) rfl dX5_settle_50 ?_
  refine lv_iload_n hx hb dX5_settle_53 rfl (lv_at hl 1 rfl) ?_
  refine lv_bipush (v := 7) hx hb dX5_settle_54 (by decide) ?_
  refine lv_imul hx hb dX5_settle_56 ?_
  refine lv_iconst (v := 0) hx hb dX5_settle_57 (by decide) ?_
  refine lv_iadd hx hb dX5_settle_58 ?_
  refine lv_iconst (v := 1) hx hb dX5_settle_59 (by decide) ?_
  obtain ⟨i18, h⟩ := nd_ck_e h
  refine va_iast (i := ((x1 * 7) + 0)) (x := 1) hx hb hK hP hD hS 11 8 rfl rfl i18 dX5_settle_60 (fun H locs hP hD hS => ?_)
  obtain ⟨s19, es19, h⟩ := nd_let_e h
  have hP : va_P (dC, dI) vwCl (dw_X5 a ac s19) H := by rw [es19]; exact hP
  have hD : va_D A (dw_X5 a ac s19) := by rw [es19]; exact hD
  refine lv_aload_n hx hb dX5_settle_61 rfl (lv_at hl 0 rfl) ?_
  refine va_get (D := (dC, dI)) (ci := 6) (v := .ref (a 4)) (C := RX5) (T := TX5) (N := 8) hx hb hts hi_dm_X5_settle_X5 hown hK hP 0 rfl rfl 0 (by decide) (hts (.fieldLink RX5 18 "TimeMachine$Kernel" "machine" "LTimeMachine$Machine;") (List.mem_of_getElem? (i := 1) rfl)) (fun _ h9 => h9) rfl dX5_settle_62 ?_
  refine lv_dup hx hb dX5_settle_65 rfl ?_
  refine va_get (D := (dC, dI)) (ci := 7) (v := .int (sI s19.2.2.1 2)) (C := RX6) (T := TX6) (N := 20) hx hb hts hi_dm_X5_settle_X6 hown hK hP 4 rfl rfl 12 (by decide) (hts (.fieldLink RX5 102 "TimeMachine$Machine" "waiting" "I") (List.mem_of_getElem? (i := 6) rfl)) (fun _ h9 => h9) rfl dX5_settle_66 ?_
  refine lv_iconst (v := 1) hx hb dX5_settle_69 (by decide) ?_
  refine lv_isub hx hb dX5_settle_70 ?_
  refine va_put (D := (dC, dI)) (ci := 7) (v := .int ((sI s19.2.2.1 2) - 1)) (ty := .int) (C := RX6) (T := TX6) (N := 20) hx hb hts hi_dm_X5_settle_X6 tyX6 tyX6_ok nmX6 hown hK hP hD hS 4 rfl rfl 12 (by decide) (hts (.fieldLink RX5 102 "TimeMachine$Machine" "waiting" "I") (List.mem_of_getElem? (i := 6) rfl)) (fun _ h9 => h9) rfl (by decide +kernel) rfl rfl (Nat.le_of_ble_eq_true rfl) dX5_settle_71 (fun H locs hP hD hS => ?_)
  obtain ⟨s20, es20, h⟩ := nd_let_e h
  have hP : va_P (dC, dI) vwCl (dw_X5 a ac s20) H := by rw [es20]; exact hP
  have hD : va_D A (dw_X5 a ac s20) := by rw [es20]; exact hD
  exact (db_X5_settle_74 C K J2) (x1) s20 _ _ _ h hP hD hS (lv_sub hl [0, 1] rfl)
set_option maxHeartbeats 40000000 in
set_option maxRecDepth 100000 in
theorem dB_X5_settle_2 {p : Program} {l : Launch} {e : Env} {s : State} {m : MethodId} {args : Array Value} {below : List Frame} {meth : Method} {c : Code} {Q : State → Prop} {A : Nat → Prop} {dC : Nat → ClassId} {dI : Nat → Nat → Nat} {a : Nat → Nat} {ac : Nat → ClassId} {n : Nat} {r : St × (St × (St × (St)))} (C : nd_C p l s m args c A (dC, dI) cX5_settle 2 RX5 ow_dm_X5_settle (dk_X5 ac)) (K : nd_Kv p l e (headSpec ow_dm_X5_settle ({ frames := 2, cells := 0, slots := 0, locals := 47 })).room s m args below meth c Q A (dC, dI) cX5_settle (St × (St × (St × (St)))) (dw_X5 a ac) r) {g2 : Int32 → (St × (St × (St × (St)))) → Option (St × (St × (St × (St))))} (J2 : dj_X5_settle_2 p l e s m args below meth c Q A dC dI a ac g2 r) : dj_X5_settle_2 p l e s m args below meth c Q A dC dI a ac (dF_X5_settle_2 n g2) r := by
  obtain ⟨hlt, hx, hb, hml, hown, hts, hN, hA, hK⟩ := id C
  intro x1 s0 H locs ls h hP hD hS hl
  unfold dF_X5_settle_2 at h
  refine lv_iload_n hx hb dX5_settle_2 rfl (lv_at hl 1 rfl) ?_
  refine lv_bipush (v := 16) hx hb dX5_settle_3 (by decide) ?_
  refine lv_icmp_ge (tgt := 80) hx hb dX5_settle_5 (by decide) (fun c1 => ?_) (fun c1 => ?_)
  · have h := nd_pos h c1
    exact (db_X5_settle_80 C K)  s0 _ _ _ h hP hD hS (lv_sub hl [0] rfl)
  · have h := nd_neg h c1
    refine lv_aload_n hx hb dX5_settle_8 rfl (lv_at hl 0 rfl) ?_
    refine va_get (D := (dC, dI)) (ci := 6) (v := .ref (a 4)) (C := RX5) (T := TX5) (N := 8) hx hb hts hi_dm_X5_settle_X5 hown hK hP 0 rfl rfl 0 (by decide) (hts (.fieldLink RX5 18 "TimeMachine$Kernel" "machine" "LTimeMachine$Machine;") (List.mem_of_getElem? (i := 1) rfl)) (fun _ h9 => h9) rfl dX5_settle_9 ?_
    refine va_get (D := (dC, dI)) (ci := 7) (v := .int (sI s0.2.2.1 2)) (C := RX6) (T := TX6) (N := 20) hx hb hts hi_dm_X5_settle_X6 hown hK hP 4 rfl rfl 12 (by decide) (hts (.fieldLink RX5 102 "TimeMachine$Machine" "waiting" "I") (List.mem_of_getElem? (i := 6) rfl)) (fun _ h9 => h9) rfl dX5_settle_12 ?_
    refine lv_if_le (tgt := 80) hx hb dX5_settle_15 (by decide) (fun c6 => ?_) (fun c6 => ?_)
    · have h := nd_pos h c6
      exact (db_X5_settle_80 C K)  s0 _ _ _ h hP hD hS (lv_sub hl [0] rfl)
    · have h := nd_neg h c6
      refine lv_aload_n hx hb dX5_settle_18 rfl (lv_at hl 0 rfl) ?_
      refine va_get (D := (dC, dI)) (ci := 6) (v := .ref (a 4)) (C := RX5) (T := TX5) (N := 8) hx hb hts hi_dm_X5_settle_X5 hown hK hP 0 rfl rfl 0 (by decide) (hts (.fieldLink RX5 18 "TimeMachine$Kernel" "machine" "LTimeMachine$Machine;") (List.mem_of_getElem? (i := 1) rfl)) (fun _ h9 => h9) rfl dX5_settle_19 ?_
      refine lv_iload_n hx hb dX5_settle_22 rfl (lv_at hl 1 rfl) ?_
      obtain ⟨q7, s8, hq, h⟩ := nd_b2_e h
      have hPc := dp_X5_4 hP
      have hDc := dd_X5_4 hD
      have hKc := dy_X5_4 hK
      have hFc := nd_rs hDc hS hA
      have hzA : ∀ q : Nat, H.size ≤ q → A q := fun q h => hA q (Nat.le_trans hS.1 h)
      refine nd_cVi (As := [.int x1]) (rest := []) (q := q7) (w' := dw_X6 (fun k => a (k + 4)) (fun k => ac (k + 4)) s8) ⟨hx, hb, hml, hown, hts⟩ (fun sz => dm_X6_status l hlt dC dI (fun k => a (k + 4)) (fun k => ac (k + 4)) n (x1) s0.2.2 hq sz) (cwV 1 hts gi_dm_X5_settle_1 rfl rfl rfl (by decide +kernel) ⟨Nat.le_of_ble_eq_true rfl, Nat.le_of_ble_eq_true rfl⟩) hPc hDc hKc hS hA hN (va_recv hKc hPc (ci := 7) (q0 := 0) rfl rfl) rfl hl.1 rfl (Nat.le_of_ble_eq_true rfl) dX5_settle_23 (fun H locs hP1 hD1 hk1 hS => ?_)
      obtain ⟨hP, hD⟩ := dn_X5_4 hP hD hzA hk1 hP1 hD1
      obtain ⟨s10, es10, h⟩ := nd_let_e h
      have hP : va_P (dC, dI) vwCl (dw_X5 a ac s10) H := by rw [es10]; exact hP
      have hD : va_D A (dw_X5 a ac s10) := by rw [es10]; exact hD
      refine lv_iconst (v := 2) hx hb dX5_settle_26 (by decide) ?_
      refine lv_icmp_ne (tgt := 74) hx hb dX5_settle_27 (by decide) (fun c11 => ?_) (fun c11 => ?_)
      · have h := nd_neg h c11
        exact (db_X5_settle_74 C K J2) (x1) s10 _ _ _ h hP hD hS (lv_sub hl [0, 1] rfl)
      · have h := nd_pos h c11
        refine lv_aload_n hx hb dX5_settle_30 rfl (lv_at hl 0 rfl) ?_
        refine va_get (D := (dC, dI)) (ci := 6) (v := .ref (a 4)) (C := RX5) (T := TX5) (N := 8) hx hb hts hi_dm_X5_settle_X5 hown hK hP 0 rfl rfl 0 (by decide) (hts (.fieldLink RX5 18 "TimeMachine$Kernel" "machine" "LTimeMachine$Machine;") (List.mem_of_getElem? (i := 1) rfl)) (fun _ h9 => h9) rfl dX5_settle_31 ?_
        refine lv_iload_n hx hb dX5_settle_34 rfl (lv_at hl 1 rfl) ?_
        obtain ⟨q13, s14, hq, h⟩ := nd_b2_e h
        have hPc := dp_X5_4 hP
        have hDc := dd_X5_4 hD
        have hKc := dy_X5_4 hK
        have hFc := nd_rs hDc hS hA
        have hzA : ∀ q : Nat, H.size ≤ q → A q := fun q h => hA q (Nat.le_trans hS.1 h)
        refine nd_cVi (As := [.int x1]) (rest := []) (q := q13) (w' := dw_X6 (fun k => a (k + 4)) (fun k => ac (k + 4)) s14) ⟨hx, hb, hml, hown, hts⟩ (fun sz => dm_X6_takeable l hlt dC dI (fun k => a (k + 4)) (fun k => ac (k + 4)) n (x1) s10.2.2 hq sz) (cwV 1 hts gi_dm_X5_settle_2 rfl rfl rfl (by decide +kernel) ⟨Nat.le_of_ble_eq_true rfl, Nat.le_of_ble_eq_true rfl⟩) hPc hDc hKc hS hA hN (va_recv hKc hPc (ci := 7) (q0 := 0) rfl rfl) rfl hl.1 rfl (Nat.le_of_ble_eq_true rfl) dX5_settle_35 (fun H locs hP1 hD1 hk1 hS => ?_)
        obtain ⟨hP, hD⟩ := dn_X5_4 hP hD hzA hk1 hP1 hD1
        obtain ⟨s16, es16, h⟩ := nd_let_e h
        have hP : va_P (dC, dI) vwCl (dw_X5 a ac s16) H := by rw [es16]; exact hP
        have hD : va_D A (dw_X5 a ac s16) := by rw [es16]; exact hD
        refine lv_if_ne (tgt := 49) hx hb dX5_settle_38 (by decide) (fun c17 => ?_) (fun c17 => ?_)
        · have h := nd_neg h c17
          exact (db_X5_settle_49 C K J2) (x1) s16 _ _ _ h hP hD hS (lv_sub hl [0, 1] rfl)
        · have h := nd_pos h c17
          refine lv_aload_n hx hb dX5_settle_41 rfl (lv_at hl 0 rfl) ?_
          refine lv_iload_n hx hb dX5_settle_42 rfl (lv_at hl 1 rfl) ?_
          obtain ⟨q21, s22, hq, h⟩ := nd_b2_e h
          have hPc := hP
          have hDc := hD
          have hKc := hK
          have hFc := nd_rs hD hS hA
          refine nd_cVi (As := [.int x1]) (rest := []) (q := q21) (w' := dw_X5 a ac s22) ⟨hx, hb, hml, hown, hts⟩ (fun sz => dm_X5_mustWait l hlt dC dI a ac n (x1) s16 hq sz) (cwV 1 hts gi_dm_X5_settle_3 rfl rfl rfl (by decide +kernel) ⟨Nat.le_of_ble_eq_true rfl, Nat.le_of_ble_eq_true rfl⟩) hPc hDc hKc hS hA hN (va_recv hKc hPc (ci := 6) (q0 := 0) rfl rfl) rfl hl.1 rfl (Nat.le_of_ble_eq_true rfl) dX5_settle_43 (fun H locs hP1 hD1 hk1 hS => ?_)
          have hP := hP1
          have hD := hD1.weaken (fun k q _ h => hFc q.1 h)
          refine lv_if_ne (tgt := 74) hx hb dX5_settle_46 (by decide) (fun c24 => ?_) (fun c24 => ?_)
          · have h := nd_neg h c24
            exact (db_X5_settle_74 C K J2) (x1) s22 _ _ _ h hP hD hS (lv_sub hl [0, 1] rfl)
          · have h := nd_pos h c24
            exact (db_X5_settle_49 C K J2) (x1) s22 _ _ _ h hP hD hS (lv_sub hl [0, 1] rfl)
set_option maxHeartbeats 40000000 in
set_option maxRecDepth 100000 in
theorem db_X5_settle_2 {p : Program} {l : Launch} {e : Env} {s : State} {m : MethodId} {args : Array Value} {below : List Frame} {meth : Method} {c : Code} {Q : State → Prop} {A : Nat → Prop} {dC : Nat → ClassId} {dI : Nat → Nat → Nat} {a : Nat → Nat} {ac : Nat → ClassId} {n : Nat} {r : St × (St × (St × (St)))} (C : nd_C p l s m args c A (dC, dI) cX5_settle 2 RX5 ow_dm_X5_settle (dk_X5 ac)) (K : nd_Kv p l e (headSpec ow_dm_X5_settle ({ frames := 2, cells := 0, slots := 0, locals := 47 })).room s m args below meth c Q A (dC, dI) cX5_settle (St × (St × (St × (St)))) (dw_X5 a ac) r) (k : Nat) : dj_X5_settle_2 p l e s m args below meth c Q A dC dI a ac (df_X5_settle_2 n k) r := by
  induction k with
  | zero => intro x1 s0 H locs ls h; exact nomatch (show (none : Option (St × (St × (St × (St))))) = some r from h)
  | succ k ih => exact dB_X5_settle_2 C K ih
set_option maxHeartbeats 40000000 in
set_option maxRecDepth 100000 in
theorem db_X5_settle_0 {p : Program} {l : Launch} {e : Env} {s : State} {m : MethodId} {args : Array Value} {below : List Frame} {meth : Method} {c : Code} {Q : State → Prop} {A : Nat → Prop} {dC : Nat → ClassId} {dI : Nat → Nat → Nat} {a : Nat → Nat} {ac : Nat → ClassId} {n : Nat} {r : St × (St × (St × (St)))} (C : nd_C p l s m args c A (dC, dI) cX5_settle 2 RX5 ow_dm_X5_settle (dk_X5 ac)) (K : nd_Kv p l e (headSpec ow_dm_X5_settle ({ frames := 2, cells := 0, slots := 0, locals := 47 })).room s m args below meth c Q A (dC, dI) cX5_settle (St × (St × (St × (St)))) (dw_X5 a ac) r) : dj_X5_settle_0 p l e s m args below meth c Q A dC dI a ac (df_X5_settle_0 n) r := by
  obtain ⟨hlt, hx, hb, hml, hown, hts, hN, hA, hK⟩ := id C
  intro s0 H locs ls h hP hD hS hl
  unfold df_X5_settle_0 at h
  refine lv_iconst (v := 0) hx hb dX5_settle_0 (by decide) ?_
  refine lv_istore_n (lv' := [(1, .int 0), (0, .ref (a 0))]) hx hb dX5_settle_1 rfl hl (by decide) rfl (fun ls hl => ?_)
  exact (db_X5_settle_2 C K n) (0) s0 _ _ _ h hP hD hS (lv_sub hl [1, 0] rfl)
set_option maxHeartbeats 40000000 in
set_option maxRecDepth 100000 in
theorem dm_X5_settle (l : Launch) (hlt : l.stackTraces = false) (dC : Nat → ClassId) (dI : Nat → Nat → Nat) (a : Nat → Nat) (ac : Nat → ClassId) (n : Nat) (s0 : St × (St × (St × (St)))) {r : St × (St × (St × (St)))} (h : df_X5_settle n s0 = some r) (sz : Nat) : Met l yX5_settle ow_dm_X5_settle ({ frames := 2, cells := 0, slots := 0, locals := 47 }) (va_Pc [.ref (a 0)] (fun U => U.heap.size = sz ∧ va_P (dC, dI) vwCl (dw_X5 a ac s0) U.heap ∧ va_K (dC, dI) vwCl (dk_X5 ac) U ∧ va_D (fun _ => True) (dw_X5 a ac s0) ∧ nv_E (va_A (dw_X5 a ac s0) sz) U)) (va_Qv (fun _ => True) (fun (_ : Unit) t => va_P (dC, dI) vwCl (dw_X5 a ac r) t.heap ∧ va_K (dC, dI) vwCl (dk_X5 ac) t ∧ va_D (va_A (dw_X5 a ac s0) sz) (dw_X5 a ac r)) (va_A (dw_X5 a ac s0) sz)) 0 0 (va_A (dw_X5 a ac s0) sz) := by
  refine Met.ofW (cc := cX5_settle) (maxL := 2) (ret := none) (by decide) rfl ?_
  intro p e s m args below meth c s₁ B hml hv
  obtain ⟨rfl, hsz, hP, hK, hD0, hN⟩ := hv
  have hx := B.exec
  have hb := B.bytes
  have hr := B.returns
  have hts := atoms_spec (ws := ow_dm_X5_settle) B.pre
  have hown : s.vm.findClass RX5 = some m.cls := findClass_of_methodNamed B.named
  have hlocks := B.notSynchronized
  subst hsz
  have hD := hD0.self (sz := s.heap.size)
  generalize hAe : va_A (dw_X5 a ac s0) s.heap.size = A at hD hN ⊢
  have hA : ∀ q : Nat, s.heap.size ≤ q → A q := fun q h => by rw [← hAe]; exact Or.inr h
  have hl := lv_entry ([.ref (a 0)]) (n := 2) (Nat.le_of_ble_eq_true rfl)
  rw [lg_entry_eq]
  generalize (lg_sl ([.ref (a 0)]) ++ List.replicate (2 - (lg_sl ([.ref (a 0)])).length) Slot.unset).toArray = ls at hl ⊢
  have hl : lv_has ls 2 [(0, .ref (a 0))] := hl
  exact db_X5_settle_0 (dC := dC) (dI := dI) (a := a) (ac := ac) (n := n) (r := r) ⟨hlt, hx, hb, hml, hown, hts, hN, hA, hK⟩ (fun pc τ H locs ls d er hP hD hS => by subst er; exact W.vret hx hb hr (fun t ht hW => ⟨⟨(), rfl, trivial, by rw [ht]; exact hP, va_K.moved hW.alike hK, hD⟩, hS.F ht⟩) hS.2.2 d) s0 _ _ _ h hP hD va_S.rf (lv_sub hl [0] rfl)
def ow_dm_X5_take : List Cond := .code yX5_take cX5_take 5 none :: ([.fieldLink RX5 18 "TimeMachine$Kernel" "machine" "LTimeMachine$Machine;", .fieldLink RX5 86 "TimeMachine$Machine" "handler" "[I", .methodLink RX5 89 yX6_finish, .instanceMethod yX6_finish, .selects RX6 yX6_finish yX6_finish, .initialized RX6, .fieldLink RX5 33 "TimeMachine$Kernel" "reg" "[I", .fieldLink RX5 93 "TimeMachine$Machine" "saved" "[I", .methodLink RX5 96 arraycopyName, .native arraycopyName, .static arraycopyName, .initialized "java/lang/System", .fieldLink RX5 37 "TimeMachine$Kernel" "self" "[I"] ++ (u_ws RX5 TX5 8 ++ (u_ws RX6 TX6 20 ++ (ow_dm_X6_finish ++ []))))
theorem gd_dm_X5_take : ∀ w ∈ ow_dm_X5_take, (w.onTables && w.keeps) = true ∨ ∃ ty, w = Cond.arrayClass ty := List.forall_mem_cons.mpr ⟨good_of_word rfl, List.forall_mem_append.mpr ⟨fun w h => good_of_word (List.all_eq_true.mp (by decide +kernel) w h), List.forall_mem_append.mpr ⟨gu_X5, List.forall_mem_append.mpr ⟨gu_X6, List.forall_mem_append.mpr ⟨gd_dm_X6_finish, fun _ h => nomatch h⟩⟩⟩⟩⟩
theorem hi_dm_X5_take_X5 : ∀ w ∈ u_ws RX5 TX5 8, w ∈ ow_dm_X5_take := fun w h => List.mem_cons_of_mem _ (List.mem_append_right _ (List.mem_append_left _ h))
theorem hi_dm_X5_take_X6 : ∀ w ∈ u_ws RX6 TX6 20, w ∈ ow_dm_X5_take := fun w h => List.mem_cons_of_mem _ (List.mem_append_right _ (List.mem_append_right _ (List.mem_append_left _ h)))
theorem gi_dm_X5_take_0 : GoodIn ow_dm_X5_take (wsV RX5 89 RX6 yX6_finish ow_dm_X6_finish) := goodIn_app (goodIn_of _ (by decide +kernel)) (fun w h => ⟨List.mem_cons_of_mem _ (List.mem_append_right _ (List.mem_append_right _ (List.mem_append_right _ (List.mem_append_left _ h)))), gd_dm_X6_finish w h⟩)
def dj_X5_take_25 (p : Program) (l : Launch) (e : Env) (s : State) (m : MethodId) (args : Array Value) (below : List Frame) (meth : Method) (c : Code) (Q : State → Prop) (A : Nat → Prop) (dC : Nat → ClassId) (dI : Nat → Nat → Nat) (a : Nat → Nat) (ac : Nat → ClassId) (g : Int32 → Int32 → (St × (St × (St × (St)))) → Option (St × (St × (St × (St))))) (r : St × (St × (St × (St)))) : Prop := ∀ (x1 : Int32) (x2 : Int32) (s0 : St × (St × (St × (St)))) (H : Heap) (locs : List Loc) (ls : Array Slot), g x1 x2 s0 = some r → va_P (dC, dI) vwCl (dw_X5 a ac s0) H → va_D A (dw_X5 a ac s0) → va_S A s.heap H locs → lv_has ls 5 [(0, .ref (a 0)), (1, .int x1), (2, .int x2)] → W p l e (headSpec ow_dm_X5_take ({ frames := 3, cells := 0, slots := 0, locals := 69 })).room s m args below meth c H locs 0 0 Q (F0 m 25 ls [])
def dj_X5_take_0 (p : Program) (l : Launch) (e : Env) (s : State) (m : MethodId) (args : Array Value) (below : List Frame) (meth : Method) (c : Code) (Q : State → Prop) (A : Nat → Prop) (dC : Nat → ClassId) (dI : Nat → Nat → Nat) (a : Nat → Nat) (ac : Nat → ClassId) (g : Int32 → Int32 → Int32 → (St × (St × (St × (St)))) → Option (St × (St × (St × (St))))) (r : St × (St × (St × (St)))) : Prop := ∀ (v0 : Int32) (v1 : Int32) (v2 : Int32) (s0 : St × (St × (St × (St)))) (H : Heap) (locs : List Loc) (ls : Array Slot), g v0 v1 v2 s0 = some r → va_P (dC, dI) vwCl (dw_X5 a ac s0) H → va_D A (dw_X5 a ac s0) → va_S A s.heap H locs → lv_has ls 5 [(0, .ref (a 0)), (1, .int v0), (2, .int v1), (3, .int v2)] → W p l e (headSpec ow_dm_X5_take ({ frames := 3, cells := 0, slots := 0, locals := 69 })).room s m args below meth c H locs 0 0 Q (F0 m 0 ls [])
set_option maxHeartbeats 40000000 in
set_option maxRecDepth 100000 in
theorem db_X5_take_25 {p : Program} {l : Launch} {e : Env} {s : State} {m : MethodId} {args : Array Value} {below : List Frame} {meth : Method} {c : Code} {Q : State → Prop} {A : Nat → Prop} {dC : Nat → ClassId} {dI : Nat → Nat → Nat} {a : Nat → Nat} {ac : Nat → ClassId} {n : Nat} {r : St × (St × (St × (St)))} (C : nd_C p l s m args c A (dC, dI) cX5_take 5 RX5 ow_dm_X5_take (dk_X5 ac)) (K : nd_Kv p l e (headSpec ow_dm_X5_take ({ frames := 3, cells := 0, slots := 0, locals := 69 })).room s m args below meth c Q A (dC, dI) cX5_take (St × (St × (St × (St)))) (dw_X5 a ac) r) : dj_X5_take_25 p l e s m args below meth c Q A dC dI a ac (df_X5_take_25 n) r := by
  obtain ⟨hlt, hx, hb, hml, hown, hts, hN, hA, hK⟩ := id C
  intro x1 x2 s0 H locs ls h hP hD hS hl
  unfold df_X5_take_25 at h
  refine lv_aload_n hx hb dX5_take_25 rfl (lv_at hl 0 rfl) ?_
  refine va_get (D := (dC, dI)) (ci := 6) (v := .ref (a 4)) (C := RX5) (T := TX5) (N := 8) hx hb hts hi_dm_X5_take_X5 hown hK hP 0 rfl rfl 0 (by decide) (hts (.fieldLink RX5 18 "TimeMachine$Kernel" "machine" "LTimeMachine$Machine;") (List.mem_of_getElem? (i := 1) rfl)) (fun _ h9 => h9) rfl dX5_take_26 ?_
  refine lv_iload_n hx hb dX5_take_29 rfl (lv_at hl 1 rfl) ?_
  refine lv_sipush (v := 128) hx hb dX5_take_30 (by decide) ?_
  refine lv_iload_n hx hb dX5_take_33 rfl (lv_at hl 2 rfl) ?_
  refine lv_iadd hx hb dX5_take_34 ?_
  obtain ⟨s5, hq, h⟩ := nd_b1_e h
  have hPc := dp_X5_4 hP
  have hDc := dd_X5_4 hD
  have hKc := dy_X5_4 hK
  have hFc := nd_rs hDc hS hA
  have hzA : ∀ q : Nat, H.size ≤ q → A q := fun q h => hA q (Nat.le_trans hS.1 h)
  refine nd_cVv (As := [.int x1, .int (128 + x2)]) (rest := []) (w' := dw_X6 (fun k => a (k + 4)) (fun k => ac (k + 4)) s5) ⟨hx, hb, hml, hown, hts⟩ (fun sz => dm_X6_finish l hlt dC dI (fun k => a (k + 4)) (fun k => ac (k + 4)) n (x1) ((128 + x2)) s0.2.2 hq sz) (cwV 2 hts gi_dm_X5_take_0 rfl rfl rfl (by decide +kernel) ⟨Nat.le_of_ble_eq_true rfl, Nat.le_of_ble_eq_true rfl⟩) hPc hDc hKc hS hA hN (va_recv hKc hPc (ci := 7) (q0 := 0) rfl rfl) rfl hl.1 rfl (Nat.le_of_ble_eq_true rfl) dX5_take_35 (fun H locs hP1 hD1 hk1 hS => ?_)
  obtain ⟨hP, hD⟩ := dn_X5_4 hP hD hzA hk1 hP1 hD1
  obtain ⟨s7, es7, h⟩ := nd_let_e h
  have hP : va_P (dC, dI) vwCl (dw_X5 a ac s7) H := by rw [es7]; exact hP
  have hD : va_D A (dw_X5 a ac s7) := by rw [es7]; exact hD
  exact K _ _ _ _ _ dX5_take_38 (Option.some.inj h).symm hP hD hS
set_option maxHeartbeats 40000000 in
set_option maxRecDepth 100000 in
theorem db_X5_take_0 {p : Program} {l : Launch} {e : Env} {s : State} {m : MethodId} {args : Array Value} {below : List Frame} {meth : Method} {c : Code} {Q : State → Prop} {A : Nat → Prop} {dC : Nat → ClassId} {dI : Nat → Nat → Nat} {a : Nat → Nat} {ac : Nat → ClassId} {n : Nat} {r : St × (St × (St × (St)))} (C : nd_C p l s m args c A (dC, dI) cX5_take 5 RX5 ow_dm_X5_take (dk_X5 ac)) (K : nd_Kv p l e (headSpec ow_dm_X5_take ({ frames := 3, cells := 0, slots := 0, locals := 69 })).room s m args below meth c Q A (dC, dI) cX5_take (St × (St × (St × (St)))) (dw_X5 a ac) r) : dj_X5_take_0 p l e s m args below meth c Q A dC dI a ac (df_X5_take_0 n) r := by
  obtain ⟨hlt, hx, hb, hml, hown, hts, hN, hA, hK⟩ := id C
  intro v0 v1 v2 s0 H locs ls h hP hD hS hl
  unfold df_X5_take_0 at h
  refine lv_aload_n hx hb dX5_take_0 rfl (lv_at hl 0 rfl) ?_
  refine va_get (D := (dC, dI)) (ci := 6) (v := .ref (a 4)) (C := RX5) (T := TX5) (N := 8) hx hb hts hi_dm_X5_take_X5 hown hK hP 0 rfl rfl 0 (by decide) (hts (.fieldLink RX5 18 "TimeMachine$Kernel" "machine" "LTimeMachine$Machine;") (List.mem_of_getElem? (i := 1) rfl)) (fun _ h9 => h9) rfl dX5_take_1 ?_
  refine va_get (D := (dC, dI)) (ci := 7) (v := .ref (a 10)) (C := RX6) (T := TX6) (N := 20) hx hb hts hi_dm_X5_take_X6 hown hK hP 4 rfl rfl 6 (by decide) (hts (.fieldLink RX5 86 "TimeMachine$Machine" "handler" "[I") (List.mem_of_getElem? (i := 2) rfl)) (fun _ h9 => h9) rfl dX5_take_4 ?_
  refine lv_iload_n hx hb dX5_take_7 rfl (lv_at hl 1 rfl) ?_
  refine lv_bipush (v := 16) hx hb dX5_take_8 (by decide) ?_
  refine lv_imul hx hb dX5_take_10 ?_
  refine lv_iload_n hx hb dX5_take_11 rfl (lv_at hl 2 rfl) ?_
  refine lv_iadd hx hb dX5_take_12 ?_
  obtain ⟨i1, h⟩ := nd_ck_e h
  refine va_iald (i := ((v0 * 16) + v1)) hx hb hK hP 10 7 rfl rfl i1 dX5_take_13 ?_
  refine lv_topi (fun z2 ez2 => ?_)
  have h := nd_at h ez2
  refine lv_istore (lv' := [(4, .int z2), (0, .ref (a 0)), (1, .int v0), (2, .int v1), (3, .int v2)]) hx hb dX5_take_14 hl (by decide) rfl (fun ls hl => ?_)
  refine lv_iload hx hb dX5_take_16 (lv_at hl 0 rfl) ?_
  refine lv_if_eq (tgt := 25) hx hb dX5_take_18 (by decide) (fun c3 => ?_) (fun c3 => ?_)
  · have h := nd_pos h c3
    exact (db_X5_take_25 C K) (v0) (v1) s0 _ _ _ h hP hD hS (lv_sub hl [1, 2, 3] rfl)
  · have h := nd_neg h c3
    refine lv_iload_n hx hb dX5_take_21 rfl (lv_at hl 4 rfl) ?_
    refine lv_if_eq (tgt := 39) hx hb dX5_take_22 (by decide) (fun c8 => ?_) (fun c8 => ?_)
    · have h := nd_pos h c8
      refine lv_aload_n hx hb dX5_take_39 rfl (lv_at hl 1 rfl) ?_
      refine va_get (D := (dC, dI)) (ci := 6) (v := .ref (a 8)) (C := RX5) (T := TX5) (N := 8) hx hb hts hi_dm_X5_take_X5 hown hK hP 0 rfl rfl 2 (by decide) (hts (.fieldLink RX5 33 "TimeMachine$Kernel" "reg" "[I") (List.mem_of_getElem? (i := 7) rfl)) (fun _ h9 => h9) rfl dX5_take_40 ?_
      refine lv_iload_n hx hb dX5_take_43 rfl (lv_at hl 2 rfl) ?_
      refine lv_bipush (v := 33) hx hb dX5_take_44 (by decide) ?_
      refine lv_imul hx hb dX5_take_46 ?_
      refine lv_aload_n hx hb dX5_take_47 rfl (lv_at hl 1 rfl) ?_
      refine va_get (D := (dC, dI)) (ci := 6) (v := .ref (a 4)) (C := RX5) (T := TX5) (N := 8) hx hb hts hi_dm_X5_take_X5 hown hK hP 0 rfl rfl 0 (by decide) (hts (.fieldLink RX5 18 "TimeMachine$Kernel" "machine" "LTimeMachine$Machine;") (List.mem_of_getElem? (i := 1) rfl)) (fun _ h9 => h9) rfl dX5_take_48 ?_
      refine va_get (D := (dC, dI)) (ci := 7) (v := .ref (a 9)) (C := RX6) (T := TX6) (N := 20) hx hb hts hi_dm_X5_take_X6 hown hK hP 4 rfl rfl 5 (by decide) (hts (.fieldLink RX5 93 "TimeMachine$Machine" "saved" "[I") (List.mem_of_getElem? (i := 8) rfl)) (fun _ h9 => h9) rfl dX5_take_51 ?_
      refine lv_iload_n hx hb dX5_take_54 rfl (lv_at hl 2 rfl) ?_
      refine lv_bipush (v := 33) hx hb dX5_take_55 (by decide) ?_
      refine lv_imul hx hb dX5_take_57 ?_
      refine lv_bipush (v := 33) hx hb dX5_take_58 (by decide) ?_
      obtain ⟨k9, h⟩ := nd_cp_e h
      refine va_copyi (sp := (v0 * 33)) (dp := (v0 * 33)) (n := 33) hx hb (by rw [hml]; exact hl.1.symm) hown (hts (.methodLink RX5 96 arraycopyName) (List.mem_of_getElem? (i := 9) rfl)) (hts (.native arraycopyName) (List.mem_of_getElem? (i := 10) rfl)) (hts (.static arraycopyName) (List.mem_of_getElem? (i := 11) rfl)) (hts (.initialized "java/lang/System") (List.mem_of_getElem? (i := 12) rfl)) hK hP hD hS 8 9 5 6 rfl rfl rfl rfl rfl k9.1 k9.2.1 k9.2.2.1 k9.2.2.2.1 k9.2.2.2.2 (fun _ _ => rfl) (Nat.le_of_ble_eq_true rfl) (by decide +kernel) dX5_take_60 (fun H locs hP hD hS => ?_)
      obtain ⟨s10, es10, h⟩ := nd_let_e h
      have hP : va_P (dC, dI) vwCl (dw_X5 a ac s10) H := by rw [es10]; exact hP
      have hD : va_D A (dw_X5 a ac s10) := by rw [es10]; exact hD
      refine lv_aload_n hx hb dX5_take_63 rfl (lv_at hl 1 rfl) ?_
      refine va_get (D := (dC, dI)) (ci := 6) (v := .ref (a 11)) (C := RX5) (T := TX5) (N := 8) hx hb hts hi_dm_X5_take_X5 hown hK hP 0 rfl rfl 3 (by decide) (hts (.fieldLink RX5 37 "TimeMachine$Kernel" "self" "[I") (List.mem_of_getElem? (i := 13) rfl)) (fun _ h9 => h9) rfl dX5_take_64 ?_
      refine lv_iload_n hx hb dX5_take_67 rfl (lv_at hl 2 rfl) ?_
      refine lv_bipush (v := 7) hx hb dX5_take_68 (by decide) ?_
      refine lv_imul hx hb dX5_take_70 ?_
      refine lv_iconst (v := 4) hx hb dX5_take_71 (by decide) ?_
      refine lv_iadd hx hb dX5_take_72 ?_
      refine lv_iconst (v := 1) hx hb dX5_take_73 (by decide) ?_
      obtain ⟨i11, h⟩ := nd_ck_e h
      refine va_iast (i := ((v0 * 7) + 4)) (x := 1) hx hb hK hP hD hS 11 8 rfl rfl i11 dX5_take_74 (fun H locs hP hD hS => ?_)
      obtain ⟨s12, es12, h⟩ := nd_let_e h
      have hP : va_P (dC, dI) vwCl (dw_X5 a ac s12) H := by rw [es12]; exact hP
      have hD : va_D A (dw_X5 a ac s12) := by rw [es12]; exact hD
      refine lv_aload_n hx hb dX5_take_75 rfl (lv_at hl 1 rfl) ?_
      refine va_get (D := (dC, dI)) (ci := 6) (v := .ref (a 8)) (C := RX5) (T := TX5) (N := 8) hx hb hts hi_dm_X5_take_X5 hown hK hP 0 rfl rfl 2 (by decide) (hts (.fieldLink RX5 33 "TimeMachine$Kernel" "reg" "[I") (List.mem_of_getElem? (i := 7) rfl)) (fun _ h9 => h9) rfl dX5_take_76 ?_
      refine lv_iload_n hx hb dX5_take_79 rfl (lv_at hl 2 rfl) ?_
      refine lv_bipush (v := 33) hx hb dX5_take_80 (by decide) ?_
      refine lv_imul hx hb dX5_take_82 ?_
      refine lv_bipush (v := 10) hx hb dX5_take_83 (by decide) ?_
      refine lv_iadd hx hb dX5_take_85 ?_
      refine lv_iload_n hx hb dX5_take_86 rfl (lv_at hl 3 rfl) ?_
      obtain ⟨i13, h⟩ := nd_ck_e h
      refine va_iast (i := ((v0 * 33) + 10)) (x := v1) hx hb hK hP hD hS 8 5 rfl rfl i13 dX5_take_87 (fun H locs hP hD hS => ?_)
      obtain ⟨s14, es14, h⟩ := nd_let_e h
      have hP : va_P (dC, dI) vwCl (dw_X5 a ac s14) H := by rw [es14]; exact hP
      have hD : va_D A (dw_X5 a ac s14) := by rw [es14]; exact hD
      refine lv_aload_n hx hb dX5_take_88 rfl (lv_at hl 1 rfl) ?_
      refine va_get (D := (dC, dI)) (ci := 6) (v := .ref (a 8)) (C := RX5) (T := TX5) (N := 8) hx hb hts hi_dm_X5_take_X5 hown hK hP 0 rfl rfl 2 (by decide) (hts (.fieldLink RX5 33 "TimeMachine$Kernel" "reg" "[I") (List.mem_of_getElem? (i := 7) rfl)) (fun _ h9 => h9) rfl dX5_take_89 ?_
      refine lv_iload_n hx hb dX5_take_92 rfl (lv_at hl 2 rfl) ?_
      refine lv_bipush (v := 33) hx hb dX5_take_93 (by decide) ?_
      refine lv_imul hx hb dX5_take_95 ?_
      refine lv_bipush (v := 32) hx hb dX5_take_96 (by decide) ?_
      refine lv_iadd hx hb dX5_take_98 ?_
      refine lv_iload hx hb dX5_take_99 (lv_at hl 0 rfl) ?_
      obtain ⟨i15, h⟩ := nd_ck_e h
      refine va_iast (i := ((v0 * 33) + 32)) (x := z2) hx hb hK hP hD hS 8 5 rfl rfl i15 dX5_take_101 (fun H locs hP hD hS => ?_)
      obtain ⟨s16, es16, h⟩ := nd_let_e h
      have hP : va_P (dC, dI) vwCl (dw_X5 a ac s16) H := by rw [es16]; exact hP
      have hD : va_D A (dw_X5 a ac s16) := by rw [es16]; exact hD
      exact K _ _ _ _ _ dX5_take_102 (Option.some.inj h).symm hP hD hS
    · have h := nd_neg h c8
      exact (db_X5_take_25 C K) (v0) (v1) s0 _ _ _ h hP hD hS (lv_sub hl [1, 2, 3] rfl)
set_option maxHeartbeats 40000000 in
set_option maxRecDepth 100000 in
theorem dm_X5_take (l : Launch) (hlt : l.stackTraces = false) (dC : Nat → ClassId) (dI : Nat → Nat → Nat) (a : Nat → Nat) (ac : Nat → ClassId) (n : Nat) (v0 : Int32) (v1 : Int32) (v2 : Int32) (s0 : St × (St × (St × (St)))) {r : St × (St × (St × (St)))} (h : df_X5_take n v0 v1 v2 s0 = some r) (sz : Nat) : Met l yX5_take ow_dm_X5_take ({ frames := 3, cells := 0, slots := 0, locals := 69 }) (va_Pc [.ref (a 0), .int v0, .int v1, .int v2] (fun U => U.heap.size = sz ∧ va_P (dC, dI) vwCl (dw_X5 a ac s0) U.heap ∧ va_K (dC, dI) vwCl (dk_X5 ac) U ∧ va_D (fun _ => True) (dw_X5 a ac s0) ∧ nv_E (va_A (dw_X5 a ac s0) sz) U)) (va_Qv (fun _ => True) (fun (_ : Unit) t => va_P (dC, dI) vwCl (dw_X5 a ac r) t.heap ∧ va_K (dC, dI) vwCl (dk_X5 ac) t ∧ va_D (va_A (dw_X5 a ac s0) sz) (dw_X5 a ac r)) (va_A (dw_X5 a ac s0) sz)) 0 0 (va_A (dw_X5 a ac s0) sz) := by
  refine Met.ofW (cc := cX5_take) (maxL := 5) (ret := none) (by decide) rfl ?_
  intro p e s m args below meth c s₁ B hml hv
  obtain ⟨rfl, hsz, hP, hK, hD0, hN⟩ := hv
  have hx := B.exec
  have hb := B.bytes
  have hr := B.returns
  have hts := atoms_spec (ws := ow_dm_X5_take) B.pre
  have hown : s.vm.findClass RX5 = some m.cls := findClass_of_methodNamed B.named
  have hlocks := B.notSynchronized
  subst hsz
  have hD := hD0.self (sz := s.heap.size)
  generalize hAe : va_A (dw_X5 a ac s0) s.heap.size = A at hD hN ⊢
  have hA : ∀ q : Nat, s.heap.size ≤ q → A q := fun q h => by rw [← hAe]; exact Or.inr h
  have hl := lv_entry ([.ref (a 0), .int v0, .int v1, .int v2]) (n := 5) (Nat.le_of_ble_eq_true rfl)
  rw [lg_entry_eq]
  generalize (lg_sl ([.ref (a 0), .int v0, .int v1, .int v2]) ++ List.replicate (5 - (lg_sl ([.ref (a 0), .int v0, .int v1, .int v2])).length) Slot.unset).toArray = ls at hl ⊢
  have hl : lv_has ls 5 [(0, .ref (a 0)), (1, .int v0), (2, .int v1), (3, .int v2)] := hl
  exact db_X5_take_0 (dC := dC) (dI := dI) (a := a) (ac := ac) (n := n) (r := r) ⟨hlt, hx, hb, hml, hown, hts, hN, hA, hK⟩ (fun pc τ H locs ls d er hP hD hS => by subst er; exact W.vret hx hb hr (fun t ht hW => ⟨⟨(), rfl, trivial, by rw [ht]; exact hP, va_K.moved hW.alike hK, hD⟩, hS.F ht⟩) hS.2.2 d) v0 v1 v2 s0 _ _ _ h hP hD va_S.rf (lv_sub hl [0, 1, 2, 3] rfl)
def ow_dm_X5_fork : List Cond := .code yX5_fork cX5_fork 3 (some .long) :: ([.constantLong RX5 228 (-4), .fieldLink RX5 18 "TimeMachine$Kernel" "machine" "LTimeMachine$Machine;", .methodLink RX5 105 yX6_status, .instanceMethod yX6_status, .selects RX6 yX6_status yX6_status, .initialized RX6, .methodLink RX5 223 yX6_fork, .instanceMethod yX6_fork, .selects RX6 yX6_fork yX6_fork, .fieldLink RX5 28 "TimeMachine$Kernel" "things" "LTimeMachine$Things;", .methodLink RX5 225 yX10_share, .instanceMethod yX10_share, .selects RX10 yX10_share yX10_share, .initialized RX10] ++ (u_ws RX5 TX5 8 ++ (ow_dm_X6_status ++ (ow_dm_X6_fork ++ (ow_dm_X10_share ++ [])))))
theorem gd_dm_X5_fork : ∀ w ∈ ow_dm_X5_fork, (w.onTables && w.keeps) = true ∨ ∃ ty, w = Cond.arrayClass ty := List.forall_mem_cons.mpr ⟨good_of_word rfl, List.forall_mem_append.mpr ⟨fun w h => good_of_word (List.all_eq_true.mp (by decide +kernel) w h), List.forall_mem_append.mpr ⟨gu_X5, List.forall_mem_append.mpr ⟨gd_dm_X6_status, List.forall_mem_append.mpr ⟨gd_dm_X6_fork, List.forall_mem_append.mpr ⟨gd_dm_X10_share, fun _ h => nomatch h⟩⟩⟩⟩⟩⟩
theorem hi_dm_X5_fork_X5 : ∀ w ∈ u_ws RX5 TX5 8, w ∈ ow_dm_X5_fork := fun w h => List.mem_cons_of_mem _ (List.mem_append_right _ (List.mem_append_left _ h))
theorem gi_dm_X5_fork_0 : GoodIn ow_dm_X5_fork (wsV RX5 105 RX6 yX6_status ow_dm_X6_status) := goodIn_app (goodIn_of _ (by decide +kernel)) (fun w h => ⟨List.mem_cons_of_mem _ (List.mem_append_right _ (List.mem_append_right _ (List.mem_append_left _ h))), gd_dm_X6_status w h⟩)
theorem gi_dm_X5_fork_1 : GoodIn ow_dm_X5_fork (wsV RX5 223 RX6 yX6_fork ow_dm_X6_fork) := goodIn_app (goodIn_of _ (by decide +kernel)) (fun w h => ⟨List.mem_cons_of_mem _ (List.mem_append_right _ (List.mem_append_right _ (List.mem_append_right _ (List.mem_append_left _ h)))), gd_dm_X6_fork w h⟩)
theorem gi_dm_X5_fork_2 : GoodIn ow_dm_X5_fork (wsV RX5 225 RX10 yX10_share ow_dm_X10_share) := goodIn_app (goodIn_of _ (by decide +kernel)) (fun w h => ⟨List.mem_cons_of_mem _ (List.mem_append_right _ (List.mem_append_right _ (List.mem_append_right _ (List.mem_append_right _ (List.mem_append_left _ h))))), gd_dm_X10_share w h⟩)
def dj_X5_fork_2 (p : Program) (l : Launch) (e : Env) (s : State) (m : MethodId) (args : Array Value) (below : List Frame) (meth : Method) (c : Code) (Q : State → Prop) (A : Nat → Prop) (dC : Nat → ClassId) (dI : Nat → Nat → Nat) (a : Nat → Nat) (ac : Nat → ClassId) (g : Int32 → Int32 → (St × (St × (St × (St)))) → Option (Int64 × (St × (St × (St × (St)))))) (r : Int64 × (St × (St × (St × (St))))) : Prop := ∀ (x1 : Int32) (x2 : Int32) (s0 : St × (St × (St × (St)))) (H : Heap) (locs : List Loc) (ls : Array Slot), g x1 x2 s0 = some r → va_P (dC, dI) vwCl (dw_X5 a ac s0) H → va_D A (dw_X5 a ac s0) → va_S A s.heap H locs → lv_has ls 3 [(0, .ref (a 0)), (1, .int x1), (2, .int x2)] → W p l e (headSpec ow_dm_X5_fork ({ frames := 2, cells := 0, slots := 0, locals := 63 })).room s m args below meth c H locs 0 0 Q (F0 m 2 ls [])
def dj_X5_fork_0 (p : Program) (l : Launch) (e : Env) (s : State) (m : MethodId) (args : Array Value) (below : List Frame) (meth : Method) (c : Code) (Q : State → Prop) (A : Nat → Prop) (dC : Nat → ClassId) (dI : Nat → Nat → Nat) (a : Nat → Nat) (ac : Nat → ClassId) (g : Int32 → (St × (St × (St × (St)))) → Option (Int64 × (St × (St × (St × (St)))))) (r : Int64 × (St × (St × (St × (St))))) : Prop := ∀ (v0 : Int32) (s0 : St × (St × (St × (St)))) (H : Heap) (locs : List Loc) (ls : Array Slot), g v0 s0 = some r → va_P (dC, dI) vwCl (dw_X5 a ac s0) H → va_D A (dw_X5 a ac s0) → va_S A s.heap H locs → lv_has ls 3 [(0, .ref (a 0)), (1, .int v0)] → W p l e (headSpec ow_dm_X5_fork ({ frames := 2, cells := 0, slots := 0, locals := 63 })).room s m args below meth c H locs 0 0 Q (F0 m 0 ls [])
set_option maxHeartbeats 40000000 in
set_option maxRecDepth 100000 in
theorem dB_X5_fork_2 {p : Program} {l : Launch} {e : Env} {s : State} {m : MethodId} {args : Array Value} {below : List Frame} {meth : Method} {c : Code} {Q : State → Prop} {A : Nat → Prop} {dC : Nat → ClassId} {dI : Nat → Nat → Nat} {a : Nat → Nat} {ac : Nat → ClassId} {n : Nat} {r : Int64 × (St × (St × (St × (St))))} (C : nd_C p l s m args c A (dC, dI) cX5_fork 3 RX5 ow_dm_X5_fork (dk_X5 ac)) (K : nd_Kl p l e (headSpec ow_dm_X5_fork ({ frames := 2, cells := 0, slots := 0, locals := 63 })).room s m args below meth c Q A (dC, dI) cX5_fork (St × (St × (St × (St)))) (dw_X5 a ac) r) {g2 : Int32 → Int32 → (St × (St × (St × (St)))) → Option (Int64 × (St × (St × (St × (St)))))} (J2 : dj_X5_fork_2 p l e s m args below meth c Q A dC dI a ac g2 r) : dj_X5_fork_2 p l e s m args below meth c Q A dC dI a ac (dF_X5_fork_2 n g2) r := by
  obtain ⟨hlt, hx, hb, hml, hown, hts, hN, hA, hK⟩ := id C
  intro x1 x2 s0 H locs ls h hP hD hS hl
  unfold dF_X5_fork_2 at h
  refine lv_iload_n hx hb dX5_fork_2 rfl (lv_at hl 2 rfl) ?_
  refine lv_bipush (v := 16) hx hb dX5_fork_3 (by decide) ?_
  refine lv_icmp_ge (tgt := 46) hx hb dX5_fork_5 (by decide) (fun c1 => ?_) (fun c1 => ?_)
  · have h := nd_pos h c1
    refine lv_ldc2 hx hb hown (hts (.constantLong RX5 228 (-4)) (List.mem_of_getElem? (i := 1) rfl)) dX5_fork_46 ?_
    exact K _ _ _ _ _ _ dX5_fork_49 (Option.some.inj h).symm hP hD hS
  · have h := nd_neg h c1
    refine lv_aload_n hx hb dX5_fork_8 rfl (lv_at hl 0 rfl) ?_
    refine va_get (D := (dC, dI)) (ci := 6) (v := .ref (a 4)) (C := RX5) (T := TX5) (N := 8) hx hb hts hi_dm_X5_fork_X5 hown hK hP 0 rfl rfl 0 (by decide) (hts (.fieldLink RX5 18 "TimeMachine$Kernel" "machine" "LTimeMachine$Machine;") (List.mem_of_getElem? (i := 2) rfl)) (fun _ h9 => h9) rfl dX5_fork_9 ?_
    refine lv_iload_n hx hb dX5_fork_12 rfl (lv_at hl 2 rfl) ?_
    obtain ⟨q2, s3, hq, h⟩ := nd_b2_e h
    have hPc := dp_X5_4 hP
    have hDc := dd_X5_4 hD
    have hKc := dy_X5_4 hK
    have hFc := nd_rs hDc hS hA
    have hzA : ∀ q : Nat, H.size ≤ q → A q := fun q h => hA q (Nat.le_trans hS.1 h)
    refine nd_cVi (As := [.int x2]) (rest := []) (q := q2) (w' := dw_X6 (fun k => a (k + 4)) (fun k => ac (k + 4)) s3) ⟨hx, hb, hml, hown, hts⟩ (fun sz => dm_X6_status l hlt dC dI (fun k => a (k + 4)) (fun k => ac (k + 4)) n (x2) s0.2.2 hq sz) (cwV 1 hts gi_dm_X5_fork_0 rfl rfl rfl (by decide +kernel) ⟨Nat.le_of_ble_eq_true rfl, Nat.le_of_ble_eq_true rfl⟩) hPc hDc hKc hS hA hN (va_recv hKc hPc (ci := 7) (q0 := 0) rfl rfl) rfl hl.1 rfl (Nat.le_of_ble_eq_true rfl) dX5_fork_13 (fun H locs hP1 hD1 hk1 hS => ?_)
    obtain ⟨hP, hD⟩ := dn_X5_4 hP hD hzA hk1 hP1 hD1
    obtain ⟨s5, es5, h⟩ := nd_let_e h
    have hP : va_P (dC, dI) vwCl (dw_X5 a ac s5) H := by rw [es5]; exact hP
    have hD : va_D A (dw_X5 a ac s5) := by rw [es5]; exact hD
    refine lv_if_ne (tgt := 40) hx hb dX5_fork_16 (by decide) (fun c6 => ?_) (fun c6 => ?_)
    · have h := nd_neg h c6
      obtain ⟨z7, ez7, h⟩ := nd_let_e h
      refine lv_iinc (v := z7) (lv' := [(2, .int z7), (0, .ref (a 0)), (1, .int x1)]) hx hb dX5_fork_40 hl (k := 2) rfl (by rw [ez7]) (by decide) rfl (fun ls hl => ?_)
      refine lv_goto (tgt := 2) hx hb dX5_fork_43 (by decide) ?_
      exact (J2) (x1) (z7) s5 _ _ _ h hP hD hS (lv_sub hl [1, 2, 0] rfl)
    · have h := nd_pos h c6
      refine lv_aload_n hx hb dX5_fork_19 rfl (lv_at hl 0 rfl) ?_
      refine va_get (D := (dC, dI)) (ci := 6) (v := .ref (a 4)) (C := RX5) (T := TX5) (N := 8) hx hb hts hi_dm_X5_fork_X5 hown hK hP 0 rfl rfl 0 (by decide) (hts (.fieldLink RX5 18 "TimeMachine$Kernel" "machine" "LTimeMachine$Machine;") (List.mem_of_getElem? (i := 2) rfl)) (fun _ h9 => h9) rfl dX5_fork_20 ?_
      refine lv_iload_n hx hb dX5_fork_23 rfl (lv_at hl 1 rfl) ?_
      refine lv_iload_n hx hb dX5_fork_24 rfl (lv_at hl 2 rfl) ?_
      obtain ⟨s9, hq, h⟩ := nd_b1_e h
      have hPc := dp_X5_4 hP
      have hDc := dd_X5_4 hD
      have hKc := dy_X5_4 hK
      have hFc := nd_rs hDc hS hA
      have hzA : ∀ q : Nat, H.size ≤ q → A q := fun q h => hA q (Nat.le_trans hS.1 h)
      refine nd_cVv (As := [.int x1, .int x2]) (rest := []) (w' := dw_X6 (fun k => a (k + 4)) (fun k => ac (k + 4)) s9) ⟨hx, hb, hml, hown, hts⟩ (fun sz => dm_X6_fork l hlt dC dI (fun k => a (k + 4)) (fun k => ac (k + 4)) n (x1) (x2) s5.2.2 hq sz) (cwV 2 hts gi_dm_X5_fork_1 rfl rfl rfl (by decide +kernel) ⟨Nat.le_of_ble_eq_true rfl, Nat.le_of_ble_eq_true rfl⟩) hPc hDc hKc hS hA hN (va_recv hKc hPc (ci := 7) (q0 := 0) rfl rfl) rfl hl.1 rfl (Nat.le_of_ble_eq_true rfl) dX5_fork_25 (fun H locs hP1 hD1 hk1 hS => ?_)
      obtain ⟨hP, hD⟩ := dn_X5_4 hP hD hzA hk1 hP1 hD1
      obtain ⟨s11, es11, h⟩ := nd_let_e h
      have hP : va_P (dC, dI) vwCl (dw_X5 a ac s11) H := by rw [es11]; exact hP
      have hD : va_D A (dw_X5 a ac s11) := by rw [es11]; exact hD
      refine lv_aload_n hx hb dX5_fork_28 rfl (lv_at hl 0 rfl) ?_
      refine va_get (D := (dC, dI)) (ci := 6) (v := .ref (a 14)) (C := RX5) (T := TX5) (N := 8) hx hb hts hi_dm_X5_fork_X5 hown hK hP 0 rfl rfl 1 (by decide) (hts (.fieldLink RX5 28 "TimeMachine$Kernel" "things" "LTimeMachine$Things;") (List.mem_of_getElem? (i := 10) rfl)) (fun _ h9 => h9) rfl dX5_fork_29 ?_
      refine lv_iload_n hx hb dX5_fork_32 rfl (lv_at hl 1 rfl) ?_
      refine lv_iload_n hx hb dX5_fork_33 rfl (lv_at hl 2 rfl) ?_
      obtain ⟨s13, hq, h⟩ := nd_b1_e h
      have hPc := dp_X5_14 hP
      have hDc := dd_X5_14 hD
      have hKc := dy_X5_14 hK
      have hFc := nd_rs hDc hS hA
      have hzA : ∀ q : Nat, H.size ≤ q → A q := fun q h => hA q (Nat.le_trans hS.1 h)
      refine nd_cVv (As := [.int x1, .int x2]) (rest := []) (w' := dw_X10 (fun k => a (k + 14)) (fun k => ac (k + 14)) s13) ⟨hx, hb, hml, hown, hts⟩ (fun sz => dm_X10_share l hlt dC dI (fun k => a (k + 14)) (fun k => ac (k + 14)) n (x1) (x2) s11.2.2.2 hq sz) (cwV 2 hts gi_dm_X5_fork_2 rfl rfl rfl (by decide +kernel) ⟨Nat.le_of_ble_eq_true rfl, Nat.le_of_ble_eq_true rfl⟩) hPc hDc hKc hS hA hN (va_recv hKc hPc (ci := 11) (q0 := 0) rfl rfl) rfl hl.1 rfl (Nat.le_of_ble_eq_true rfl) dX5_fork_34 (fun H locs hP1 hD1 hk1 hS => ?_)
      obtain ⟨hP, hD⟩ := dn_X5_14 hP hD hzA hk1 hP1 hD1
      obtain ⟨s15, es15, h⟩ := nd_let_e h
      have hP : va_P (dC, dI) vwCl (dw_X5 a ac s15) H := by rw [es15]; exact hP
      have hD : va_D A (dw_X5 a ac s15) := by rw [es15]; exact hD
      refine lv_iload_n hx hb dX5_fork_37 rfl (lv_at hl 2 rfl) ?_
      refine lv_i2l hx hb dX5_fork_38 rfl ?_
      exact K _ _ _ _ _ _ dX5_fork_39 (Option.some.inj h).symm hP hD hS
set_option maxHeartbeats 40000000 in
set_option maxRecDepth 100000 in
theorem db_X5_fork_2 {p : Program} {l : Launch} {e : Env} {s : State} {m : MethodId} {args : Array Value} {below : List Frame} {meth : Method} {c : Code} {Q : State → Prop} {A : Nat → Prop} {dC : Nat → ClassId} {dI : Nat → Nat → Nat} {a : Nat → Nat} {ac : Nat → ClassId} {n : Nat} {r : Int64 × (St × (St × (St × (St))))} (C : nd_C p l s m args c A (dC, dI) cX5_fork 3 RX5 ow_dm_X5_fork (dk_X5 ac)) (K : nd_Kl p l e (headSpec ow_dm_X5_fork ({ frames := 2, cells := 0, slots := 0, locals := 63 })).room s m args below meth c Q A (dC, dI) cX5_fork (St × (St × (St × (St)))) (dw_X5 a ac) r) (k : Nat) : dj_X5_fork_2 p l e s m args below meth c Q A dC dI a ac (df_X5_fork_2 n k) r := by
  induction k with
  | zero => intro x1 x2 s0 H locs ls h; exact nomatch (show (none : Option (Int64 × (St × (St × (St × (St)))))) = some r from h)
  | succ k ih => exact dB_X5_fork_2 C K ih
set_option maxHeartbeats 40000000 in
set_option maxRecDepth 100000 in
theorem db_X5_fork_0 {p : Program} {l : Launch} {e : Env} {s : State} {m : MethodId} {args : Array Value} {below : List Frame} {meth : Method} {c : Code} {Q : State → Prop} {A : Nat → Prop} {dC : Nat → ClassId} {dI : Nat → Nat → Nat} {a : Nat → Nat} {ac : Nat → ClassId} {n : Nat} {r : Int64 × (St × (St × (St × (St))))} (C : nd_C p l s m args c A (dC, dI) cX5_fork 3 RX5 ow_dm_X5_fork (dk_X5 ac)) (K : nd_Kl p l e (headSpec ow_dm_X5_fork ({ frames := 2, cells := 0, slots := 0, locals := 63 })).room s m args below meth c Q A (dC, dI) cX5_fork (St × (St × (St × (St)))) (dw_X5 a ac) r) : dj_X5_fork_0 p l e s m args below meth c Q A dC dI a ac (df_X5_fork_0 n) r := by
  obtain ⟨hlt, hx, hb, hml, hown, hts, hN, hA, hK⟩ := id C
  intro v0 s0 H locs ls h hP hD hS hl
  unfold df_X5_fork_0 at h
  refine lv_iconst (v := 0) hx hb dX5_fork_0 (by decide) ?_
  refine lv_istore_n (lv' := [(2, .int 0), (0, .ref (a 0)), (1, .int v0)]) hx hb dX5_fork_1 rfl hl (by decide) rfl (fun ls hl => ?_)
  exact (db_X5_fork_2 C K n) (v0) (0) s0 _ _ _ h hP hD hS (lv_sub hl [1, 2, 0] rfl)
set_option maxHeartbeats 40000000 in
set_option maxRecDepth 100000 in
theorem dm_X5_fork (l : Launch) (hlt : l.stackTraces = false) (dC : Nat → ClassId) (dI : Nat → Nat → Nat) (a : Nat → Nat) (ac : Nat → ClassId) (n : Nat) (v0 : Int32) (s0 : St × (St × (St × (St)))) {r : Int64 × (St × (St × (St × (St))))} (h : df_X5_fork n v0 s0 = some r) (sz : Nat) : Met l yX5_fork ow_dm_X5_fork ({ frames := 2, cells := 0, slots := 0, locals := 63 }) (va_Pc [.ref (a 0), .int v0] (fun U => U.heap.size = sz ∧ va_P (dC, dI) vwCl (dw_X5 a ac s0) U.heap ∧ va_K (dC, dI) vwCl (dk_X5 ac) U ∧ va_D (fun _ => True) (dw_X5 a ac s0) ∧ nv_E (va_A (dw_X5 a ac s0) sz) U)) (va_Ql (fun x _ => x = r.1) (fun (_ : Unit) t => va_P (dC, dI) vwCl (dw_X5 a ac r.2) t.heap ∧ va_K (dC, dI) vwCl (dk_X5 ac) t ∧ va_D (va_A (dw_X5 a ac s0) sz) (dw_X5 a ac r.2)) (va_A (dw_X5 a ac s0) sz)) 0 0 (va_A (dw_X5 a ac s0) sz) := by
  refine Met.ofW (cc := cX5_fork) (maxL := 3) (ret := (some .long)) (by decide) rfl ?_
  intro p e s m args below meth c s₁ B hml hv
  obtain ⟨rfl, hsz, hP, hK, hD0, hN⟩ := hv
  have hx := B.exec
  have hb := B.bytes
  have hr := B.returns
  have hts := atoms_spec (ws := ow_dm_X5_fork) B.pre
  have hown : s.vm.findClass RX5 = some m.cls := findClass_of_methodNamed B.named
  have hlocks := B.notSynchronized
  subst hsz
  have hD := hD0.self (sz := s.heap.size)
  generalize hAe : va_A (dw_X5 a ac s0) s.heap.size = A at hD hN ⊢
  have hA : ∀ q : Nat, s.heap.size ≤ q → A q := fun q h => by rw [← hAe]; exact Or.inr h
  have hl := lv_entry ([.ref (a 0), .int v0]) (n := 3) (Nat.le_of_ble_eq_true rfl)
  rw [lg_entry_eq]
  generalize (lg_sl ([.ref (a 0), .int v0]) ++ List.replicate (3 - (lg_sl ([.ref (a 0), .int v0])).length) Slot.unset).toArray = ls at hl ⊢
  have hl : lv_has ls 3 [(0, .ref (a 0)), (1, .int v0)] := hl
  exact db_X5_fork_0 (dC := dC) (dI := dI) (a := a) (ac := ac) (n := n) (r := r) ⟨hlt, hx, hb, hml, hown, hts, hN, hA, hK⟩ (fun pc v τ H locs ls d er hP hD hS => by subst er; exact W.lret (v := v) hx hb hr (fun t ht hW => ⟨⟨v, (), rfl, rfl, by rw [ht]; exact hP, va_K.moved hW.alike hK, hD⟩, hS.F ht⟩) hS.2.2 d) v0 s0 _ _ _ h hP hD va_S.rf (lv_sub hl [0, 1] rfl)
def ow_dm_X5_waitForChild : List Cond := .code yX5_waitForChild cX5_waitForChild 4 (some .long) :: ([.fieldLink RX5 18 "TimeMachine$Kernel" "machine" "LTimeMachine$Machine;", .methodLink RX5 119 yX6_leastChild, .instanceMethod yX6_leastChild, .selects RX6 yX6_leastChild yX6_leastChild, .initialized RX6, .fieldLink RX5 37 "TimeMachine$Kernel" "self" "[I", .methodLink RX5 248 yX6_makeAbsent, .instanceMethod yX6_makeAbsent, .selects RX6 yX6_makeAbsent yX6_makeAbsent, .constantLong RX5 157 (1099511627776), .constantLong RX5 246 (-10)] ++ (u_ws RX5 TX5 8 ++ (ow_dm_X6_leastChild ++ (ow_dm_X6_makeAbsent ++ []))))
theorem gd_dm_X5_waitForChild : ∀ w ∈ ow_dm_X5_waitForChild, (w.onTables && w.keeps) = true ∨ ∃ ty, w = Cond.arrayClass ty := List.forall_mem_cons.mpr ⟨good_of_word rfl, List.forall_mem_append.mpr ⟨fun w h => good_of_word (List.all_eq_true.mp (by decide +kernel) w h), List.forall_mem_append.mpr ⟨gu_X5, List.forall_mem_append.mpr ⟨gd_dm_X6_leastChild, List.forall_mem_append.mpr ⟨gd_dm_X6_makeAbsent, fun _ h => nomatch h⟩⟩⟩⟩⟩
theorem hi_dm_X5_waitForChild_X5 : ∀ w ∈ u_ws RX5 TX5 8, w ∈ ow_dm_X5_waitForChild := fun w h => List.mem_cons_of_mem _ (List.mem_append_right _ (List.mem_append_left _ h))
theorem gi_dm_X5_waitForChild_0 : GoodIn ow_dm_X5_waitForChild (wsV RX5 119 RX6 yX6_leastChild ow_dm_X6_leastChild) := goodIn_app (goodIn_of _ (by decide +kernel)) (fun w h => ⟨List.mem_cons_of_mem _ (List.mem_append_right _ (List.mem_append_right _ (List.mem_append_left _ h))), gd_dm_X6_leastChild w h⟩)
theorem gi_dm_X5_waitForChild_1 : GoodIn ow_dm_X5_waitForChild (wsV RX5 248 RX6 yX6_makeAbsent ow_dm_X6_makeAbsent) := goodIn_app (goodIn_of _ (by decide +kernel)) (fun w h => ⟨List.mem_cons_of_mem _ (List.mem_append_right _ (List.mem_append_right _ (List.mem_append_right _ (List.mem_append_left _ h)))), gd_dm_X6_makeAbsent w h⟩)
def dj_X5_waitForChild_0 (p : Program) (l : Launch) (e : Env) (s : State) (m : MethodId) (args : Array Value) (below : List Frame) (meth : Method) (c : Code) (Q : State → Prop) (A : Nat → Prop) (dC : Nat → ClassId) (dI : Nat → Nat → Nat) (a : Nat → Nat) (ac : Nat → ClassId) (g : Int32 → (St × (St × (St × (St)))) → Option (Int64 × (St × (St × (St × (St)))))) (r : Int64 × (St × (St × (St × (St))))) : Prop := ∀ (v0 : Int32) (s0 : St × (St × (St × (St)))) (H : Heap) (locs : List Loc) (ls : Array Slot), g v0 s0 = some r → va_P (dC, dI) vwCl (dw_X5 a ac s0) H → va_D A (dw_X5 a ac s0) → va_S A s.heap H locs → lv_has ls 4 [(0, .ref (a 0)), (1, .int v0)] → W p l e (headSpec ow_dm_X5_waitForChild ({ frames := 1, cells := 0, slots := 0, locals := 24 })).room s m args below meth c H locs 0 0 Q (F0 m 0 ls [])
set_option maxHeartbeats 40000000 in
set_option maxRecDepth 100000 in
theorem db_X5_waitForChild_0 {p : Program} {l : Launch} {e : Env} {s : State} {m : MethodId} {args : Array Value} {below : List Frame} {meth : Method} {c : Code} {Q : State → Prop} {A : Nat → Prop} {dC : Nat → ClassId} {dI : Nat → Nat → Nat} {a : Nat → Nat} {ac : Nat → ClassId} {n : Nat} {r : Int64 × (St × (St × (St × (St))))} (C : nd_C p l s m args c A (dC, dI) cX5_waitForChild 4 RX5 ow_dm_X5_waitForChild (dk_X5 ac)) (K : nd_Kl p l e (headSpec ow_dm_X5_waitForChild ({ frames := 1, cells := 0, slots := 0, locals := 24 })).room s m args below meth c Q A (dC, dI) cX5_waitForChild (St × (St × (St × (St)))) (dw_X5 a ac) r) : dj_X5_waitForChild_0 p l e s m args below meth c Q A dC dI a ac (df_X5_waitForChild_0 n) r := by
  obtain ⟨hlt, hx, hb, hml, hown, hts, hN, hA, hK⟩ := id C
  intro v0 s0 H locs ls h hP hD hS hl
  unfold df_X5_waitForChild_0 at h
  refine lv_aload_n hx hb dX5_waitForChild_0 rfl (lv_at hl 0 rfl) ?_
  refine va_get (D := (dC, dI)) (ci := 6) (v := .ref (a 4)) (C := RX5) (T := TX5) (N := 8) hx hb hts hi_dm_X5_waitForChild_X5 hown hK hP 0 rfl rfl 0 (by decide) (hts (.fieldLink RX5 18 "TimeMachine$Kernel" "machine" "LTimeMachine$Machine;") (List.mem_of_getElem? (i := 1) rfl)) (fun _ h9 => h9) rfl dX5_waitForChild_1 ?_
  refine lv_iload_n hx hb dX5_waitForChild_4 rfl (lv_at hl 1 rfl) ?_
  refine lv_iconst (v := 1) hx hb dX5_waitForChild_5 (by decide) ?_
  obtain ⟨q1, s2, hq, h⟩ := nd_b2_e h
  have hPc := dp_X5_4 hP
  have hDc := dd_X5_4 hD
  have hKc := dy_X5_4 hK
  have hFc := nd_rs hDc hS hA
  have hzA : ∀ q : Nat, H.size ≤ q → A q := fun q h => hA q (Nat.le_trans hS.1 h)
  refine nd_cVi (As := [.int v0, .int 1]) (rest := []) (q := q1) (w' := dw_X6 (fun k => a (k + 4)) (fun k => ac (k + 4)) s2) ⟨hx, hb, hml, hown, hts⟩ (fun sz => dm_X6_leastChild l hlt dC dI (fun k => a (k + 4)) (fun k => ac (k + 4)) n (v0) (1) s0.2.2 hq sz) (cwV 2 hts gi_dm_X5_waitForChild_0 rfl rfl rfl (by decide +kernel) ⟨Nat.le_of_ble_eq_true rfl, Nat.le_of_ble_eq_true rfl⟩) hPc hDc hKc hS hA hN (va_recv hKc hPc (ci := 7) (q0 := 0) rfl rfl) rfl hl.1 rfl (Nat.le_of_ble_eq_true rfl) dX5_waitForChild_6 (fun H locs hP1 hD1 hk1 hS => ?_)
  obtain ⟨hP, hD⟩ := dn_X5_4 hP hD hzA hk1 hP1 hD1
  obtain ⟨s4, es4, h⟩ := nd_let_e h
  have hP : va_P (dC, dI) vwCl (dw_X5 a ac s4) H := by rw [es4]; exact hP
  have hD : va_D A (dw_X5 a ac s4) := by rw [es4]; exact hD
  refine lv_if_ge (tgt := 16) hx hb dX5_waitForChild_9 (by decide) (fun c5 => ?_) (fun c5 => ?_)
  · have h := nd_pos h c5
    refine lv_aload_n hx hb dX5_waitForChild_16 rfl (lv_at hl 0 rfl) ?_
    refine va_get (D := (dC, dI)) (ci := 6) (v := .ref (a 4)) (C := RX5) (T := TX5) (N := 8) hx hb hts hi_dm_X5_waitForChild_X5 hown hK hP 0 rfl rfl 0 (by decide) (hts (.fieldLink RX5 18 "TimeMachine$Kernel" "machine" "LTimeMachine$Machine;") (List.mem_of_getElem? (i := 1) rfl)) (fun _ h9 => h9) rfl dX5_waitForChild_17 ?_
    refine lv_iload_n hx hb dX5_waitForChild_20 rfl (lv_at hl 1 rfl) ?_
    refine lv_iconst (v := 0) hx hb dX5_waitForChild_21 (by decide) ?_
    obtain ⟨q6, s7, hq, h⟩ := nd_b2_e h
    have hPc := dp_X5_4 hP
    have hDc := dd_X5_4 hD
    have hKc := dy_X5_4 hK
    have hFc := nd_rs hDc hS hA
    have hzA : ∀ q : Nat, H.size ≤ q → A q := fun q h => hA q (Nat.le_trans hS.1 h)
    refine nd_cVi (As := [.int v0, .int 0]) (rest := []) (q := q6) (w' := dw_X6 (fun k => a (k + 4)) (fun k => ac (k + 4)) s7) ⟨hx, hb, hml, hown, hts⟩ (fun sz => dm_X6_leastChild l hlt dC dI (fun k => a (k + 4)) (fun k => ac (k + 4)) n (v0) (0) s4.2.2 hq sz) (cwV 2 hts gi_dm_X5_waitForChild_0 rfl rfl rfl (by decide +kernel) ⟨Nat.le_of_ble_eq_true rfl, Nat.le_of_ble_eq_true rfl⟩) hPc hDc hKc hS hA hN (va_recv hKc hPc (ci := 7) (q0 := 0) rfl rfl) rfl hl.1 rfl (Nat.le_of_ble_eq_true rfl) dX5_waitForChild_22 (fun H locs hP1 hD1 hk1 hS => ?_)
    obtain ⟨hP, hD⟩ := dn_X5_4 hP hD hzA hk1 hP1 hD1
    obtain ⟨s9, es9, h⟩ := nd_let_e h
    have hP : va_P (dC, dI) vwCl (dw_X5 a ac s9) H := by rw [es9]; exact hP
    have hD : va_D A (dw_X5 a ac s9) := by rw [es9]; exact hD
    refine lv_istore_n (lv' := [(2, .int q6), (0, .ref (a 0)), (1, .int v0)]) hx hb dX5_waitForChild_25 rfl hl (by decide) rfl (fun ls hl => ?_)
    refine lv_iload_n hx hb dX5_waitForChild_26 rfl (lv_at hl 0 rfl) ?_
    refine lv_if_ge (tgt := 34) hx hb dX5_waitForChild_27 (by decide) (fun c10 => ?_) (fun c10 => ?_)
    · have h := nd_pos h c10
      refine lv_aload_n hx hb dX5_waitForChild_34 rfl (lv_at hl 1 rfl) ?_
      refine va_get (D := (dC, dI)) (ci := 6) (v := .ref (a 11)) (C := RX5) (T := TX5) (N := 8) hx hb hts hi_dm_X5_waitForChild_X5 hown hK hP 0 rfl rfl 3 (by decide) (hts (.fieldLink RX5 37 "TimeMachine$Kernel" "self" "[I") (List.mem_of_getElem? (i := 6) rfl)) (fun _ h9 => h9) rfl dX5_waitForChild_35 ?_
      refine lv_iload_n hx hb dX5_waitForChild_38 rfl (lv_at hl 0 rfl) ?_
      refine lv_bipush (v := 7) hx hb dX5_waitForChild_39 (by decide) ?_
      refine lv_imul hx hb dX5_waitForChild_41 ?_
      refine lv_iconst (v := 2) hx hb dX5_waitForChild_42 (by decide) ?_
      refine lv_iadd hx hb dX5_waitForChild_43 ?_
      obtain ⟨i11, h⟩ := nd_ck_e h
      refine va_iald (i := ((q6 * 7) + 2)) hx hb hK hP 11 8 rfl rfl i11 dX5_waitForChild_44 ?_
      refine lv_topi (fun z12 ez12 => ?_)
      have h := nd_at h ez12
      refine lv_istore_n (lv' := [(3, .int z12), (2, .int q6), (0, .ref (a 0)), (1, .int v0)]) hx hb dX5_waitForChild_45 rfl hl (by decide) rfl (fun ls hl => ?_)
      refine lv_aload_n hx hb dX5_waitForChild_46 rfl (lv_at hl 2 rfl) ?_
      refine va_get (D := (dC, dI)) (ci := 6) (v := .ref (a 4)) (C := RX5) (T := TX5) (N := 8) hx hb hts hi_dm_X5_waitForChild_X5 hown hK hP 0 rfl rfl 0 (by decide) (hts (.fieldLink RX5 18 "TimeMachine$Kernel" "machine" "LTimeMachine$Machine;") (List.mem_of_getElem? (i := 1) rfl)) (fun _ h9 => h9) rfl dX5_waitForChild_47 ?_
      refine lv_iload_n hx hb dX5_waitForChild_50 rfl (lv_at hl 1 rfl) ?_
      obtain ⟨s14, hq, h⟩ := nd_b1_e h
      have hPc := dp_X5_4 hP
      have hDc := dd_X5_4 hD
      have hKc := dy_X5_4 hK
      have hFc := nd_rs hDc hS hA
      have hzA : ∀ q : Nat, H.size ≤ q → A q := fun q h => hA q (Nat.le_trans hS.1 h)
      refine nd_cVv (As := [.int q6]) (rest := []) (w' := dw_X6 (fun k => a (k + 4)) (fun k => ac (k + 4)) s14) ⟨hx, hb, hml, hown, hts⟩ (fun sz => dm_X6_makeAbsent l hlt dC dI (fun k => a (k + 4)) (fun k => ac (k + 4)) n (q6) s9.2.2 hq sz) (cwV 1 hts gi_dm_X5_waitForChild_1 rfl rfl rfl (by decide +kernel) ⟨Nat.le_of_ble_eq_true rfl, Nat.le_of_ble_eq_true rfl⟩) hPc hDc hKc hS hA hN (va_recv hKc hPc (ci := 7) (q0 := 0) rfl rfl) rfl hl.1 rfl (Nat.le_of_ble_eq_true rfl) dX5_waitForChild_51 (fun H locs hP1 hD1 hk1 hS => ?_)
      obtain ⟨hP, hD⟩ := dn_X5_4 hP hD hzA hk1 hP1 hD1
      obtain ⟨s16, es16, h⟩ := nd_let_e h
      have hP : va_P (dC, dI) vwCl (dw_X5 a ac s16) H := by rw [es16]; exact hP
      have hD : va_D A (dw_X5 a ac s16) := by rw [es16]; exact hD
      refine lv_iload_n hx hb dX5_waitForChild_54 rfl (lv_at hl 1 rfl) ?_
      refine lv_sipush (v := 256) hx hb dX5_waitForChild_55 (by decide) ?_
      refine lv_iload_n hx hb dX5_waitForChild_58 rfl (lv_at hl 0 rfl) ?_
      refine lv_imul hx hb dX5_waitForChild_59 ?_
      refine lv_iadd hx hb dX5_waitForChild_60 ?_
      refine lv_i2l hx hb dX5_waitForChild_61 rfl ?_
      exact K _ _ _ _ _ _ dX5_waitForChild_62 (Option.some.inj h).symm hP hD hS
    · have h := nd_neg h c10
      refine lv_ldc2 hx hb hown (hts (.constantLong RX5 157 (1099511627776)) (List.mem_of_getElem? (i := 10) rfl)) dX5_waitForChild_30 ?_
      exact K _ _ _ _ _ _ dX5_waitForChild_33 (Option.some.inj h).symm hP hD hS
  · have h := nd_neg h c5
    refine lv_ldc2 hx hb hown (hts (.constantLong RX5 246 (-10)) (List.mem_of_getElem? (i := 11) rfl)) dX5_waitForChild_12 ?_
    exact K _ _ _ _ _ _ dX5_waitForChild_15 (Option.some.inj h).symm hP hD hS
set_option maxHeartbeats 40000000 in
set_option maxRecDepth 100000 in
theorem dm_X5_waitForChild (l : Launch) (hlt : l.stackTraces = false) (dC : Nat → ClassId) (dI : Nat → Nat → Nat) (a : Nat → Nat) (ac : Nat → ClassId) (n : Nat) (v0 : Int32) (s0 : St × (St × (St × (St)))) {r : Int64 × (St × (St × (St × (St))))} (h : df_X5_waitForChild n v0 s0 = some r) (sz : Nat) : Met l yX5_waitForChild ow_dm_X5_waitForChild ({ frames := 1, cells := 0, slots := 0, locals := 24 }) (va_Pc [.ref (a 0), .int v0] (fun U => U.heap.size = sz ∧ va_P (dC, dI) vwCl (dw_X5 a ac s0) U.heap ∧ va_K (dC, dI) vwCl (dk_X5 ac) U ∧ va_D (fun _ => True) (dw_X5 a ac s0) ∧ nv_E (va_A (dw_X5 a ac s0) sz) U)) (va_Ql (fun x _ => x = r.1) (fun (_ : Unit) t => va_P (dC, dI) vwCl (dw_X5 a ac r.2) t.heap ∧ va_K (dC, dI) vwCl (dk_X5 ac) t ∧ va_D (va_A (dw_X5 a ac s0) sz) (dw_X5 a ac r.2)) (va_A (dw_X5 a ac s0) sz)) 0 0 (va_A (dw_X5 a ac s0) sz) := by
  refine Met.ofW (cc := cX5_waitForChild) (maxL := 4) (ret := (some .long)) (by decide) rfl ?_
  intro p e s m args below meth c s₁ B hml hv
  obtain ⟨rfl, hsz, hP, hK, hD0, hN⟩ := hv
  have hx := B.exec
  have hb := B.bytes
  have hr := B.returns
  have hts := atoms_spec (ws := ow_dm_X5_waitForChild) B.pre
  have hown : s.vm.findClass RX5 = some m.cls := findClass_of_methodNamed B.named
  have hlocks := B.notSynchronized
  subst hsz
  have hD := hD0.self (sz := s.heap.size)
  generalize hAe : va_A (dw_X5 a ac s0) s.heap.size = A at hD hN ⊢
  have hA : ∀ q : Nat, s.heap.size ≤ q → A q := fun q h => by rw [← hAe]; exact Or.inr h
  have hl := lv_entry ([.ref (a 0), .int v0]) (n := 4) (Nat.le_of_ble_eq_true rfl)
  rw [lg_entry_eq]
  generalize (lg_sl ([.ref (a 0), .int v0]) ++ List.replicate (4 - (lg_sl ([.ref (a 0), .int v0])).length) Slot.unset).toArray = ls at hl ⊢
  have hl : lv_has ls 4 [(0, .ref (a 0)), (1, .int v0)] := hl
  exact db_X5_waitForChild_0 (dC := dC) (dI := dI) (a := a) (ac := ac) (n := n) (r := r) ⟨hlt, hx, hb, hml, hown, hts, hN, hA, hK⟩ (fun pc v τ H locs ls d er hP hD hS => by subst er; exact W.lret (v := v) hx hb hr (fun t ht hW => ⟨⟨v, (), rfl, rfl, by rw [ht]; exact hP, va_K.moved hW.alike hK, hD⟩, hS.F ht⟩) hS.2.2 d) v0 s0 _ _ _ h hP hD va_S.rf (lv_sub hl [0, 1] rfl)
def ow_dm_X5_pipe : List Cond := .code yX5_pipe cX5_pipe 6 (some .long) :: ([.fieldLink RX5 18 "TimeMachine$Kernel" "machine" "LTimeMachine$Machine;", .methodLink RX5 253 yX6_mayAll, .instanceMethod yX6_mayAll, .selects RX6 yX6_mayAll yX6_mayAll, .initialized RX6, .fieldLink RX5 28 "TimeMachine$Kernel" "things" "LTimeMachine$Things;", .methodLink RX5 259 yX10_freeLink, .instanceMethod yX10_freeLink, .selects RX10 yX10_freeLink yX10_freeLink, .initialized RX10, .methodLink RX5 262 yX10_freePipe, .instanceMethod yX10_freePipe, .selects RX10 yX10_freePipe yX10_freePipe, .constantLong RX5 228 (-4), .methodLink RX5 265 yX10_openingsFree, .instanceMethod yX10_openingsFree, .selects RX10 yX10_openingsFree yX10_openingsFree, .methodLink RX5 268 yX6_framesFor, .instanceMethod yX6_framesFor, .selects RX6 yX6_framesFor yX6_framesFor, .methodLink RX5 232 yX6_framesFree, .instanceMethod yX6_framesFree, .selects RX6 yX6_framesFree yX6_framesFree, .methodLink RX5 272 yX6_own, .instanceMethod yX6_own, .selects RX6 yX6_own yX6_own, .methodLink RX5 275 yX10_emptyPipe, .instanceMethod yX10_emptyPipe, .selects RX10 yX10_emptyPipe yX10_emptyPipe, .methodLink RX5 278 yX10_open, .instanceMethod yX10_open, .selects RX10 yX10_open yX10_open, .methodLink RX5 280 yX10_linkTo, .instanceMethod yX10_linkTo, .selects RX10 yX10_linkTo yX10_linkTo, .methodLink RX5 284 yX6_put, .instanceMethod yX6_put, .selects RX6 yX6_put yX6_put, .methodLink RX5 288 yX6_noteWrite, .instanceMethod yX6_noteWrite, .selects RX6 yX6_noteWrite yX6_noteWrite, .constantLong RX5 155 (4398046511104), .constantLong RX5 257 (-14), .constantLong RX5 251 (-22)] ++ (u_ws RX5 TX5 8 ++ (ow_dm_X6_mayAll ++ (ow_dm_X10_freeLink ++ (ow_dm_X10_freePipe ++ (ow_dm_X10_openingsFree ++ (ow_dm_X6_framesFor ++ (ow_dm_X6_framesFree ++ (ow_dm_X6_own ++ (ow_dm_X10_emptyPipe ++ (ow_dm_X10_open ++ (ow_dm_X10_linkTo ++ (ow_dm_X6_put ++ (ow_dm_X6_noteWrite ++ []))))))))))))))
theorem gd_dm_X5_pipe : ∀ w ∈ ow_dm_X5_pipe, (w.onTables && w.keeps) = true ∨ ∃ ty, w = Cond.arrayClass ty := List.forall_mem_cons.mpr ⟨good_of_word rfl, List.forall_mem_append.mpr ⟨fun w h => good_of_word (List.all_eq_true.mp (by decide +kernel) w h), List.forall_mem_append.mpr ⟨gu_X5, List.forall_mem_append.mpr ⟨gd_dm_X6_mayAll, List.forall_mem_append.mpr ⟨gd_dm_X10_freeLink, List.forall_mem_append.mpr ⟨gd_dm_X10_freePipe, List.forall_mem_append.mpr ⟨gd_dm_X10_openingsFree, List.forall_mem_append.mpr ⟨gd_dm_X6_framesFor, List.forall_mem_append.mpr ⟨gd_dm_X6_framesFree, List.forall_mem_append.mpr ⟨gd_dm_X6_own, List.forall_mem_append.mpr ⟨gd_dm_X10_emptyPipe, List.forall_mem_append.mpr ⟨gd_dm_X10_open, List.forall_mem_append.mpr ⟨gd_dm_X10_linkTo, List.forall_mem_append.mpr ⟨gd_dm_X6_put, List.forall_mem_append.mpr ⟨gd_dm_X6_noteWrite, fun _ h => nomatch h⟩⟩⟩⟩⟩⟩⟩⟩⟩⟩⟩⟩⟩⟩⟩
theorem hi_dm_X5_pipe_X5 : ∀ w ∈ u_ws RX5 TX5 8, w ∈ ow_dm_X5_pipe := fun w h => List.mem_cons_of_mem _ (List.mem_append_right _ (List.mem_append_left _ h))
theorem gi_dm_X5_pipe_0 : GoodIn ow_dm_X5_pipe (wsV RX5 253 RX6 yX6_mayAll ow_dm_X6_mayAll) := goodIn_app (goodIn_of _ (by decide +kernel)) (fun w h => ⟨List.mem_cons_of_mem _ (List.mem_append_right _ (List.mem_append_right _ (List.mem_append_left _ h))), gd_dm_X6_mayAll w h⟩)
theorem gi_dm_X5_pipe_1 : GoodIn ow_dm_X5_pipe (wsV RX5 259 RX10 yX10_freeLink ow_dm_X10_freeLink) := goodIn_app (goodIn_of _ (by decide +kernel)) (fun w h => ⟨List.mem_cons_of_mem _ (List.mem_append_right _ (List.mem_append_right _ (List.mem_append_right _ (List.mem_append_left _ h)))), gd_dm_X10_freeLink w h⟩)
theorem gi_dm_X5_pipe_2 : GoodIn ow_dm_X5_pipe (wsV RX5 262 RX10 yX10_freePipe ow_dm_X10_freePipe) := goodIn_app (goodIn_of _ (by decide +kernel)) (fun w h => ⟨List.mem_cons_of_mem _ (List.mem_append_right _ (List.mem_append_right _ (List.mem_append_right _ (List.mem_append_right _ (List.mem_append_left _ h))))), gd_dm_X10_freePipe w h⟩)
theorem gi_dm_X5_pipe_3 : GoodIn ow_dm_X5_pipe (wsV RX5 265 RX10 yX10_openingsFree ow_dm_X10_openingsFree) := goodIn_app (goodIn_of _ (by decide +kernel)) (fun w h => ⟨List.mem_cons_of_mem _ (List.mem_append_right _ (List.mem_append_right _ (List.mem_append_right _ (List.mem_append_right _ (List.mem_append_right _ (List.mem_append_left _ h)))))), gd_dm_X10_openingsFree w h⟩)
theorem gi_dm_X5_pipe_4 : GoodIn ow_dm_X5_pipe (wsV RX5 268 RX6 yX6_framesFor ow_dm_X6_framesFor) := goodIn_app (goodIn_of _ (by decide +kernel)) (fun w h => ⟨List.mem_cons_of_mem _ (List.mem_append_right _ (List.mem_append_right _ (List.mem_append_right _ (List.mem_append_right _ (List.mem_append_right _ (List.mem_append_right _ (List.mem_append_left _ h))))))), gd_dm_X6_framesFor w h⟩)
theorem gi_dm_X5_pipe_5 : GoodIn ow_dm_X5_pipe (wsV RX5 232 RX6 yX6_framesFree ow_dm_X6_framesFree) := goodIn_app (goodIn_of _ (by decide +kernel)) (fun w h => ⟨List.mem_cons_of_mem _ (List.mem_append_right _ (List.mem_append_right _ (List.mem_append_right _ (List.mem_append_right _ (List.mem_append_right _ (List.mem_append_right _ (List.mem_append_right _ (List.mem_append_left _ h)))))))), gd_dm_X6_framesFree w h⟩)
theorem gi_dm_X5_pipe_6 : GoodIn ow_dm_X5_pipe (wsV RX5 272 RX6 yX6_own ow_dm_X6_own) := goodIn_app (goodIn_of _ (by decide +kernel)) (fun w h => ⟨List.mem_cons_of_mem _ (List.mem_append_right _ (List.mem_append_right _ (List.mem_append_right _ (List.mem_append_right _ (List.mem_append_right _ (List.mem_append_right _ (List.mem_append_right _ (List.mem_append_right _ (List.mem_append_left _ h))))))))), gd_dm_X6_own w h⟩)
theorem gi_dm_X5_pipe_7 : GoodIn ow_dm_X5_pipe (wsV RX5 275 RX10 yX10_emptyPipe ow_dm_X10_emptyPipe) := goodIn_app (goodIn_of _ (by decide +kernel)) (fun w h => ⟨List.mem_cons_of_mem _ (List.mem_append_right _ (List.mem_append_right _ (List.mem_append_right _ (List.mem_append_right _ (List.mem_append_right _ (List.mem_append_right _ (List.mem_append_right _ (List.mem_append_right _ (List.mem_append_right _ (List.mem_append_left _ h)))))))))), gd_dm_X10_emptyPipe w h⟩)
theorem gi_dm_X5_pipe_8 : GoodIn ow_dm_X5_pipe (wsV RX5 278 RX10 yX10_open ow_dm_X10_open) := goodIn_app (goodIn_of _ (by decide +kernel)) (fun w h => ⟨List.mem_cons_of_mem _ (List.mem_append_right _ (List.mem_append_right _ (List.mem_append_right _ (List.mem_append_right _ (List.mem_append_right _ (List.mem_append_right _ (List.mem_append_right _ (List.mem_append_right _ (List.mem_append_right _ (List.mem_append_right _ (List.mem_append_left _ h))))))))))), gd_dm_X10_open w h⟩)
theorem gi_dm_X5_pipe_9 : GoodIn ow_dm_X5_pipe (wsV RX5 280 RX10 yX10_linkTo ow_dm_X10_linkTo) := goodIn_app (goodIn_of _ (by decide +kernel)) (fun w h => ⟨List.mem_cons_of_mem _ (List.mem_append_right _ (List.mem_append_right _ (List.mem_append_right _ (List.mem_append_right _ (List.mem_append_right _ (List.mem_append_right _ (List.mem_append_right _ (List.mem_append_right _ (List.mem_append_right _ (List.mem_append_right _ (List.mem_append_right _ (List.mem_append_left _ h)))))))))))), gd_dm_X10_linkTo w h⟩)
theorem gi_dm_X5_pipe_10 : GoodIn ow_dm_X5_pipe (wsV RX5 284 RX6 yX6_put ow_dm_X6_put) := goodIn_app (goodIn_of _ (by decide +kernel)) (fun w h => ⟨List.mem_cons_of_mem _ (List.mem_append_right _ (List.mem_append_right _ (List.mem_append_right _ (List.mem_append_right _ (List.mem_append_right _ (List.mem_append_right _ (List.mem_append_right _ (List.mem_append_right _ (List.mem_append_right _ (List.mem_append_right _ (List.mem_append_right _ (List.mem_append_right _ (List.mem_append_left _ h))))))))))))), gd_dm_X6_put w h⟩)
theorem gi_dm_X5_pipe_11 : GoodIn ow_dm_X5_pipe (wsV RX5 288 RX6 yX6_noteWrite ow_dm_X6_noteWrite) := goodIn_app (goodIn_of _ (by decide +kernel)) (fun w h => ⟨List.mem_cons_of_mem _ (List.mem_append_right _ (List.mem_append_right _ (List.mem_append_right _ (List.mem_append_right _ (List.mem_append_right _ (List.mem_append_right _ (List.mem_append_right _ (List.mem_append_right _ (List.mem_append_right _ (List.mem_append_right _ (List.mem_append_right _ (List.mem_append_right _ (List.mem_append_right _ (List.mem_append_left _ h)))))))))))))), gd_dm_X6_noteWrite w h⟩)
def dj_X5_pipe_90 (p : Program) (l : Launch) (e : Env) (s : State) (m : MethodId) (args : Array Value) (below : List Frame) (meth : Method) (c : Code) (Q : State → Prop) (A : Nat → Prop) (dC : Nat → ClassId) (dI : Nat → Nat → Nat) (a : Nat → Nat) (ac : Nat → ClassId) (g : (St × (St × (St × (St)))) → Option (Int64 × (St × (St × (St × (St)))))) (r : Int64 × (St × (St × (St × (St))))) : Prop := ∀ (s0 : St × (St × (St × (St)))) (H : Heap) (locs : List Loc) (ls : Array Slot), g s0 = some r → va_P (dC, dI) vwCl (dw_X5 a ac s0) H → va_D A (dw_X5 a ac s0) → va_S A s.heap H locs → lv_has ls 6 [] → W p l e (headSpec ow_dm_X5_pipe ({ frames := 2, cells := 0, slots := 0, locals := 65 })).room s m args below meth c H locs 0 0 Q (F0 m 90 ls [])
def dj_X5_pipe_58 (p : Program) (l : Launch) (e : Env) (s : State) (m : MethodId) (args : Array Value) (below : List Frame) (meth : Method) (c : Code) (Q : State → Prop) (A : Nat → Prop) (dC : Nat → ClassId) (dI : Nat → Nat → Nat) (a : Nat → Nat) (ac : Nat → ClassId) (g : Int32 → Int32 → Int32 → Int32 → (St × (St × (St × (St)))) → Option (Int64 × (St × (St × (St × (St)))))) (r : Int64 × (St × (St × (St × (St))))) : Prop := ∀ (x1 : Int32) (x2 : Int32) (x3 : Int32) (y0 : Int32) (s0 : St × (St × (St × (St)))) (H : Heap) (locs : List Loc) (ls : Array Slot), g x1 x2 x3 y0 s0 = some r → va_P (dC, dI) vwCl (dw_X5 a ac s0) H → va_D A (dw_X5 a ac s0) → va_S A s.heap H locs → lv_has ls 6 [(0, .ref (a 0)), (1, .int x1), (2, .int x2), (3, .int x3)] → W p l e (headSpec ow_dm_X5_pipe ({ frames := 2, cells := 0, slots := 0, locals := 65 })).room s m args below meth c H locs 0 0 Q (F0 m 58 ls [.int y0])
def dj_X5_pipe_0 (p : Program) (l : Launch) (e : Env) (s : State) (m : MethodId) (args : Array Value) (below : List Frame) (meth : Method) (c : Code) (Q : State → Prop) (A : Nat → Prop) (dC : Nat → ClassId) (dI : Nat → Nat → Nat) (a : Nat → Nat) (ac : Nat → ClassId) (g : Int32 → Int32 → (St × (St × (St × (St)))) → Option (Int64 × (St × (St × (St × (St)))))) (r : Int64 × (St × (St × (St × (St))))) : Prop := ∀ (v0 : Int32) (v1 : Int32) (s0 : St × (St × (St × (St)))) (H : Heap) (locs : List Loc) (ls : Array Slot), g v0 v1 s0 = some r → va_P (dC, dI) vwCl (dw_X5 a ac s0) H → va_D A (dw_X5 a ac s0) → va_S A s.heap H locs → lv_has ls 6 [(0, .ref (a 0)), (1, .int v0), (2, .int v1)] → W p l e (headSpec ow_dm_X5_pipe ({ frames := 2, cells := 0, slots := 0, locals := 65 })).room s m args below meth c H locs 0 0 Q (F0 m 0 ls [])
set_option maxHeartbeats 40000000 in
set_option maxRecDepth 100000 in
theorem db_X5_pipe_90 {p : Program} {l : Launch} {e : Env} {s : State} {m : MethodId} {args : Array Value} {below : List Frame} {meth : Method} {c : Code} {Q : State → Prop} {A : Nat → Prop} {dC : Nat → ClassId} {dI : Nat → Nat → Nat} {a : Nat → Nat} {ac : Nat → ClassId} {n : Nat} {r : Int64 × (St × (St × (St × (St))))} (C : nd_C p l s m args c A (dC, dI) cX5_pipe 6 RX5 ow_dm_X5_pipe (dk_X5 ac)) (K : nd_Kl p l e (headSpec ow_dm_X5_pipe ({ frames := 2, cells := 0, slots := 0, locals := 65 })).room s m args below meth c Q A (dC, dI) cX5_pipe (St × (St × (St × (St)))) (dw_X5 a ac) r) : dj_X5_pipe_90 p l e s m args below meth c Q A dC dI a ac (df_X5_pipe_90 n) r := by
  obtain ⟨hlt, hx, hb, hml, hown, hts, hN, hA, hK⟩ := id C
  intro s0 H locs ls h hP hD hS hl
  unfold df_X5_pipe_90 at h
  refine lv_ldc2 hx hb hown (hts (.constantLong RX5 228 (-4)) (List.mem_of_getElem? (i := 14) rfl)) dX5_pipe_90 ?_
  exact K _ _ _ _ _ _ dX5_pipe_93 (Option.some.inj h).symm hP hD hS
