set_option maxHeartbeats 40000000 in
set_option maxRecDepth 100000 in
theorem db_X16_tick_33 {p : Program} {l : Launch} {e : Env} {s : State} {m : MethodId} {args : Array Value} {below : List Frame} {meth : Method} {c : Code} {Q : State → Prop} {A : Nat → Prop} {dC : Nat → ClassId} {dI : Nat → Nat → Nat} {a : Nat → Nat} {ac : Nat → ClassId} {n : Nat} {r : Int32 × (St × (St))} (C : nd_C p l s m args c A (dC, dI) cX16_tick 3 RX16 ow_dm_X16_tick (dk_X16 ac)) (K : nd_Ki p l e (headSpec ow_dm_X16_tick ({ frames := 7, cells := 0, slots := 0, locals := 161 })).room s m args below meth c Q A (dC, dI) cX16_tick .boolean (St × (St)) (dw_X16 a ac) r) : dj_X16_tick_33 p l e s m args below meth c Q A dC dI a ac (df_X16_tick_33 n) r := by
  obtain ⟨hlt, hx, hb, hml, hown, hts, hN, hA, hK⟩ := id C
  intro y1 s0 H locs ls h hP hD hS hl
  unfold df_X16_tick_33 at h
  refine va_put (D := (dC, dI)) (ci := 17) (v := .int y1) (ty := .int) (C := RX16) (T := TX16) (N := 56) hx hb hts hi_dm_X16_tick_X16 tyX16 tyX16_ok nmX16 hown hK hP hD hS 0 rfl rfl 5 (by decide) (hts (.fieldLink RX16 135 "TimeMachineModel$Machine" "reserved" "I") (List.mem_of_getElem? (i := 5) rfl)) (fun _ h9 => h9) rfl (by decide +kernel) rfl rfl (Nat.le_of_ble_eq_true rfl) dX16_tick_33 (fun H locs hP hD hS => ?_)
  obtain ⟨s4, es4, h⟩ := nd_let_e h
  have hP : va_P (dC, dI) vwCl (dw_X16 a ac s4) H := by rw [es4]; exact hP
  have hD : va_D A (dw_X16 a ac s4) := by rw [es4]; exact hD
  refine lv_aload_n hx hb dX16_tick_36 rfl (lv_at hl 0 rfl) ?_
  refine lv_aload_n hx hb dX16_tick_37 rfl (lv_at hl 0 rfl) ?_
  refine va_get (D := (dC, dI)) (ci := 17) (v := .int (sI s4.1 12)) (C := RX16) (T := TX16) (N := 56) hx hb hts hi_dm_X16_tick_X16 hown hK hP 0 rfl rfl 51 (by decide) (hts (.fieldLink RX16 232 "TimeMachineModel$Machine" "p" "I") (List.mem_of_getElem? (i := 2) rfl)) (fun _ h9 => h9) rfl dX16_tick_38 ?_
  refine va_put (D := (dC, dI)) (ci := 17) (v := .int (sI s4.1 12)) (ty := .int) (C := RX16) (T := TX16) (N := 56) hx hb hts hi_dm_X16_tick_X16 tyX16 tyX16_ok nmX16 hown hK hP hD hS 0 rfl rfl 4 (by decide) (hts (.fieldLink RX16 138 "TimeMachineModel$Machine" "ticked" "I") (List.mem_of_getElem? (i := 4) rfl)) (fun _ h9 => h9) rfl (by decide +kernel) rfl rfl (Nat.le_of_ble_eq_true rfl) dX16_tick_41 (fun H locs hP hD hS => ?_)
  obtain ⟨s5, es5, h⟩ := nd_let_e h
  have hP : va_P (dC, dI) vwCl (dw_X16 a ac s5) H := by rw [es5]; exact hP
  have hD : va_D A (dw_X16 a ac s5) := by rw [es5]; exact hD
  refine lv_aload_n hx hb dX16_tick_44 rfl (lv_at hl 0 rfl) ?_
  refine lv_dup hx hb dX16_tick_45 rfl ?_
  refine va_get (D := (dC, dI)) (ci := 17) (v := .int (sI s5.1 0)) (C := RX16) (T := TX16) (N := 56) hx hb hts hi_dm_X16_tick_X16 hown hK hP 0 rfl rfl 1 (by decide) (hts (.fieldLink RX16 132 "TimeMachineModel$Machine" "count" "I") (List.mem_of_getElem? (i := 6) rfl)) (fun _ h9 => h9) rfl dX16_tick_46 ?_
  refine lv_iconst (v := 1) hx hb dX16_tick_49 (by decide) ?_
  refine lv_iadd hx hb dX16_tick_50 ?_
  refine va_put (D := (dC, dI)) (ci := 17) (v := .int ((sI s5.1 0) + 1)) (ty := .int) (C := RX16) (T := TX16) (N := 56) hx hb hts hi_dm_X16_tick_X16 tyX16 tyX16_ok nmX16 hown hK hP hD hS 0 rfl rfl 1 (by decide) (hts (.fieldLink RX16 132 "TimeMachineModel$Machine" "count" "I") (List.mem_of_getElem? (i := 6) rfl)) (fun _ h9 => h9) rfl (by decide +kernel) rfl rfl (Nat.le_of_ble_eq_true rfl) dX16_tick_51 (fun H locs hP hD hS => ?_)
  obtain ⟨s6, es6, h⟩ := nd_let_e h
  have hP : va_P (dC, dI) vwCl (dw_X16 a ac s6) H := by rw [es6]; exact hP
  have hD : va_D A (dw_X16 a ac s6) := by rw [es6]; exact hD
  refine lv_aload_n hx hb dX16_tick_54 rfl (lv_at hl 0 rfl) ?_
  refine lv_aload_n hx hb dX16_tick_55 rfl (lv_at hl 0 rfl) ?_
  refine va_get (D := (dC, dI)) (ci := 17) (v := .int (sI s6.1 12)) (C := RX16) (T := TX16) (N := 56) hx hb hts hi_dm_X16_tick_X16 hown hK hP 0 rfl rfl 51 (by decide) (hts (.fieldLink RX16 232 "TimeMachineModel$Machine" "p" "I") (List.mem_of_getElem? (i := 2) rfl)) (fun _ h9 => h9) rfl dX16_tick_56 ?_
  obtain ⟨q7, s8, hq, h⟩ := nd_b2_e h
  have hPc := hP
  have hDc := hD
  have hKc := hK
  have hFc := nd_rs hD hS hA
  refine nd_cVi (As := [.int (sI s6.1 12)]) (rest := []) (q := q7) (w' := dw_X16 a ac s8) ⟨hx, hb, hml, hown, hts⟩ (fun sz => dm_X16_takeable l hlt dC dI a ac n ((sI s6.1 12)) s6 hq sz) (cwV 1 hts gi_dm_X16_tick_0 rfl rfl rfl (by decide +kernel) ⟨Nat.le_of_ble_eq_true rfl, Nat.le_of_ble_eq_true rfl⟩) hPc hDc hKc hS hA hN (va_recv hKc hPc (ci := 17) (q0 := 0) rfl rfl) rfl hl.1 rfl (Nat.le_of_ble_eq_true rfl) dX16_tick_59 (fun H locs hP1 hD1 hk1 hS => ?_)
  have hP := hP1
  have hD := hD1.weaken (fun k q _ h => hFc q.1 h)
  refine lv_istore_n (lv' := [(1, .int q7), (0, .ref (a 0))]) hx hb dX16_tick_62 rfl hl (by decide) rfl (fun ls hl => ?_)
  refine lv_iload_n hx hb dX16_tick_63 rfl (lv_at hl 0 rfl) ?_
  refine lv_if_le (tgt := 125) hx hb dX16_tick_64 (by decide) (fun c10 => ?_) (fun c10 => ?_)
  · have h := nd_pos h c10
    refine lv_aload_n hx hb dX16_tick_125 rfl (lv_at hl 1 rfl) ?_
    obtain ⟨q11, s12, hq, h⟩ := nd_b2_e h
    have hPc := hP
    have hDc := hD
    have hKc := hK
    have hFc := nd_rs hD hS hA
    refine nd_cVi (As := []) (rest := []) (q := q11) (w' := dw_X16 a ac s12) ⟨hx, hb, hml, hown, hts⟩ (fun sz => dm_X16_step l hlt dC dI a ac n  s8 hq sz) (cwV 0 hts gi_dm_X16_tick_1 rfl rfl rfl (by decide +kernel) ⟨Nat.le_of_ble_eq_true rfl, Nat.le_of_ble_eq_true rfl⟩) hPc hDc hKc hS hA hN (va_recv hKc hPc (ci := 17) (q0 := 0) rfl rfl) rfl hl.1 rfl (Nat.le_of_ble_eq_true rfl) dX16_tick_126 (fun H locs hP1 hD1 hk1 hS => ?_)
    have hP := hP1
    have hD := hD1.weaken (fun k q _ h => hFc q.1 h)
    refine lv_istore_n (lv' := [(2, .int q11), (1, .int q7), (0, .ref (a 0))]) hx hb dX16_tick_129 rfl hl (by decide) rfl (fun ls hl => ?_)
    refine lv_iload_n hx hb dX16_tick_130 rfl (lv_at hl 0 rfl) ?_
    refine lv_iconst (v := 3) hx hb dX16_tick_131 (by decide) ?_
    refine lv_icmp_ne (tgt := 142) hx hb dX16_tick_132 (by decide) (fun c14 => ?_) (fun c14 => ?_)
    · have h := nd_neg h c14
      refine lv_iload_n hx hb dX16_tick_142 rfl (lv_at hl 0 rfl) ?_
      refine lv_if_le (tgt := 186) hx hb dX16_tick_143 (by decide) (fun c15 => ?_) (fun c15 => ?_)
      · have h := nd_pos h c15
        exact (db_X16_tick_186 C K)  s12 _ _ _ h hP hD hS (lv_sub hl [2] rfl)
      · have h := nd_neg h c15
        refine lv_aload_n hx hb dX16_tick_146 rfl (lv_at hl 2 rfl) ?_
        refine lv_iload_n hx hb dX16_tick_147 rfl (lv_at hl 0 rfl) ?_
        refine lv_iconst (v := 2) hx hb dX16_tick_148 (by decide) ?_
        refine lv_icmp_ne (tgt := 156) hx hb dX16_tick_149 (by decide) (fun c20 => ?_) (fun c20 => ?_)
        · have h := nd_neg h c20
          refine lv_iload_n hx hb dX16_tick_156 rfl (lv_at hl 0 rfl) ?_
          refine lv_iconst (v := 4) hx hb dX16_tick_157 (by decide) ?_
          refine lv_icmp_ne (tgt := 165) hx hb dX16_tick_158 (by decide) (fun c21 => ?_) (fun c21 => ?_)
          · have h := nd_neg h c21
            refine lv_iload_n hx hb dX16_tick_165 rfl (lv_at hl 0 rfl) ?_
            refine lv_iconst (v := 5) hx hb dX16_tick_166 (by decide) ?_
            refine lv_icmp_eq (tgt := 176) hx hb dX16_tick_167 (by decide) (fun c22 => ?_) (fun c22 => ?_)
            · have h := nd_pos h c22
              exact (db_X16_tick_176 C K)  s12 _ _ _ h hP hD hS (lv_sub hl [2] rfl)
            · have h := nd_neg h c22
              refine lv_iload_n hx hb dX16_tick_170 rfl (lv_at hl 0 rfl) ?_
              refine lv_bipush (v := 8) hx hb dX16_tick_171 (by decide) ?_
              refine lv_icmp_ne (tgt := 181) hx hb dX16_tick_173 (by decide) (fun c26 => ?_) (fun c26 => ?_)
              · have h := nd_neg h c26
                refine lv_bipush (v := 11) hx hb dX16_tick_181 (by decide) ?_
                exact (db_X16_tick_183 C K) (11) s12 _ _ _ h hP hD hS (lv_sub hl [2] rfl)
              · have h := nd_pos h c26
                exact (db_X16_tick_176 C K)  s12 _ _ _ h hP hD hS (lv_sub hl [2] rfl)
          · have h := nd_pos h c21
            refine lv_iconst (v := 5) hx hb dX16_tick_161 (by decide) ?_
            refine lv_goto (tgt := 183) hx hb dX16_tick_162 (by decide) ?_
            exact (db_X16_tick_183 C K) (5) s12 _ _ _ h hP hD hS (lv_sub hl [2] rfl)
        · have h := nd_pos h c20
          refine lv_iconst (v := 4) hx hb dX16_tick_152 (by decide) ?_
          refine lv_goto (tgt := 183) hx hb dX16_tick_153 (by decide) ?_
          exact (db_X16_tick_183 C K) (4) s12 _ _ _ h hP hD hS (lv_sub hl [2] rfl)
    · have h := nd_pos h c14
      refine lv_aload_n hx hb dX16_tick_135 rfl (lv_at hl 2 rfl) ?_
      obtain ⟨s28, hq, h⟩ := nd_b1_e h
      have hPc := hP
      have hDc := hD
      have hKc := hK
      have hFc := nd_rs hD hS hA
      refine nd_cVv (As := []) (rest := []) (w' := dw_X16 a ac s28) ⟨hx, hb, hml, hown, hts⟩ (fun sz => dm_X16_call l hlt dC dI a ac n  s12 hq sz) (cwV 0 hts gi_dm_X16_tick_4 rfl rfl rfl (by decide +kernel) ⟨Nat.le_of_ble_eq_true rfl, Nat.le_of_ble_eq_true rfl⟩) hPc hDc hKc hS hA hN (va_recv hKc hPc (ci := 17) (q0 := 0) rfl rfl) rfl hl.1 rfl (Nat.le_of_ble_eq_true rfl) dX16_tick_136 (fun H locs hP1 hD1 hk1 hS => ?_)
      have hP := hP1
      have hD := hD1.weaken (fun k q _ h => hFc q.1 h)
      refine lv_goto (tgt := 186) hx hb dX16_tick_139 (by decide) ?_
      exact (db_X16_tick_186 C K)  s28 _ _ _ h hP hD hS (lv_sub hl [2] rfl)
  · have h := nd_neg h c10
    refine lv_aload_n hx hb dX16_tick_67 rfl (lv_at hl 1 rfl) ?_
    refine va_get (D := (dC, dI)) (ci := 17) (v := .ref (a 5)) (C := RX16) (T := TX16) (N := 56) hx hb hts hi_dm_X16_tick_X16 hown hK hP 0 rfl rfl 13 (by decide) (hts (.fieldLink RX16 22 "TimeMachineModel$Machine" "pending" "[I") (List.mem_of_getElem? (i := 23) rfl)) (fun _ h9 => h9) rfl dX16_tick_68 ?_
    refine lv_aload_n hx hb dX16_tick_71 rfl (lv_at hl 1 rfl) ?_
    refine va_get (D := (dC, dI)) (ci := 17) (v := .int (sI s8.1 12)) (C := RX16) (T := TX16) (N := 56) hx hb hts hi_dm_X16_tick_X16 hown hK hP 0 rfl rfl 51 (by decide) (hts (.fieldLink RX16 232 "TimeMachineModel$Machine" "p" "I") (List.mem_of_getElem? (i := 2) rfl)) (fun _ h9 => h9) rfl dX16_tick_72 ?_
    refine lv_dup2_11 hx hb dX16_tick_75 rfl rfl ?_
    obtain ⟨i30, h⟩ := nd_ck_e h
    refine va_iald (i := (sI s8.1 12)) hx hb hK hP 5 4 rfl rfl i30 dX16_tick_76 ?_
    refine lv_iconst (v := 1) hx hb dX16_tick_77 (by decide) ?_
    refine lv_iload_n hx hb dX16_tick_78 rfl (lv_at hl 0 rfl) ?_
    refine lv_ishl hx hb dX16_tick_79 ?_
    refine lv_iconst (v := (-1)) hx hb dX16_tick_80 (by decide) ?_
    refine lv_ixor hx hb dX16_tick_81 ?_
    refine lv_iand hx hb dX16_tick_82 ?_
    obtain ⟨i31, h⟩ := nd_ck_e h
    refine va_iast (i := (sI s8.1 12)) (x := ((sR s8.1 4 (Int32.toNatClampNeg (sI s8.1 12))) &&& (((1 : Int32) <<< ((q7 : Int32) &&& 31)) ^^^ (-1)))) hx hb hK hP hD hS 5 4 rfl rfl i31 dX16_tick_83 (fun H locs hP hD hS => ?_)
    obtain ⟨s32, es32, h⟩ := nd_let_e h
    have hP : va_P (dC, dI) vwCl (dw_X16 a ac s32) H := by rw [es32]; exact hP
    have hD : va_D A (dw_X16 a ac s32) := by rw [es32]; exact hD
    refine lv_aload_n hx hb dX16_tick_84 rfl (lv_at hl 1 rfl) ?_
    refine va_get (D := (dC, dI)) (ci := 17) (v := .ref (a 15)) (C := RX16) (T := TX16) (N := 56) hx hb hts hi_dm_X16_tick_X16 hown hK hP 0 rfl rfl 23 (by decide) (hts (.fieldLink RX16 54 "TimeMachineModel$Machine" "handler" "[I") (List.mem_of_getElem? (i := 24) rfl)) (fun _ h9 => h9) rfl dX16_tick_85 ?_
    refine lv_bipush (v := 16) hx hb dX16_tick_88 (by decide) ?_
    refine lv_aload_n hx hb dX16_tick_90 rfl (lv_at hl 1 rfl) ?_
    refine va_get (D := (dC, dI)) (ci := 17) (v := .int (sI s32.1 12)) (C := RX16) (T := TX16) (N := 56) hx hb hts hi_dm_X16_tick_X16 hown hK hP 0 rfl rfl 51 (by decide) (hts (.fieldLink RX16 232 "TimeMachineModel$Machine" "p" "I") (List.mem_of_getElem? (i := 2) rfl)) (fun _ h9 => h9) rfl dX16_tick_91 ?_
    refine lv_imul hx hb dX16_tick_94 ?_
    refine lv_iload_n hx hb dX16_tick_95 rfl (lv_at hl 0 rfl) ?_
    refine lv_iadd hx hb dX16_tick_96 ?_
    obtain ⟨i33, h⟩ := nd_ck_e h
    refine va_iald (i := ((16 * (sI s32.1 12)) + q7)) hx hb hK hP 15 14 rfl rfl i33 dX16_tick_97 ?_
    refine lv_if_ne (tgt := 117) hx hb dX16_tick_98 (by decide) (fun c34 => ?_) (fun c34 => ?_)
    · have h := nd_neg h c34
      refine lv_aload_n hx hb dX16_tick_117 rfl (lv_at hl 1 rfl) ?_
      refine lv_iload_n hx hb dX16_tick_118 rfl (lv_at hl 0 rfl) ?_
      obtain ⟨s36, hq, h⟩ := nd_b1_e h
      have hPc := hP
      have hDc := hD
      have hKc := hK
      have hFc := nd_rs hD hS hA
      refine nd_cVv (As := [.int q7]) (rest := []) (w' := dw_X16 a ac s36) ⟨hx, hb, hml, hown, hts⟩ (fun sz => dm_X16_enter l hlt dC dI a ac n (q7) s32 hq sz) (cwV 1 hts gi_dm_X16_tick_5 rfl rfl rfl (by decide +kernel) ⟨Nat.le_of_ble_eq_true rfl, Nat.le_of_ble_eq_true rfl⟩) hPc hDc hKc hS hA hN (va_recv hKc hPc (ci := 17) (q0 := 0) rfl rfl) rfl hl.1 rfl (Nat.le_of_ble_eq_true rfl) dX16_tick_119 (fun H locs hP1 hD1 hk1 hS => ?_)
      have hP := hP1
      have hD := hD1.weaken (fun k q _ h => hFc q.1 h)
      refine lv_goto (tgt := 186) hx hb dX16_tick_122 (by decide) ?_
      exact (db_X16_tick_186 C K)  s36 _ _ _ h hP hD hS (lv_sub hl [1] rfl)
    · have h := nd_pos h c34
      refine lv_aload_n hx hb dX16_tick_101 rfl (lv_at hl 1 rfl) ?_
      refine lv_aload_n hx hb dX16_tick_102 rfl (lv_at hl 1 rfl) ?_
      refine va_get (D := (dC, dI)) (ci := 17) (v := .int (sI s32.1 12)) (C := RX16) (T := TX16) (N := 56) hx hb hts hi_dm_X16_tick_X16 hown hK hP 0 rfl rfl 51 (by decide) (hts (.fieldLink RX16 232 "TimeMachineModel$Machine" "p" "I") (List.mem_of_getElem? (i := 2) rfl)) (fun _ h9 => h9) rfl dX16_tick_103 ?_
      refine lv_sipush (v := 128) hx hb dX16_tick_106 (by decide) ?_
      refine lv_iload_n hx hb dX16_tick_109 rfl (lv_at hl 0 rfl) ?_
      refine lv_iadd hx hb dX16_tick_110 ?_
      obtain ⟨s39, hq, h⟩ := nd_b1_e h
      have hPc := hP
      have hDc := hD
      have hKc := hK
      have hFc := nd_rs hD hS hA
      refine nd_cVv (As := [.int (sI s32.1 12), .int (128 + q7)]) (rest := []) (w' := dw_X16 a ac s39) ⟨hx, hb, hml, hown, hts⟩ (fun sz => dm_X16_end l hlt dC dI a ac n ((sI s32.1 12)) ((128 + q7)) s32 hq sz) (cwV 2 hts gi_dm_X16_tick_6 rfl rfl rfl (by decide +kernel) ⟨Nat.le_of_ble_eq_true rfl, Nat.le_of_ble_eq_true rfl⟩) hPc hDc hKc hS hA hN (va_recv hKc hPc (ci := 17) (q0 := 0) rfl rfl) rfl hl.1 rfl (Nat.le_of_ble_eq_true rfl) dX16_tick_111 (fun H locs hP1 hD1 hk1 hS => ?_)
      have hP := hP1
      have hD := hD1.weaken (fun k q _ h => hFc q.1 h)
      refine lv_goto (tgt := 186) hx hb dX16_tick_114 (by decide) ?_
      exact (db_X16_tick_186 C K)  s39 _ _ _ h hP hD hS (lv_sub hl [1] rfl)
set_option maxHeartbeats 40000000 in
set_option maxRecDepth 100000 in
theorem db_X16_tick_0 {p : Program} {l : Launch} {e : Env} {s : State} {m : MethodId} {args : Array Value} {below : List Frame} {meth : Method} {c : Code} {Q : State → Prop} {A : Nat → Prop} {dC : Nat → ClassId} {dI : Nat → Nat → Nat} {a : Nat → Nat} {ac : Nat → ClassId} {n : Nat} {r : Int32 × (St × (St))} (C : nd_C p l s m args c A (dC, dI) cX16_tick 3 RX16 ow_dm_X16_tick (dk_X16 ac)) (K : nd_Ki p l e (headSpec ow_dm_X16_tick ({ frames := 7, cells := 0, slots := 0, locals := 161 })).room s m args below meth c Q A (dC, dI) cX16_tick .boolean (St × (St)) (dw_X16 a ac) r) : dj_X16_tick_0 p l e s m args below meth c Q A dC dI a ac (df_X16_tick_0 n) r := by
  obtain ⟨hlt, hx, hb, hml, hown, hts, hN, hA, hK⟩ := id C
  intro s0 H locs ls h hP hD hS hl
  unfold df_X16_tick_0 at h
  refine lv_aload_n hx hb dX16_tick_0 rfl (lv_at hl 0 rfl) ?_
  refine lv_aload_n hx hb dX16_tick_1 rfl (lv_at hl 0 rfl) ?_
  refine va_get (D := (dC, dI)) (ci := 17) (v := .int (sI s0.1 1)) (C := RX16) (T := TX16) (N := 56) hx hb hts hi_dm_X16_tick_X16 hown hK hP 0 rfl rfl 2 (by decide) (hts (.fieldLink RX16 141 "TimeMachineModel$Machine" "current" "I") (List.mem_of_getElem? (i := 1) rfl)) (fun _ h9 => h9) rfl dX16_tick_2 ?_
  refine va_put (D := (dC, dI)) (ci := 17) (v := .int (sI s0.1 1)) (ty := .int) (C := RX16) (T := TX16) (N := 56) hx hb hts hi_dm_X16_tick_X16 tyX16 tyX16_ok nmX16 hown hK hP hD hS 0 rfl rfl 51 (by decide) (hts (.fieldLink RX16 232 "TimeMachineModel$Machine" "p" "I") (List.mem_of_getElem? (i := 2) rfl)) (fun _ h9 => h9) rfl (by decide +kernel) rfl rfl (Nat.le_of_ble_eq_true rfl) dX16_tick_5 (fun H locs hP hD hS => ?_)
  obtain ⟨s1, es1, h⟩ := nd_let_e h
  have hP : va_P (dC, dI) vwCl (dw_X16 a ac s1) H := by rw [es1]; exact hP
  have hD : va_D A (dw_X16 a ac s1) := by rw [es1]; exact hD
  refine lv_aload_n hx hb dX16_tick_8 rfl (lv_at hl 0 rfl) ?_
  refine lv_iconst (v := 0) hx hb dX16_tick_9 (by decide) ?_
  refine va_put (D := (dC, dI)) (ci := 17) (v := .int 0) (ty := .boolean) (C := RX16) (T := TX16) (N := 56) hx hb hts hi_dm_X16_tick_X16 tyX16 tyX16_ok nmX16 hown hK hP hD hS 0 rfl rfl 55 (by decide) (hts (.fieldLink RX16 222 "TimeMachineModel$Machine" "wrote" "Z") (List.mem_of_getElem? (i := 3) rfl)) (fun _ h9 => h9) rfl (by decide +kernel) (by first | rfl | decide) rfl (Nat.le_of_ble_eq_true rfl) dX16_tick_10 (fun H locs hP hD hS => ?_)
  obtain ⟨s2, es2, h⟩ := nd_let_e h
  have hP : va_P (dC, dI) vwCl (dw_X16 a ac s2) H := by rw [es2]; exact hP
  have hD : va_D A (dw_X16 a ac s2) := by rw [es2]; exact hD
  refine lv_aload_n hx hb dX16_tick_13 rfl (lv_at hl 0 rfl) ?_
  refine lv_aload_n hx hb dX16_tick_14 rfl (lv_at hl 0 rfl) ?_
  refine va_get (D := (dC, dI)) (ci := 17) (v := .int (sI s2.1 12)) (C := RX16) (T := TX16) (N := 56) hx hb hts hi_dm_X16_tick_X16 hown hK hP 0 rfl rfl 51 (by decide) (hts (.fieldLink RX16 232 "TimeMachineModel$Machine" "p" "I") (List.mem_of_getElem? (i := 2) rfl)) (fun _ h9 => h9) rfl dX16_tick_15 ?_
  refine lv_aload_n hx hb dX16_tick_18 rfl (lv_at hl 0 rfl) ?_
  refine va_get (D := (dC, dI)) (ci := 17) (v := .int (sI s2.1 3)) (C := RX16) (T := TX16) (N := 56) hx hb hts hi_dm_X16_tick_X16 hown hK hP 0 rfl rfl 4 (by decide) (hts (.fieldLink RX16 138 "TimeMachineModel$Machine" "ticked" "I") (List.mem_of_getElem? (i := 4) rfl)) (fun _ h9 => h9) rfl dX16_tick_19 ?_
  refine lv_icmp_ne (tgt := 32) hx hb dX16_tick_22 (by decide) (fun c3 => ?_) (fun c3 => ?_)
  · have h := nd_neg h c3
    refine lv_iconst (v := (-1)) hx hb dX16_tick_32 (by decide) ?_
    exact (db_X16_tick_33 C K) ((-1)) s2 _ _ _ h hP hD hS (lv_sub hl [0] rfl)
  · have h := nd_pos h c3
    refine lv_aload_n hx hb dX16_tick_25 rfl (lv_at hl 0 rfl) ?_
    refine va_get (D := (dC, dI)) (ci := 17) (v := .int (sI s2.1 4)) (C := RX16) (T := TX16) (N := 56) hx hb hts hi_dm_X16_tick_X16 hown hK hP 0 rfl rfl 5 (by decide) (hts (.fieldLink RX16 135 "TimeMachineModel$Machine" "reserved" "I") (List.mem_of_getElem? (i := 5) rfl)) (fun _ h9 => h9) rfl dX16_tick_26 ?_
    refine lv_goto (tgt := 33) hx hb dX16_tick_29 (by decide) ?_
    exact (db_X16_tick_33 C K) ((sI s2.1 4)) s2 _ _ _ h hP hD hS (lv_sub hl [0] rfl)
set_option maxHeartbeats 40000000 in
set_option maxRecDepth 100000 in
theorem dm_X16_tick (l : Launch) (hlt : l.stackTraces = false) (dC : Nat → ClassId) (dI : Nat → Nat → Nat) (a : Nat → Nat) (ac : Nat → ClassId) (n : Nat) (s0 : St × (St)) {r : Int32 × (St × (St))} (h : df_X16_tick n s0 = some r) (sz : Nat) : Met l yX16_tick ow_dm_X16_tick ({ frames := 7, cells := 0, slots := 0, locals := 161 }) (va_Pc [.ref (a 0)] (fun U => U.heap.size = sz ∧ va_P (dC, dI) vwCl (dw_X16 a ac s0) U.heap ∧ va_K (dC, dI) vwCl (dk_X16 ac) U ∧ va_D (fun _ => True) (dw_X16 a ac s0) ∧ nv_E dI (va_A (dw_X16 a ac s0) sz) U)) (va_Qi (fun x _ => x = r.1) (fun (_ : Unit) t => va_P (dC, dI) vwCl (dw_X16 a ac r.2) t.heap ∧ va_K (dC, dI) vwCl (dk_X16 ac) t ∧ va_D (va_A (dw_X16 a ac s0) sz) (dw_X16 a ac r.2)) (va_A (dw_X16 a ac s0) sz)) 0 0 (va_A (dw_X16 a ac s0) sz) := by
  refine Met.ofW (cc := cX16_tick) (maxL := 3) (ret := (some .boolean)) (by decide) rfl ?_
  intro p e s m args below meth c s₁ B hml hv
  obtain ⟨rfl, hsz, hP, hK, hD0, hN⟩ := hv
  have hx := B.exec
  have hb := B.bytes
  have hr := B.returns
  have hts := atoms_spec (ws := ow_dm_X16_tick) B.pre
  have hown : s.vm.findClass RX16 = some m.cls := findClass_of_methodNamed B.named
  have hlocks := B.notSynchronized
  subst hsz
  have hD := hD0.self (sz := s.heap.size)
  generalize hAe : va_A (dw_X16 a ac s0) s.heap.size = A at hD hN ⊢
  have hA : ∀ q : Nat, s.heap.size ≤ q → A q := fun q h => by rw [← hAe]; exact Or.inr h
  have hl := lv_entry ([.ref (a 0)]) (n := 3) (Nat.le_of_ble_eq_true rfl)
  rw [lg_entry_eq]
  generalize (lg_sl ([.ref (a 0)]) ++ List.replicate (3 - (lg_sl ([.ref (a 0)])).length) Slot.unset).toArray = ls at hl ⊢
  have hl : lv_has ls 3 [(0, .ref (a 0))] := hl
  exact db_X16_tick_0 (dC := dC) (dI := dI) (a := a) (ac := ac) (n := n) (r := r) ⟨hlt, hx, hb, hml, hown, hts, hN, hA, hK⟩ (fun pc v τ H locs ls d z er hP hD hS => by subst er; exact W.zret (v := v) hx hb hr z (fun t ht hW => ⟨⟨v, (), rfl, rfl, by rw [ht]; exact hP, va_K.moved hW.alike hK, hD⟩, hS.F ht⟩) hS.2.2 d) s0 _ _ _ h hP hD va_S.rf (lv_sub hl [0] rfl)
def ow_dm_X16_register : List Cond := Cond.code yX16_register cX16_register 3 (some .int) :: ([Cond.fieldLink RX16 13 "TimeMachineModel$Machine" "state" "[I", Cond.fieldLink RX16 42 "TimeMachineModel$Machine" "x" "[I", Cond.fieldLink RX16 45 "TimeMachineModel$Machine" "place" "[I"] ++ (u_ws RX16 TX16 56 ++ []))
theorem gd_dm_X16_register : ∀ w ∈ ow_dm_X16_register, (w.onTables && w.keeps) = true ∨ ∃ ty, w = Cond.arrayClass ty := List.forall_mem_cons.mpr ⟨good_of_word rfl, List.forall_mem_append.mpr ⟨fun w h => good_of_word (List.all_eq_true.mp (by decide +kernel) w h), List.forall_mem_append.mpr ⟨gu_X16, fun _ h => nomatch h⟩⟩⟩
theorem hi_dm_X16_register_X16 : ∀ w ∈ u_ws RX16 TX16 56, w ∈ ow_dm_X16_register := fun w h => List.mem_cons_of_mem _ (List.mem_append_right _ (List.mem_append_left _ h))
def dj_X16_register_59 (p : Program) (l : Launch) (e : Env) (s : State) (m : MethodId) (args : Array Value) (below : List Frame) (meth : Method) (c : Code) (Q : State → Prop) (A : Nat → Prop) (dC : Nat → ClassId) (dI : Nat → Nat → Nat) (a : Nat → Nat) (ac : Nat → ClassId) (g : Int32 → (St × (St)) → Option (Int32 × (St × (St)))) (r : Int32 × (St × (St))) : Prop := ∀ (y0 : Int32) (s0 : St × (St)) (H : Heap) (locs : List Loc) (ls : Array Slot), g y0 s0 = some r → va_P (dC, dI) vwCl (dw_X16 a ac s0) H → va_D A (dw_X16 a ac s0) → va_S A s.heap H locs → lv_has ls 3 [] → W p l e (headSpec ow_dm_X16_register ({ frames := 0, cells := 0, slots := 0, locals := 0 })).room s m args below meth c H locs 0 0 Q (F0 m 59 ls [.int y0])
def dj_X16_register_29 (p : Program) (l : Launch) (e : Env) (s : State) (m : MethodId) (args : Array Value) (below : List Frame) (meth : Method) (c : Code) (Q : State → Prop) (A : Nat → Prop) (dC : Nat → ClassId) (dI : Nat → Nat → Nat) (a : Nat → Nat) (ac : Nat → ClassId) (g : (St × (St)) → Option (Int32 × (St × (St)))) (r : Int32 × (St × (St))) : Prop := ∀ (s0 : St × (St)) (H : Heap) (locs : List Loc) (ls : Array Slot), g s0 = some r → va_P (dC, dI) vwCl (dw_X16 a ac s0) H → va_D A (dw_X16 a ac s0) → va_S A s.heap H locs → lv_has ls 3 [] → W p l e (headSpec ow_dm_X16_register ({ frames := 0, cells := 0, slots := 0, locals := 0 })).room s m args below meth c H locs 0 0 Q (F0 m 29 ls [])
def dj_X16_register_0 (p : Program) (l : Launch) (e : Env) (s : State) (m : MethodId) (args : Array Value) (below : List Frame) (meth : Method) (c : Code) (Q : State → Prop) (A : Nat → Prop) (dC : Nat → ClassId) (dI : Nat → Nat → Nat) (a : Nat → Nat) (ac : Nat → ClassId) (g : Int32 → Int32 → (St × (St)) → Option (Int32 × (St × (St)))) (r : Int32 × (St × (St))) : Prop := ∀ (v0 : Int32) (v1 : Int32) (s0 : St × (St)) (H : Heap) (locs : List Loc) (ls : Array Slot), g v0 v1 s0 = some r → va_P (dC, dI) vwCl (dw_X16 a ac s0) H → va_D A (dw_X16 a ac s0) → va_S A s.heap H locs → lv_has ls 3 [(0, .ref (a 0)), (1, .int v0), (2, .int v1)] → W p l e (headSpec ow_dm_X16_register ({ frames := 0, cells := 0, slots := 0, locals := 0 })).room s m args below meth c H locs 0 0 Q (F0 m 0 ls [])
set_option maxHeartbeats 40000000 in
set_option maxRecDepth 100000 in
theorem db_X16_register_59 {p : Program} {l : Launch} {e : Env} {s : State} {m : MethodId} {args : Array Value} {below : List Frame} {meth : Method} {c : Code} {Q : State → Prop} {A : Nat → Prop} {dC : Nat → ClassId} {dI : Nat → Nat → Nat} {a : Nat → Nat} {ac : Nat → ClassId} {n : Nat} {r : Int32 × (St × (St))} (C : nd_C p l s m args c A (dC, dI) cX16_register 3 RX16 ow_dm_X16_register (dk_X16 ac)) (K : nd_Ki p l e (headSpec ow_dm_X16_register ({ frames := 0, cells := 0, slots := 0, locals := 0 })).room s m args below meth c Q A (dC, dI) cX16_register .int (St × (St)) (dw_X16 a ac) r) : dj_X16_register_59 p l e s m args below meth c Q A dC dI a ac (df_X16_register_59 n) r := by
  obtain ⟨hlt, hx, hb, hml, hown, hts, hN, hA, hK⟩ := id C
  intro y0 s0 H locs ls h hP hD hS hl
  unfold df_X16_register_59 at h
  exact K _ _ _ _ _ _ dX16_register_59 rfl (Option.some.inj h).symm hP hD hS
set_option maxHeartbeats 40000000 in
set_option maxRecDepth 100000 in
theorem db_X16_register_29 {p : Program} {l : Launch} {e : Env} {s : State} {m : MethodId} {args : Array Value} {below : List Frame} {meth : Method} {c : Code} {Q : State → Prop} {A : Nat → Prop} {dC : Nat → ClassId} {dI : Nat → Nat → Nat} {a : Nat → Nat} {ac : Nat → ClassId} {n : Nat} {r : Int32 × (St × (St))} (C : nd_C p l s m args c A (dC, dI) cX16_register 3 RX16 ow_dm_X16_register (dk_X16 ac)) (K : nd_Ki p l e (headSpec ow_dm_X16_register ({ frames := 0, cells := 0, slots := 0, locals := 0 })).room s m args below meth c Q A (dC, dI) cX16_register .int (St × (St)) (dw_X16 a ac) r) : dj_X16_register_29 p l e s m args below meth c Q A dC dI a ac (df_X16_register_29 n) r := by
  obtain ⟨hlt, hx, hb, hml, hown, hts, hN, hA, hK⟩ := id C
  intro s0 H locs ls h hP hD hS hl
  unfold df_X16_register_29 at h
  refine lv_iconst (v := 0) hx hb dX16_register_29 (by decide) ?_
  refine lv_goto (tgt := 59) hx hb dX16_register_30 (by decide) ?_
  exact (db_X16_register_59 C K) (0) s0 _ _ _ h hP hD hS (lv_sub hl [] rfl)
set_option maxHeartbeats 40000000 in
set_option maxRecDepth 100000 in
theorem db_X16_register_0 {p : Program} {l : Launch} {e : Env} {s : State} {m : MethodId} {args : Array Value} {below : List Frame} {meth : Method} {c : Code} {Q : State → Prop} {A : Nat → Prop} {dC : Nat → ClassId} {dI : Nat → Nat → Nat} {a : Nat → Nat} {ac : Nat → ClassId} {n : Nat} {r : Int32 × (St × (St))} (C : nd_C p l s m args c A (dC, dI) cX16_register 3 RX16 ow_dm_X16_register (dk_X16 ac)) (K : nd_Ki p l e (headSpec ow_dm_X16_register ({ frames := 0, cells := 0, slots := 0, locals := 0 })).room s m args below meth c Q A (dC, dI) cX16_register .int (St × (St)) (dw_X16 a ac) r) : dj_X16_register_0 p l e s m args below meth c Q A dC dI a ac (df_X16_register_0 n) r := by
  obtain ⟨hlt, hx, hb, hml, hown, hts, hN, hA, hK⟩ := id C
  intro v0 v1 s0 H locs ls h hP hD hS hl
  unfold df_X16_register_0 at h
  refine lv_iload_n hx hb dX16_register_0 rfl (lv_at hl 1 rfl) ?_
  refine lv_if_lt (tgt := 29) hx hb dX16_register_1 (by decide) (fun c1 => ?_) (fun c1 => ?_)
  · have h := nd_pos h c1
    exact (db_X16_register_29 C K)  s0 _ _ _ h hP hD hS (lv_sub hl [] rfl)
  · have h := nd_neg h c1
    refine lv_iload_n hx hb dX16_register_4 rfl (lv_at hl 1 rfl) ?_
    refine lv_bipush (v := 15) hx hb dX16_register_5 (by decide) ?_
    refine lv_icmp_gt (tgt := 29) hx hb dX16_register_7 (by decide) (fun c2 => ?_) (fun c2 => ?_)
    · have h := nd_pos h c2
      exact (db_X16_register_29 C K)  s0 _ _ _ h hP hD hS (lv_sub hl [] rfl)
    · have h := nd_neg h c2
      refine lv_iload_n hx hb dX16_register_10 rfl (lv_at hl 2 rfl) ?_
      refine lv_if_lt (tgt := 29) hx hb dX16_register_11 (by decide) (fun c3 => ?_) (fun c3 => ?_)
      · have h := nd_pos h c3
        exact (db_X16_register_29 C K)  s0 _ _ _ h hP hD hS (lv_sub hl [] rfl)
      · have h := nd_neg h c3
        refine lv_iload_n hx hb dX16_register_14 rfl (lv_at hl 2 rfl) ?_
        refine lv_bipush (v := 32) hx hb dX16_register_15 (by decide) ?_
        refine lv_icmp_gt (tgt := 29) hx hb dX16_register_17 (by decide) (fun c4 => ?_) (fun c4 => ?_)
        · have h := nd_pos h c4
          exact (db_X16_register_29 C K)  s0 _ _ _ h hP hD hS (lv_sub hl [] rfl)
        · have h := nd_neg h c4
          refine lv_aload_n hx hb dX16_register_20 rfl (lv_at hl 0 rfl) ?_
          refine va_get (D := (dC, dI)) (ci := 17) (v := .ref (a 2)) (C := RX16) (T := TX16) (N := 56) hx hb hts hi_dm_X16_register_X16 hown hK hP 0 rfl rfl 10 (by decide) (hts (.fieldLink RX16 13 "TimeMachineModel$Machine" "state" "[I") (List.mem_of_getElem? (i := 1) rfl)) (fun _ h9 => h9) rfl dX16_register_21 ?_
          refine lv_iload_n hx hb dX16_register_24 rfl (lv_at hl 1 rfl) ?_
          obtain ⟨i5, h⟩ := nd_ck_e h
          refine va_iald (i := v0) hx hb hK hP 2 1 rfl rfl i5 dX16_register_25 ?_
          refine lv_if_ne (tgt := 33) hx hb dX16_register_26 (by decide) (fun c6 => ?_) (fun c6 => ?_)
          · have h := nd_neg h c6
            refine lv_iload_n hx hb dX16_register_33 rfl (lv_at hl 2 rfl) ?_
            refine lv_bipush (v := 32) hx hb dX16_register_34 (by decide) ?_
            refine lv_icmp_ne (tgt := 48) hx hb dX16_register_36 (by decide) (fun c7 => ?_) (fun c7 => ?_)
            · have h := nd_neg h c7
              refine lv_aload_n hx hb dX16_register_48 rfl (lv_at hl 0 rfl) ?_
              refine va_get (D := (dC, dI)) (ci := 17) (v := .ref (a 11)) (C := RX16) (T := TX16) (N := 56) hx hb hts hi_dm_X16_register_X16 hown hK hP 0 rfl rfl 19 (by decide) (hts (.fieldLink RX16 42 "TimeMachineModel$Machine" "x" "[I") (List.mem_of_getElem? (i := 2) rfl)) (fun _ h9 => h9) rfl dX16_register_49 ?_
              refine lv_bipush (v := 32) hx hb dX16_register_52 (by decide) ?_
              refine lv_iload_n hx hb dX16_register_54 rfl (lv_at hl 1 rfl) ?_
              refine lv_imul hx hb dX16_register_55 ?_
              refine lv_iload_n hx hb dX16_register_56 rfl (lv_at hl 2 rfl) ?_
              refine lv_iadd hx hb dX16_register_57 ?_
              obtain ⟨i8, h⟩ := nd_ck_e h
              refine va_iald (i := ((32 * v0) + v1)) hx hb hK hP 11 10 rfl rfl i8 dX16_register_58 ?_
              exact (db_X16_register_59 C K) ((sR s0.1 9 (Int32.toNatClampNeg ((32 * v0) + v1)))) s0 _ _ _ h hP hD hS (lv_sub hl [] rfl)
            · have h := nd_pos h c7
              refine lv_aload_n hx hb dX16_register_39 rfl (lv_at hl 0 rfl) ?_
              refine va_get (D := (dC, dI)) (ci := 17) (v := .ref (a 12)) (C := RX16) (T := TX16) (N := 56) hx hb hts hi_dm_X16_register_X16 hown hK hP 0 rfl rfl 20 (by decide) (hts (.fieldLink RX16 45 "TimeMachineModel$Machine" "place" "[I") (List.mem_of_getElem? (i := 3) rfl)) (fun _ h9 => h9) rfl dX16_register_40 ?_
              refine lv_iload_n hx hb dX16_register_43 rfl (lv_at hl 1 rfl) ?_
              obtain ⟨i9, h⟩ := nd_ck_e h
              refine va_iald (i := v0) hx hb hK hP 12 11 rfl rfl i9 dX16_register_44 ?_
              refine lv_goto (tgt := 59) hx hb dX16_register_45 (by decide) ?_
              exact (db_X16_register_59 C K) ((sR s0.1 10 (Int32.toNatClampNeg v0))) s0 _ _ _ h hP hD hS (lv_sub hl [] rfl)
          · have h := nd_pos h c6
            exact (db_X16_register_29 C K)  s0 _ _ _ h hP hD hS (lv_sub hl [] rfl)
set_option maxHeartbeats 40000000 in
set_option maxRecDepth 100000 in
theorem dm_X16_register (l : Launch) (hlt : l.stackTraces = false) (dC : Nat → ClassId) (dI : Nat → Nat → Nat) (a : Nat → Nat) (ac : Nat → ClassId) (n : Nat) (v0 : Int32) (v1 : Int32) (s0 : St × (St)) {r : Int32 × (St × (St))} (h : df_X16_register n v0 v1 s0 = some r) (sz : Nat) : Met l yX16_register ow_dm_X16_register ({ frames := 0, cells := 0, slots := 0, locals := 0 }) (va_Pc [.ref (a 0), .int v0, .int v1] (fun U => U.heap.size = sz ∧ va_P (dC, dI) vwCl (dw_X16 a ac s0) U.heap ∧ va_K (dC, dI) vwCl (dk_X16 ac) U ∧ va_D (fun _ => True) (dw_X16 a ac s0) ∧ nv_E dI (va_A (dw_X16 a ac s0) sz) U)) (va_Qi (fun x _ => x = r.1) (fun (_ : Unit) t => va_P (dC, dI) vwCl (dw_X16 a ac r.2) t.heap ∧ va_K (dC, dI) vwCl (dk_X16 ac) t ∧ va_D (va_A (dw_X16 a ac s0) sz) (dw_X16 a ac r.2)) (va_A (dw_X16 a ac s0) sz)) 0 0 (va_A (dw_X16 a ac s0) sz) := by
  refine Met.ofW (cc := cX16_register) (maxL := 3) (ret := (some .int)) (by decide) rfl ?_
  intro p e s m args below meth c s₁ B hml hv
  obtain ⟨rfl, hsz, hP, hK, hD0, hN⟩ := hv
  have hx := B.exec
  have hb := B.bytes
  have hr := B.returns
  have hts := atoms_spec (ws := ow_dm_X16_register) B.pre
  have hown : s.vm.findClass RX16 = some m.cls := findClass_of_methodNamed B.named
  have hlocks := B.notSynchronized
  subst hsz
  have hD := hD0.self (sz := s.heap.size)
  generalize hAe : va_A (dw_X16 a ac s0) s.heap.size = A at hD hN ⊢
  have hA : ∀ q : Nat, s.heap.size ≤ q → A q := fun q h => by rw [← hAe]; exact Or.inr h
  have hl := lv_entry ([.ref (a 0), .int v0, .int v1]) (n := 3) (Nat.le_of_ble_eq_true rfl)
  rw [lg_entry_eq]
  generalize (lg_sl ([.ref (a 0), .int v0, .int v1]) ++ List.replicate (3 - (lg_sl ([.ref (a 0), .int v0, .int v1])).length) Slot.unset).toArray = ls at hl ⊢
  have hl : lv_has ls 3 [(0, .ref (a 0)), (1, .int v0), (2, .int v1)] := hl
  exact db_X16_register_0 (dC := dC) (dI := dI) (a := a) (ac := ac) (n := n) (r := r) ⟨hlt, hx, hb, hml, hown, hts, hN, hA, hK⟩ (fun pc v τ H locs ls d z er hP hD hS => by subst er; exact W.zret (v := v) hx hb hr z (fun t ht hW => ⟨⟨v, (), rfl, rfl, by rw [ht]; exact hP, va_K.moved hW.alike hK, hD⟩, hS.F ht⟩) hS.2.2 d) v0 v1 s0 _ _ _ h hP hD va_S.rf (lv_sub hl [0, 1, 2] rfl)
def ow_dm_X16_process : List Cond := Cond.code yX16_process cX16_process 5 (some .int) :: ([Cond.fieldLink RX16 13 "TimeMachineModel$Machine" "state" "[I", Cond.fieldLink RX16 16 "TimeMachineModel$Machine" "parent" "[I", Cond.fieldLink RX16 19 "TimeMachineModel$Machine" "ending" "[I", Cond.fieldLink RX16 22 "TimeMachineModel$Machine" "pending" "[I", Cond.fieldLink RX16 34 "TimeMachineModel$Machine" "within" "[Z", Cond.fieldLink RX16 28 "TimeMachineModel$Machine" "heapEnd" "[I", Cond.fieldLink RX16 31 "TimeMachineModel$Machine" "calling" "[I", Cond.fieldLink RX16 64 "TimeMachineModel$Machine" "frame" "[I"] ++ (u_ws RX16 TX16 56 ++ []))
theorem gd_dm_X16_process : ∀ w ∈ ow_dm_X16_process, (w.onTables && w.keeps) = true ∨ ∃ ty, w = Cond.arrayClass ty := List.forall_mem_cons.mpr ⟨good_of_word rfl, List.forall_mem_append.mpr ⟨fun w h => good_of_word (List.all_eq_true.mp (by decide +kernel) w h), List.forall_mem_append.mpr ⟨gu_X16, fun _ h => nomatch h⟩⟩⟩
theorem hi_dm_X16_process_X16 : ∀ w ∈ u_ws RX16 TX16 56, w ∈ ow_dm_X16_process := fun w h => List.mem_cons_of_mem _ (List.mem_append_right _ (List.mem_append_left _ h))
def dj_X16_process_20 (p : Program) (l : Launch) (e : Env) (s : State) (m : MethodId) (args : Array Value) (below : List Frame) (meth : Method) (c : Code) (Q : State → Prop) (A : Nat → Prop) (dC : Nat → ClassId) (dI : Nat → Nat → Nat) (a : Nat → Nat) (ac : Nat → ClassId) (g : (St × (St)) → Option (Int32 × (St × (St)))) (r : Int32 × (St × (St))) : Prop := ∀ (s0 : St × (St)) (H : Heap) (locs : List Loc) (ls : Array Slot), g s0 = some r → va_P (dC, dI) vwCl (dw_X16 a ac s0) H → va_D A (dw_X16 a ac s0) → va_S A s.heap H locs → lv_has ls 5 [] → W p l e (headSpec ow_dm_X16_process ({ frames := 0, cells := 0, slots := 0, locals := 0 })).room s m args below meth c H locs 0 0 Q (F0 m 20 ls [])
def dj_X16_process_142 (p : Program) (l : Launch) (e : Env) (s : State) (m : MethodId) (args : Array Value) (below : List Frame) (meth : Method) (c : Code) (Q : State → Prop) (A : Nat → Prop) (dC : Nat → ClassId) (dI : Nat → Nat → Nat) (a : Nat → Nat) (ac : Nat → ClassId) (g : Int32 → (St × (St)) → Option (Int32 × (St × (St)))) (r : Int32 × (St × (St))) : Prop := ∀ (y0 : Int32) (s0 : St × (St)) (H : Heap) (locs : List Loc) (ls : Array Slot), g y0 s0 = some r → va_P (dC, dI) vwCl (dw_X16 a ac s0) H → va_D A (dw_X16 a ac s0) → va_S A s.heap H locs → lv_has ls 5 [] → W p l e (headSpec ow_dm_X16_process ({ frames := 0, cells := 0, slots := 0, locals := 0 })).room s m args below meth c H locs 0 0 Q (F0 m 142 ls [.int y0])
def dj_X16_process_164 (p : Program) (l : Launch) (e : Env) (s : State) (m : MethodId) (args : Array Value) (below : List Frame) (meth : Method) (c : Code) (Q : State → Prop) (A : Nat → Prop) (dC : Nat → ClassId) (dI : Nat → Nat → Nat) (a : Nat → Nat) (ac : Nat → ClassId) (g : Int32 → (St × (St)) → Option (Int32 × (St × (St)))) (r : Int32 × (St × (St))) : Prop := ∀ (y0 : Int32) (s0 : St × (St)) (H : Heap) (locs : List Loc) (ls : Array Slot), g y0 s0 = some r → va_P (dC, dI) vwCl (dw_X16 a ac s0) H → va_D A (dw_X16 a ac s0) → va_S A s.heap H locs → lv_has ls 5 [] → W p l e (headSpec ow_dm_X16_process ({ frames := 0, cells := 0, slots := 0, locals := 0 })).room s m args below meth c H locs 0 0 Q (F0 m 164 ls [.int y0])
def dj_X16_process_57 (p : Program) (l : Launch) (e : Env) (s : State) (m : MethodId) (args : Array Value) (below : List Frame) (meth : Method) (c : Code) (Q : State → Prop) (A : Nat → Prop) (dC : Nat → ClassId) (dI : Nat → Nat → Nat) (a : Nat → Nat) (ac : Nat → ClassId) (g : Int32 → Int32 → Int32 → Int32 → (St × (St)) → Option (Int32 × (St × (St)))) (r : Int32 × (St × (St))) : Prop := ∀ (x1 : Int32) (x2 : Int32) (x4 : Int32) (y0 : Int32) (s0 : St × (St)) (H : Heap) (locs : List Loc) (ls : Array Slot), g x1 x2 x4 y0 s0 = some r → va_P (dC, dI) vwCl (dw_X16 a ac s0) H → va_D A (dw_X16 a ac s0) → va_S A s.heap H locs → lv_has ls 5 [(0, .ref (a 0)), (1, .int x1), (2, .int x2), (4, .int x4)] → W p l e (headSpec ow_dm_X16_process ({ frames := 0, cells := 0, slots := 0, locals := 0 })).room s m args below meth c H locs 0 0 Q (F0 m 57 ls [.int y0])
def dj_X16_process_27 (p : Program) (l : Launch) (e : Env) (s : State) (m : MethodId) (args : Array Value) (below : List Frame) (meth : Method) (c : Code) (Q : State → Prop) (A : Nat → Prop) (dC : Nat → ClassId) (dI : Nat → Nat → Nat) (a : Nat → Nat) (ac : Nat → ClassId) (g : Int32 → Int32 → Int32 → Int32 → (St × (St)) → Option (Int32 × (St × (St)))) (r : Int32 × (St × (St))) : Prop := ∀ (x1 : Int32) (x2 : Int32) (x3 : Int32) (x4 : Int32) (s0 : St × (St)) (H : Heap) (locs : List Loc) (ls : Array Slot), g x1 x2 x3 x4 s0 = some r → va_P (dC, dI) vwCl (dw_X16 a ac s0) H → va_D A (dw_X16 a ac s0) → va_S A s.heap H locs → lv_has ls 5 [(0, .ref (a 0)), (1, .int x1), (2, .int x2), (3, .int x3), (4, .int x4)] → W p l e (headSpec ow_dm_X16_process ({ frames := 0, cells := 0, slots := 0, locals := 0 })).room s m args below meth c H locs 0 0 Q (F0 m 27 ls [])
def dj_X16_process_0 (p : Program) (l : Launch) (e : Env) (s : State) (m : MethodId) (args : Array Value) (below : List Frame) (meth : Method) (c : Code) (Q : State → Prop) (A : Nat → Prop) (dC : Nat → ClassId) (dI : Nat → Nat → Nat) (a : Nat → Nat) (ac : Nat → ClassId) (g : Int32 → Int32 → (St × (St)) → Option (Int32 × (St × (St)))) (r : Int32 × (St × (St))) : Prop := ∀ (v0 : Int32) (v1 : Int32) (s0 : St × (St)) (H : Heap) (locs : List Loc) (ls : Array Slot), g v0 v1 s0 = some r → va_P (dC, dI) vwCl (dw_X16 a ac s0) H → va_D A (dw_X16 a ac s0) → va_S A s.heap H locs → lv_has ls 5 [(0, .ref (a 0)), (1, .int v0), (2, .int v1)] → W p l e (headSpec ow_dm_X16_process ({ frames := 0, cells := 0, slots := 0, locals := 0 })).room s m args below meth c H locs 0 0 Q (F0 m 0 ls [])
set_option maxHeartbeats 40000000 in
set_option maxRecDepth 100000 in
theorem db_X16_process_20 {p : Program} {l : Launch} {e : Env} {s : State} {m : MethodId} {args : Array Value} {below : List Frame} {meth : Method} {c : Code} {Q : State → Prop} {A : Nat → Prop} {dC : Nat → ClassId} {dI : Nat → Nat → Nat} {a : Nat → Nat} {ac : Nat → ClassId} {n : Nat} {r : Int32 × (St × (St))} (C : nd_C p l s m args c A (dC, dI) cX16_process 5 RX16 ow_dm_X16_process (dk_X16 ac)) (K : nd_Ki p l e (headSpec ow_dm_X16_process ({ frames := 0, cells := 0, slots := 0, locals := 0 })).room s m args below meth c Q A (dC, dI) cX16_process .int (St × (St)) (dw_X16 a ac) r) : dj_X16_process_20 p l e s m args below meth c Q A dC dI a ac (df_X16_process_20 n) r := by
  obtain ⟨hlt, hx, hb, hml, hown, hts, hN, hA, hK⟩ := id C
  intro s0 H locs ls h hP hD hS hl
  unfold df_X16_process_20 at h
  refine lv_iconst (v := (-1)) hx hb dX16_process_20 (by decide) ?_
  exact K _ _ _ _ _ _ dX16_process_21 rfl (Option.some.inj h).symm hP hD hS
set_option maxHeartbeats 40000000 in
set_option maxRecDepth 100000 in
theorem db_X16_process_142 {p : Program} {l : Launch} {e : Env} {s : State} {m : MethodId} {args : Array Value} {below : List Frame} {meth : Method} {c : Code} {Q : State → Prop} {A : Nat → Prop} {dC : Nat → ClassId} {dI : Nat → Nat → Nat} {a : Nat → Nat} {ac : Nat → ClassId} {n : Nat} {r : Int32 × (St × (St))} (C : nd_C p l s m args c A (dC, dI) cX16_process 5 RX16 ow_dm_X16_process (dk_X16 ac)) (K : nd_Ki p l e (headSpec ow_dm_X16_process ({ frames := 0, cells := 0, slots := 0, locals := 0 })).room s m args below meth c Q A (dC, dI) cX16_process .int (St × (St)) (dw_X16 a ac) r) : dj_X16_process_142 p l e s m args below meth c Q A dC dI a ac (df_X16_process_142 n) r := by
  obtain ⟨hlt, hx, hb, hml, hown, hts, hN, hA, hK⟩ := id C
  intro y0 s0 H locs ls h hP hD hS hl
  unfold df_X16_process_142 at h
  exact K _ _ _ _ _ _ dX16_process_142 rfl (Option.some.inj h).symm hP hD hS
set_option maxHeartbeats 40000000 in
set_option maxRecDepth 100000 in
theorem db_X16_process_164 {p : Program} {l : Launch} {e : Env} {s : State} {m : MethodId} {args : Array Value} {below : List Frame} {meth : Method} {c : Code} {Q : State → Prop} {A : Nat → Prop} {dC : Nat → ClassId} {dI : Nat → Nat → Nat} {a : Nat → Nat} {ac : Nat → ClassId} {n : Nat} {r : Int32 × (St × (St))} (C : nd_C p l s m args c A (dC, dI) cX16_process 5 RX16 ow_dm_X16_process (dk_X16 ac)) (K : nd_Ki p l e (headSpec ow_dm_X16_process ({ frames := 0, cells := 0, slots := 0, locals := 0 })).room s m args below meth c Q A (dC, dI) cX16_process .int (St × (St)) (dw_X16 a ac) r) : dj_X16_process_164 p l e s m args below meth c Q A dC dI a ac (df_X16_process_164 n) r := by
  obtain ⟨hlt, hx, hb, hml, hown, hts, hN, hA, hK⟩ := id C
  intro y0 s0 H locs ls h hP hD hS hl
  unfold df_X16_process_164 at h
  exact K _ _ _ _ _ _ dX16_process_164 rfl (Option.some.inj h).symm hP hD hS
set_option maxHeartbeats 40000000 in
set_option maxRecDepth 100000 in
theorem db_X16_process_57 {p : Program} {l : Launch} {e : Env} {s : State} {m : MethodId} {args : Array Value} {below : List Frame} {meth : Method} {c : Code} {Q : State → Prop} {A : Nat → Prop} {dC : Nat → ClassId} {dI : Nat → Nat → Nat} {a : Nat → Nat} {ac : Nat → ClassId} {n : Nat} {r : Int32 × (St × (St))} (C : nd_C p l s m args c A (dC, dI) cX16_process 5 RX16 ow_dm_X16_process (dk_X16 ac)) (K : nd_Ki p l e (headSpec ow_dm_X16_process ({ frames := 0, cells := 0, slots := 0, locals := 0 })).room s m args below meth c Q A (dC, dI) cX16_process .int (St × (St)) (dw_X16 a ac) r) {g27 : Int32 → Int32 → Int32 → Int32 → (St × (St)) → Option (Int32 × (St × (St)))} (J27 : dj_X16_process_27 p l e s m args below meth c Q A dC dI a ac g27 r) : dj_X16_process_57 p l e s m args below meth c Q A dC dI a ac (df_X16_process_57 n g27) r := by
  obtain ⟨hlt, hx, hb, hml, hown, hts, hN, hA, hK⟩ := id C
  intro x1 x2 x4 y0 s0 H locs ls h hP hD hS hl
  unfold df_X16_process_57 at h
  refine lv_istore_n (lv' := [(3, .int y0), (0, .ref (a 0)), (1, .int x1), (2, .int x2), (4, .int x4)]) hx hb dX16_process_57 rfl hl (by decide) rfl (fun ls hl => ?_)
  obtain ⟨z25, ez25, h⟩ := nd_let_e h
  refine lv_iinc (v := z25) (lv' := [(4, .int z25), (3, .int y0), (0, .ref (a 0)), (1, .int x1), (2, .int x2)]) hx hb dX16_process_58 hl (k := 4) rfl (by rw [ez25]) (by decide) rfl (fun ls hl => ?_)
  refine lv_goto (tgt := 27) hx hb dX16_process_61 (by decide) ?_
  exact (J27) (x1) (x2) (y0) (z25) s0 _ _ _ h hP hD hS (lv_sub hl [2, 3, 4, 1, 0] rfl)
set_option maxHeartbeats 40000000 in
set_option maxRecDepth 100000 in
theorem dB_X16_process_27 {p : Program} {l : Launch} {e : Env} {s : State} {m : MethodId} {args : Array Value} {below : List Frame} {meth : Method} {c : Code} {Q : State → Prop} {A : Nat → Prop} {dC : Nat → ClassId} {dI : Nat → Nat → Nat} {a : Nat → Nat} {ac : Nat → ClassId} {n : Nat} {r : Int32 × (St × (St))} (C : nd_C p l s m args c A (dC, dI) cX16_process 5 RX16 ow_dm_X16_process (dk_X16 ac)) (K : nd_Ki p l e (headSpec ow_dm_X16_process ({ frames := 0, cells := 0, slots := 0, locals := 0 })).room s m args below meth c Q A (dC, dI) cX16_process .int (St × (St)) (dw_X16 a ac) r) {g27 : Int32 → Int32 → Int32 → Int32 → (St × (St)) → Option (Int32 × (St × (St)))} (J27 : dj_X16_process_27 p l e s m args below meth c Q A dC dI a ac g27 r) : dj_X16_process_27 p l e s m args below meth c Q A dC dI a ac (dF_X16_process_27 n g27) r := by
  obtain ⟨hlt, hx, hb, hml, hown, hts, hN, hA, hK⟩ := id C
  intro x1 x2 x3 x4 s0 H locs ls h hP hD hS hl
  unfold dF_X16_process_27 at h
  refine lv_iload hx hb dX16_process_27 (lv_at hl 4 rfl) ?_
  refine lv_bipush (v := 64) hx hb dX16_process_29 (by decide) ?_
  refine lv_icmp_ge (tgt := 64) hx hb dX16_process_31 (by decide) (fun c5 => ?_) (fun c5 => ?_)
  · have h := nd_pos h c5
    refine lv_iload_n hx hb dX16_process_64 rfl (lv_at hl 2 rfl) ?_
    by_cases c6 : x2 = 0
    · have h := nd_pos h c6
      refine lv_tableIn (off := 43) (tgt := 108) hx hb dX16_process_65 (by rw [c6]; decide) (by rw [c6]; decide) (by rw [c6]; decide) (by decide) ?_
      refine lv_aload_n hx hb dX16_process_108 rfl (lv_at hl 0 rfl) ?_
      refine va_get (D := (dC, dI)) (ci := 17) (v := .ref (a 2)) (C := RX16) (T := TX16) (N := 56) hx hb hts hi_dm_X16_process_X16 hown hK hP 0 rfl rfl 10 (by decide) (hts (.fieldLink RX16 13 "TimeMachineModel$Machine" "state" "[I") (List.mem_of_getElem? (i := 1) rfl)) (fun _ h9 => h9) rfl dX16_process_109 ?_
      refine lv_iload_n hx hb dX16_process_112 rfl (lv_at hl 1 rfl) ?_
      obtain ⟨i7, h⟩ := nd_ck_e h
      refine va_iald (i := x1) hx hb hK hP 2 1 rfl rfl i7 dX16_process_113 ?_
      exact K _ _ _ _ _ _ dX16_process_114 rfl (Option.some.inj h).symm hP hD hS
    have h := nd_neg h c6
    by_cases c8 : x2 = 1
    · have h := nd_pos h c8
      refine lv_tableIn (off := 50) (tgt := 115) hx hb dX16_process_65 (by rw [c8]; decide) (by rw [c8]; decide) (by rw [c8]; decide) (by decide) ?_
      refine lv_aload_n hx hb dX16_process_115 rfl (lv_at hl 0 rfl) ?_
      refine va_get (D := (dC, dI)) (ci := 17) (v := .ref (a 3)) (C := RX16) (T := TX16) (N := 56) hx hb hts hi_dm_X16_process_X16 hown hK hP 0 rfl rfl 11 (by decide) (hts (.fieldLink RX16 16 "TimeMachineModel$Machine" "parent" "[I") (List.mem_of_getElem? (i := 2) rfl)) (fun _ h9 => h9) rfl dX16_process_116 ?_
      refine lv_iload_n hx hb dX16_process_119 rfl (lv_at hl 1 rfl) ?_
      obtain ⟨i9, h⟩ := nd_ck_e h
      refine va_iald (i := x1) hx hb hK hP 3 2 rfl rfl i9 dX16_process_120 ?_
      exact K _ _ _ _ _ _ dX16_process_121 rfl (Option.some.inj h).symm hP hD hS
    have h := nd_neg h c8
    by_cases c10 : x2 = 2
    · have h := nd_pos h c10
      refine lv_tableIn (off := 57) (tgt := 122) hx hb dX16_process_65 (by rw [c10]; decide) (by rw [c10]; decide) (by rw [c10]; decide) (by decide) ?_
      refine lv_aload_n hx hb dX16_process_122 rfl (lv_at hl 0 rfl) ?_
      refine va_get (D := (dC, dI)) (ci := 17) (v := .ref (a 2)) (C := RX16) (T := TX16) (N := 56) hx hb hts hi_dm_X16_process_X16 hown hK hP 0 rfl rfl 10 (by decide) (hts (.fieldLink RX16 13 "TimeMachineModel$Machine" "state" "[I") (List.mem_of_getElem? (i := 1) rfl)) (fun _ h9 => h9) rfl dX16_process_123 ?_
      refine lv_iload_n hx hb dX16_process_126 rfl (lv_at hl 1 rfl) ?_
      obtain ⟨i11, h⟩ := nd_ck_e h
      refine va_iald (i := x1) hx hb hK hP 2 1 rfl rfl i11 dX16_process_127 ?_
      refine lv_iconst (v := 3) hx hb dX16_process_128 (by decide) ?_
      refine lv_icmp_ne (tgt := 141) hx hb dX16_process_129 (by decide) (fun c12 => ?_) (fun c12 => ?_)
      · have h := nd_neg h c12
        refine lv_iconst (v := 0) hx hb dX16_process_141 (by decide) ?_
        exact (db_X16_process_142 C K) (0) s0 _ _ _ h hP hD hS (lv_sub hl [] rfl)
      · have h := nd_pos h c12
        refine lv_aload_n hx hb dX16_process_132 rfl (lv_at hl 0 rfl) ?_
        refine va_get (D := (dC, dI)) (ci := 17) (v := .ref (a 4)) (C := RX16) (T := TX16) (N := 56) hx hb hts hi_dm_X16_process_X16 hown hK hP 0 rfl rfl 12 (by decide) (hts (.fieldLink RX16 19 "TimeMachineModel$Machine" "ending" "[I") (List.mem_of_getElem? (i := 3) rfl)) (fun _ h9 => h9) rfl dX16_process_133 ?_
        refine lv_iload_n hx hb dX16_process_136 rfl (lv_at hl 1 rfl) ?_
        obtain ⟨i13, h⟩ := nd_ck_e h
        refine va_iald (i := x1) hx hb hK hP 4 3 rfl rfl i13 dX16_process_137 ?_
        refine lv_goto (tgt := 142) hx hb dX16_process_138 (by decide) ?_
        exact (db_X16_process_142 C K) ((sR s0.1 3 (Int32.toNatClampNeg x1))) s0 _ _ _ h hP hD hS (lv_sub hl [] rfl)
    have h := nd_neg h c10
    by_cases c14 : x2 = 3
    · have h := nd_pos h c14
      refine lv_tableIn (off := 78) (tgt := 143) hx hb dX16_process_65 (by rw [c14]; decide) (by rw [c14]; decide) (by rw [c14]; decide) (by decide) ?_
      refine lv_aload_n hx hb dX16_process_143 rfl (lv_at hl 0 rfl) ?_
      refine va_get (D := (dC, dI)) (ci := 17) (v := .ref (a 5)) (C := RX16) (T := TX16) (N := 56) hx hb hts hi_dm_X16_process_X16 hown hK hP 0 rfl rfl 13 (by decide) (hts (.fieldLink RX16 22 "TimeMachineModel$Machine" "pending" "[I") (List.mem_of_getElem? (i := 4) rfl)) (fun _ h9 => h9) rfl dX16_process_144 ?_
      refine lv_iload_n hx hb dX16_process_147 rfl (lv_at hl 1 rfl) ?_
      obtain ⟨i15, h⟩ := nd_ck_e h
      refine va_iald (i := x1) hx hb hK hP 5 4 rfl rfl i15 dX16_process_148 ?_
      exact K _ _ _ _ _ _ dX16_process_149 rfl (Option.some.inj h).symm hP hD hS
    have h := nd_neg h c14
    by_cases c16 : x2 = 4
    · have h := nd_pos h c16
      refine lv_tableIn (off := 85) (tgt := 150) hx hb dX16_process_65 (by rw [c16]; decide) (by rw [c16]; decide) (by rw [c16]; decide) (by decide) ?_
      refine lv_aload_n hx hb dX16_process_150 rfl (lv_at hl 0 rfl) ?_
      refine va_get (D := (dC, dI)) (ci := 17) (v := .ref (a 9)) (C := RX16) (T := TX16) (N := 56) hx hb hts hi_dm_X16_process_X16 hown hK hP 0 rfl rfl 17 (by decide) (hts (.fieldLink RX16 34 "TimeMachineModel$Machine" "within" "[Z") (List.mem_of_getElem? (i := 5) rfl)) (fun _ h9 => h9) rfl dX16_process_151 ?_
      refine lv_iload_n hx hb dX16_process_154 rfl (lv_at hl 1 rfl) ?_
      obtain ⟨i17, h⟩ := nd_ck_e h
      refine va_zald (i := x1) hx hb hK hP 9 8 rfl rfl i17 dX16_process_155 ?_
      refine lv_if_eq (tgt := 163) hx hb dX16_process_156 (by decide) (fun c18 => ?_) (fun c18 => ?_)
      · have h := nd_pos h c18
        refine lv_iconst (v := 0) hx hb dX16_process_163 (by decide) ?_
        exact (db_X16_process_164 C K) (0) s0 _ _ _ h hP hD hS (lv_sub hl [] rfl)
      · have h := nd_neg h c18
        refine lv_iconst (v := 1) hx hb dX16_process_159 (by decide) ?_
        refine lv_goto (tgt := 164) hx hb dX16_process_160 (by decide) ?_
        exact (db_X16_process_164 C K) (1) s0 _ _ _ h hP hD hS (lv_sub hl [] rfl)
    have h := nd_neg h c16
    by_cases c19 : x2 = 5
    · have h := nd_pos h c19
      refine lv_tableIn (off := 100) (tgt := 165) hx hb dX16_process_65 (by rw [c19]; decide) (by rw [c19]; decide) (by rw [c19]; decide) (by decide) ?_
      refine lv_iload_n hx hb dX16_process_165 rfl (lv_at hl 3 rfl) ?_
      exact K _ _ _ _ _ _ dX16_process_166 rfl (Option.some.inj h).symm hP hD hS
    have h := nd_neg h c19
    by_cases c20 : x2 = 6
    · have h := nd_pos h c20
      refine lv_tableIn (off := 102) (tgt := 167) hx hb dX16_process_65 (by rw [c20]; decide) (by rw [c20]; decide) (by rw [c20]; decide) (by decide) ?_
      refine lv_aload_n hx hb dX16_process_167 rfl (lv_at hl 0 rfl) ?_
      refine va_get (D := (dC, dI)) (ci := 17) (v := .ref (a 7)) (C := RX16) (T := TX16) (N := 56) hx hb hts hi_dm_X16_process_X16 hown hK hP 0 rfl rfl 15 (by decide) (hts (.fieldLink RX16 28 "TimeMachineModel$Machine" "heapEnd" "[I") (List.mem_of_getElem? (i := 6) rfl)) (fun _ h9 => h9) rfl dX16_process_168 ?_
      refine lv_iload_n hx hb dX16_process_171 rfl (lv_at hl 1 rfl) ?_
      obtain ⟨i21, h⟩ := nd_ck_e h
      refine va_iald (i := x1) hx hb hK hP 7 6 rfl rfl i21 dX16_process_172 ?_
      exact K _ _ _ _ _ _ dX16_process_173 rfl (Option.some.inj h).symm hP hD hS
    have h := nd_neg h c20
    refine lv_tableOut (tgt := 174) hx hb dX16_process_65 (by have g0 := nv_nei c6 (k := 0) (by decide); have g1 := nv_nei c8 (k := 1) (by decide); have g2 := nv_nei c10 (k := 2) (by decide); have g3 := nv_nei c14 (k := 3) (by decide); have g4 := nv_nei c16 (k := 4) (by decide); have g5 := nv_nei c19 (k := 5) (by decide); have g6 := nv_nei c20 (k := 6) (by decide); omega) (by decide) ?_
    refine lv_aload_n hx hb dX16_process_174 rfl (lv_at hl 0 rfl) ?_
    refine va_get (D := (dC, dI)) (ci := 17) (v := .ref (a 8)) (C := RX16) (T := TX16) (N := 56) hx hb hts hi_dm_X16_process_X16 hown hK hP 0 rfl rfl 16 (by decide) (hts (.fieldLink RX16 31 "TimeMachineModel$Machine" "calling" "[I") (List.mem_of_getElem? (i := 7) rfl)) (fun _ h9 => h9) rfl dX16_process_175 ?_
    refine lv_iload_n hx hb dX16_process_178 rfl (lv_at hl 1 rfl) ?_
    obtain ⟨i22, h⟩ := nd_ck_e h
    refine va_iald (i := x1) hx hb hK hP 8 7 rfl rfl i22 dX16_process_179 ?_
    exact K _ _ _ _ _ _ dX16_process_180 rfl (Option.some.inj h).symm hP hD hS
  · have h := nd_neg h c5
    refine lv_aload_n hx hb dX16_process_34 rfl (lv_at hl 0 rfl) ?_
    refine va_get (D := (dC, dI)) (ci := 17) (v := .ref (a 18)) (C := RX16) (T := TX16) (N := 56) hx hb hts hi_dm_X16_process_X16 hown hK hP 0 rfl rfl 26 (by decide) (hts (.fieldLink RX16 64 "TimeMachineModel$Machine" "frame" "[I") (List.mem_of_getElem? (i := 8) rfl)) (fun _ h9 => h9) rfl dX16_process_35 ?_
    refine lv_bipush (v := 64) hx hb dX16_process_38 (by decide) ?_
    refine lv_iload_n hx hb dX16_process_40 rfl (lv_at hl 1 rfl) ?_
    refine lv_imul hx hb dX16_process_41 ?_
    refine lv_iload hx hb dX16_process_42 (lv_at hl 4 rfl) ?_
    refine lv_iadd hx hb dX16_process_44 ?_
    obtain ⟨i23, h⟩ := nd_ck_e h
    refine va_iald (i := ((64 * x1) + x4)) hx hb hK hP 18 17 rfl rfl i23 dX16_process_45 ?_
    refine lv_iconst (v := (-1)) hx hb dX16_process_46 (by decide) ?_
    refine lv_icmp_ne (tgt := 54) hx hb dX16_process_47 (by decide) (fun c24 => ?_) (fun c24 => ?_)
    · have h := nd_neg h c24
      refine lv_iload_n hx hb dX16_process_54 rfl (lv_at hl 3 rfl) ?_
      refine lv_iconst (v := 1) hx hb dX16_process_55 (by decide) ?_
      refine lv_iadd hx hb dX16_process_56 ?_
      exact (db_X16_process_57 C K J27) (x1) (x2) (x4) ((x3 + 1)) s0 _ _ _ h hP hD hS (lv_sub hl [0, 1, 2, 4] rfl)
    · have h := nd_pos h c24
      refine lv_iload_n hx hb dX16_process_50 rfl (lv_at hl 3 rfl) ?_
      refine lv_goto (tgt := 57) hx hb dX16_process_51 (by decide) ?_
      exact (db_X16_process_57 C K J27) (x1) (x2) (x4) (x3) s0 _ _ _ h hP hD hS (lv_sub hl [0, 1, 2, 4] rfl)
set_option maxHeartbeats 40000000 in
set_option maxRecDepth 100000 in
theorem db_X16_process_27 {p : Program} {l : Launch} {e : Env} {s : State} {m : MethodId} {args : Array Value} {below : List Frame} {meth : Method} {c : Code} {Q : State → Prop} {A : Nat → Prop} {dC : Nat → ClassId} {dI : Nat → Nat → Nat} {a : Nat → Nat} {ac : Nat → ClassId} {n : Nat} {r : Int32 × (St × (St))} (C : nd_C p l s m args c A (dC, dI) cX16_process 5 RX16 ow_dm_X16_process (dk_X16 ac)) (K : nd_Ki p l e (headSpec ow_dm_X16_process ({ frames := 0, cells := 0, slots := 0, locals := 0 })).room s m args below meth c Q A (dC, dI) cX16_process .int (St × (St)) (dw_X16 a ac) r) (k : Nat) : dj_X16_process_27 p l e s m args below meth c Q A dC dI a ac (df_X16_process_27 n k) r := by
  induction k with
  | zero => intro x1 x2 x3 x4 s0 H locs ls h; exact nomatch (show (none : Option (Int32 × (St × (St)))) = some r from h)
  | succ k ih => exact dB_X16_process_27 C K ih
set_option maxHeartbeats 40000000 in
set_option maxRecDepth 100000 in
theorem db_X16_process_0 {p : Program} {l : Launch} {e : Env} {s : State} {m : MethodId} {args : Array Value} {below : List Frame} {meth : Method} {c : Code} {Q : State → Prop} {A : Nat → Prop} {dC : Nat → ClassId} {dI : Nat → Nat → Nat} {a : Nat → Nat} {ac : Nat → ClassId} {n : Nat} {r : Int32 × (St × (St))} (C : nd_C p l s m args c A (dC, dI) cX16_process 5 RX16 ow_dm_X16_process (dk_X16 ac)) (K : nd_Ki p l e (headSpec ow_dm_X16_process ({ frames := 0, cells := 0, slots := 0, locals := 0 })).room s m args below meth c Q A (dC, dI) cX16_process .int (St × (St)) (dw_X16 a ac) r) : dj_X16_process_0 p l e s m args below meth c Q A dC dI a ac (df_X16_process_0 n) r := by
  obtain ⟨hlt, hx, hb, hml, hown, hts, hN, hA, hK⟩ := id C
  intro v0 v1 s0 H locs ls h hP hD hS hl
  unfold df_X16_process_0 at h
  refine lv_iload_n hx hb dX16_process_0 rfl (lv_at hl 1 rfl) ?_
  refine lv_if_lt (tgt := 20) hx hb dX16_process_1 (by decide) (fun c1 => ?_) (fun c1 => ?_)
  · have h := nd_pos h c1
    exact (db_X16_process_20 C K)  s0 _ _ _ h hP hD hS (lv_sub hl [] rfl)
  · have h := nd_neg h c1
    refine lv_iload_n hx hb dX16_process_4 rfl (lv_at hl 1 rfl) ?_
    refine lv_bipush (v := 15) hx hb dX16_process_5 (by decide) ?_
    refine lv_icmp_gt (tgt := 20) hx hb dX16_process_7 (by decide) (fun c2 => ?_) (fun c2 => ?_)
    · have h := nd_pos h c2
      exact (db_X16_process_20 C K)  s0 _ _ _ h hP hD hS (lv_sub hl [] rfl)
    · have h := nd_neg h c2
      refine lv_iload_n hx hb dX16_process_10 rfl (lv_at hl 2 rfl) ?_
      refine lv_if_lt (tgt := 20) hx hb dX16_process_11 (by decide) (fun c3 => ?_) (fun c3 => ?_)
      · have h := nd_pos h c3
        exact (db_X16_process_20 C K)  s0 _ _ _ h hP hD hS (lv_sub hl [] rfl)
      · have h := nd_neg h c3
        refine lv_iload_n hx hb dX16_process_14 rfl (lv_at hl 2 rfl) ?_
        refine lv_bipush (v := 7) hx hb dX16_process_15 (by decide) ?_
        refine lv_icmp_le (tgt := 22) hx hb dX16_process_17 (by decide) (fun c4 => ?_) (fun c4 => ?_)
        · have h := nd_pos h c4
          refine lv_iconst (v := 0) hx hb dX16_process_22 (by decide) ?_
          refine lv_istore_n (lv' := [(3, .int 0), (0, .ref (a 0)), (1, .int v0), (2, .int v1)]) hx hb dX16_process_23 rfl hl (by decide) rfl (fun ls hl => ?_)
          refine lv_iconst (v := 0) hx hb dX16_process_24 (by decide) ?_
          refine lv_istore (lv' := [(4, .int 0), (3, .int 0), (0, .ref (a 0)), (1, .int v0), (2, .int v1)]) hx hb dX16_process_25 hl (by decide) rfl (fun ls hl => ?_)
          exact (db_X16_process_27 C K n) (v0) (v1) (0) (0) s0 _ _ _ h hP hD hS (lv_sub hl [2, 3, 4, 1, 0] rfl)
        · have h := nd_neg h c4
          exact (db_X16_process_20 C K)  s0 _ _ _ h hP hD hS (lv_sub hl [] rfl)
set_option maxHeartbeats 40000000 in
set_option maxRecDepth 100000 in
theorem dm_X16_process (l : Launch) (hlt : l.stackTraces = false) (dC : Nat → ClassId) (dI : Nat → Nat → Nat) (a : Nat → Nat) (ac : Nat → ClassId) (n : Nat) (v0 : Int32) (v1 : Int32) (s0 : St × (St)) {r : Int32 × (St × (St))} (h : df_X16_process n v0 v1 s0 = some r) (sz : Nat) : Met l yX16_process ow_dm_X16_process ({ frames := 0, cells := 0, slots := 0, locals := 0 }) (va_Pc [.ref (a 0), .int v0, .int v1] (fun U => U.heap.size = sz ∧ va_P (dC, dI) vwCl (dw_X16 a ac s0) U.heap ∧ va_K (dC, dI) vwCl (dk_X16 ac) U ∧ va_D (fun _ => True) (dw_X16 a ac s0) ∧ nv_E dI (va_A (dw_X16 a ac s0) sz) U)) (va_Qi (fun x _ => x = r.1) (fun (_ : Unit) t => va_P (dC, dI) vwCl (dw_X16 a ac r.2) t.heap ∧ va_K (dC, dI) vwCl (dk_X16 ac) t ∧ va_D (va_A (dw_X16 a ac s0) sz) (dw_X16 a ac r.2)) (va_A (dw_X16 a ac s0) sz)) 0 0 (va_A (dw_X16 a ac s0) sz) := by
  refine Met.ofW (cc := cX16_process) (maxL := 5) (ret := (some .int)) (by decide) rfl ?_
  intro p e s m args below meth c s₁ B hml hv
  obtain ⟨rfl, hsz, hP, hK, hD0, hN⟩ := hv
  have hx := B.exec
  have hb := B.bytes
  have hr := B.returns
  have hts := atoms_spec (ws := ow_dm_X16_process) B.pre
  have hown : s.vm.findClass RX16 = some m.cls := findClass_of_methodNamed B.named
  have hlocks := B.notSynchronized
  subst hsz
  have hD := hD0.self (sz := s.heap.size)
  generalize hAe : va_A (dw_X16 a ac s0) s.heap.size = A at hD hN ⊢
  have hA : ∀ q : Nat, s.heap.size ≤ q → A q := fun q h => by rw [← hAe]; exact Or.inr h
  have hl := lv_entry ([.ref (a 0), .int v0, .int v1]) (n := 5) (Nat.le_of_ble_eq_true rfl)
  rw [lg_entry_eq]
  generalize (lg_sl ([.ref (a 0), .int v0, .int v1]) ++ List.replicate (5 - (lg_sl ([.ref (a 0), .int v0, .int v1])).length) Slot.unset).toArray = ls at hl ⊢
  have hl : lv_has ls 5 [(0, .ref (a 0)), (1, .int v0), (2, .int v1)] := hl
  exact db_X16_process_0 (dC := dC) (dI := dI) (a := a) (ac := ac) (n := n) (r := r) ⟨hlt, hx, hb, hml, hown, hts, hN, hA, hK⟩ (fun pc v τ H locs ls d z er hP hD hS => by subst er; exact W.zret (v := v) hx hb hr z (fun t ht hW => ⟨⟨v, (), rfl, rfl, by rw [ht]; exact hP, va_K.moved hW.alike hK, hD⟩, hS.F ht⟩) hS.2.2 d) v0 v1 s0 _ _ _ h hP hD va_S.rf (lv_sub hl [0, 1, 2] rfl)
def ow_dm_X16_instruction : List Cond := Cond.code yX16_instruction cX16_instruction 4 (some .long) :: ([Cond.methodLink RX16 218 yX16_may, Cond.instanceMethod yX16_may, Cond.selects RX16 yX16_may yX16_may, Cond.initialized RX16, Cond.constantLong RX16 175 (-1), Cond.methodLink RX16 517 yX16_peek, Cond.instanceMethod yX16_peek, Cond.selects RX16 yX16_peek yX16_peek, Cond.methodLink RX16 390 yX16_plain, Cond.static yX16_plain] ++ (ow_dm_X16_may ++ (ow_dm_X16_peek ++ (ow_dm_X16_plain ++ []))))
theorem gd_dm_X16_instruction : ∀ w ∈ ow_dm_X16_instruction, (w.onTables && w.keeps) = true ∨ ∃ ty, w = Cond.arrayClass ty := List.forall_mem_cons.mpr ⟨good_of_word rfl, List.forall_mem_append.mpr ⟨fun w h => good_of_word (List.all_eq_true.mp (by decide +kernel) w h), List.forall_mem_append.mpr ⟨gd_dm_X16_may, List.forall_mem_append.mpr ⟨gd_dm_X16_peek, List.forall_mem_append.mpr ⟨gd_dm_X16_plain, fun _ h => nomatch h⟩⟩⟩⟩⟩
theorem gi_dm_X16_instruction_0 : GoodIn ow_dm_X16_instruction (wsV RX16 218 RX16 yX16_may ow_dm_X16_may) := goodIn_app (goodIn_of _ (by decide +kernel)) (fun w h => ⟨List.mem_cons_of_mem _ (List.mem_append_right _ (List.mem_append_left _ h)), gd_dm_X16_may w h⟩)
theorem gi_dm_X16_instruction_1 : GoodIn ow_dm_X16_instruction (wsV RX16 517 RX16 yX16_peek ow_dm_X16_peek) := goodIn_app (goodIn_of _ (by decide +kernel)) (fun w h => ⟨List.mem_cons_of_mem _ (List.mem_append_right _ (List.mem_append_right _ (List.mem_append_left _ h))), gd_dm_X16_peek w h⟩)
theorem gi_dm_X16_instruction_2 : GoodIn ow_dm_X16_instruction (wsS RX16 390 yX16_plain ow_dm_X16_plain) := goodIn_app (goodIn_of _ (by decide +kernel)) (fun w h => ⟨List.mem_cons_of_mem _ (List.mem_append_right _ (List.mem_append_right _ (List.mem_append_right _ (List.mem_append_left _ h)))), gd_dm_X16_plain w h⟩)
def dj_X16_instruction_22 (p : Program) (l : Launch) (e : Env) (s : State) (m : MethodId) (args : Array Value) (below : List Frame) (meth : Method) (c : Code) (Q : State → Prop) (A : Nat → Prop) (dC : Nat → ClassId) (dI : Nat → Nat → Nat) (a : Nat → Nat) (ac : Nat → ClassId) (g : (St × (St)) → Option (Int64 × (St × (St)))) (r : Int64 × (St × (St))) : Prop := ∀ (s0 : St × (St)) (H : Heap) (locs : List Loc) (ls : Array Slot), g s0 = some r → va_P (dC, dI) vwCl (dw_X16 a ac s0) H → va_D A (dw_X16 a ac s0) → va_S A s.heap H locs → lv_has ls 4 [] → W p l e (headSpec ow_dm_X16_instruction ({ frames := 2, cells := 0, slots := 0, locals := 45 })).room s m args below meth c H locs 0 0 Q (F0 m 22 ls [])
def dj_X16_instruction_79 (p : Program) (l : Launch) (e : Env) (s : State) (m : MethodId) (args : Array Value) (below : List Frame) (meth : Method) (c : Code) (Q : State → Prop) (A : Nat → Prop) (dC : Nat → ClassId) (dI : Nat → Nat → Nat) (a : Nat → Nat) (ac : Nat → ClassId) (g : (St × (St)) → Option (Int64 × (St × (St)))) (r : Int64 × (St × (St))) : Prop := ∀ (s0 : St × (St)) (H : Heap) (locs : List Loc) (ls : Array Slot), g s0 = some r → va_P (dC, dI) vwCl (dw_X16 a ac s0) H → va_D A (dw_X16 a ac s0) → va_S A s.heap H locs → lv_has ls 4 [] → W p l e (headSpec ow_dm_X16_instruction ({ frames := 2, cells := 0, slots := 0, locals := 45 })).room s m args below meth c H locs 0 0 Q (F0 m 79 ls [])
def dj_X16_instruction_0 (p : Program) (l : Launch) (e : Env) (s : State) (m : MethodId) (args : Array Value) (below : List Frame) (meth : Method) (c : Code) (Q : State → Prop) (A : Nat → Prop) (dC : Nat → ClassId) (dI : Nat → Nat → Nat) (a : Nat → Nat) (ac : Nat → ClassId) (g : Int32 → Int32 → (St × (St)) → Option (Int64 × (St × (St)))) (r : Int64 × (St × (St))) : Prop := ∀ (v0 : Int32) (v1 : Int32) (s0 : St × (St)) (H : Heap) (locs : List Loc) (ls : Array Slot), g v0 v1 s0 = some r → va_P (dC, dI) vwCl (dw_X16 a ac s0) H → va_D A (dw_X16 a ac s0) → va_S A s.heap H locs → lv_has ls 4 [(0, .ref (a 0)), (1, .int v0), (2, .int v1)] → W p l e (headSpec ow_dm_X16_instruction ({ frames := 2, cells := 0, slots := 0, locals := 45 })).room s m args below meth c H locs 0 0 Q (F0 m 0 ls [])
set_option maxHeartbeats 40000000 in
set_option maxRecDepth 100000 in
theorem db_X16_instruction_22 {p : Program} {l : Launch} {e : Env} {s : State} {m : MethodId} {args : Array Value} {below : List Frame} {meth : Method} {c : Code} {Q : State → Prop} {A : Nat → Prop} {dC : Nat → ClassId} {dI : Nat → Nat → Nat} {a : Nat → Nat} {ac : Nat → ClassId} {n : Nat} {r : Int64 × (St × (St))} (C : nd_C p l s m args c A (dC, dI) cX16_instruction 4 RX16 ow_dm_X16_instruction (dk_X16 ac)) (K : nd_Kl p l e (headSpec ow_dm_X16_instruction ({ frames := 2, cells := 0, slots := 0, locals := 45 })).room s m args below meth c Q A (dC, dI) cX16_instruction (St × (St)) (dw_X16 a ac) r) : dj_X16_instruction_22 p l e s m args below meth c Q A dC dI a ac (df_X16_instruction_22 n) r := by
  obtain ⟨hlt, hx, hb, hml, hown, hts, hN, hA, hK⟩ := id C
  intro s0 H locs ls h hP hD hS hl
  unfold df_X16_instruction_22 at h
  refine lv_ldc2 hx hb hown (hts (.constantLong RX16 175 (-1)) (List.mem_of_getElem? (i := 5) rfl)) dX16_instruction_22 ?_
  exact K _ _ _ _ _ _ dX16_instruction_25 (Option.some.inj h).symm hP hD hS
set_option maxHeartbeats 40000000 in
set_option maxRecDepth 100000 in
theorem db_X16_instruction_79 {p : Program} {l : Launch} {e : Env} {s : State} {m : MethodId} {args : Array Value} {below : List Frame} {meth : Method} {c : Code} {Q : State → Prop} {A : Nat → Prop} {dC : Nat → ClassId} {dI : Nat → Nat → Nat} {a : Nat → Nat} {ac : Nat → ClassId} {n : Nat} {r : Int64 × (St × (St))} (C : nd_C p l s m args c A (dC, dI) cX16_instruction 4 RX16 ow_dm_X16_instruction (dk_X16 ac)) (K : nd_Kl p l e (headSpec ow_dm_X16_instruction ({ frames := 2, cells := 0, slots := 0, locals := 45 })).room s m args below meth c Q A (dC, dI) cX16_instruction (St × (St)) (dw_X16 a ac) r) : dj_X16_instruction_79 p l e s m args below meth c Q A dC dI a ac (df_X16_instruction_79 n) r := by
  obtain ⟨hlt, hx, hb, hml, hown, hts, hN, hA, hK⟩ := id C
  intro s0 H locs ls h hP hD hS hl
  unfold df_X16_instruction_79 at h
  refine lv_ldc2 hx hb hown (hts (.constantLong RX16 175 (-1)) (List.mem_of_getElem? (i := 5) rfl)) dX16_instruction_79 ?_
  exact K _ _ _ _ _ _ dX16_instruction_82 (Option.some.inj h).symm hP hD hS
set_option maxHeartbeats 40000000 in
set_option maxRecDepth 100000 in
theorem db_X16_instruction_0 {p : Program} {l : Launch} {e : Env} {s : State} {m : MethodId} {args : Array Value} {below : List Frame} {meth : Method} {c : Code} {Q : State → Prop} {A : Nat → Prop} {dC : Nat → ClassId} {dI : Nat → Nat → Nat} {a : Nat → Nat} {ac : Nat → ClassId} {n : Nat} {r : Int64 × (St × (St))} (C : nd_C p l s m args c A (dC, dI) cX16_instruction 4 RX16 ow_dm_X16_instruction (dk_X16 ac)) (K : nd_Kl p l e (headSpec ow_dm_X16_instruction ({ frames := 2, cells := 0, slots := 0, locals := 45 })).room s m args below meth c Q A (dC, dI) cX16_instruction (St × (St)) (dw_X16 a ac) r) : dj_X16_instruction_0 p l e s m args below meth c Q A dC dI a ac (df_X16_instruction_0 n) r := by
  obtain ⟨hlt, hx, hb, hml, hown, hts, hN, hA, hK⟩ := id C
  intro v0 v1 s0 H locs ls h hP hD hS hl
  unfold df_X16_instruction_0 at h
  refine lv_aload_n hx hb dX16_instruction_0 rfl (lv_at hl 0 rfl) ?_
  refine lv_iload_n hx hb dX16_instruction_1 rfl (lv_at hl 1 rfl) ?_
  refine lv_iload_n hx hb dX16_instruction_2 rfl (lv_at hl 2 rfl) ?_
  refine lv_iconst (v := 4) hx hb dX16_instruction_3 (by decide) ?_
  obtain ⟨q1, s2, hq, h⟩ := nd_b2_e h
  have hPc := hP
  have hDc := hD
  have hKc := hK
  have hFc := nd_rs hD hS hA
  refine nd_cVi (As := [.int v0, .int v1, .int 4]) (rest := []) (q := q1) (w' := dw_X16 a ac s2) ⟨hx, hb, hml, hown, hts⟩ (fun sz => dm_X16_may l hlt dC dI a ac n (v0) (v1) (4) s0 hq sz) (cwV 3 hts gi_dm_X16_instruction_0 rfl rfl rfl (by decide +kernel) ⟨Nat.le_of_ble_eq_true rfl, Nat.le_of_ble_eq_true rfl⟩) hPc hDc hKc hS hA hN (va_recv hKc hPc (ci := 17) (q0 := 0) rfl rfl) rfl hl.1 rfl (Nat.le_of_ble_eq_true rfl) dX16_instruction_4 (fun H locs hP1 hD1 hk1 hS => ?_)
  have hP := hP1
  have hD := hD1.weaken (fun k q _ h => hFc q.1 h)
  refine lv_if_eq (tgt := 22) hx hb dX16_instruction_7 (by decide) (fun c4 => ?_) (fun c4 => ?_)
  · have h := nd_pos h c4
    exact (db_X16_instruction_22 C K)  s2 _ _ _ h hP hD hS (lv_sub hl [] rfl)
  · have h := nd_neg h c4
    refine lv_aload_n hx hb dX16_instruction_10 rfl (lv_at hl 0 rfl) ?_
    refine lv_iload_n hx hb dX16_instruction_11 rfl (lv_at hl 1 rfl) ?_
    refine lv_iload_n hx hb dX16_instruction_12 rfl (lv_at hl 2 rfl) ?_
    refine lv_iconst (v := 1) hx hb dX16_instruction_13 (by decide) ?_
    refine lv_iadd hx hb dX16_instruction_14 ?_
    refine lv_iconst (v := 4) hx hb dX16_instruction_15 (by decide) ?_
    obtain ⟨q5, s6, hq, h⟩ := nd_b2_e h
    have hPc := hP
    have hDc := hD
    have hKc := hK
    have hFc := nd_rs hD hS hA
    refine nd_cVi (As := [.int v0, .int (v1 + 1), .int 4]) (rest := []) (q := q5) (w' := dw_X16 a ac s6) ⟨hx, hb, hml, hown, hts⟩ (fun sz => dm_X16_may l hlt dC dI a ac n (v0) ((v1 + 1)) (4) s2 hq sz) (cwV 3 hts gi_dm_X16_instruction_0 rfl rfl rfl (by decide +kernel) ⟨Nat.le_of_ble_eq_true rfl, Nat.le_of_ble_eq_true rfl⟩) hPc hDc hKc hS hA hN (va_recv hKc hPc (ci := 17) (q0 := 0) rfl rfl) rfl hl.1 rfl (Nat.le_of_ble_eq_true rfl) dX16_instruction_16 (fun H locs hP1 hD1 hk1 hS => ?_)
    have hP := hP1
    have hD := hD1.weaken (fun k q _ h => hFc q.1 h)
    refine lv_if_ne (tgt := 26) hx hb dX16_instruction_19 (by decide) (fun c8 => ?_) (fun c8 => ?_)
    · have h := nd_neg h c8
      refine lv_aload_n hx hb dX16_instruction_26 rfl (lv_at hl 0 rfl) ?_
      refine lv_iload_n hx hb dX16_instruction_27 rfl (lv_at hl 1 rfl) ?_
      refine lv_iload_n hx hb dX16_instruction_28 rfl (lv_at hl 2 rfl) ?_
      obtain ⟨q9, s10, hq, h⟩ := nd_b2_e h
      have hPc := hP
      have hDc := hD
      have hKc := hK
      have hFc := nd_rs hD hS hA
      refine nd_cVi (As := [.int v0, .int v1]) (rest := []) (q := q9) (w' := dw_X16 a ac s10) ⟨hx, hb, hml, hown, hts⟩ (fun sz => dm_X16_peek l hlt dC dI a ac n (v0) (v1) s6 hq sz) (cwV 2 hts gi_dm_X16_instruction_1 rfl rfl rfl (by decide +kernel) ⟨Nat.le_of_ble_eq_true rfl, Nat.le_of_ble_eq_true rfl⟩) hPc hDc hKc hS hA hN (va_recv hKc hPc (ci := 17) (q0 := 0) rfl rfl) rfl hl.1 rfl (Nat.le_of_ble_eq_true rfl) dX16_instruction_29 (fun H locs hP1 hD1 hk1 hS => ?_)
      have hP := hP1
      have hD := hD1.weaken (fun k q _ h => hFc q.1 h)
      refine lv_aload_n hx hb dX16_instruction_32 rfl (lv_at hl 0 rfl) ?_
      refine lv_iload_n hx hb dX16_instruction_33 rfl (lv_at hl 1 rfl) ?_
      refine lv_iload_n hx hb dX16_instruction_34 rfl (lv_at hl 2 rfl) ?_
      refine lv_iconst (v := 1) hx hb dX16_instruction_35 (by decide) ?_
      refine lv_iadd hx hb dX16_instruction_36 ?_
      obtain ⟨q12, s13, hq, h⟩ := nd_b2_e h
      have hPc := hP
      have hDc := hD
      have hKc := hK
      have hFc := nd_rs hD hS hA
      refine nd_cVi (As := [.int v0, .int (v1 + 1)]) (rest := [.int q9]) (q := q12) (w' := dw_X16 a ac s13) ⟨hx, hb, hml, hown, hts⟩ (fun sz => dm_X16_peek l hlt dC dI a ac n (v0) ((v1 + 1)) s10 hq sz) (cwV 2 hts gi_dm_X16_instruction_1 rfl rfl rfl (by decide +kernel) ⟨Nat.le_of_ble_eq_true rfl, Nat.le_of_ble_eq_true rfl⟩) hPc hDc hKc hS hA hN (va_recv hKc hPc (ci := 17) (q0 := 0) rfl rfl) rfl hl.1 rfl (Nat.le_of_ble_eq_true rfl) dX16_instruction_37 (fun H locs hP1 hD1 hk1 hS => ?_)
      have hP := hP1
      have hD := hD1.weaken (fun k q _ h => hFc q.1 h)
      refine lv_bipush (v := 8) hx hb dX16_instruction_40 (by decide) ?_
      refine lv_ishl hx hb dX16_instruction_42 ?_
      refine lv_ior hx hb dX16_instruction_43 ?_
      refine lv_topi (fun z15 ez15 => ?_)
      have h := nd_at h ez15
      refine lv_istore_n (lv' := [(3, .int z15), (0, .ref (a 0)), (1, .int v0), (2, .int v1)]) hx hb dX16_instruction_44 rfl hl (by decide) rfl (fun ls hl => ?_)
      refine lv_iload_n hx hb dX16_instruction_45 rfl (lv_at hl 0 rfl) ?_
      refine lv_iconst (v := 3) hx hb dX16_instruction_46 (by decide) ?_
      refine lv_iand hx hb dX16_instruction_47 ?_
      refine lv_iconst (v := 3) hx hb dX16_instruction_48 (by decide) ?_
      refine lv_icmp_eq (tgt := 55) hx hb dX16_instruction_49 (by decide) (fun c16 => ?_) (fun c16 => ?_)
      · have h := nd_pos h c16
        refine lv_aload_n hx hb dX16_instruction_55 rfl (lv_at hl 1 rfl) ?_
        refine lv_iload_n hx hb dX16_instruction_56 rfl (lv_at hl 2 rfl) ?_
        refine lv_iload_n hx hb dX16_instruction_57 rfl (lv_at hl 3 rfl) ?_
        refine lv_iconst (v := 2) hx hb dX16_instruction_58 (by decide) ?_
        refine lv_iadd hx hb dX16_instruction_59 ?_
        refine lv_iconst (v := 4) hx hb dX16_instruction_60 (by decide) ?_
        obtain ⟨q17, s18, hq, h⟩ := nd_b2_e h
        have hPc := hP
        have hDc := hD
        have hKc := hK
        have hFc := nd_rs hD hS hA
        refine nd_cVi (As := [.int v0, .int (v1 + 2), .int 4]) (rest := []) (q := q17) (w' := dw_X16 a ac s18) ⟨hx, hb, hml, hown, hts⟩ (fun sz => dm_X16_may l hlt dC dI a ac n (v0) ((v1 + 2)) (4) s13 hq sz) (cwV 3 hts gi_dm_X16_instruction_0 rfl rfl rfl (by decide +kernel) ⟨Nat.le_of_ble_eq_true rfl, Nat.le_of_ble_eq_true rfl⟩) hPc hDc hKc hS hA hN (va_recv hKc hPc (ci := 17) (q0 := 0) rfl rfl) rfl hl.1 rfl (Nat.le_of_ble_eq_true rfl) dX16_instruction_61 (fun H locs hP1 hD1 hk1 hS => ?_)
        have hP := hP1
        have hD := hD1.weaken (fun k q _ h => hFc q.1 h)
        refine lv_if_eq (tgt := 79) hx hb dX16_instruction_64 (by decide) (fun c20 => ?_) (fun c20 => ?_)
        · have h := nd_pos h c20
          exact (db_X16_instruction_79 C K)  s18 _ _ _ h hP hD hS (lv_sub hl [] rfl)
        · have h := nd_neg h c20
          refine lv_aload_n hx hb dX16_instruction_67 rfl (lv_at hl 1 rfl) ?_
          refine lv_iload_n hx hb dX16_instruction_68 rfl (lv_at hl 2 rfl) ?_
          refine lv_iload_n hx hb dX16_instruction_69 rfl (lv_at hl 3 rfl) ?_
          refine lv_iconst (v := 3) hx hb dX16_instruction_70 (by decide) ?_
          refine lv_iadd hx hb dX16_instruction_71 ?_
          refine lv_iconst (v := 4) hx hb dX16_instruction_72 (by decide) ?_
          obtain ⟨q21, s22, hq, h⟩ := nd_b2_e h
          have hPc := hP
          have hDc := hD
          have hKc := hK
          have hFc := nd_rs hD hS hA
          refine nd_cVi (As := [.int v0, .int (v1 + 3), .int 4]) (rest := []) (q := q21) (w' := dw_X16 a ac s22) ⟨hx, hb, hml, hown, hts⟩ (fun sz => dm_X16_may l hlt dC dI a ac n (v0) ((v1 + 3)) (4) s18 hq sz) (cwV 3 hts gi_dm_X16_instruction_0 rfl rfl rfl (by decide +kernel) ⟨Nat.le_of_ble_eq_true rfl, Nat.le_of_ble_eq_true rfl⟩) hPc hDc hKc hS hA hN (va_recv hKc hPc (ci := 17) (q0 := 0) rfl rfl) rfl hl.1 rfl (Nat.le_of_ble_eq_true rfl) dX16_instruction_73 (fun H locs hP1 hD1 hk1 hS => ?_)
          have hP := hP1
          have hD := hD1.weaken (fun k q _ h => hFc q.1 h)
          refine lv_if_ne (tgt := 83) hx hb dX16_instruction_76 (by decide) (fun c24 => ?_) (fun c24 => ?_)
          · have h := nd_neg h c24
            refine lv_iload_n hx hb dX16_instruction_83 rfl (lv_at hl 0 rfl) ?_
            refine lv_aload_n hx hb dX16_instruction_84 rfl (lv_at hl 1 rfl) ?_
            refine lv_iload_n hx hb dX16_instruction_85 rfl (lv_at hl 2 rfl) ?_
            refine lv_iload_n hx hb dX16_instruction_86 rfl (lv_at hl 3 rfl) ?_
            refine lv_iconst (v := 2) hx hb dX16_instruction_87 (by decide) ?_
            refine lv_iadd hx hb dX16_instruction_88 ?_
            obtain ⟨q25, s26, hq, h⟩ := nd_b2_e h
            have hPc := hP
            have hDc := hD
            have hKc := hK
            have hFc := nd_rs hD hS hA
            refine nd_cVi (As := [.int v0, .int (v1 + 2)]) (rest := [.int z15]) (q := q25) (w' := dw_X16 a ac s26) ⟨hx, hb, hml, hown, hts⟩ (fun sz => dm_X16_peek l hlt dC dI a ac n (v0) ((v1 + 2)) s22 hq sz) (cwV 2 hts gi_dm_X16_instruction_1 rfl rfl rfl (by decide +kernel) ⟨Nat.le_of_ble_eq_true rfl, Nat.le_of_ble_eq_true rfl⟩) hPc hDc hKc hS hA hN (va_recv hKc hPc (ci := 17) (q0 := 0) rfl rfl) rfl hl.1 rfl (Nat.le_of_ble_eq_true rfl) dX16_instruction_89 (fun H locs hP1 hD1 hk1 hS => ?_)
            have hP := hP1
            have hD := hD1.weaken (fun k q _ h => hFc q.1 h)
            refine lv_bipush (v := 16) hx hb dX16_instruction_92 (by decide) ?_
            refine lv_ishl hx hb dX16_instruction_94 ?_
            refine lv_ior hx hb dX16_instruction_95 ?_
            refine lv_aload_n hx hb dX16_instruction_96 rfl (lv_at hl 1 rfl) ?_
            refine lv_iload_n hx hb dX16_instruction_97 rfl (lv_at hl 2 rfl) ?_
            refine lv_iload_n hx hb dX16_instruction_98 rfl (lv_at hl 3 rfl) ?_
            refine lv_iconst (v := 3) hx hb dX16_instruction_99 (by decide) ?_
            refine lv_iadd hx hb dX16_instruction_100 ?_
            obtain ⟨q28, s29, hq, h⟩ := nd_b2_e h
            have hPc := hP
            have hDc := hD
            have hKc := hK
            have hFc := nd_rs hD hS hA
            refine nd_cVi (As := [.int v0, .int (v1 + 3)]) (rest := [.int (z15 ||| ((q25 : Int32) <<< ((16 : Int32) &&& 31)))]) (q := q28) (w' := dw_X16 a ac s29) ⟨hx, hb, hml, hown, hts⟩ (fun sz => dm_X16_peek l hlt dC dI a ac n (v0) ((v1 + 3)) s26 hq sz) (cwV 2 hts gi_dm_X16_instruction_1 rfl rfl rfl (by decide +kernel) ⟨Nat.le_of_ble_eq_true rfl, Nat.le_of_ble_eq_true rfl⟩) hPc hDc hKc hS hA hN (va_recv hKc hPc (ci := 17) (q0 := 0) rfl rfl) rfl hl.1 rfl (Nat.le_of_ble_eq_true rfl) dX16_instruction_101 (fun H locs hP1 hD1 hk1 hS => ?_)
            have hP := hP1
            have hD := hD1.weaken (fun k q _ h => hFc q.1 h)
            refine lv_bipush (v := 24) hx hb dX16_instruction_104 (by decide) ?_
            refine lv_ishl hx hb dX16_instruction_106 ?_
            refine lv_ior hx hb dX16_instruction_107 ?_
            obtain ⟨q31, s32, hq, h⟩ := nd_b2_e h
            have hPc : va_P (dC, dI) vwCl (dw_P a ac ()) H := nd_p0
            have hDc : va_D A (dw_P a ac ()) := nd_d0
            have hKc : va_K (dC, dI) vwCl (dk_P ac) s := nd_y0 hK
            have hFc : ∀ q, va_A (dw_P a ac ()) H.size q → A q := nd_r0 hS hA
            refine nd_cSl (As := [.int ((z15 ||| ((q25 : Int32) <<< ((16 : Int32) &&& 31))) ||| ((q28 : Int32) <<< ((24 : Int32) &&& 31)))]) (rest := []) (q := q31) (w' := dw_P a ac s32) ⟨hx, hb, hml, hown, hts⟩ (fun sz => dm_X16_plain l hlt dC dI a ac n (((z15 ||| ((q25 : Int32) <<< ((16 : Int32) &&& 31))) ||| ((q28 : Int32) <<< ((24 : Int32) &&& 31)))) () hq sz) (cwS 1 hts gi_dm_X16_instruction_2 rfl rfl rfl (by decide +kernel) ⟨Nat.le_of_ble_eq_true rfl, Nat.le_of_ble_eq_true rfl⟩) hPc hDc hKc hS hA hN rfl hl.1 rfl (Nat.le_of_ble_eq_true rfl) dX16_instruction_108 (fun H locs hP1 hD1 hk1 hS => ?_)
            have hP := nd_n0 hP hk1
            exact K _ _ _ _ _ _ dX16_instruction_111 (Option.some.inj h).symm hP hD hS
          · have h := nd_pos h c24
            exact (db_X16_instruction_79 C K)  s22 _ _ _ h hP hD hS (lv_sub hl [] rfl)
      · have h := nd_neg h c16
        refine lv_iload_n hx hb dX16_instruction_52 rfl (lv_at hl 0 rfl) ?_
        refine lv_i2l hx hb dX16_instruction_53 rfl ?_
        exact K _ _ _ _ _ _ dX16_instruction_54 (Option.some.inj h).symm hP hD hS
    · have h := nd_pos h c8
      exact (db_X16_instruction_22 C K)  s6 _ _ _ h hP hD hS (lv_sub hl [] rfl)
set_option maxHeartbeats 40000000 in
set_option maxRecDepth 100000 in
theorem dm_X16_instruction (l : Launch) (hlt : l.stackTraces = false) (dC : Nat → ClassId) (dI : Nat → Nat → Nat) (a : Nat → Nat) (ac : Nat → ClassId) (n : Nat) (v0 : Int32) (v1 : Int32) (s0 : St × (St)) {r : Int64 × (St × (St))} (h : df_X16_instruction n v0 v1 s0 = some r) (sz : Nat) : Met l yX16_instruction ow_dm_X16_instruction ({ frames := 2, cells := 0, slots := 0, locals := 45 }) (va_Pc [.ref (a 0), .int v0, .int v1] (fun U => U.heap.size = sz ∧ va_P (dC, dI) vwCl (dw_X16 a ac s0) U.heap ∧ va_K (dC, dI) vwCl (dk_X16 ac) U ∧ va_D (fun _ => True) (dw_X16 a ac s0) ∧ nv_E dI (va_A (dw_X16 a ac s0) sz) U)) (va_Ql (fun x _ => x = r.1) (fun (_ : Unit) t => va_P (dC, dI) vwCl (dw_X16 a ac r.2) t.heap ∧ va_K (dC, dI) vwCl (dk_X16 ac) t ∧ va_D (va_A (dw_X16 a ac s0) sz) (dw_X16 a ac r.2)) (va_A (dw_X16 a ac s0) sz)) 0 0 (va_A (dw_X16 a ac s0) sz) := by
  refine Met.ofW (cc := cX16_instruction) (maxL := 4) (ret := (some .long)) (by decide) rfl ?_
  intro p e s m args below meth c s₁ B hml hv
  obtain ⟨rfl, hsz, hP, hK, hD0, hN⟩ := hv
  have hx := B.exec
  have hb := B.bytes
  have hr := B.returns
  have hts := atoms_spec (ws := ow_dm_X16_instruction) B.pre
  have hown : s.vm.findClass RX16 = some m.cls := findClass_of_methodNamed B.named
  have hlocks := B.notSynchronized
  subst hsz
  have hD := hD0.self (sz := s.heap.size)
  generalize hAe : va_A (dw_X16 a ac s0) s.heap.size = A at hD hN ⊢
  have hA : ∀ q : Nat, s.heap.size ≤ q → A q := fun q h => by rw [← hAe]; exact Or.inr h
  have hl := lv_entry ([.ref (a 0), .int v0, .int v1]) (n := 4) (Nat.le_of_ble_eq_true rfl)
  rw [lg_entry_eq]
  generalize (lg_sl ([.ref (a 0), .int v0, .int v1]) ++ List.replicate (4 - (lg_sl ([.ref (a 0), .int v0, .int v1])).length) Slot.unset).toArray = ls at hl ⊢
  have hl : lv_has ls 4 [(0, .ref (a 0)), (1, .int v0), (2, .int v1)] := hl
  exact db_X16_instruction_0 (dC := dC) (dI := dI) (a := a) (ac := ac) (n := n) (r := r) ⟨hlt, hx, hb, hml, hown, hts, hN, hA, hK⟩ (fun pc v τ H locs ls d er hP hD hS => by subst er; exact W.lret (v := v) hx hb hr (fun t ht hW => ⟨⟨v, (), rfl, rfl, by rw [ht]; exact hP, va_K.moved hW.alike hK, hD⟩, hS.F ht⟩) hS.2.2 d) v0 v1 s0 _ _ _ h hP hD va_S.rf (lv_sub hl [0, 1, 2] rfl)
def ow_dm_X16_descriptor : List Cond := Cond.code yX16_descriptor cX16_descriptor 5 (some .int) :: ([Cond.fieldLink RX16 57 "TimeMachineModel$Machine" "descriptor" "[I", Cond.fieldLink RX16 73 "TimeMachineModel$Machine" "kind" "[I", Cond.methodLink RX16 240 yX16_held, Cond.instanceMethod yX16_held, Cond.selects RX16 yX16_held yX16_held, Cond.initialized RX16, Cond.fieldLink RX16 94 "TimeMachineModel$Machine" "piped" "[I", Cond.fieldLink RX16 76 "TimeMachineModel$Machine" "thing" "[I", Cond.fieldLink RX16 122 "TimeMachineModel$Machine" "typed" "I", Cond.fieldLink RX16 100 "TimeMachineModel$Machine" "length" "[I", Cond.fieldLink RX16 79 "TimeMachineModel$Machine" "position" "[I", Cond.fieldLink RX16 82 "TimeMachineModel$Machine" "right" "[I"] ++ (u_ws RX16 TX16 56 ++ (ow_dm_X16_held ++ [])))
theorem gd_dm_X16_descriptor : ∀ w ∈ ow_dm_X16_descriptor, (w.onTables && w.keeps) = true ∨ ∃ ty, w = Cond.arrayClass ty := List.forall_mem_cons.mpr ⟨good_of_word rfl, List.forall_mem_append.mpr ⟨fun w h => good_of_word (List.all_eq_true.mp (by decide +kernel) w h), List.forall_mem_append.mpr ⟨gu_X16, List.forall_mem_append.mpr ⟨gd_dm_X16_held, fun _ h => nomatch h⟩⟩⟩⟩
theorem hi_dm_X16_descriptor_X16 : ∀ w ∈ u_ws RX16 TX16 56, w ∈ ow_dm_X16_descriptor := fun w h => List.mem_cons_of_mem _ (List.mem_append_right _ (List.mem_append_left _ h))
theorem gi_dm_X16_descriptor_0 : GoodIn ow_dm_X16_descriptor (wsV RX16 240 RX16 yX16_held ow_dm_X16_held) := goodIn_app (goodIn_of _ (by decide +kernel)) (fun w h => ⟨List.mem_cons_of_mem _ (List.mem_append_right _ (List.mem_append_right _ (List.mem_append_left _ h))), gd_dm_X16_held w h⟩)
def dj_X16_descriptor_29 (p : Program) (l : Launch) (e : Env) (s : State) (m : MethodId) (args : Array Value) (below : List Frame) (meth : Method) (c : Code) (Q : State → Prop) (A : Nat → Prop) (dC : Nat → ClassId) (dI : Nat → Nat → Nat) (a : Nat → Nat) (ac : Nat → ClassId) (g : (St × (St)) → Option (Int32 × (St × (St)))) (r : Int32 × (St × (St))) : Prop := ∀ (s0 : St × (St)) (H : Heap) (locs : List Loc) (ls : Array Slot), g s0 = some r → va_P (dC, dI) vwCl (dw_X16 a ac s0) H → va_D A (dw_X16 a ac s0) → va_S A s.heap H locs → lv_has ls 5 [] → W p l e (headSpec ow_dm_X16_descriptor ({ frames := 1, cells := 0, slots := 0, locals := 23 })).room s m args below meth c H locs 0 0 Q (F0 m 29 ls [])
def dj_X16_descriptor_163 (p : Program) (l : Launch) (e : Env) (s : State) (m : MethodId) (args : Array Value) (below : List Frame) (meth : Method) (c : Code) (Q : State → Prop) (A : Nat → Prop) (dC : Nat → ClassId) (dI : Nat → Nat → Nat) (a : Nat → Nat) (ac : Nat → ClassId) (g : Int32 → (St × (St)) → Option (Int32 × (St × (St)))) (r : Int32 × (St × (St))) : Prop := ∀ (y0 : Int32) (s0 : St × (St)) (H : Heap) (locs : List Loc) (ls : Array Slot), g y0 s0 = some r → va_P (dC, dI) vwCl (dw_X16 a ac s0) H → va_D A (dw_X16 a ac s0) → va_S A s.heap H locs → lv_has ls 5 [] → W p l e (headSpec ow_dm_X16_descriptor ({ frames := 1, cells := 0, slots := 0, locals := 23 })).room s m args below meth c H locs 0 0 Q (F0 m 163 ls [.int y0])
def dj_X16_descriptor_186 (p : Program) (l : Launch) (e : Env) (s : State) (m : MethodId) (args : Array Value) (below : List Frame) (meth : Method) (c : Code) (Q : State → Prop) (A : Nat → Prop) (dC : Nat → ClassId) (dI : Nat → Nat → Nat) (a : Nat → Nat) (ac : Nat → ClassId) (g : Int32 → (St × (St)) → Option (Int32 × (St × (St)))) (r : Int32 × (St × (St))) : Prop := ∀ (y0 : Int32) (s0 : St × (St)) (H : Heap) (locs : List Loc) (ls : Array Slot), g y0 s0 = some r → va_P (dC, dI) vwCl (dw_X16 a ac s0) H → va_D A (dw_X16 a ac s0) → va_S A s.heap H locs → lv_has ls 5 [] → W p l e (headSpec ow_dm_X16_descriptor ({ frames := 1, cells := 0, slots := 0, locals := 23 })).room s m args below meth c H locs 0 0 Q (F0 m 186 ls [.int y0])
def dj_X16_descriptor_59 (p : Program) (l : Launch) (e : Env) (s : State) (m : MethodId) (args : Array Value) (below : List Frame) (meth : Method) (c : Code) (Q : State → Prop) (A : Nat → Prop) (dC : Nat → ClassId) (dI : Nat → Nat → Nat) (a : Nat → Nat) (ac : Nat → ClassId) (g : Int32 → (St × (St)) → Option (Int32 × (St × (St)))) (r : Int32 × (St × (St))) : Prop := ∀ (y0 : Int32) (s0 : St × (St)) (H : Heap) (locs : List Loc) (ls : Array Slot), g y0 s0 = some r → va_P (dC, dI) vwCl (dw_X16 a ac s0) H → va_D A (dw_X16 a ac s0) → va_S A s.heap H locs → lv_has ls 5 [] → W p l e (headSpec ow_dm_X16_descriptor ({ frames := 1, cells := 0, slots := 0, locals := 23 })).room s m args below meth c H locs 0 0 Q (F0 m 59 ls [.int y0])
def dj_X16_descriptor_0 (p : Program) (l : Launch) (e : Env) (s : State) (m : MethodId) (args : Array Value) (below : List Frame) (meth : Method) (c : Code) (Q : State → Prop) (A : Nat → Prop) (dC : Nat → ClassId) (dI : Nat → Nat → Nat) (a : Nat → Nat) (ac : Nat → ClassId) (g : Int32 → Int32 → Int32 → (St × (St)) → Option (Int32 × (St × (St)))) (r : Int32 × (St × (St))) : Prop := ∀ (v0 : Int32) (v1 : Int32) (v2 : Int32) (s0 : St × (St)) (H : Heap) (locs : List Loc) (ls : Array Slot), g v0 v1 v2 s0 = some r → va_P (dC, dI) vwCl (dw_X16 a ac s0) H → va_D A (dw_X16 a ac s0) → va_S A s.heap H locs → lv_has ls 5 [(0, .ref (a 0)), (1, .int v0), (2, .int v1), (3, .int v2)] → W p l e (headSpec ow_dm_X16_descriptor ({ frames := 1, cells := 0, slots := 0, locals := 23 })).room s m args below meth c H locs 0 0 Q (F0 m 0 ls [])
set_option maxHeartbeats 40000000 in
set_option maxRecDepth 100000 in
theorem db_X16_descriptor_29 {p : Program} {l : Launch} {e : Env} {s : State} {m : MethodId} {args : Array Value} {below : List Frame} {meth : Method} {c : Code} {Q : State → Prop} {A : Nat → Prop} {dC : Nat → ClassId} {dI : Nat → Nat → Nat} {a : Nat → Nat} {ac : Nat → ClassId} {n : Nat} {r : Int32 × (St × (St))} (C : nd_C p l s m args c A (dC, dI) cX16_descriptor 5 RX16 ow_dm_X16_descriptor (dk_X16 ac)) (K : nd_Ki p l e (headSpec ow_dm_X16_descriptor ({ frames := 1, cells := 0, slots := 0, locals := 23 })).room s m args below meth c Q A (dC, dI) cX16_descriptor .int (St × (St)) (dw_X16 a ac) r) : dj_X16_descriptor_29 p l e s m args below meth c Q A dC dI a ac (df_X16_descriptor_29 n) r := by
  obtain ⟨hlt, hx, hb, hml, hown, hts, hN, hA, hK⟩ := id C
  intro s0 H locs ls h hP hD hS hl
  unfold df_X16_descriptor_29 at h
  refine lv_iconst (v := (-1)) hx hb dX16_descriptor_29 (by decide) ?_
  exact K _ _ _ _ _ _ dX16_descriptor_30 rfl (Option.some.inj h).symm hP hD hS
set_option maxHeartbeats 40000000 in
set_option maxRecDepth 100000 in
theorem db_X16_descriptor_163 {p : Program} {l : Launch} {e : Env} {s : State} {m : MethodId} {args : Array Value} {below : List Frame} {meth : Method} {c : Code} {Q : State → Prop} {A : Nat → Prop} {dC : Nat → ClassId} {dI : Nat → Nat → Nat} {a : Nat → Nat} {ac : Nat → ClassId} {n : Nat} {r : Int32 × (St × (St))} (C : nd_C p l s m args c A (dC, dI) cX16_descriptor 5 RX16 ow_dm_X16_descriptor (dk_X16 ac)) (K : nd_Ki p l e (headSpec ow_dm_X16_descriptor ({ frames := 1, cells := 0, slots := 0, locals := 23 })).room s m args below meth c Q A (dC, dI) cX16_descriptor .int (St × (St)) (dw_X16 a ac) r) : dj_X16_descriptor_163 p l e s m args below meth c Q A dC dI a ac (df_X16_descriptor_163 n) r := by
  obtain ⟨hlt, hx, hb, hml, hown, hts, hN, hA, hK⟩ := id C
  intro y0 s0 H locs ls h hP hD hS hl
  unfold df_X16_descriptor_163 at h
  exact K _ _ _ _ _ _ dX16_descriptor_163 rfl (Option.some.inj h).symm hP hD hS
set_option maxHeartbeats 40000000 in
set_option maxRecDepth 100000 in
theorem db_X16_descriptor_186 {p : Program} {l : Launch} {e : Env} {s : State} {m : MethodId} {args : Array Value} {below : List Frame} {meth : Method} {c : Code} {Q : State → Prop} {A : Nat → Prop} {dC : Nat → ClassId} {dI : Nat → Nat → Nat} {a : Nat → Nat} {ac : Nat → ClassId} {n : Nat} {r : Int32 × (St × (St))} (C : nd_C p l s m args c A (dC, dI) cX16_descriptor 5 RX16 ow_dm_X16_descriptor (dk_X16 ac)) (K : nd_Ki p l e (headSpec ow_dm_X16_descriptor ({ frames := 1, cells := 0, slots := 0, locals := 23 })).room s m args below meth c Q A (dC, dI) cX16_descriptor .int (St × (St)) (dw_X16 a ac) r) : dj_X16_descriptor_186 p l e s m args below meth c Q A dC dI a ac (df_X16_descriptor_186 n) r := by
  obtain ⟨hlt, hx, hb, hml, hown, hts, hN, hA, hK⟩ := id C
  intro y0 s0 H locs ls h hP hD hS hl
  unfold df_X16_descriptor_186 at h
  exact K _ _ _ _ _ _ dX16_descriptor_186 rfl (Option.some.inj h).symm hP hD hS
set_option maxHeartbeats 40000000 in
set_option maxRecDepth 100000 in
theorem db_X16_descriptor_59 {p : Program} {l : Launch} {e : Env} {s : State} {m : MethodId} {args : Array Value} {below : List Frame} {meth : Method} {c : Code} {Q : State → Prop} {A : Nat → Prop} {dC : Nat → ClassId} {dI : Nat → Nat → Nat} {a : Nat → Nat} {ac : Nat → ClassId} {n : Nat} {r : Int32 × (St × (St))} (C : nd_C p l s m args c A (dC, dI) cX16_descriptor 5 RX16 ow_dm_X16_descriptor (dk_X16 ac)) (K : nd_Ki p l e (headSpec ow_dm_X16_descriptor ({ frames := 1, cells := 0, slots := 0, locals := 23 })).room s m args below meth c Q A (dC, dI) cX16_descriptor .int (St × (St)) (dw_X16 a ac) r) : dj_X16_descriptor_59 p l e s m args below meth c Q A dC dI a ac (df_X16_descriptor_59 n) r := by
  obtain ⟨hlt, hx, hb, hml, hown, hts, hN, hA, hK⟩ := id C
  intro y0 s0 H locs ls h hP hD hS hl
  unfold df_X16_descriptor_59 at h
  exact K _ _ _ _ _ _ dX16_descriptor_59 rfl (Option.some.inj h).symm hP hD hS
set_option maxHeartbeats 40000000 in
set_option maxRecDepth 100000 in
theorem db_X16_descriptor_0 {p : Program} {l : Launch} {e : Env} {s : State} {m : MethodId} {args : Array Value} {below : List Frame} {meth : Method} {c : Code} {Q : State → Prop} {A : Nat → Prop} {dC : Nat → ClassId} {dI : Nat → Nat → Nat} {a : Nat → Nat} {ac : Nat → ClassId} {n : Nat} {r : Int32 × (St × (St))} (C : nd_C p l s m args c A (dC, dI) cX16_descriptor 5 RX16 ow_dm_X16_descriptor (dk_X16 ac)) (K : nd_Ki p l e (headSpec ow_dm_X16_descriptor ({ frames := 1, cells := 0, slots := 0, locals := 23 })).room s m args below meth c Q A (dC, dI) cX16_descriptor .int (St × (St)) (dw_X16 a ac) r) : dj_X16_descriptor_0 p l e s m args below meth c Q A dC dI a ac (df_X16_descriptor_0 n) r := by
  obtain ⟨hlt, hx, hb, hml, hown, hts, hN, hA, hK⟩ := id C
  intro v0 v1 v2 s0 H locs ls h hP hD hS hl
  unfold df_X16_descriptor_0 at h
  refine lv_iload_n hx hb dX16_descriptor_0 rfl (lv_at hl 1 rfl) ?_
  refine lv_if_lt (tgt := 29) hx hb dX16_descriptor_1 (by decide) (fun c1 => ?_) (fun c1 => ?_)
  · have h := nd_pos h c1
    exact (db_X16_descriptor_29 C K)  s0 _ _ _ h hP hD hS (lv_sub hl [] rfl)
  · have h := nd_neg h c1
    refine lv_iload_n hx hb dX16_descriptor_4 rfl (lv_at hl 1 rfl) ?_
    refine lv_bipush (v := 15) hx hb dX16_descriptor_5 (by decide) ?_
    refine lv_icmp_gt (tgt := 29) hx hb dX16_descriptor_7 (by decide) (fun c2 => ?_) (fun c2 => ?_)
    · have h := nd_pos h c2
      exact (db_X16_descriptor_29 C K)  s0 _ _ _ h hP hD hS (lv_sub hl [] rfl)
    · have h := nd_neg h c2
      refine lv_iload_n hx hb dX16_descriptor_10 rfl (lv_at hl 2 rfl) ?_
      refine lv_if_lt (tgt := 29) hx hb dX16_descriptor_11 (by decide) (fun c3 => ?_) (fun c3 => ?_)
      · have h := nd_pos h c3
        exact (db_X16_descriptor_29 C K)  s0 _ _ _ h hP hD hS (lv_sub hl [] rfl)
      · have h := nd_neg h c3
        refine lv_iload_n hx hb dX16_descriptor_14 rfl (lv_at hl 2 rfl) ?_
        refine lv_bipush (v := 15) hx hb dX16_descriptor_15 (by decide) ?_
        refine lv_icmp_gt (tgt := 29) hx hb dX16_descriptor_17 (by decide) (fun c4 => ?_) (fun c4 => ?_)
        · have h := nd_pos h c4
          exact (db_X16_descriptor_29 C K)  s0 _ _ _ h hP hD hS (lv_sub hl [] rfl)
        · have h := nd_neg h c4
          refine lv_iload_n hx hb dX16_descriptor_20 rfl (lv_at hl 3 rfl) ?_
          refine lv_if_lt (tgt := 29) hx hb dX16_descriptor_21 (by decide) (fun c5 => ?_) (fun c5 => ?_)
          · have h := nd_pos h c5
            exact (db_X16_descriptor_29 C K)  s0 _ _ _ h hP hD hS (lv_sub hl [] rfl)
          · have h := nd_neg h c5
            refine lv_iload_n hx hb dX16_descriptor_24 rfl (lv_at hl 3 rfl) ?_
            refine lv_iconst (v := 4) hx hb dX16_descriptor_25 (by decide) ?_
            refine lv_icmp_le (tgt := 31) hx hb dX16_descriptor_26 (by decide) (fun c6 => ?_) (fun c6 => ?_)
            · have h := nd_pos h c6
              refine lv_aload_n hx hb dX16_descriptor_31 rfl (lv_at hl 0 rfl) ?_
              refine va_get (D := (dC, dI)) (ci := 17) (v := .ref (a 16)) (C := RX16) (T := TX16) (N := 56) hx hb hts hi_dm_X16_descriptor_X16 hown hK hP 0 rfl rfl 24 (by decide) (hts (.fieldLink RX16 57 "TimeMachineModel$Machine" "descriptor" "[I") (List.mem_of_getElem? (i := 1) rfl)) (fun _ h9 => h9) rfl dX16_descriptor_32 ?_
              refine lv_bipush (v := 16) hx hb dX16_descriptor_35 (by decide) ?_
              refine lv_iload_n hx hb dX16_descriptor_37 rfl (lv_at hl 1 rfl) ?_
              refine lv_imul hx hb dX16_descriptor_38 ?_
              refine lv_iload_n hx hb dX16_descriptor_39 rfl (lv_at hl 2 rfl) ?_
              refine lv_iadd hx hb dX16_descriptor_40 ?_
              obtain ⟨i7, h⟩ := nd_ck_e h
              refine va_iald (i := ((16 * v0) + v1)) hx hb hK hP 16 15 rfl rfl i7 dX16_descriptor_41 ?_
              refine lv_topi (fun z8 ez8 => ?_)
              have h := nd_at h ez8
              refine lv_istore (lv' := [(4, .int z8), (0, .ref (a 0)), (1, .int v0), (2, .int v1), (3, .int v2)]) hx hb dX16_descriptor_42 hl (by decide) rfl (fun ls hl => ?_)
              refine lv_iload hx hb dX16_descriptor_44 (lv_at hl 0 rfl) ?_
              refine lv_iconst (v := (-1)) hx hb dX16_descriptor_46 (by decide) ?_
              refine lv_icmp_ne (tgt := 60) hx hb dX16_descriptor_47 (by decide) (fun c9 => ?_) (fun c9 => ?_)
              · have h := nd_neg h c9
                refine lv_iload_n hx hb dX16_descriptor_60 rfl (lv_at hl 4 rfl) ?_
                by_cases c10 : v2 = 0
                · have h := nd_pos h c10
                  refine lv_tableIn (off := 31) (tgt := 92) hx hb dX16_descriptor_61 (by rw [c10]; decide) (by rw [c10]; decide) (by rw [c10]; decide) (by decide) ?_
                  refine lv_aload_n hx hb dX16_descriptor_92 rfl (lv_at hl 1 rfl) ?_
                  refine va_get (D := (dC, dI)) (ci := 17) (v := .ref (a 21)) (C := RX16) (T := TX16) (N := 56) hx hb hts hi_dm_X16_descriptor_X16 hown hK hP 0 rfl rfl 30 (by decide) (hts (.fieldLink RX16 73 "TimeMachineModel$Machine" "kind" "[I") (List.mem_of_getElem? (i := 2) rfl)) (fun _ h9 => h9) rfl dX16_descriptor_93 ?_
                  refine lv_iload hx hb dX16_descriptor_96 (lv_at hl 0 rfl) ?_
                  obtain ⟨i11, h⟩ := nd_ck_e h
                  refine va_iald (i := z8) hx hb hK hP 21 20 rfl rfl i11 dX16_descriptor_98 ?_
                  exact K _ _ _ _ _ _ dX16_descriptor_99 rfl (Option.some.inj h).symm hP hD hS
                have h := nd_neg h c10
                by_cases c12 : v2 = 1
                · have h := nd_pos h c12
                  refine lv_tableIn (off := 39) (tgt := 100) hx hb dX16_descriptor_61 (by rw [c12]; decide) (by rw [c12]; decide) (by rw [c12]; decide) (by decide) ?_
                  refine lv_aload_n hx hb dX16_descriptor_100 rfl (lv_at hl 1 rfl) ?_
                  refine lv_iload hx hb dX16_descriptor_101 (lv_at hl 0 rfl) ?_
                  obtain ⟨q13, s14, hq, h⟩ := nd_b2_e h
                  have hPc := hP
                  have hDc := hD
                  have hKc := hK
                  have hFc := nd_rs hD hS hA
                  refine nd_cVi (As := [.int z8]) (rest := []) (q := q13) (w' := dw_X16 a ac s14) ⟨hx, hb, hml, hown, hts⟩ (fun sz => dm_X16_held l hlt dC dI a ac n (z8) s0 hq sz) (cwV 1 hts gi_dm_X16_descriptor_0 rfl rfl rfl (by decide +kernel) ⟨Nat.le_of_ble_eq_true rfl, Nat.le_of_ble_eq_true rfl⟩) hPc hDc hKc hS hA hN (va_recv hKc hPc (ci := 17) (q0 := 0) rfl rfl) rfl hl.1 rfl (Nat.le_of_ble_eq_true rfl) dX16_descriptor_103 (fun H locs hP1 hD1 hk1 hS => ?_)
                  have hP := hP1
                  have hD := hD1.weaken (fun k q _ h => hFc q.1 h)
                  exact K _ _ _ _ _ _ dX16_descriptor_106 rfl (Option.some.inj h).symm hP hD hS
                have h := nd_neg h c12
                by_cases c16 : v2 = 2
                · have h := nd_pos h c16
                  refine lv_tableIn (off := 46) (tgt := 107) hx hb dX16_descriptor_61 (by rw [c16]; decide) (by rw [c16]; decide) (by rw [c16]; decide) (by decide) ?_
                  refine lv_aload_n hx hb dX16_descriptor_107 rfl (lv_at hl 1 rfl) ?_
                  refine va_get (D := (dC, dI)) (ci := 17) (v := .ref (a 21)) (C := RX16) (T := TX16) (N := 56) hx hb hts hi_dm_X16_descriptor_X16 hown hK hP 0 rfl rfl 30 (by decide) (hts (.fieldLink RX16 73 "TimeMachineModel$Machine" "kind" "[I") (List.mem_of_getElem? (i := 2) rfl)) (fun _ h9 => h9) rfl dX16_descriptor_108 ?_
                  refine lv_iload hx hb dX16_descriptor_111 (lv_at hl 0 rfl) ?_
                  obtain ⟨i17, h⟩ := nd_ck_e h
                  refine va_iald (i := z8) hx hb hK hP 21 20 rfl rfl i17 dX16_descriptor_113 ?_
                  refine lv_iconst (v := 3) hx hb dX16_descriptor_114 (by decide) ?_
                  refine lv_icmp_ne (tgt := 133) hx hb dX16_descriptor_115 (by decide) (fun c18 => ?_) (fun c18 => ?_)
                  · have h := nd_neg h c18
                    refine lv_aload_n hx hb dX16_descriptor_133 rfl (lv_at hl 1 rfl) ?_
                    refine va_get (D := (dC, dI)) (ci := 17) (v := .ref (a 21)) (C := RX16) (T := TX16) (N := 56) hx hb hts hi_dm_X16_descriptor_X16 hown hK hP 0 rfl rfl 30 (by decide) (hts (.fieldLink RX16 73 "TimeMachineModel$Machine" "kind" "[I") (List.mem_of_getElem? (i := 2) rfl)) (fun _ h9 => h9) rfl dX16_descriptor_134 ?_
                    refine lv_iload hx hb dX16_descriptor_137 (lv_at hl 0 rfl) ?_
                    obtain ⟨i19, h⟩ := nd_ck_e h
                    refine va_iald (i := z8) hx hb hK hP 21 20 rfl rfl i19 dX16_descriptor_139 ?_
                    refine lv_iconst (v := 4) hx hb dX16_descriptor_140 (by decide) ?_
                    refine lv_icmp_ne (tgt := 151) hx hb dX16_descriptor_141 (by decide) (fun c20 => ?_) (fun c20 => ?_)
                    · have h := nd_neg h c20
                      refine lv_aload_n hx hb dX16_descriptor_151 rfl (lv_at hl 1 rfl) ?_
                      refine va_get (D := (dC, dI)) (ci := 17) (v := .ref (a 28)) (C := RX16) (T := TX16) (N := 56) hx hb hts hi_dm_X16_descriptor_X16 hown hK hP 0 rfl rfl 37 (by decide) (hts (.fieldLink RX16 94 "TimeMachineModel$Machine" "piped" "[I") (List.mem_of_getElem? (i := 7) rfl)) (fun _ h9 => h9) rfl dX16_descriptor_152 ?_
                      refine lv_aload_n hx hb dX16_descriptor_155 rfl (lv_at hl 1 rfl) ?_
                      refine va_get (D := (dC, dI)) (ci := 17) (v := .ref (a 22)) (C := RX16) (T := TX16) (N := 56) hx hb hts hi_dm_X16_descriptor_X16 hown hK hP 0 rfl rfl 31 (by decide) (hts (.fieldLink RX16 76 "TimeMachineModel$Machine" "thing" "[I") (List.mem_of_getElem? (i := 8) rfl)) (fun _ h9 => h9) rfl dX16_descriptor_156 ?_
                      refine lv_iload hx hb dX16_descriptor_159 (lv_at hl 0 rfl) ?_
                      obtain ⟨i21, h⟩ := nd_ck_e h
                      refine va_iald (i := z8) hx hb hK hP 22 21 rfl rfl i21 dX16_descriptor_161 ?_
                      obtain ⟨i22, h⟩ := nd_ck_e h
                      refine va_iald (i := (sR s0.1 20 (Int32.toNatClampNeg z8))) hx hb hK hP 28 27 rfl rfl i22 dX16_descriptor_162 ?_
                      exact (db_X16_descriptor_163 C K) ((sR s0.1 26 (Int32.toNatClampNeg (sR s0.1 20 (Int32.toNatClampNeg z8))))) s0 _ _ _ h hP hD hS (lv_sub hl [] rfl)
                    · have h := nd_pos h c20
                      refine lv_aload_n hx hb dX16_descriptor_144 rfl (lv_at hl 1 rfl) ?_
                      refine va_get (D := (dC, dI)) (ci := 17) (v := .int (sI s0.1 7)) (C := RX16) (T := TX16) (N := 56) hx hb hts hi_dm_X16_descriptor_X16 hown hK hP 0 rfl rfl 42 (by decide) (hts (.fieldLink RX16 122 "TimeMachineModel$Machine" "typed" "I") (List.mem_of_getElem? (i := 9) rfl)) (fun _ h9 => h9) rfl dX16_descriptor_145 ?_
                      refine lv_goto (tgt := 163) hx hb dX16_descriptor_148 (by decide) ?_
                      exact (db_X16_descriptor_163 C K) ((sI s0.1 7)) s0 _ _ _ h hP hD hS (lv_sub hl [] rfl)
                  · have h := nd_pos h c18
                    refine lv_aload_n hx hb dX16_descriptor_118 rfl (lv_at hl 1 rfl) ?_
                    refine va_get (D := (dC, dI)) (ci := 17) (v := .ref (a 30)) (C := RX16) (T := TX16) (N := 56) hx hb hts hi_dm_X16_descriptor_X16 hown hK hP 0 rfl rfl 39 (by decide) (hts (.fieldLink RX16 100 "TimeMachineModel$Machine" "length" "[I") (List.mem_of_getElem? (i := 10) rfl)) (fun _ h9 => h9) rfl dX16_descriptor_119 ?_
                    refine lv_aload_n hx hb dX16_descriptor_122 rfl (lv_at hl 1 rfl) ?_
                    refine va_get (D := (dC, dI)) (ci := 17) (v := .ref (a 22)) (C := RX16) (T := TX16) (N := 56) hx hb hts hi_dm_X16_descriptor_X16 hown hK hP 0 rfl rfl 31 (by decide) (hts (.fieldLink RX16 76 "TimeMachineModel$Machine" "thing" "[I") (List.mem_of_getElem? (i := 8) rfl)) (fun _ h9 => h9) rfl dX16_descriptor_123 ?_
                    refine lv_iload hx hb dX16_descriptor_126 (lv_at hl 0 rfl) ?_
                    obtain ⟨i23, h⟩ := nd_ck_e h
                    refine va_iald (i := z8) hx hb hK hP 22 21 rfl rfl i23 dX16_descriptor_128 ?_
                    obtain ⟨i24, h⟩ := nd_ck_e h
                    refine va_iald (i := (sR s0.1 20 (Int32.toNatClampNeg z8))) hx hb hK hP 30 29 rfl rfl i24 dX16_descriptor_129 ?_
                    refine lv_goto (tgt := 163) hx hb dX16_descriptor_130 (by decide) ?_
                    exact (db_X16_descriptor_163 C K) ((sR s0.1 28 (Int32.toNatClampNeg (sR s0.1 20 (Int32.toNatClampNeg z8))))) s0 _ _ _ h hP hD hS (lv_sub hl [] rfl)
                have h := nd_neg h c16
                by_cases c25 : v2 = 3
                · have h := nd_pos h c25
                  refine lv_tableIn (off := 103) (tgt := 164) hx hb dX16_descriptor_61 (by rw [c25]; decide) (by rw [c25]; decide) (by rw [c25]; decide) (by decide) ?_
                  refine lv_aload_n hx hb dX16_descriptor_164 rfl (lv_at hl 1 rfl) ?_
                  refine va_get (D := (dC, dI)) (ci := 17) (v := .ref (a 21)) (C := RX16) (T := TX16) (N := 56) hx hb hts hi_dm_X16_descriptor_X16 hown hK hP 0 rfl rfl 30 (by decide) (hts (.fieldLink RX16 73 "TimeMachineModel$Machine" "kind" "[I") (List.mem_of_getElem? (i := 2) rfl)) (fun _ h9 => h9) rfl dX16_descriptor_165 ?_
                  refine lv_iload hx hb dX16_descriptor_168 (lv_at hl 0 rfl) ?_
                  obtain ⟨i26, h⟩ := nd_ck_e h
                  refine va_iald (i := z8) hx hb hK hP 21 20 rfl rfl i26 dX16_descriptor_170 ?_
                  refine lv_iconst (v := 3) hx hb dX16_descriptor_171 (by decide) ?_
                  refine lv_icmp_ne (tgt := 185) hx hb dX16_descriptor_172 (by decide) (fun c27 => ?_) (fun c27 => ?_)
                  · have h := nd_neg h c27
                    refine lv_iconst (v := 0) hx hb dX16_descriptor_185 (by decide) ?_
                    exact (db_X16_descriptor_186 C K) (0) s0 _ _ _ h hP hD hS (lv_sub hl [] rfl)
                  · have h := nd_pos h c27
                    refine lv_aload_n hx hb dX16_descriptor_175 rfl (lv_at hl 1 rfl) ?_
                    refine va_get (D := (dC, dI)) (ci := 17) (v := .ref (a 23)) (C := RX16) (T := TX16) (N := 56) hx hb hts hi_dm_X16_descriptor_X16 hown hK hP 0 rfl rfl 32 (by decide) (hts (.fieldLink RX16 79 "TimeMachineModel$Machine" "position" "[I") (List.mem_of_getElem? (i := 11) rfl)) (fun _ h9 => h9) rfl dX16_descriptor_176 ?_
                    refine lv_iload hx hb dX16_descriptor_179 (lv_at hl 0 rfl) ?_
                    obtain ⟨i28, h⟩ := nd_ck_e h
                    refine va_iald (i := z8) hx hb hK hP 23 22 rfl rfl i28 dX16_descriptor_181 ?_
                    refine lv_goto (tgt := 186) hx hb dX16_descriptor_182 (by decide) ?_
                    exact (db_X16_descriptor_186 C K) ((sR s0.1 21 (Int32.toNatClampNeg z8))) s0 _ _ _ h hP hD hS (lv_sub hl [] rfl)
                have h := nd_neg h c25
                refine lv_tableOut (tgt := 187) hx hb dX16_descriptor_61 (by have g0 := nv_nei c10 (k := 0) (by decide); have g1 := nv_nei c12 (k := 1) (by decide); have g2 := nv_nei c16 (k := 2) (by decide); have g3 := nv_nei c25 (k := 3) (by decide); omega) (by decide) ?_
                refine lv_aload_n hx hb dX16_descriptor_187 rfl (lv_at hl 1 rfl) ?_
                refine va_get (D := (dC, dI)) (ci := 17) (v := .ref (a 24)) (C := RX16) (T := TX16) (N := 56) hx hb hts hi_dm_X16_descriptor_X16 hown hK hP 0 rfl rfl 33 (by decide) (hts (.fieldLink RX16 82 "TimeMachineModel$Machine" "right" "[I") (List.mem_of_getElem? (i := 12) rfl)) (fun _ h9 => h9) rfl dX16_descriptor_188 ?_
                refine lv_iload hx hb dX16_descriptor_191 (lv_at hl 0 rfl) ?_
                obtain ⟨i29, h⟩ := nd_ck_e h
                refine va_iald (i := z8) hx hb hK hP 24 23 rfl rfl i29 dX16_descriptor_193 ?_
                exact K _ _ _ _ _ _ dX16_descriptor_194 rfl (Option.some.inj h).symm hP hD hS
              · have h := nd_pos h c9
                refine lv_iload_n hx hb dX16_descriptor_50 rfl (lv_at hl 4 rfl) ?_
                refine lv_if_ne (tgt := 58) hx hb dX16_descriptor_51 (by decide) (fun c30 => ?_) (fun c30 => ?_)
                · have h := nd_neg h c30
                  refine lv_iconst (v := (-1)) hx hb dX16_descriptor_58 (by decide) ?_
                  exact (db_X16_descriptor_59 C K) ((-1)) s0 _ _ _ h hP hD hS (lv_sub hl [] rfl)
                · have h := nd_pos h c30
                  refine lv_iconst (v := 0) hx hb dX16_descriptor_54 (by decide) ?_
                  refine lv_goto (tgt := 59) hx hb dX16_descriptor_55 (by decide) ?_
                  exact (db_X16_descriptor_59 C K) (0) s0 _ _ _ h hP hD hS (lv_sub hl [] rfl)
            · have h := nd_neg h c6
              exact (db_X16_descriptor_29 C K)  s0 _ _ _ h hP hD hS (lv_sub hl [] rfl)
set_option maxHeartbeats 40000000 in
set_option maxRecDepth 100000 in
theorem dm_X16_descriptor (l : Launch) (hlt : l.stackTraces = false) (dC : Nat → ClassId) (dI : Nat → Nat → Nat) (a : Nat → Nat) (ac : Nat → ClassId) (n : Nat) (v0 : Int32) (v1 : Int32) (v2 : Int32) (s0 : St × (St)) {r : Int32 × (St × (St))} (h : df_X16_descriptor n v0 v1 v2 s0 = some r) (sz : Nat) : Met l yX16_descriptor ow_dm_X16_descriptor ({ frames := 1, cells := 0, slots := 0, locals := 23 }) (va_Pc [.ref (a 0), .int v0, .int v1, .int v2] (fun U => U.heap.size = sz ∧ va_P (dC, dI) vwCl (dw_X16 a ac s0) U.heap ∧ va_K (dC, dI) vwCl (dk_X16 ac) U ∧ va_D (fun _ => True) (dw_X16 a ac s0) ∧ nv_E dI (va_A (dw_X16 a ac s0) sz) U)) (va_Qi (fun x _ => x = r.1) (fun (_ : Unit) t => va_P (dC, dI) vwCl (dw_X16 a ac r.2) t.heap ∧ va_K (dC, dI) vwCl (dk_X16 ac) t ∧ va_D (va_A (dw_X16 a ac s0) sz) (dw_X16 a ac r.2)) (va_A (dw_X16 a ac s0) sz)) 0 0 (va_A (dw_X16 a ac s0) sz) := by
  refine Met.ofW (cc := cX16_descriptor) (maxL := 5) (ret := (some .int)) (by decide) rfl ?_
  intro p e s m args below meth c s₁ B hml hv
  obtain ⟨rfl, hsz, hP, hK, hD0, hN⟩ := hv
  have hx := B.exec
  have hb := B.bytes
  have hr := B.returns
  have hts := atoms_spec (ws := ow_dm_X16_descriptor) B.pre
  have hown : s.vm.findClass RX16 = some m.cls := findClass_of_methodNamed B.named
  have hlocks := B.notSynchronized
  subst hsz
  have hD := hD0.self (sz := s.heap.size)
  generalize hAe : va_A (dw_X16 a ac s0) s.heap.size = A at hD hN ⊢
  have hA : ∀ q : Nat, s.heap.size ≤ q → A q := fun q h => by rw [← hAe]; exact Or.inr h
  have hl := lv_entry ([.ref (a 0), .int v0, .int v1, .int v2]) (n := 5) (Nat.le_of_ble_eq_true rfl)
  rw [lg_entry_eq]
  generalize (lg_sl ([.ref (a 0), .int v0, .int v1, .int v2]) ++ List.replicate (5 - (lg_sl ([.ref (a 0), .int v0, .int v1, .int v2])).length) Slot.unset).toArray = ls at hl ⊢
  have hl : lv_has ls 5 [(0, .ref (a 0)), (1, .int v0), (2, .int v1), (3, .int v2)] := hl
  exact db_X16_descriptor_0 (dC := dC) (dI := dI) (a := a) (ac := ac) (n := n) (r := r) ⟨hlt, hx, hb, hml, hown, hts, hN, hA, hK⟩ (fun pc v τ H locs ls d z er hP hD hS => by subst er; exact W.zret (v := v) hx hb hr z (fun t ht hW => ⟨⟨v, (), rfl, rfl, by rw [ht]; exact hP, va_K.moved hW.alike hK, hD⟩, hS.F ht⟩) hS.2.2 d) v0 v1 v2 s0 _ _ _ h hP hD va_S.rf (lv_sub hl [0, 1, 2, 3] rfl)
def ow_dm_X16_heldByte : List Cond := Cond.code yX16_heldByte cX16_heldByte 6 (some .int) :: ([Cond.methodLink RX16 520 yX16_descriptor, Cond.instanceMethod yX16_descriptor, Cond.selects RX16 yX16_descriptor yX16_descriptor, Cond.initialized RX16, Cond.fieldLink RX16 57 "TimeMachineModel$Machine" "descriptor" "[I", Cond.fieldLink RX16 73 "TimeMachineModel$Machine" "kind" "[I", Cond.fieldLink RX16 97 "TimeMachineModel$Machine" "pipeBytes" "[I", Cond.fieldLink RX16 76 "TimeMachineModel$Machine" "thing" "[I", Cond.fieldLink RX16 109 "TimeMachineModel$Machine" "typedBytes" "[I", Cond.fieldLink RX16 103 "TimeMachineModel$Machine" "fileBytes" "[I"] ++ (u_ws RX16 TX16 56 ++ (ow_dm_X16_descriptor ++ [])))
theorem gd_dm_X16_heldByte : ∀ w ∈ ow_dm_X16_heldByte, (w.onTables && w.keeps) = true ∨ ∃ ty, w = Cond.arrayClass ty := List.forall_mem_cons.mpr ⟨good_of_word rfl, List.forall_mem_append.mpr ⟨fun w h => good_of_word (List.all_eq_true.mp (by decide +kernel) w h), List.forall_mem_append.mpr ⟨gu_X16, List.forall_mem_append.mpr ⟨gd_dm_X16_descriptor, fun _ h => nomatch h⟩⟩⟩⟩
theorem hi_dm_X16_heldByte_X16 : ∀ w ∈ u_ws RX16 TX16 56, w ∈ ow_dm_X16_heldByte := fun w h => List.mem_cons_of_mem _ (List.mem_append_right _ (List.mem_append_left _ h))
theorem gi_dm_X16_heldByte_0 : GoodIn ow_dm_X16_heldByte (wsV RX16 520 RX16 yX16_descriptor ow_dm_X16_descriptor) := goodIn_app (goodIn_of _ (by decide +kernel)) (fun w h => ⟨List.mem_cons_of_mem _ (List.mem_append_right _ (List.mem_append_right _ (List.mem_append_left _ h))), gd_dm_X16_descriptor w h⟩)
def dj_X16_heldByte_19 (p : Program) (l : Launch) (e : Env) (s : State) (m : MethodId) (args : Array Value) (below : List Frame) (meth : Method) (c : Code) (Q : State → Prop) (A : Nat → Prop) (dC : Nat → ClassId) (dI : Nat → Nat → Nat) (a : Nat → Nat) (ac : Nat → ClassId) (g : (St × (St)) → Option (Int32 × (St × (St)))) (r : Int32 × (St × (St))) : Prop := ∀ (s0 : St × (St)) (H : Heap) (locs : List Loc) (ls : Array Slot), g s0 = some r → va_P (dC, dI) vwCl (dw_X16 a ac s0) H → va_D A (dw_X16 a ac s0) → va_S A s.heap H locs → lv_has ls 6 [] → W p l e (headSpec ow_dm_X16_heldByte ({ frames := 2, cells := 0, slots := 0, locals := 47 })).room s m args below meth c H locs 0 0 Q (F0 m 19 ls [])
def dj_X16_heldByte_104 (p : Program) (l : Launch) (e : Env) (s : State) (m : MethodId) (args : Array Value) (below : List Frame) (meth : Method) (c : Code) (Q : State → Prop) (A : Nat → Prop) (dC : Nat → ClassId) (dI : Nat → Nat → Nat) (a : Nat → Nat) (ac : Nat → ClassId) (g : Int32 → (St × (St)) → Option (Int32 × (St × (St)))) (r : Int32 × (St × (St))) : Prop := ∀ (y0 : Int32) (s0 : St × (St)) (H : Heap) (locs : List Loc) (ls : Array Slot), g y0 s0 = some r → va_P (dC, dI) vwCl (dw_X16 a ac s0) H → va_D A (dw_X16 a ac s0) → va_S A s.heap H locs → lv_has ls 6 [] → W p l e (headSpec ow_dm_X16_heldByte ({ frames := 2, cells := 0, slots := 0, locals := 47 })).room s m args below meth c H locs 0 0 Q (F0 m 104 ls [.int y0])
def dj_X16_heldByte_0 (p : Program) (l : Launch) (e : Env) (s : State) (m : MethodId) (args : Array Value) (below : List Frame) (meth : Method) (c : Code) (Q : State → Prop) (A : Nat → Prop) (dC : Nat → ClassId) (dI : Nat → Nat → Nat) (a : Nat → Nat) (ac : Nat → ClassId) (g : Int32 → Int32 → Int32 → (St × (St)) → Option (Int32 × (St × (St)))) (r : Int32 × (St × (St))) : Prop := ∀ (v0 : Int32) (v1 : Int32) (v2 : Int32) (s0 : St × (St)) (H : Heap) (locs : List Loc) (ls : Array Slot), g v0 v1 v2 s0 = some r → va_P (dC, dI) vwCl (dw_X16 a ac s0) H → va_D A (dw_X16 a ac s0) → va_S A s.heap H locs → lv_has ls 6 [(0, .ref (a 0)), (1, .int v0), (2, .int v1), (3, .int v2)] → W p l e (headSpec ow_dm_X16_heldByte ({ frames := 2, cells := 0, slots := 0, locals := 47 })).room s m args below meth c H locs 0 0 Q (F0 m 0 ls [])
set_option maxHeartbeats 40000000 in
set_option maxRecDepth 100000 in
theorem db_X16_heldByte_19 {p : Program} {l : Launch} {e : Env} {s : State} {m : MethodId} {args : Array Value} {below : List Frame} {meth : Method} {c : Code} {Q : State → Prop} {A : Nat → Prop} {dC : Nat → ClassId} {dI : Nat → Nat → Nat} {a : Nat → Nat} {ac : Nat → ClassId} {n : Nat} {r : Int32 × (St × (St))} (C : nd_C p l s m args c A (dC, dI) cX16_heldByte 6 RX16 ow_dm_X16_heldByte (dk_X16 ac)) (K : nd_Ki p l e (headSpec ow_dm_X16_heldByte ({ frames := 2, cells := 0, slots := 0, locals := 47 })).room s m args below meth c Q A (dC, dI) cX16_heldByte .int (St × (St)) (dw_X16 a ac) r) : dj_X16_heldByte_19 p l e s m args below meth c Q A dC dI a ac (df_X16_heldByte_19 n) r := by
  obtain ⟨hlt, hx, hb, hml, hown, hts, hN, hA, hK⟩ := id C
  intro s0 H locs ls h hP hD hS hl
  unfold df_X16_heldByte_19 at h
  refine lv_iconst (v := (-1)) hx hb dX16_heldByte_19 (by decide) ?_
  exact K _ _ _ _ _ _ dX16_heldByte_20 rfl (Option.some.inj h).symm hP hD hS
set_option maxHeartbeats 40000000 in
set_option maxRecDepth 100000 in
theorem db_X16_heldByte_104 {p : Program} {l : Launch} {e : Env} {s : State} {m : MethodId} {args : Array Value} {below : List Frame} {meth : Method} {c : Code} {Q : State → Prop} {A : Nat → Prop} {dC : Nat → ClassId} {dI : Nat → Nat → Nat} {a : Nat → Nat} {ac : Nat → ClassId} {n : Nat} {r : Int32 × (St × (St))} (C : nd_C p l s m args c A (dC, dI) cX16_heldByte 6 RX16 ow_dm_X16_heldByte (dk_X16 ac)) (K : nd_Ki p l e (headSpec ow_dm_X16_heldByte ({ frames := 2, cells := 0, slots := 0, locals := 47 })).room s m args below meth c Q A (dC, dI) cX16_heldByte .int (St × (St)) (dw_X16 a ac) r) : dj_X16_heldByte_104 p l e s m args below meth c Q A dC dI a ac (df_X16_heldByte_104 n) r := by
  obtain ⟨hlt, hx, hb, hml, hown, hts, hN, hA, hK⟩ := id C
  intro y0 s0 H locs ls h hP hD hS hl
  unfold df_X16_heldByte_104 at h
  exact K _ _ _ _ _ _ dX16_heldByte_104 rfl (Option.some.inj h).symm hP hD hS
set_option maxHeartbeats 40000000 in
set_option maxRecDepth 100000 in
theorem db_X16_heldByte_0 {p : Program} {l : Launch} {e : Env} {s : State} {m : MethodId} {args : Array Value} {below : List Frame} {meth : Method} {c : Code} {Q : State → Prop} {A : Nat → Prop} {dC : Nat → ClassId} {dI : Nat → Nat → Nat} {a : Nat → Nat} {ac : Nat → ClassId} {n : Nat} {r : Int32 × (St × (St))} (C : nd_C p l s m args c A (dC, dI) cX16_heldByte 6 RX16 ow_dm_X16_heldByte (dk_X16 ac)) (K : nd_Ki p l e (headSpec ow_dm_X16_heldByte ({ frames := 2, cells := 0, slots := 0, locals := 47 })).room s m args below meth c Q A (dC, dI) cX16_heldByte .int (St × (St)) (dw_X16 a ac) r) : dj_X16_heldByte_0 p l e s m args below meth c Q A dC dI a ac (df_X16_heldByte_0 n) r := by
  obtain ⟨hlt, hx, hb, hml, hown, hts, hN, hA, hK⟩ := id C
  intro v0 v1 v2 s0 H locs ls h hP hD hS hl
  unfold df_X16_heldByte_0 at h
  refine lv_aload_n hx hb dX16_heldByte_0 rfl (lv_at hl 0 rfl) ?_
  refine lv_iload_n hx hb dX16_heldByte_1 rfl (lv_at hl 1 rfl) ?_
  refine lv_iload_n hx hb dX16_heldByte_2 rfl (lv_at hl 2 rfl) ?_
  refine lv_iconst (v := 2) hx hb dX16_heldByte_3 (by decide) ?_
  obtain ⟨q1, s2, hq, h⟩ := nd_b2_e h
  have hPc := hP
  have hDc := hD
  have hKc := hK
  have hFc := nd_rs hD hS hA
  refine nd_cVi (As := [.int v0, .int v1, .int 2]) (rest := []) (q := q1) (w' := dw_X16 a ac s2) ⟨hx, hb, hml, hown, hts⟩ (fun sz => dm_X16_descriptor l hlt dC dI a ac n (v0) (v1) (2) s0 hq sz) (cwV 3 hts gi_dm_X16_heldByte_0 rfl rfl rfl (by decide +kernel) ⟨Nat.le_of_ble_eq_true rfl, Nat.le_of_ble_eq_true rfl⟩) hPc hDc hKc hS hA hN (va_recv hKc hPc (ci := 17) (q0 := 0) rfl rfl) rfl hl.1 rfl (Nat.le_of_ble_eq_true rfl) dX16_heldByte_4 (fun H locs hP1 hD1 hk1 hS => ?_)
  have hP := hP1
  have hD := hD1.weaken (fun k q _ h => hFc q.1 h)
  refine lv_istore (lv' := [(4, .int q1), (0, .ref (a 0)), (1, .int v0), (2, .int v1), (3, .int v2)]) hx hb dX16_heldByte_7 hl (by decide) rfl (fun ls hl => ?_)
  refine lv_iload_n hx hb dX16_heldByte_9 rfl (lv_at hl 4 rfl) ?_
  refine lv_if_lt (tgt := 19) hx hb dX16_heldByte_10 (by decide) (fun c4 => ?_) (fun c4 => ?_)
  · have h := nd_pos h c4
    exact (db_X16_heldByte_19 C K)  s2 _ _ _ h hP hD hS (lv_sub hl [] rfl)
  · have h := nd_neg h c4
    refine lv_iload_n hx hb dX16_heldByte_13 rfl (lv_at hl 4 rfl) ?_
    refine lv_iload hx hb dX16_heldByte_14 (lv_at hl 0 rfl) ?_
    refine lv_icmp_lt (tgt := 21) hx hb dX16_heldByte_16 (by decide) (fun c5 => ?_) (fun c5 => ?_)
    · have h := nd_pos h c5
      refine lv_aload_n hx hb dX16_heldByte_21 rfl (lv_at hl 1 rfl) ?_
      refine va_get (D := (dC, dI)) (ci := 17) (v := .ref (a 16)) (C := RX16) (T := TX16) (N := 56) hx hb hts hi_dm_X16_heldByte_X16 hown hK hP 0 rfl rfl 24 (by decide) (hts (.fieldLink RX16 57 "TimeMachineModel$Machine" "descriptor" "[I") (List.mem_of_getElem? (i := 5) rfl)) (fun _ h9 => h9) rfl dX16_heldByte_22 ?_
      refine lv_bipush (v := 16) hx hb dX16_heldByte_25 (by decide) ?_
      refine lv_iload_n hx hb dX16_heldByte_27 rfl (lv_at hl 2 rfl) ?_
      refine lv_imul hx hb dX16_heldByte_28 ?_
      refine lv_iload_n hx hb dX16_heldByte_29 rfl (lv_at hl 3 rfl) ?_
      refine lv_iadd hx hb dX16_heldByte_30 ?_
      obtain ⟨i6, h⟩ := nd_ck_e h
      refine va_iald (i := ((16 * v0) + v1)) hx hb hK hP 16 15 rfl rfl i6 dX16_heldByte_31 ?_
      refine lv_topi (fun z7 ez7 => ?_)
      have h := nd_at h ez7
      refine lv_istore (lv' := [(5, .int z7), (4, .int q1), (0, .ref (a 0)), (1, .int v0), (2, .int v1), (3, .int v2)]) hx hb dX16_heldByte_32 hl (by decide) rfl (fun ls hl => ?_)
      refine lv_aload_n hx hb dX16_heldByte_34 rfl (lv_at hl 2 rfl) ?_
      refine va_get (D := (dC, dI)) (ci := 17) (v := .ref (a 21)) (C := RX16) (T := TX16) (N := 56) hx hb hts hi_dm_X16_heldByte_X16 hown hK hP 0 rfl rfl 30 (by decide) (hts (.fieldLink RX16 73 "TimeMachineModel$Machine" "kind" "[I") (List.mem_of_getElem? (i := 6) rfl)) (fun _ h9 => h9) rfl dX16_heldByte_35 ?_
      refine lv_iload hx hb dX16_heldByte_38 (lv_at hl 0 rfl) ?_
      obtain ⟨i8, h⟩ := nd_ck_e h
      refine va_iald (i := z7) hx hb hK hP 21 20 rfl rfl i8 dX16_heldByte_40 ?_
      refine lv_iconst (v := 3) hx hb dX16_heldByte_41 (by decide) ?_
      refine lv_icmp_ne (tgt := 66) hx hb dX16_heldByte_42 (by decide) (fun c9 => ?_) (fun c9 => ?_)
      · have h := nd_neg h c9
        refine lv_aload_n hx hb dX16_heldByte_66 rfl (lv_at hl 2 rfl) ?_
        refine va_get (D := (dC, dI)) (ci := 17) (v := .ref (a 21)) (C := RX16) (T := TX16) (N := 56) hx hb hts hi_dm_X16_heldByte_X16 hown hK hP 0 rfl rfl 30 (by decide) (hts (.fieldLink RX16 73 "TimeMachineModel$Machine" "kind" "[I") (List.mem_of_getElem? (i := 6) rfl)) (fun _ h9 => h9) rfl dX16_heldByte_67 ?_
        refine lv_iload hx hb dX16_heldByte_70 (lv_at hl 0 rfl) ?_
        obtain ⟨i10, h⟩ := nd_ck_e h
        refine va_iald (i := z7) hx hb hK hP 21 20 rfl rfl i10 dX16_heldByte_72 ?_
        refine lv_iconst (v := 4) hx hb dX16_heldByte_73 (by decide) ?_
        refine lv_icmp_ne (tgt := 86) hx hb dX16_heldByte_74 (by decide) (fun c11 => ?_) (fun c11 => ?_)
        · have h := nd_neg h c11
          refine lv_aload_n hx hb dX16_heldByte_86 rfl (lv_at hl 2 rfl) ?_
          refine va_get (D := (dC, dI)) (ci := 17) (v := .ref (a 29)) (C := RX16) (T := TX16) (N := 56) hx hb hts hi_dm_X16_heldByte_X16 hown hK hP 0 rfl rfl 38 (by decide) (hts (.fieldLink RX16 97 "TimeMachineModel$Machine" "pipeBytes" "[I") (List.mem_of_getElem? (i := 7) rfl)) (fun _ h9 => h9) rfl dX16_heldByte_87 ?_
          refine lv_sipush (v := 512) hx hb dX16_heldByte_90 (by decide) ?_
          refine lv_aload_n hx hb dX16_heldByte_93 rfl (lv_at hl 2 rfl) ?_
          refine va_get (D := (dC, dI)) (ci := 17) (v := .ref (a 22)) (C := RX16) (T := TX16) (N := 56) hx hb hts hi_dm_X16_heldByte_X16 hown hK hP 0 rfl rfl 31 (by decide) (hts (.fieldLink RX16 76 "TimeMachineModel$Machine" "thing" "[I") (List.mem_of_getElem? (i := 8) rfl)) (fun _ h9 => h9) rfl dX16_heldByte_94 ?_
          refine lv_iload hx hb dX16_heldByte_97 (lv_at hl 0 rfl) ?_
          obtain ⟨i12, h⟩ := nd_ck_e h
          refine va_iald (i := z7) hx hb hK hP 22 21 rfl rfl i12 dX16_heldByte_99 ?_
          refine lv_imul hx hb dX16_heldByte_100 ?_
          refine lv_iload_n hx hb dX16_heldByte_101 rfl (lv_at hl 5 rfl) ?_
          refine lv_iadd hx hb dX16_heldByte_102 ?_
          obtain ⟨i13, h⟩ := nd_ck_e h
          refine va_iald (i := ((512 * (sR s2.1 20 (Int32.toNatClampNeg z7))) + v2)) hx hb hK hP 29 28 rfl rfl i13 dX16_heldByte_103 ?_
          exact (db_X16_heldByte_104 C K) ((sR s2.1 27 (Int32.toNatClampNeg ((512 * (sR s2.1 20 (Int32.toNatClampNeg z7))) + v2)))) s2 _ _ _ h hP hD hS (lv_sub hl [] rfl)
        · have h := nd_pos h c11
          refine lv_aload_n hx hb dX16_heldByte_77 rfl (lv_at hl 2 rfl) ?_
          refine va_get (D := (dC, dI)) (ci := 17) (v := .ref (a 33)) (C := RX16) (T := TX16) (N := 56) hx hb hts hi_dm_X16_heldByte_X16 hown hK hP 0 rfl rfl 43 (by decide) (hts (.fieldLink RX16 109 "TimeMachineModel$Machine" "typedBytes" "[I") (List.mem_of_getElem? (i := 9) rfl)) (fun _ h9 => h9) rfl dX16_heldByte_78 ?_
          refine lv_iload_n hx hb dX16_heldByte_81 rfl (lv_at hl 5 rfl) ?_
          obtain ⟨i14, h⟩ := nd_ck_e h
          refine va_iald (i := v2) hx hb hK hP 33 32 rfl rfl i14 dX16_heldByte_82 ?_
          refine lv_goto (tgt := 104) hx hb dX16_heldByte_83 (by decide) ?_
          exact (db_X16_heldByte_104 C K) ((sR s2.1 31 (Int32.toNatClampNeg v2))) s2 _ _ _ h hP hD hS (lv_sub hl [] rfl)
      · have h := nd_pos h c9
        refine lv_aload_n hx hb dX16_heldByte_45 rfl (lv_at hl 2 rfl) ?_
        refine va_get (D := (dC, dI)) (ci := 17) (v := .ref (a 31)) (C := RX16) (T := TX16) (N := 56) hx hb hts hi_dm_X16_heldByte_X16 hown hK hP 0 rfl rfl 40 (by decide) (hts (.fieldLink RX16 103 "TimeMachineModel$Machine" "fileBytes" "[I") (List.mem_of_getElem? (i := 10) rfl)) (fun _ h9 => h9) rfl dX16_heldByte_46 ?_
        refine lv_sipush (v := 512) hx hb dX16_heldByte_49 (by decide) ?_
        refine lv_aload_n hx hb dX16_heldByte_52 rfl (lv_at hl 2 rfl) ?_
        refine va_get (D := (dC, dI)) (ci := 17) (v := .ref (a 22)) (C := RX16) (T := TX16) (N := 56) hx hb hts hi_dm_X16_heldByte_X16 hown hK hP 0 rfl rfl 31 (by decide) (hts (.fieldLink RX16 76 "TimeMachineModel$Machine" "thing" "[I") (List.mem_of_getElem? (i := 8) rfl)) (fun _ h9 => h9) rfl dX16_heldByte_53 ?_
        refine lv_iload hx hb dX16_heldByte_56 (lv_at hl 0 rfl) ?_
        obtain ⟨i15, h⟩ := nd_ck_e h
        refine va_iald (i := z7) hx hb hK hP 22 21 rfl rfl i15 dX16_heldByte_58 ?_
        refine lv_imul hx hb dX16_heldByte_59 ?_
        refine lv_iload_n hx hb dX16_heldByte_60 rfl (lv_at hl 5 rfl) ?_
        refine lv_iadd hx hb dX16_heldByte_61 ?_
        obtain ⟨i16, h⟩ := nd_ck_e h
        refine va_iald (i := ((512 * (sR s2.1 20 (Int32.toNatClampNeg z7))) + v2)) hx hb hK hP 31 30 rfl rfl i16 dX16_heldByte_62 ?_
        refine lv_goto (tgt := 104) hx hb dX16_heldByte_63 (by decide) ?_
        exact (db_X16_heldByte_104 C K) ((sR s2.1 29 (Int32.toNatClampNeg ((512 * (sR s2.1 20 (Int32.toNatClampNeg z7))) + v2)))) s2 _ _ _ h hP hD hS (lv_sub hl [] rfl)
    · have h := nd_neg h c5
      exact (db_X16_heldByte_19 C K)  s2 _ _ _ h hP hD hS (lv_sub hl [] rfl)
set_option maxHeartbeats 40000000 in
set_option maxRecDepth 100000 in
theorem dm_X16_heldByte (l : Launch) (hlt : l.stackTraces = false) (dC : Nat → ClassId) (dI : Nat → Nat → Nat) (a : Nat → Nat) (ac : Nat → ClassId) (n : Nat) (v0 : Int32) (v1 : Int32) (v2 : Int32) (s0 : St × (St)) {r : Int32 × (St × (St))} (h : df_X16_heldByte n v0 v1 v2 s0 = some r) (sz : Nat) : Met l yX16_heldByte ow_dm_X16_heldByte ({ frames := 2, cells := 0, slots := 0, locals := 47 }) (va_Pc [.ref (a 0), .int v0, .int v1, .int v2] (fun U => U.heap.size = sz ∧ va_P (dC, dI) vwCl (dw_X16 a ac s0) U.heap ∧ va_K (dC, dI) vwCl (dk_X16 ac) U ∧ va_D (fun _ => True) (dw_X16 a ac s0) ∧ nv_E dI (va_A (dw_X16 a ac s0) sz) U)) (va_Qi (fun x _ => x = r.1) (fun (_ : Unit) t => va_P (dC, dI) vwCl (dw_X16 a ac r.2) t.heap ∧ va_K (dC, dI) vwCl (dk_X16 ac) t ∧ va_D (va_A (dw_X16 a ac s0) sz) (dw_X16 a ac r.2)) (va_A (dw_X16 a ac s0) sz)) 0 0 (va_A (dw_X16 a ac s0) sz) := by
  refine Met.ofW (cc := cX16_heldByte) (maxL := 6) (ret := (some .int)) (by decide) rfl ?_
  intro p e s m args below meth c s₁ B hml hv
  obtain ⟨rfl, hsz, hP, hK, hD0, hN⟩ := hv
  have hx := B.exec
  have hb := B.bytes
  have hr := B.returns
  have hts := atoms_spec (ws := ow_dm_X16_heldByte) B.pre
  have hown : s.vm.findClass RX16 = some m.cls := findClass_of_methodNamed B.named
  have hlocks := B.notSynchronized
  subst hsz
  have hD := hD0.self (sz := s.heap.size)
  generalize hAe : va_A (dw_X16 a ac s0) s.heap.size = A at hD hN ⊢
  have hA : ∀ q : Nat, s.heap.size ≤ q → A q := fun q h => by rw [← hAe]; exact Or.inr h
  have hl := lv_entry ([.ref (a 0), .int v0, .int v1, .int v2]) (n := 6) (Nat.le_of_ble_eq_true rfl)
  rw [lg_entry_eq]
  generalize (lg_sl ([.ref (a 0), .int v0, .int v1, .int v2]) ++ List.replicate (6 - (lg_sl ([.ref (a 0), .int v0, .int v1, .int v2])).length) Slot.unset).toArray = ls at hl ⊢
  have hl : lv_has ls 6 [(0, .ref (a 0)), (1, .int v0), (2, .int v1), (3, .int v2)] := hl
  exact db_X16_heldByte_0 (dC := dC) (dI := dI) (a := a) (ac := ac) (n := n) (r := r) ⟨hlt, hx, hb, hml, hown, hts, hN, hA, hK⟩ (fun pc v τ H locs ls d z er hP hD hS => by subst er; exact W.zret (v := v) hx hb hr z (fun t ht hW => ⟨⟨v, (), rfl, rfl, by rw [ht]; exact hP, va_K.moved hW.alike hK, hD⟩, hS.F ht⟩) hS.2.2 d) v0 v1 v2 s0 _ _ _ h hP hD va_S.rf (lv_sub hl [0, 1, 2, 3] rfl)
def ow_dm_X16_shownByte : List Cond := Cond.code yX16_shownByte cX16_shownByte 4 (some .int) :: ([Cond.fieldLink RX16 147 "TimeMachineModel$Machine" "shown" "J", Cond.constantLong RX16 497 (2048), Cond.fieldLink RX16 112 "TimeMachineModel$Machine" "shownBytes" "[I"] ++ (u_ws RX16 TX16 56 ++ []))
theorem gd_dm_X16_shownByte : ∀ w ∈ ow_dm_X16_shownByte, (w.onTables && w.keeps) = true ∨ ∃ ty, w = Cond.arrayClass ty := List.forall_mem_cons.mpr ⟨good_of_word rfl, List.forall_mem_append.mpr ⟨fun w h => good_of_word (List.all_eq_true.mp (by decide +kernel) w h), List.forall_mem_append.mpr ⟨gu_X16, fun _ h => nomatch h⟩⟩⟩
theorem hi_dm_X16_shownByte_X16 : ∀ w ∈ u_ws RX16 TX16 56, w ∈ ow_dm_X16_shownByte := fun w h => List.mem_cons_of_mem _ (List.mem_append_right _ (List.mem_append_left _ h))
def dj_X16_shownByte_43 (p : Program) (l : Launch) (e : Env) (s : State) (m : MethodId) (args : Array Value) (below : List Frame) (meth : Method) (c : Code) (Q : State → Prop) (A : Nat → Prop) (dC : Nat → ClassId) (dI : Nat → Nat → Nat) (a : Nat → Nat) (ac : Nat → ClassId) (g : Int32 → (St × (St)) → Option (Int32 × (St × (St)))) (r : Int32 × (St × (St))) : Prop := ∀ (y0 : Int32) (s0 : St × (St)) (H : Heap) (locs : List Loc) (ls : Array Slot), g y0 s0 = some r → va_P (dC, dI) vwCl (dw_X16 a ac s0) H → va_D A (dw_X16 a ac s0) → va_S A s.heap H locs → lv_has ls 4 [] → W p l e (headSpec ow_dm_X16_shownByte ({ frames := 0, cells := 0, slots := 0, locals := 0 })).room s m args below meth c H locs 0 0 Q (F0 m 43 ls [.int y0])
def dj_X16_shownByte_33 (p : Program) (l : Launch) (e : Env) (s : State) (m : MethodId) (args : Array Value) (below : List Frame) (meth : Method) (c : Code) (Q : State → Prop) (A : Nat → Prop) (dC : Nat → ClassId) (dI : Nat → Nat → Nat) (a : Nat → Nat) (ac : Nat → ClassId) (g : (St × (St)) → Option (Int32 × (St × (St)))) (r : Int32 × (St × (St))) : Prop := ∀ (s0 : St × (St)) (H : Heap) (locs : List Loc) (ls : Array Slot), g s0 = some r → va_P (dC, dI) vwCl (dw_X16 a ac s0) H → va_D A (dw_X16 a ac s0) → va_S A s.heap H locs → lv_has ls 4 [] → W p l e (headSpec ow_dm_X16_shownByte ({ frames := 0, cells := 0, slots := 0, locals := 0 })).room s m args below meth c H locs 0 0 Q (F0 m 33 ls [])
def dj_X16_shownByte_21 (p : Program) (l : Launch) (e : Env) (s : State) (m : MethodId) (args : Array Value) (below : List Frame) (meth : Method) (c : Code) (Q : State → Prop) (A : Nat → Prop) (dC : Nat → ClassId) (dI : Nat → Nat → Nat) (a : Nat → Nat) (ac : Nat → ClassId) (g : Int32 → Int64 → (St × (St)) → Option (Int32 × (St × (St)))) (r : Int32 × (St × (St))) : Prop := ∀ (x1 : Int32) (y0 : Int64) (s0 : St × (St)) (H : Heap) (locs : List Loc) (ls : Array Slot), g x1 y0 s0 = some r → va_P (dC, dI) vwCl (dw_X16 a ac s0) H → va_D A (dw_X16 a ac s0) → va_S A s.heap H locs → lv_has ls 4 [(0, .ref (a 0)), (1, .int x1)] → W p l e (headSpec ow_dm_X16_shownByte ({ frames := 0, cells := 0, slots := 0, locals := 0 })).room s m args below meth c H locs 0 0 Q (F0 m 21 ls [.long y0])
def dj_X16_shownByte_0 (p : Program) (l : Launch) (e : Env) (s : State) (m : MethodId) (args : Array Value) (below : List Frame) (meth : Method) (c : Code) (Q : State → Prop) (A : Nat → Prop) (dC : Nat → ClassId) (dI : Nat → Nat → Nat) (a : Nat → Nat) (ac : Nat → ClassId) (g : Int32 → (St × (St)) → Option (Int32 × (St × (St)))) (r : Int32 × (St × (St))) : Prop := ∀ (v0 : Int32) (s0 : St × (St)) (H : Heap) (locs : List Loc) (ls : Array Slot), g v0 s0 = some r → va_P (dC, dI) vwCl (dw_X16 a ac s0) H → va_D A (dw_X16 a ac s0) → va_S A s.heap H locs → lv_has ls 4 [(0, .ref (a 0)), (1, .int v0)] → W p l e (headSpec ow_dm_X16_shownByte ({ frames := 0, cells := 0, slots := 0, locals := 0 })).room s m args below meth c H locs 0 0 Q (F0 m 0 ls [])
set_option maxHeartbeats 40000000 in
set_option maxRecDepth 100000 in
theorem db_X16_shownByte_43 {p : Program} {l : Launch} {e : Env} {s : State} {m : MethodId} {args : Array Value} {below : List Frame} {meth : Method} {c : Code} {Q : State → Prop} {A : Nat → Prop} {dC : Nat → ClassId} {dI : Nat → Nat → Nat} {a : Nat → Nat} {ac : Nat → ClassId} {n : Nat} {r : Int32 × (St × (St))} (C : nd_C p l s m args c A (dC, dI) cX16_shownByte 4 RX16 ow_dm_X16_shownByte (dk_X16 ac)) (K : nd_Ki p l e (headSpec ow_dm_X16_shownByte ({ frames := 0, cells := 0, slots := 0, locals := 0 })).room s m args below meth c Q A (dC, dI) cX16_shownByte .int (St × (St)) (dw_X16 a ac) r) : dj_X16_shownByte_43 p l e s m args below meth c Q A dC dI a ac (df_X16_shownByte_43 n) r := by
  obtain ⟨hlt, hx, hb, hml, hown, hts, hN, hA, hK⟩ := id C
  intro y0 s0 H locs ls h hP hD hS hl
  unfold df_X16_shownByte_43 at h
  exact K _ _ _ _ _ _ dX16_shownByte_43 rfl (Option.some.inj h).symm hP hD hS
set_option maxHeartbeats 40000000 in
set_option maxRecDepth 100000 in
theorem db_X16_shownByte_33 {p : Program} {l : Launch} {e : Env} {s : State} {m : MethodId} {args : Array Value} {below : List Frame} {meth : Method} {c : Code} {Q : State → Prop} {A : Nat → Prop} {dC : Nat → ClassId} {dI : Nat → Nat → Nat} {a : Nat → Nat} {ac : Nat → ClassId} {n : Nat} {r : Int32 × (St × (St))} (C : nd_C p l s m args c A (dC, dI) cX16_shownByte 4 RX16 ow_dm_X16_shownByte (dk_X16 ac)) (K : nd_Ki p l e (headSpec ow_dm_X16_shownByte ({ frames := 0, cells := 0, slots := 0, locals := 0 })).room s m args below meth c Q A (dC, dI) cX16_shownByte .int (St × (St)) (dw_X16 a ac) r) : dj_X16_shownByte_33 p l e s m args below meth c Q A dC dI a ac (df_X16_shownByte_33 n) r := by
  obtain ⟨hlt, hx, hb, hml, hown, hts, hN, hA, hK⟩ := id C
  intro s0 H locs ls h hP hD hS hl
  unfold df_X16_shownByte_33 at h
  refine lv_iconst (v := (-1)) hx hb dX16_shownByte_33 (by decide) ?_
  refine lv_goto (tgt := 43) hx hb dX16_shownByte_34 (by decide) ?_
  exact (db_X16_shownByte_43 C K) ((-1)) s0 _ _ _ h hP hD hS (lv_sub hl [] rfl)
set_option maxHeartbeats 40000000 in
set_option maxRecDepth 100000 in
theorem db_X16_shownByte_21 {p : Program} {l : Launch} {e : Env} {s : State} {m : MethodId} {args : Array Value} {below : List Frame} {meth : Method} {c : Code} {Q : State → Prop} {A : Nat → Prop} {dC : Nat → ClassId} {dI : Nat → Nat → Nat} {a : Nat → Nat} {ac : Nat → ClassId} {n : Nat} {r : Int32 × (St × (St))} (C : nd_C p l s m args c A (dC, dI) cX16_shownByte 4 RX16 ow_dm_X16_shownByte (dk_X16 ac)) (K : nd_Ki p l e (headSpec ow_dm_X16_shownByte ({ frames := 0, cells := 0, slots := 0, locals := 0 })).room s m args below meth c Q A (dC, dI) cX16_shownByte .int (St × (St)) (dw_X16 a ac) r) : dj_X16_shownByte_21 p l e s m args below meth c Q A dC dI a ac (df_X16_shownByte_21 n) r := by
  obtain ⟨hlt, hx, hb, hml, hown, hts, hN, hA, hK⟩ := id C
  intro x1 y0 s0 H locs ls h hP hD hS hl
  unfold df_X16_shownByte_21 at h
  refine lv_lstore_n (lv' := [(2, .long y0), (0, .ref (a 0)), (1, .int x1)]) hx hb dX16_shownByte_21 rfl hl (by decide) rfl (fun ls hl => ?_)
  refine lv_iload_n hx hb dX16_shownByte_22 rfl (lv_at hl 2 rfl) ?_
  refine lv_if_lt (tgt := 33) hx hb dX16_shownByte_23 (by decide) (fun c2 => ?_) (fun c2 => ?_)
  · have h := nd_pos h c2
    exact (db_X16_shownByte_33 C K)  s0 _ _ _ h hP hD hS (lv_sub hl [] rfl)
  · have h := nd_neg h c2
    refine lv_iload_n hx hb dX16_shownByte_26 rfl (lv_at hl 2 rfl) ?_
    refine lv_i2l hx hb dX16_shownByte_27 rfl ?_
    refine lv_lload_n hx hb dX16_shownByte_28 rfl (lv_at hl 0 rfl) ?_
    refine W.lcmp hx hb dX16_shownByte_29 ?_
    refine lv_if_lt (tgt := 37) hx hb dX16_shownByte_30 (by decide) (fun c3 => ?_) (fun c3 => ?_)
    · have h := nd_pos h c3
      refine lv_aload_n hx hb dX16_shownByte_37 rfl (lv_at hl 1 rfl) ?_
      refine va_get (D := (dC, dI)) (ci := 17) (v := .ref (a 34)) (C := RX16) (T := TX16) (N := 56) hx hb hts hi_dm_X16_shownByte_X16 hown hK hP 0 rfl rfl 44 (by decide) (hts (.fieldLink RX16 112 "TimeMachineModel$Machine" "shownBytes" "[I") (List.mem_of_getElem? (i := 3) rfl)) (fun _ h9 => h9) rfl dX16_shownByte_38 ?_
      refine lv_iload_n hx hb dX16_shownByte_41 rfl (lv_at hl 2 rfl) ?_
      obtain ⟨i4, h⟩ := nd_ck_e h
      refine va_iald (i := x1) hx hb hK hP 34 33 rfl rfl i4 dX16_shownByte_42 ?_
      exact (db_X16_shownByte_43 C K) ((sR s0.1 32 (Int32.toNatClampNeg x1))) s0 _ _ _ h hP hD hS (lv_sub hl [] rfl)
    · have h := nd_neg h c3
      exact (db_X16_shownByte_33 C K)  s0 _ _ _ h hP hD hS (lv_sub hl [] rfl)
set_option maxHeartbeats 40000000 in
set_option maxRecDepth 100000 in
theorem db_X16_shownByte_0 {p : Program} {l : Launch} {e : Env} {s : State} {m : MethodId} {args : Array Value} {below : List Frame} {meth : Method} {c : Code} {Q : State → Prop} {A : Nat → Prop} {dC : Nat → ClassId} {dI : Nat → Nat → Nat} {a : Nat → Nat} {ac : Nat → ClassId} {n : Nat} {r : Int32 × (St × (St))} (C : nd_C p l s m args c A (dC, dI) cX16_shownByte 4 RX16 ow_dm_X16_shownByte (dk_X16 ac)) (K : nd_Ki p l e (headSpec ow_dm_X16_shownByte ({ frames := 0, cells := 0, slots := 0, locals := 0 })).room s m args below meth c Q A (dC, dI) cX16_shownByte .int (St × (St)) (dw_X16 a ac) r) : dj_X16_shownByte_0 p l e s m args below meth c Q A dC dI a ac (df_X16_shownByte_0 n) r := by
  obtain ⟨hlt, hx, hb, hml, hown, hts, hN, hA, hK⟩ := id C
  intro v0 s0 H locs ls h hP hD hS hl
  unfold df_X16_shownByte_0 at h
  refine lv_aload_n hx hb dX16_shownByte_0 rfl (lv_at hl 0 rfl) ?_
  refine va_get (D := (dC, dI)) (ci := 17) (v := .long (sL s0.1 2)) (C := RX16) (T := TX16) (N := 56) hx hb hts hi_dm_X16_shownByte_X16 hown hK hP 0 rfl rfl 45 (by decide) (hts (.fieldLink RX16 147 "TimeMachineModel$Machine" "shown" "J") (List.mem_of_getElem? (i := 1) rfl)) (fun _ h9 => h9) rfl dX16_shownByte_1 ?_
  refine lv_ldc2 hx hb hown (hts (.constantLong RX16 497 (2048)) (List.mem_of_getElem? (i := 2) rfl)) dX16_shownByte_4 ?_
  refine W.lcmp hx hb dX16_shownByte_7 ?_
  refine lv_if_ge (tgt := 18) hx hb dX16_shownByte_8 (by decide) (fun c1 => ?_) (fun c1 => ?_)
  · have h := nd_pos h c1
    refine lv_ldc2 hx hb hown (hts (.constantLong RX16 497 (2048)) (List.mem_of_getElem? (i := 2) rfl)) dX16_shownByte_18 ?_
    exact (db_X16_shownByte_21 C K) (v0) (2048) s0 _ _ _ h hP hD hS (lv_sub hl [0, 1] rfl)
  · have h := nd_neg h c1
    refine lv_aload_n hx hb dX16_shownByte_11 rfl (lv_at hl 0 rfl) ?_
    refine va_get (D := (dC, dI)) (ci := 17) (v := .long (sL s0.1 2)) (C := RX16) (T := TX16) (N := 56) hx hb hts hi_dm_X16_shownByte_X16 hown hK hP 0 rfl rfl 45 (by decide) (hts (.fieldLink RX16 147 "TimeMachineModel$Machine" "shown" "J") (List.mem_of_getElem? (i := 1) rfl)) (fun _ h9 => h9) rfl dX16_shownByte_12 ?_
    refine lv_goto (tgt := 21) hx hb dX16_shownByte_15 (by decide) ?_
    exact (db_X16_shownByte_21 C K) (v0) ((sL s0.1 2)) s0 _ _ _ h hP hD hS (lv_sub hl [0, 1] rfl)
set_option maxHeartbeats 40000000 in
set_option maxRecDepth 100000 in
theorem dm_X16_shownByte (l : Launch) (hlt : l.stackTraces = false) (dC : Nat → ClassId) (dI : Nat → Nat → Nat) (a : Nat → Nat) (ac : Nat → ClassId) (n : Nat) (v0 : Int32) (s0 : St × (St)) {r : Int32 × (St × (St))} (h : df_X16_shownByte n v0 s0 = some r) (sz : Nat) : Met l yX16_shownByte ow_dm_X16_shownByte ({ frames := 0, cells := 0, slots := 0, locals := 0 }) (va_Pc [.ref (a 0), .int v0] (fun U => U.heap.size = sz ∧ va_P (dC, dI) vwCl (dw_X16 a ac s0) U.heap ∧ va_K (dC, dI) vwCl (dk_X16 ac) U ∧ va_D (fun _ => True) (dw_X16 a ac s0) ∧ nv_E dI (va_A (dw_X16 a ac s0) sz) U)) (va_Qi (fun x _ => x = r.1) (fun (_ : Unit) t => va_P (dC, dI) vwCl (dw_X16 a ac r.2) t.heap ∧ va_K (dC, dI) vwCl (dk_X16 ac) t ∧ va_D (va_A (dw_X16 a ac s0) sz) (dw_X16 a ac r.2)) (va_A (dw_X16 a ac s0) sz)) 0 0 (va_A (dw_X16 a ac s0) sz) := by
  refine Met.ofW (cc := cX16_shownByte) (maxL := 4) (ret := (some .int)) (by decide) rfl ?_
  intro p e s m args below meth c s₁ B hml hv
  obtain ⟨rfl, hsz, hP, hK, hD0, hN⟩ := hv
  have hx := B.exec
  have hb := B.bytes
  have hr := B.returns
  have hts := atoms_spec (ws := ow_dm_X16_shownByte) B.pre
  have hown : s.vm.findClass RX16 = some m.cls := findClass_of_methodNamed B.named
  have hlocks := B.notSynchronized
  subst hsz
  have hD := hD0.self (sz := s.heap.size)
  generalize hAe : va_A (dw_X16 a ac s0) s.heap.size = A at hD hN ⊢
  have hA : ∀ q : Nat, s.heap.size ≤ q → A q := fun q h => by rw [← hAe]; exact Or.inr h
  have hl := lv_entry ([.ref (a 0), .int v0]) (n := 4) (Nat.le_of_ble_eq_true rfl)
  rw [lg_entry_eq]
  generalize (lg_sl ([.ref (a 0), .int v0]) ++ List.replicate (4 - (lg_sl ([.ref (a 0), .int v0])).length) Slot.unset).toArray = ls at hl ⊢
  have hl : lv_has ls 4 [(0, .ref (a 0)), (1, .int v0)] := hl
  exact db_X16_shownByte_0 (dC := dC) (dI := dI) (a := a) (ac := ac) (n := n) (r := r) ⟨hlt, hx, hb, hml, hown, hts, hN, hA, hK⟩ (fun pc v τ H locs ls d z er hP hD hS => by subst er; exact W.zret (v := v) hx hb hr z (fun t ht hW => ⟨⟨v, (), rfl, rfl, by rw [ht]; exact hP, va_K.moved hW.alike hK, hD⟩, hS.F ht⟩) hS.2.2 d) v0 s0 _ _ _ h hP hD va_S.rf (lv_sub hl [0, 1] rfl)
def ow_dm_X16_count : List Cond := Cond.code yX16_count cX16_count 4 (some .long) :: ([Cond.fieldLink RX16 141 "TimeMachineModel$Machine" "current" "I", Cond.fieldLink RX16 154 "TimeMachineModel$Machine" "retired" "J", Cond.fieldLink RX16 151 "TimeMachineModel$Machine" "clock" "J", Cond.fieldLink RX16 126 "TimeMachineModel$Machine" "waitingWords" "I", Cond.fieldLink RX16 147 "TimeMachineModel$Machine" "shown" "J", Cond.fieldLink RX16 122 "TimeMachineModel$Machine" "typed" "I", Cond.fieldLink RX16 129 "TimeMachineModel$Machine" "used" "I", Cond.methodLink RX16 485 yX16_openings, Cond.instanceMethod yX16_openings, Cond.selects RX16 yX16_openings yX16_openings, Cond.initialized RX16, Cond.fieldLink RX16 88 "TimeMachineModel$Machine" "isFile" "[Z", Cond.fieldLink RX16 91 "TimeMachineModel$Machine" "isNamed" "[Z", Cond.fieldLink RX16 13 "TimeMachineModel$Machine" "state" "[I"] ++ (u_ws RX16 TX16 56 ++ (ow_dm_X16_openings ++ [])))
theorem gd_dm_X16_count : ∀ w ∈ ow_dm_X16_count, (w.onTables && w.keeps) = true ∨ ∃ ty, w = Cond.arrayClass ty := List.forall_mem_cons.mpr ⟨good_of_word rfl, List.forall_mem_append.mpr ⟨fun w h => good_of_word (List.all_eq_true.mp (by decide +kernel) w h), List.forall_mem_append.mpr ⟨gu_X16, List.forall_mem_append.mpr ⟨gd_dm_X16_openings, fun _ h => nomatch h⟩⟩⟩⟩
theorem hi_dm_X16_count_X16 : ∀ w ∈ u_ws RX16 TX16 56, w ∈ ow_dm_X16_count := fun w h => List.mem_cons_of_mem _ (List.mem_append_right _ (List.mem_append_left _ h))
theorem gi_dm_X16_count_0 : GoodIn ow_dm_X16_count (wsV RX16 485 RX16 yX16_openings ow_dm_X16_openings) := goodIn_app (goodIn_of _ (by decide +kernel)) (fun w h => ⟨List.mem_cons_of_mem _ (List.mem_append_right _ (List.mem_append_right _ (List.mem_append_left _ h))), gd_dm_X16_openings w h⟩)
def dj_X16_count_191 (p : Program) (l : Launch) (e : Env) (s : State) (m : MethodId) (args : Array Value) (below : List Frame) (meth : Method) (c : Code) (Q : State → Prop) (A : Nat → Prop) (dC : Nat → ClassId) (dI : Nat → Nat → Nat) (a : Nat → Nat) (ac : Nat → ClassId) (g : (St × (St)) → Option (Int64 × (St × (St)))) (r : Int64 × (St × (St))) : Prop := ∀ (s0 : St × (St)) (H : Heap) (locs : List Loc) (ls : Array Slot), g s0 = some r → va_P (dC, dI) vwCl (dw_X16 a ac s0) H → va_D A (dw_X16 a ac s0) → va_S A s.heap H locs → lv_has ls 4 [(0, .ref (a 0))] → W p l e (headSpec ow_dm_X16_count ({ frames := 1, cells := 0, slots := 0, locals := 22 })).room s m args below meth c H locs 0 0 Q (F0 m 191 ls [])
def dj_X16_count_182 (p : Program) (l : Launch) (e : Env) (s : State) (m : MethodId) (args : Array Value) (below : List Frame) (meth : Method) (c : Code) (Q : State → Prop) (A : Nat → Prop) (dC : Nat → ClassId) (dI : Nat → Nat → Nat) (a : Nat → Nat) (ac : Nat → ClassId) (g : Int32 → (St × (St)) → Option (Int64 × (St × (St)))) (r : Int64 × (St × (St))) : Prop := ∀ (x2 : Int32) (s0 : St × (St)) (H : Heap) (locs : List Loc) (ls : Array Slot), g x2 s0 = some r → va_P (dC, dI) vwCl (dw_X16 a ac s0) H → va_D A (dw_X16 a ac s0) → va_S A s.heap H locs → lv_has ls 4 [(2, .int x2)] → W p l e (headSpec ow_dm_X16_count ({ frames := 1, cells := 0, slots := 0, locals := 22 })).room s m args below meth c H locs 0 0 Q (F0 m 182 ls [])
def dj_X16_count_85 (p : Program) (l : Launch) (e : Env) (s : State) (m : MethodId) (args : Array Value) (below : List Frame) (meth : Method) (c : Code) (Q : State → Prop) (A : Nat → Prop) (dC : Nat → ClassId) (dI : Nat → Nat → Nat) (a : Nat → Nat) (ac : Nat → ClassId) (g : Int32 → Int32 → (St × (St)) → Option (Int64 × (St × (St)))) (r : Int64 × (St × (St))) : Prop := ∀ (x1 : Int32) (x2 : Int32) (s0 : St × (St)) (H : Heap) (locs : List Loc) (ls : Array Slot), g x1 x2 s0 = some r → va_P (dC, dI) vwCl (dw_X16 a ac s0) H → va_D A (dw_X16 a ac s0) → va_S A s.heap H locs → lv_has ls 4 [(0, .ref (a 0)), (1, .int x1), (2, .int x2)] → W p l e (headSpec ow_dm_X16_count ({ frames := 1, cells := 0, slots := 0, locals := 22 })).room s m args below meth c H locs 0 0 Q (F0 m 85 ls [])
def dj_X16_count_78 (p : Program) (l : Launch) (e : Env) (s : State) (m : MethodId) (args : Array Value) (below : List Frame) (meth : Method) (c : Code) (Q : State → Prop) (A : Nat → Prop) (dC : Nat → ClassId) (dI : Nat → Nat → Nat) (a : Nat → Nat) (ac : Nat → ClassId) (g : Int32 → Int32 → Int32 → (St × (St)) → Option (Int64 × (St × (St)))) (r : Int64 × (St × (St))) : Prop := ∀ (x1 : Int32) (x3 : Int32) (y0 : Int32) (s0 : St × (St)) (H : Heap) (locs : List Loc) (ls : Array Slot), g x1 x3 y0 s0 = some r → va_P (dC, dI) vwCl (dw_X16 a ac s0) H → va_D A (dw_X16 a ac s0) → va_S A s.heap H locs → lv_has ls 4 [(0, .ref (a 0)), (1, .int x1), (3, .int x3)] → W p l e (headSpec ow_dm_X16_count ({ frames := 1, cells := 0, slots := 0, locals := 22 })).room s m args below meth c H locs 0 0 Q (F0 m 78 ls [.int y0])
def dj_X16_count_77 (p : Program) (l : Launch) (e : Env) (s : State) (m : MethodId) (args : Array Value) (below : List Frame) (meth : Method) (c : Code) (Q : State → Prop) (A : Nat → Prop) (dC : Nat → ClassId) (dI : Nat → Nat → Nat) (a : Nat → Nat) (ac : Nat → ClassId) (g : Int32 → Int32 → Int32 → (St × (St)) → Option (Int64 × (St × (St)))) (r : Int64 × (St × (St))) : Prop := ∀ (x1 : Int32) (x2 : Int32) (x3 : Int32) (s0 : St × (St)) (H : Heap) (locs : List Loc) (ls : Array Slot), g x1 x2 x3 s0 = some r → va_P (dC, dI) vwCl (dw_X16 a ac s0) H → va_D A (dw_X16 a ac s0) → va_S A s.heap H locs → lv_has ls 4 [(0, .ref (a 0)), (1, .int x1), (2, .int x2), (3, .int x3)] → W p l e (headSpec ow_dm_X16_count ({ frames := 1, cells := 0, slots := 0, locals := 22 })).room s m args below meth c H locs 0 0 Q (F0 m 77 ls [])
def dj_X16_count_41 (p : Program) (l : Launch) (e : Env) (s : State) (m : MethodId) (args : Array Value) (below : List Frame) (meth : Method) (c : Code) (Q : State → Prop) (A : Nat → Prop) (dC : Nat → ClassId) (dI : Nat → Nat → Nat) (a : Nat → Nat) (ac : Nat → ClassId) (g : Int32 → Int32 → Int32 → (St × (St)) → Option (Int64 × (St × (St)))) (r : Int64 × (St × (St))) : Prop := ∀ (x1 : Int32) (x2 : Int32) (x3 : Int32) (s0 : St × (St)) (H : Heap) (locs : List Loc) (ls : Array Slot), g x1 x2 x3 s0 = some r → va_P (dC, dI) vwCl (dw_X16 a ac s0) H → va_D A (dw_X16 a ac s0) → va_S A s.heap H locs → lv_has ls 4 [(0, .ref (a 0)), (1, .int x1), (2, .int x2), (3, .int x3)] → W p l e (headSpec ow_dm_X16_count ({ frames := 1, cells := 0, slots := 0, locals := 22 })).room s m args below meth c H locs 0 0 Q (F0 m 41 ls [])
def dj_X16_count_39 (p : Program) (l : Launch) (e : Env) (s : State) (m : MethodId) (args : Array Value) (below : List Frame) (meth : Method) (c : Code) (Q : State → Prop) (A : Nat → Prop) (dC : Nat → ClassId) (dI : Nat → Nat → Nat) (a : Nat → Nat) (ac : Nat → ClassId) (g : Int32 → Int32 → (St × (St)) → Option (Int64 × (St × (St)))) (r : Int64 × (St × (St))) : Prop := ∀ (x1 : Int32) (x2 : Int32) (s0 : St × (St)) (H : Heap) (locs : List Loc) (ls : Array Slot), g x1 x2 s0 = some r → va_P (dC, dI) vwCl (dw_X16 a ac s0) H → va_D A (dw_X16 a ac s0) → va_S A s.heap H locs → lv_has ls 4 [(0, .ref (a 0)), (1, .int x1), (2, .int x2)] → W p l e (headSpec ow_dm_X16_count ({ frames := 1, cells := 0, slots := 0, locals := 22 })).room s m args below meth c H locs 0 0 Q (F0 m 39 ls [])
def dj_X16_count_32 (p : Program) (l : Launch) (e : Env) (s : State) (m : MethodId) (args : Array Value) (below : List Frame) (meth : Method) (c : Code) (Q : State → Prop) (A : Nat → Prop) (dC : Nat → ClassId) (dI : Nat → Nat → Nat) (a : Nat → Nat) (ac : Nat → ClassId) (g : Int32 → Int32 → Int32 → (St × (St)) → Option (Int64 × (St × (St)))) (r : Int64 × (St × (St))) : Prop := ∀ (x1 : Int32) (x3 : Int32) (y0 : Int32) (s0 : St × (St)) (H : Heap) (locs : List Loc) (ls : Array Slot), g x1 x3 y0 s0 = some r → va_P (dC, dI) vwCl (dw_X16 a ac s0) H → va_D A (dw_X16 a ac s0) → va_S A s.heap H locs → lv_has ls 4 [(0, .ref (a 0)), (1, .int x1), (3, .int x3)] → W p l e (headSpec ow_dm_X16_count ({ frames := 1, cells := 0, slots := 0, locals := 22 })).room s m args below meth c H locs 0 0 Q (F0 m 32 ls [.int y0])
def dj_X16_count_4 (p : Program) (l : Launch) (e : Env) (s : State) (m : MethodId) (args : Array Value) (below : List Frame) (meth : Method) (c : Code) (Q : State → Prop) (A : Nat → Prop) (dC : Nat → ClassId) (dI : Nat → Nat → Nat) (a : Nat → Nat) (ac : Nat → ClassId) (g : Int32 → Int32 → Int32 → (St × (St)) → Option (Int64 × (St × (St)))) (r : Int64 × (St × (St))) : Prop := ∀ (x1 : Int32) (x2 : Int32) (x3 : Int32) (s0 : St × (St)) (H : Heap) (locs : List Loc) (ls : Array Slot), g x1 x2 x3 s0 = some r → va_P (dC, dI) vwCl (dw_X16 a ac s0) H → va_D A (dw_X16 a ac s0) → va_S A s.heap H locs → lv_has ls 4 [(0, .ref (a 0)), (1, .int x1), (2, .int x2), (3, .int x3)] → W p l e (headSpec ow_dm_X16_count ({ frames := 1, cells := 0, slots := 0, locals := 22 })).room s m args below meth c H locs 0 0 Q (F0 m 4 ls [])
def dj_X16_count_0 (p : Program) (l : Launch) (e : Env) (s : State) (m : MethodId) (args : Array Value) (below : List Frame) (meth : Method) (c : Code) (Q : State → Prop) (A : Nat → Prop) (dC : Nat → ClassId) (dI : Nat → Nat → Nat) (a : Nat → Nat) (ac : Nat → ClassId) (g : Int32 → (St × (St)) → Option (Int64 × (St × (St)))) (r : Int64 × (St × (St))) : Prop := ∀ (v0 : Int32) (s0 : St × (St)) (H : Heap) (locs : List Loc) (ls : Array Slot), g v0 s0 = some r → va_P (dC, dI) vwCl (dw_X16 a ac s0) H → va_D A (dw_X16 a ac s0) → va_S A s.heap H locs → lv_has ls 4 [(0, .ref (a 0)), (1, .int v0)] → W p l e (headSpec ow_dm_X16_count ({ frames := 1, cells := 0, slots := 0, locals := 22 })).room s m args below meth c H locs 0 0 Q (F0 m 0 ls [])
set_option maxHeartbeats 40000000 in
set_option maxRecDepth 100000 in
theorem db_X16_count_191 {p : Program} {l : Launch} {e : Env} {s : State} {m : MethodId} {args : Array Value} {below : List Frame} {meth : Method} {c : Code} {Q : State → Prop} {A : Nat → Prop} {dC : Nat → ClassId} {dI : Nat → Nat → Nat} {a : Nat → Nat} {ac : Nat → ClassId} {n : Nat} {r : Int64 × (St × (St))} (C : nd_C p l s m args c A (dC, dI) cX16_count 4 RX16 ow_dm_X16_count (dk_X16 ac)) (K : nd_Kl p l e (headSpec ow_dm_X16_count ({ frames := 1, cells := 0, slots := 0, locals := 22 })).room s m args below meth c Q A (dC, dI) cX16_count (St × (St)) (dw_X16 a ac) r) : dj_X16_count_191 p l e s m args below meth c Q A dC dI a ac (df_X16_count_191 n) r := by
  obtain ⟨hlt, hx, hb, hml, hown, hts, hN, hA, hK⟩ := id C
  intro s0 H locs ls h hP hD hS hl
  unfold df_X16_count_191 at h
  refine lv_aload_n hx hb dX16_count_191 rfl (lv_at hl 0 rfl) ?_
  refine va_get (D := (dC, dI)) (ci := 17) (v := .long (sL s0.1 0)) (C := RX16) (T := TX16) (N := 56) hx hb hts hi_dm_X16_count_X16 hown hK hP 0 rfl rfl 6 (by decide) (hts (.fieldLink RX16 154 "TimeMachineModel$Machine" "retired" "J") (List.mem_of_getElem? (i := 2) rfl)) (fun _ h9 => h9) rfl dX16_count_192 ?_
  exact K _ _ _ _ _ _ dX16_count_195 (Option.some.inj h).symm hP hD hS
set_option maxHeartbeats 40000000 in
set_option maxRecDepth 100000 in
theorem db_X16_count_182 {p : Program} {l : Launch} {e : Env} {s : State} {m : MethodId} {args : Array Value} {below : List Frame} {meth : Method} {c : Code} {Q : State → Prop} {A : Nat → Prop} {dC : Nat → ClassId} {dI : Nat → Nat → Nat} {a : Nat → Nat} {ac : Nat → ClassId} {n : Nat} {r : Int64 × (St × (St))} (C : nd_C p l s m args c A (dC, dI) cX16_count 4 RX16 ow_dm_X16_count (dk_X16 ac)) (K : nd_Kl p l e (headSpec ow_dm_X16_count ({ frames := 1, cells := 0, slots := 0, locals := 22 })).room s m args below meth c Q A (dC, dI) cX16_count (St × (St)) (dw_X16 a ac) r) : dj_X16_count_182 p l e s m args below meth c Q A dC dI a ac (df_X16_count_182 n) r := by
  obtain ⟨hlt, hx, hb, hml, hown, hts, hN, hA, hK⟩ := id C
  intro x2 s0 H locs ls h hP hD hS hl
  unfold df_X16_count_182 at h
  refine lv_iload_n hx hb dX16_count_182 rfl (lv_at hl 0 rfl) ?_
  refine lv_i2l hx hb dX16_count_183 rfl ?_
  exact K _ _ _ _ _ _ dX16_count_184 (Option.some.inj h).symm hP hD hS
set_option maxHeartbeats 40000000 in
set_option maxRecDepth 100000 in
theorem db_X16_count_85 {p : Program} {l : Launch} {e : Env} {s : State} {m : MethodId} {args : Array Value} {below : List Frame} {meth : Method} {c : Code} {Q : State → Prop} {A : Nat → Prop} {dC : Nat → ClassId} {dI : Nat → Nat → Nat} {a : Nat → Nat} {ac : Nat → ClassId} {n : Nat} {r : Int64 × (St × (St))} (C : nd_C p l s m args c A (dC, dI) cX16_count 4 RX16 ow_dm_X16_count (dk_X16 ac)) (K : nd_Kl p l e (headSpec ow_dm_X16_count ({ frames := 1, cells := 0, slots := 0, locals := 22 })).room s m args below meth c Q A (dC, dI) cX16_count (St × (St)) (dw_X16 a ac) r) : dj_X16_count_85 p l e s m args below meth c Q A dC dI a ac (df_X16_count_85 n) r := by
  obtain ⟨hlt, hx, hb, hml, hown, hts, hN, hA, hK⟩ := id C
  intro x1 x2 s0 H locs ls h hP hD hS hl
  unfold df_X16_count_85 at h
  refine lv_iload_n hx hb dX16_count_85 rfl (lv_at hl 1 rfl) ?_
  by_cases c3 : x1 = 2
  · have h := nd_pos h c3
    refine lv_tableIn (off := 62) (tgt := 148) hx hb dX16_count_86 (by rw [c3]; decide) (by rw [c3]; decide) (by rw [c3]; decide) (by decide) ?_
    refine lv_aload_n hx hb dX16_count_148 rfl (lv_at hl 0 rfl) ?_
    refine va_get (D := (dC, dI)) (ci := 17) (v := .int (sI s0.1 1)) (C := RX16) (T := TX16) (N := 56) hx hb hts hi_dm_X16_count_X16 hown hK hP 0 rfl rfl 2 (by decide) (hts (.fieldLink RX16 141 "TimeMachineModel$Machine" "current" "I") (List.mem_of_getElem? (i := 1) rfl)) (fun _ h9 => h9) rfl dX16_count_149 ?_
    refine lv_i2l hx hb dX16_count_152 rfl ?_
    exact K _ _ _ _ _ _ dX16_count_153 (Option.some.inj h).symm hP hD hS
  have h := nd_neg h c3
  by_cases c4 : x1 = 3
  · have h := nd_pos h c4
    refine lv_tableIn (off := 105) (tgt := 191) hx hb dX16_count_86 (by rw [c4]; decide) (by rw [c4]; decide) (by rw [c4]; decide) (by decide) ?_
    exact (db_X16_count_191 C K)  s0 _ _ _ h hP hD hS (lv_sub hl [0] rfl)
  have h := nd_neg h c4
  by_cases c5 : x1 = 4
  · have h := nd_pos h c5
    refine lv_tableIn (off := 105) (tgt := 191) hx hb dX16_count_86 (by rw [c5]; decide) (by rw [c5]; decide) (by rw [c5]; decide) (by decide) ?_
    exact (db_X16_count_191 C K)  s0 _ _ _ h hP hD hS (lv_sub hl [0] rfl)
  have h := nd_neg h c5
  by_cases c6 : x1 = 5
  · have h := nd_pos h c6
    refine lv_tableIn (off := 105) (tgt := 191) hx hb dX16_count_86 (by rw [c6]; decide) (by rw [c6]; decide) (by rw [c6]; decide) (by decide) ?_
    exact (db_X16_count_191 C K)  s0 _ _ _ h hP hD hS (lv_sub hl [0] rfl)
  have h := nd_neg h c6
  by_cases c7 : x1 = 6
  · have h := nd_pos h c7
    refine lv_tableIn (off := 68) (tgt := 154) hx hb dX16_count_86 (by rw [c7]; decide) (by rw [c7]; decide) (by rw [c7]; decide) (by decide) ?_
    refine lv_aload_n hx hb dX16_count_154 rfl (lv_at hl 0 rfl) ?_
    refine va_get (D := (dC, dI)) (ci := 17) (v := .long (sL s0.1 1)) (C := RX16) (T := TX16) (N := 56) hx hb hts hi_dm_X16_count_X16 hown hK hP 0 rfl rfl 7 (by decide) (hts (.fieldLink RX16 151 "TimeMachineModel$Machine" "clock" "J") (List.mem_of_getElem? (i := 3) rfl)) (fun _ h9 => h9) rfl dX16_count_155 ?_
    exact K _ _ _ _ _ _ dX16_count_158 (Option.some.inj h).symm hP hD hS
  have h := nd_neg h c7
  by_cases c8 : x1 = 7
  · have h := nd_pos h c8
    refine lv_tableIn (off := 73) (tgt := 159) hx hb dX16_count_86 (by rw [c8]; decide) (by rw [c8]; decide) (by rw [c8]; decide) (by decide) ?_
    refine lv_aload_n hx hb dX16_count_159 rfl (lv_at hl 0 rfl) ?_
    refine va_get (D := (dC, dI)) (ci := 17) (v := .int (sI s0.1 5)) (C := RX16) (T := TX16) (N := 56) hx hb hts hi_dm_X16_count_X16 hown hK hP 0 rfl rfl 9 (by decide) (hts (.fieldLink RX16 126 "TimeMachineModel$Machine" "waitingWords" "I") (List.mem_of_getElem? (i := 4) rfl)) (fun _ h9 => h9) rfl dX16_count_160 ?_
    refine lv_i2l hx hb dX16_count_163 rfl ?_
    exact K _ _ _ _ _ _ dX16_count_164 (Option.some.inj h).symm hP hD hS
  have h := nd_neg h c8
  by_cases c9 : x1 = 8
  · have h := nd_pos h c9
    refine lv_tableIn (off := 79) (tgt := 165) hx hb dX16_count_86 (by rw [c9]; decide) (by rw [c9]; decide) (by rw [c9]; decide) (by decide) ?_
    refine lv_aload_n hx hb dX16_count_165 rfl (lv_at hl 0 rfl) ?_
    refine va_get (D := (dC, dI)) (ci := 17) (v := .long (sL s0.1 2)) (C := RX16) (T := TX16) (N := 56) hx hb hts hi_dm_X16_count_X16 hown hK hP 0 rfl rfl 45 (by decide) (hts (.fieldLink RX16 147 "TimeMachineModel$Machine" "shown" "J") (List.mem_of_getElem? (i := 5) rfl)) (fun _ h9 => h9) rfl dX16_count_166 ?_
    exact K _ _ _ _ _ _ dX16_count_169 (Option.some.inj h).symm hP hD hS
  have h := nd_neg h c9
  by_cases c10 : x1 = 9
  · have h := nd_pos h c10
    refine lv_tableIn (off := 84) (tgt := 170) hx hb dX16_count_86 (by rw [c10]; decide) (by rw [c10]; decide) (by rw [c10]; decide) (by decide) ?_
    refine lv_aload_n hx hb dX16_count_170 rfl (lv_at hl 0 rfl) ?_
    refine va_get (D := (dC, dI)) (ci := 17) (v := .int (sI s0.1 7)) (C := RX16) (T := TX16) (N := 56) hx hb hts hi_dm_X16_count_X16 hown hK hP 0 rfl rfl 42 (by decide) (hts (.fieldLink RX16 122 "TimeMachineModel$Machine" "typed" "I") (List.mem_of_getElem? (i := 6) rfl)) (fun _ h9 => h9) rfl dX16_count_171 ?_
    refine lv_i2l hx hb dX16_count_174 rfl ?_
    exact K _ _ _ _ _ _ dX16_count_175 (Option.some.inj h).symm hP hD hS
  have h := nd_neg h c10
  by_cases c11 : x1 = 10
  · have h := nd_pos h c11
    refine lv_tableIn (off := 90) (tgt := 176) hx hb dX16_count_86 (by rw [c11]; decide) (by rw [c11]; decide) (by rw [c11]; decide) (by decide) ?_
    refine lv_aload_n hx hb dX16_count_176 rfl (lv_at hl 0 rfl) ?_
    refine va_get (D := (dC, dI)) (ci := 17) (v := .int (sI s0.1 6)) (C := RX16) (T := TX16) (N := 56) hx hb hts hi_dm_X16_count_X16 hown hK hP 0 rfl rfl 29 (by decide) (hts (.fieldLink RX16 129 "TimeMachineModel$Machine" "used" "I") (List.mem_of_getElem? (i := 7) rfl)) (fun _ h9 => h9) rfl dX16_count_177 ?_
    refine lv_i2l hx hb dX16_count_180 rfl ?_
    exact K _ _ _ _ _ _ dX16_count_181 (Option.some.inj h).symm hP hD hS
  have h := nd_neg h c11
  by_cases c12 : x1 = 11
  · have h := nd_pos h c12
    refine lv_tableIn (off := 96) (tgt := 182) hx hb dX16_count_86 (by rw [c12]; decide) (by rw [c12]; decide) (by rw [c12]; decide) (by decide) ?_
    exact (db_X16_count_182 C K) (x2) s0 _ _ _ h hP hD hS (lv_sub hl [2] rfl)
  have h := nd_neg h c12
  by_cases c13 : x1 = 12
  · have h := nd_pos h c13
    refine lv_tableIn (off := 96) (tgt := 182) hx hb dX16_count_86 (by rw [c13]; decide) (by rw [c13]; decide) (by rw [c13]; decide) (by decide) ?_
    exact (db_X16_count_182 C K) (x2) s0 _ _ _ h hP hD hS (lv_sub hl [2] rfl)
  have h := nd_neg h c13
  by_cases c14 : x1 = 13
  · have h := nd_pos h c14
    refine lv_tableIn (off := 99) (tgt := 185) hx hb dX16_count_86 (by rw [c14]; decide) (by rw [c14]; decide) (by rw [c14]; decide) (by decide) ?_
    refine lv_aload_n hx hb dX16_count_185 rfl (lv_at hl 0 rfl) ?_
    obtain ⟨q15, s16, hq, h⟩ := nd_b2_e h
    have hPc := hP
    have hDc := hD
    have hKc := hK
    have hFc := nd_rs hD hS hA
    refine nd_cVi (As := []) (rest := []) (q := q15) (w' := dw_X16 a ac s16) ⟨hx, hb, hml, hown, hts⟩ (fun sz => dm_X16_openings l hlt dC dI a ac n  s0 hq sz) (cwV 0 hts gi_dm_X16_count_0 rfl rfl rfl (by decide +kernel) ⟨Nat.le_of_ble_eq_true rfl, Nat.le_of_ble_eq_true rfl⟩) hPc hDc hKc hS hA hN (va_recv hKc hPc (ci := 17) (q0 := 0) rfl rfl) rfl hl.1 rfl (Nat.le_of_ble_eq_true rfl) dX16_count_186 (fun H locs hP1 hD1 hk1 hS => ?_)
    have hP := hP1
    have hD := hD1.weaken (fun k q _ h => hFc q.1 h)
    refine lv_i2l hx hb dX16_count_189 rfl ?_
    exact K _ _ _ _ _ _ dX16_count_190 (Option.some.inj h).symm hP hD hS
  have h := nd_neg h c14
  refine lv_tableOut (tgt := 191) hx hb dX16_count_86 (by have g0 := nv_nei c3 (k := 2) (by decide); have g1 := nv_nei c4 (k := 3) (by decide); have g2 := nv_nei c5 (k := 4) (by decide); have g3 := nv_nei c6 (k := 5) (by decide); have g4 := nv_nei c7 (k := 6) (by decide); have g5 := nv_nei c8 (k := 7) (by decide); have g6 := nv_nei c9 (k := 8) (by decide); have g7 := nv_nei c10 (k := 9) (by decide); have g8 := nv_nei c11 (k := 10) (by decide); have g9 := nv_nei c12 (k := 11) (by decide); have g10 := nv_nei c13 (k := 12) (by decide); have g11 := nv_nei c14 (k := 13) (by decide); omega) (by decide) ?_
  exact (db_X16_count_191 C K)  s0 _ _ _ h hP hD hS (lv_sub hl [0] rfl)
set_option maxHeartbeats 40000000 in
set_option maxRecDepth 100000 in
theorem db_X16_count_78 {p : Program} {l : Launch} {e : Env} {s : State} {m : MethodId} {args : Array Value} {below : List Frame} {meth : Method} {c : Code} {Q : State → Prop} {A : Nat → Prop} {dC : Nat → ClassId} {dI : Nat → Nat → Nat} {a : Nat → Nat} {ac : Nat → ClassId} {n : Nat} {r : Int64 × (St × (St))} (C : nd_C p l s m args c A (dC, dI) cX16_count 4 RX16 ow_dm_X16_count (dk_X16 ac)) (K : nd_Kl p l e (headSpec ow_dm_X16_count ({ frames := 1, cells := 0, slots := 0, locals := 22 })).room s m args below meth c Q A (dC, dI) cX16_count (St × (St)) (dw_X16 a ac) r) {g41 : Int32 → Int32 → Int32 → (St × (St)) → Option (Int64 × (St × (St)))} (J41 : dj_X16_count_41 p l e s m args below meth c Q A dC dI a ac g41 r) : dj_X16_count_78 p l e s m args below meth c Q A dC dI a ac (df_X16_count_78 n g41) r := by
  obtain ⟨hlt, hx, hb, hml, hown, hts, hN, hA, hK⟩ := id C
  intro x1 x3 y0 s0 H locs ls h hP hD hS hl
  unfold df_X16_count_78 at h
  refine lv_istore_n (lv' := [(2, .int y0), (0, .ref (a 0)), (1, .int x1), (3, .int x3)]) hx hb dX16_count_78 rfl hl (by decide) rfl (fun ls hl => ?_)
  obtain ⟨z21, ez21, h⟩ := nd_let_e h
  refine lv_iinc (v := z21) (lv' := [(3, .int z21), (2, .int y0), (0, .ref (a 0)), (1, .int x1)]) hx hb dX16_count_79 hl (k := 3) rfl (by rw [ez21]) (by decide) rfl (fun ls hl => ?_)
  refine lv_goto (tgt := 41) hx hb dX16_count_82 (by decide) ?_
  exact (J41) (x1) (y0) (z21) s0 _ _ _ h hP hD hS (lv_sub hl [2, 3, 1, 0] rfl)
set_option maxHeartbeats 40000000 in
set_option maxRecDepth 100000 in
theorem db_X16_count_77 {p : Program} {l : Launch} {e : Env} {s : State} {m : MethodId} {args : Array Value} {below : List Frame} {meth : Method} {c : Code} {Q : State → Prop} {A : Nat → Prop} {dC : Nat → ClassId} {dI : Nat → Nat → Nat} {a : Nat → Nat} {ac : Nat → ClassId} {n : Nat} {r : Int64 × (St × (St))} (C : nd_C p l s m args c A (dC, dI) cX16_count 4 RX16 ow_dm_X16_count (dk_X16 ac)) (K : nd_Kl p l e (headSpec ow_dm_X16_count ({ frames := 1, cells := 0, slots := 0, locals := 22 })).room s m args below meth c Q A (dC, dI) cX16_count (St × (St)) (dw_X16 a ac) r) {g41 : Int32 → Int32 → Int32 → (St × (St)) → Option (Int64 × (St × (St)))} (J41 : dj_X16_count_41 p l e s m args below meth c Q A dC dI a ac g41 r) : dj_X16_count_77 p l e s m args below meth c Q A dC dI a ac (df_X16_count_77 n g41) r := by
  obtain ⟨hlt, hx, hb, hml, hown, hts, hN, hA, hK⟩ := id C
  intro x1 x2 x3 s0 H locs ls h hP hD hS hl
  unfold df_X16_count_77 at h
  refine lv_iload_n hx hb dX16_count_77 rfl (lv_at hl 2 rfl) ?_
  exact (db_X16_count_78 C K J41) (x1) (x3) (x2) s0 _ _ _ h hP hD hS (lv_sub hl [0, 1, 3] rfl)
set_option maxHeartbeats 40000000 in
set_option maxRecDepth 100000 in
theorem dB_X16_count_41 {p : Program} {l : Launch} {e : Env} {s : State} {m : MethodId} {args : Array Value} {below : List Frame} {meth : Method} {c : Code} {Q : State → Prop} {A : Nat → Prop} {dC : Nat → ClassId} {dI : Nat → Nat → Nat} {a : Nat → Nat} {ac : Nat → ClassId} {n : Nat} {r : Int64 × (St × (St))} (C : nd_C p l s m args c A (dC, dI) cX16_count 4 RX16 ow_dm_X16_count (dk_X16 ac)) (K : nd_Kl p l e (headSpec ow_dm_X16_count ({ frames := 1, cells := 0, slots := 0, locals := 22 })).room s m args below meth c Q A (dC, dI) cX16_count (St × (St)) (dw_X16 a ac) r) {g41 : Int32 → Int32 → Int32 → (St × (St)) → Option (Int64 × (St × (St)))} (J41 : dj_X16_count_41 p l e s m args below meth c Q A dC dI a ac g41 r) : dj_X16_count_41 p l e s m args below meth c Q A dC dI a ac (dF_X16_count_41 n g41) r := by
  obtain ⟨hlt, hx, hb, hml, hown, hts, hN, hA, hK⟩ := id C
  intro x1 x2 x3 s0 H locs ls h hP hD hS hl
  unfold dF_X16_count_41 at h
  refine lv_iload_n hx hb dX16_count_41 rfl (lv_at hl 3 rfl) ?_
  refine lv_bipush (v := 16) hx hb dX16_count_42 (by decide) ?_
  refine lv_icmp_ge (tgt := 85) hx hb dX16_count_44 (by decide) (fun c2 => ?_) (fun c2 => ?_)
  · have h := nd_pos h c2
    exact (db_X16_count_85 C K) (x1) (x2) s0 _ _ _ h hP hD hS (lv_sub hl [0, 1, 2] rfl)
  · have h := nd_neg h c2
    refine lv_iload_n hx hb dX16_count_47 rfl (lv_at hl 1 rfl) ?_
    refine lv_bipush (v := 12) hx hb dX16_count_48 (by decide) ?_
    refine lv_icmp_ne (tgt := 85) hx hb dX16_count_50 (by decide) (fun c18 => ?_) (fun c18 => ?_)
    · have h := nd_neg h c18
      exact (db_X16_count_85 C K) (x1) (x2) s0 _ _ _ h hP hD hS (lv_sub hl [0, 1, 2] rfl)
    · have h := nd_pos h c18
      refine lv_aload_n hx hb dX16_count_53 rfl (lv_at hl 0 rfl) ?_
      refine va_get (D := (dC, dI)) (ci := 17) (v := .ref (a 26)) (C := RX16) (T := TX16) (N := 56) hx hb hts hi_dm_X16_count_X16 hown hK hP 0 rfl rfl 35 (by decide) (hts (.fieldLink RX16 88 "TimeMachineModel$Machine" "isFile" "[Z") (List.mem_of_getElem? (i := 12) rfl)) (fun _ h9 => h9) rfl dX16_count_54 ?_
      refine lv_iload_n hx hb dX16_count_57 rfl (lv_at hl 3 rfl) ?_
      obtain ⟨i19, h⟩ := nd_ck_e h
      refine va_zald (i := x3) hx hb hK hP 26 25 rfl rfl i19 dX16_count_58 ?_
      refine lv_if_eq (tgt := 77) hx hb dX16_count_59 (by decide) (fun c20 => ?_) (fun c20 => ?_)
      · have h := nd_pos h c20
        exact (db_X16_count_77 C K J41) (x1) (x2) (x3) s0 _ _ _ h hP hD hS (lv_sub hl [0, 1, 2, 3] rfl)
      · have h := nd_neg h c20
        refine lv_aload_n hx hb dX16_count_62 rfl (lv_at hl 0 rfl) ?_
        refine va_get (D := (dC, dI)) (ci := 17) (v := .ref (a 27)) (C := RX16) (T := TX16) (N := 56) hx hb hts hi_dm_X16_count_X16 hown hK hP 0 rfl rfl 36 (by decide) (hts (.fieldLink RX16 91 "TimeMachineModel$Machine" "isNamed" "[Z") (List.mem_of_getElem? (i := 13) rfl)) (fun _ h9 => h9) rfl dX16_count_63 ?_
        refine lv_iload_n hx hb dX16_count_66 rfl (lv_at hl 3 rfl) ?_
        obtain ⟨i22, h⟩ := nd_ck_e h
        refine va_zald (i := x3) hx hb hK hP 27 26 rfl rfl i22 dX16_count_67 ?_
        refine lv_if_eq (tgt := 77) hx hb dX16_count_68 (by decide) (fun c23 => ?_) (fun c23 => ?_)
        · have h := nd_pos h c23
          exact (db_X16_count_77 C K J41) (x1) (x2) (x3) s0 _ _ _ h hP hD hS (lv_sub hl [0, 1, 2, 3] rfl)
        · have h := nd_neg h c23
          refine lv_iload_n hx hb dX16_count_71 rfl (lv_at hl 2 rfl) ?_
          refine lv_iconst (v := 1) hx hb dX16_count_72 (by decide) ?_
          refine lv_iadd hx hb dX16_count_73 ?_
          refine lv_goto (tgt := 78) hx hb dX16_count_74 (by decide) ?_
          exact (db_X16_count_78 C K J41) (x1) (x3) ((x2 + 1)) s0 _ _ _ h hP hD hS (lv_sub hl [0, 1, 3] rfl)
set_option maxHeartbeats 40000000 in
set_option maxRecDepth 100000 in
theorem db_X16_count_41 {p : Program} {l : Launch} {e : Env} {s : State} {m : MethodId} {args : Array Value} {below : List Frame} {meth : Method} {c : Code} {Q : State → Prop} {A : Nat → Prop} {dC : Nat → ClassId} {dI : Nat → Nat → Nat} {a : Nat → Nat} {ac : Nat → ClassId} {n : Nat} {r : Int64 × (St × (St))} (C : nd_C p l s m args c A (dC, dI) cX16_count 4 RX16 ow_dm_X16_count (dk_X16 ac)) (K : nd_Kl p l e (headSpec ow_dm_X16_count ({ frames := 1, cells := 0, slots := 0, locals := 22 })).room s m args below meth c Q A (dC, dI) cX16_count (St × (St)) (dw_X16 a ac) r) (k : Nat) : dj_X16_count_41 p l e s m args below meth c Q A dC dI a ac (df_X16_count_41 n k) r := by
  induction k with
  | zero => intro x1 x2 x3 s0 H locs ls h; exact nomatch (show (none : Option (Int64 × (St × (St)))) = some r from h)
  | succ k ih => exact dB_X16_count_41 C K ih
set_option maxHeartbeats 40000000 in
set_option maxRecDepth 100000 in
theorem db_X16_count_39 {p : Program} {l : Launch} {e : Env} {s : State} {m : MethodId} {args : Array Value} {below : List Frame} {meth : Method} {c : Code} {Q : State → Prop} {A : Nat → Prop} {dC : Nat → ClassId} {dI : Nat → Nat → Nat} {a : Nat → Nat} {ac : Nat → ClassId} {n : Nat} {r : Int64 × (St × (St))} (C : nd_C p l s m args c A (dC, dI) cX16_count 4 RX16 ow_dm_X16_count (dk_X16 ac)) (K : nd_Kl p l e (headSpec ow_dm_X16_count ({ frames := 1, cells := 0, slots := 0, locals := 22 })).room s m args below meth c Q A (dC, dI) cX16_count (St × (St)) (dw_X16 a ac) r) : dj_X16_count_39 p l e s m args below meth c Q A dC dI a ac (df_X16_count_39 n) r := by
  obtain ⟨hlt, hx, hb, hml, hown, hts, hN, hA, hK⟩ := id C
  intro x1 x2 s0 H locs ls h hP hD hS hl
  unfold df_X16_count_39 at h
  refine lv_iconst (v := 0) hx hb dX16_count_39 (by decide) ?_
  refine lv_istore_n (lv' := [(3, .int 0), (0, .ref (a 0)), (1, .int x1), (2, .int x2)]) hx hb dX16_count_40 rfl hl (by decide) rfl (fun ls hl => ?_)
  exact (db_X16_count_41 C K n) (x1) (x2) (0) s0 _ _ _ h hP hD hS (lv_sub hl [1, 2, 3, 0] rfl)
set_option maxHeartbeats 40000000 in
set_option maxRecDepth 100000 in
theorem db_X16_count_32 {p : Program} {l : Launch} {e : Env} {s : State} {m : MethodId} {args : Array Value} {below : List Frame} {meth : Method} {c : Code} {Q : State → Prop} {A : Nat → Prop} {dC : Nat → ClassId} {dI : Nat → Nat → Nat} {a : Nat → Nat} {ac : Nat → ClassId} {n : Nat} {r : Int64 × (St × (St))} (C : nd_C p l s m args c A (dC, dI) cX16_count 4 RX16 ow_dm_X16_count (dk_X16 ac)) (K : nd_Kl p l e (headSpec ow_dm_X16_count ({ frames := 1, cells := 0, slots := 0, locals := 22 })).room s m args below meth c Q A (dC, dI) cX16_count (St × (St)) (dw_X16 a ac) r) {g4 : Int32 → Int32 → Int32 → (St × (St)) → Option (Int64 × (St × (St)))} (J4 : dj_X16_count_4 p l e s m args below meth c Q A dC dI a ac g4 r) : dj_X16_count_32 p l e s m args below meth c Q A dC dI a ac (df_X16_count_32 n g4) r := by
  obtain ⟨hlt, hx, hb, hml, hown, hts, hN, hA, hK⟩ := id C
  intro x1 x3 y0 s0 H locs ls h hP hD hS hl
  unfold df_X16_count_32 at h
  refine lv_istore_n (lv' := [(2, .int y0), (0, .ref (a 0)), (1, .int x1), (3, .int x3)]) hx hb dX16_count_32 rfl hl (by decide) rfl (fun ls hl => ?_)
  obtain ⟨z27, ez27, h⟩ := nd_let_e h
  refine lv_iinc (v := z27) (lv' := [(3, .int z27), (2, .int y0), (0, .ref (a 0)), (1, .int x1)]) hx hb dX16_count_33 hl (k := 3) rfl (by rw [ez27]) (by decide) rfl (fun ls hl => ?_)
  refine lv_goto (tgt := 4) hx hb dX16_count_36 (by decide) ?_
  exact (J4) (x1) (y0) (z27) s0 _ _ _ h hP hD hS (lv_sub hl [2, 3, 1, 0] rfl)
set_option maxHeartbeats 40000000 in
set_option maxRecDepth 100000 in
theorem dB_X16_count_4 {p : Program} {l : Launch} {e : Env} {s : State} {m : MethodId} {args : Array Value} {below : List Frame} {meth : Method} {c : Code} {Q : State → Prop} {A : Nat → Prop} {dC : Nat → ClassId} {dI : Nat → Nat → Nat} {a : Nat → Nat} {ac : Nat → ClassId} {n : Nat} {r : Int64 × (St × (St))} (C : nd_C p l s m args c A (dC, dI) cX16_count 4 RX16 ow_dm_X16_count (dk_X16 ac)) (K : nd_Kl p l e (headSpec ow_dm_X16_count ({ frames := 1, cells := 0, slots := 0, locals := 22 })).room s m args below meth c Q A (dC, dI) cX16_count (St × (St)) (dw_X16 a ac) r) {g4 : Int32 → Int32 → Int32 → (St × (St)) → Option (Int64 × (St × (St)))} (J4 : dj_X16_count_4 p l e s m args below meth c Q A dC dI a ac g4 r) : dj_X16_count_4 p l e s m args below meth c Q A dC dI a ac (dF_X16_count_4 n g4) r := by
  obtain ⟨hlt, hx, hb, hml, hown, hts, hN, hA, hK⟩ := id C
  intro x1 x2 x3 s0 H locs ls h hP hD hS hl
  unfold dF_X16_count_4 at h
  refine lv_iload_n hx hb dX16_count_4 rfl (lv_at hl 3 rfl) ?_
  refine lv_bipush (v := 16) hx hb dX16_count_5 (by decide) ?_
  refine lv_icmp_ge (tgt := 39) hx hb dX16_count_7 (by decide) (fun c1 => ?_) (fun c1 => ?_)
  · have h := nd_pos h c1
    exact (db_X16_count_39 C K) (x1) (x2) s0 _ _ _ h hP hD hS (lv_sub hl [0, 1, 2] rfl)
  · have h := nd_neg h c1
    refine lv_iload_n hx hb dX16_count_10 rfl (lv_at hl 1 rfl) ?_
    refine lv_bipush (v := 11) hx hb dX16_count_11 (by decide) ?_
    refine lv_icmp_ne (tgt := 39) hx hb dX16_count_13 (by decide) (fun c24 => ?_) (fun c24 => ?_)
    · have h := nd_neg h c24
      exact (db_X16_count_39 C K) (x1) (x2) s0 _ _ _ h hP hD hS (lv_sub hl [0, 1, 2] rfl)
    · have h := nd_pos h c24
      refine lv_aload_n hx hb dX16_count_16 rfl (lv_at hl 0 rfl) ?_
      refine va_get (D := (dC, dI)) (ci := 17) (v := .ref (a 2)) (C := RX16) (T := TX16) (N := 56) hx hb hts hi_dm_X16_count_X16 hown hK hP 0 rfl rfl 10 (by decide) (hts (.fieldLink RX16 13 "TimeMachineModel$Machine" "state" "[I") (List.mem_of_getElem? (i := 14) rfl)) (fun _ h9 => h9) rfl dX16_count_17 ?_
      refine lv_iload_n hx hb dX16_count_20 rfl (lv_at hl 3 rfl) ?_
      obtain ⟨i25, h⟩ := nd_ck_e h
      refine va_iald (i := x3) hx hb hK hP 2 1 rfl rfl i25 dX16_count_21 ?_
      refine lv_if_ne (tgt := 29) hx hb dX16_count_22 (by decide) (fun c26 => ?_) (fun c26 => ?_)
      · have h := nd_neg h c26
        refine lv_iload_n hx hb dX16_count_29 rfl (lv_at hl 2 rfl) ?_
        refine lv_iconst (v := 1) hx hb dX16_count_30 (by decide) ?_
        refine lv_iadd hx hb dX16_count_31 ?_
        exact (db_X16_count_32 C K J4) (x1) (x3) ((x2 + 1)) s0 _ _ _ h hP hD hS (lv_sub hl [0, 1, 3] rfl)
      · have h := nd_pos h c26
        refine lv_iload_n hx hb dX16_count_25 rfl (lv_at hl 2 rfl) ?_
        refine lv_goto (tgt := 32) hx hb dX16_count_26 (by decide) ?_
        exact (db_X16_count_32 C K J4) (x1) (x3) (x2) s0 _ _ _ h hP hD hS (lv_sub hl [0, 1, 3] rfl)
set_option maxHeartbeats 40000000 in
set_option maxRecDepth 100000 in
theorem db_X16_count_4 {p : Program} {l : Launch} {e : Env} {s : State} {m : MethodId} {args : Array Value} {below : List Frame} {meth : Method} {c : Code} {Q : State → Prop} {A : Nat → Prop} {dC : Nat → ClassId} {dI : Nat → Nat → Nat} {a : Nat → Nat} {ac : Nat → ClassId} {n : Nat} {r : Int64 × (St × (St))} (C : nd_C p l s m args c A (dC, dI) cX16_count 4 RX16 ow_dm_X16_count (dk_X16 ac)) (K : nd_Kl p l e (headSpec ow_dm_X16_count ({ frames := 1, cells := 0, slots := 0, locals := 22 })).room s m args below meth c Q A (dC, dI) cX16_count (St × (St)) (dw_X16 a ac) r) (k : Nat) : dj_X16_count_4 p l e s m args below meth c Q A dC dI a ac (df_X16_count_4 n k) r := by
  induction k with
  | zero => intro x1 x2 x3 s0 H locs ls h; exact nomatch (show (none : Option (Int64 × (St × (St)))) = some r from h)
  | succ k ih => exact dB_X16_count_4 C K ih
set_option maxHeartbeats 40000000 in
set_option maxRecDepth 100000 in
theorem db_X16_count_0 {p : Program} {l : Launch} {e : Env} {s : State} {m : MethodId} {args : Array Value} {below : List Frame} {meth : Method} {c : Code} {Q : State → Prop} {A : Nat → Prop} {dC : Nat → ClassId} {dI : Nat → Nat → Nat} {a : Nat → Nat} {ac : Nat → ClassId} {n : Nat} {r : Int64 × (St × (St))} (C : nd_C p l s m args c A (dC, dI) cX16_count 4 RX16 ow_dm_X16_count (dk_X16 ac)) (K : nd_Kl p l e (headSpec ow_dm_X16_count ({ frames := 1, cells := 0, slots := 0, locals := 22 })).room s m args below meth c Q A (dC, dI) cX16_count (St × (St)) (dw_X16 a ac) r) : dj_X16_count_0 p l e s m args below meth c Q A dC dI a ac (df_X16_count_0 n) r := by
  obtain ⟨hlt, hx, hb, hml, hown, hts, hN, hA, hK⟩ := id C
  intro v0 s0 H locs ls h hP hD hS hl
  unfold df_X16_count_0 at h
  refine lv_iconst (v := 0) hx hb dX16_count_0 (by decide) ?_
  refine lv_istore_n (lv' := [(2, .int 0), (0, .ref (a 0)), (1, .int v0)]) hx hb dX16_count_1 rfl hl (by decide) rfl (fun ls hl => ?_)
  refine lv_iconst (v := 0) hx hb dX16_count_2 (by decide) ?_
  refine lv_istore_n (lv' := [(3, .int 0), (2, .int 0), (0, .ref (a 0)), (1, .int v0)]) hx hb dX16_count_3 rfl hl (by decide) rfl (fun ls hl => ?_)
  exact (db_X16_count_4 C K n) (v0) (0) (0) s0 _ _ _ h hP hD hS (lv_sub hl [2, 3, 1, 0] rfl)
set_option maxHeartbeats 40000000 in
set_option maxRecDepth 100000 in
theorem dm_X16_count (l : Launch) (hlt : l.stackTraces = false) (dC : Nat → ClassId) (dI : Nat → Nat → Nat) (a : Nat → Nat) (ac : Nat → ClassId) (n : Nat) (v0 : Int32) (s0 : St × (St)) {r : Int64 × (St × (St))} (h : df_X16_count n v0 s0 = some r) (sz : Nat) : Met l yX16_count ow_dm_X16_count ({ frames := 1, cells := 0, slots := 0, locals := 22 }) (va_Pc [.ref (a 0), .int v0] (fun U => U.heap.size = sz ∧ va_P (dC, dI) vwCl (dw_X16 a ac s0) U.heap ∧ va_K (dC, dI) vwCl (dk_X16 ac) U ∧ va_D (fun _ => True) (dw_X16 a ac s0) ∧ nv_E dI (va_A (dw_X16 a ac s0) sz) U)) (va_Ql (fun x _ => x = r.1) (fun (_ : Unit) t => va_P (dC, dI) vwCl (dw_X16 a ac r.2) t.heap ∧ va_K (dC, dI) vwCl (dk_X16 ac) t ∧ va_D (va_A (dw_X16 a ac s0) sz) (dw_X16 a ac r.2)) (va_A (dw_X16 a ac s0) sz)) 0 0 (va_A (dw_X16 a ac s0) sz) := by
  refine Met.ofW (cc := cX16_count) (maxL := 4) (ret := (some .long)) (by decide) rfl ?_
  intro p e s m args below meth c s₁ B hml hv
  obtain ⟨rfl, hsz, hP, hK, hD0, hN⟩ := hv
  have hx := B.exec
  have hb := B.bytes
  have hr := B.returns
  have hts := atoms_spec (ws := ow_dm_X16_count) B.pre
  have hown : s.vm.findClass RX16 = some m.cls := findClass_of_methodNamed B.named
  have hlocks := B.notSynchronized
  subst hsz
  have hD := hD0.self (sz := s.heap.size)
  generalize hAe : va_A (dw_X16 a ac s0) s.heap.size = A at hD hN ⊢
  have hA : ∀ q : Nat, s.heap.size ≤ q → A q := fun q h => by rw [← hAe]; exact Or.inr h
  have hl := lv_entry ([.ref (a 0), .int v0]) (n := 4) (Nat.le_of_ble_eq_true rfl)
  rw [lg_entry_eq]
  generalize (lg_sl ([.ref (a 0), .int v0]) ++ List.replicate (4 - (lg_sl ([.ref (a 0), .int v0])).length) Slot.unset).toArray = ls at hl ⊢
  have hl : lv_has ls 4 [(0, .ref (a 0)), (1, .int v0)] := hl
  exact db_X16_count_0 (dC := dC) (dI := dI) (a := a) (ac := ac) (n := n) (r := r) ⟨hlt, hx, hb, hml, hown, hts, hN, hA, hK⟩ (fun pc v τ H locs ls d er hP hD hS => by subst er; exact W.lret (v := v) hx hb hr (fun t ht hW => ⟨⟨v, (), rfl, rfl, by rw [ht]; exact hP, va_K.moved hW.alike hK, hD⟩, hS.F ht⟩) hS.2.2 d) v0 s0 _ _ _ h hP hD va_S.rf (lv_sub hl [0, 1] rfl)
def ow_dm_X16_isWaiting : List Cond := Cond.code yX16_isWaiting cX16_isWaiting 3 (some .boolean) :: ([Cond.fieldLink RX16 13 "TimeMachineModel$Machine" "state" "[I"] ++ (u_ws RX16 TX16 56 ++ []))
theorem gd_dm_X16_isWaiting : ∀ w ∈ ow_dm_X16_isWaiting, (w.onTables && w.keeps) = true ∨ ∃ ty, w = Cond.arrayClass ty := List.forall_mem_cons.mpr ⟨good_of_word rfl, List.forall_mem_append.mpr ⟨fun w h => good_of_word (List.all_eq_true.mp (by decide +kernel) w h), List.forall_mem_append.mpr ⟨gu_X16, fun _ h => nomatch h⟩⟩⟩
theorem hi_dm_X16_isWaiting_X16 : ∀ w ∈ u_ws RX16 TX16 56, w ∈ ow_dm_X16_isWaiting := fun w h => List.mem_cons_of_mem _ (List.mem_append_right _ (List.mem_append_left _ h))
def dj_X16_isWaiting_29 (p : Program) (l : Launch) (e : Env) (s : State) (m : MethodId) (args : Array Value) (below : List Frame) (meth : Method) (c : Code) (Q : State → Prop) (A : Nat → Prop) (dC : Nat → ClassId) (dI : Nat → Nat → Nat) (a : Nat → Nat) (ac : Nat → ClassId) (g : Int32 → Int32 → (St × (St)) → Option (Int32 × (St × (St)))) (r : Int32 × (St × (St))) : Prop := ∀ (x2 : Int32) (y0 : Int32) (s0 : St × (St)) (H : Heap) (locs : List Loc) (ls : Array Slot), g x2 y0 s0 = some r → va_P (dC, dI) vwCl (dw_X16 a ac s0) H → va_D A (dw_X16 a ac s0) → va_S A s.heap H locs → lv_has ls 3 [(0, .ref (a 0)), (2, .int x2)] → W p l e (headSpec ow_dm_X16_isWaiting ({ frames := 0, cells := 0, slots := 0, locals := 0 })).room s m args below meth c H locs 0 0 Q (F0 m 29 ls [.int y0])
def dj_X16_isWaiting_24 (p : Program) (l : Launch) (e : Env) (s : State) (m : MethodId) (args : Array Value) (below : List Frame) (meth : Method) (c : Code) (Q : State → Prop) (A : Nat → Prop) (dC : Nat → ClassId) (dI : Nat → Nat → Nat) (a : Nat → Nat) (ac : Nat → ClassId) (g : Int32 → (St × (St)) → Option (Int32 × (St × (St)))) (r : Int32 × (St × (St))) : Prop := ∀ (x2 : Int32) (s0 : St × (St)) (H : Heap) (locs : List Loc) (ls : Array Slot), g x2 s0 = some r → va_P (dC, dI) vwCl (dw_X16 a ac s0) H → va_D A (dw_X16 a ac s0) → va_S A s.heap H locs → lv_has ls 3 [(0, .ref (a 0)), (2, .int x2)] → W p l e (headSpec ow_dm_X16_isWaiting ({ frames := 0, cells := 0, slots := 0, locals := 0 })).room s m args below meth c H locs 0 0 Q (F0 m 24 ls [])
def dj_X16_isWaiting_4 (p : Program) (l : Launch) (e : Env) (s : State) (m : MethodId) (args : Array Value) (below : List Frame) (meth : Method) (c : Code) (Q : State → Prop) (A : Nat → Prop) (dC : Nat → ClassId) (dI : Nat → Nat → Nat) (a : Nat → Nat) (ac : Nat → ClassId) (g : Int32 → Int32 → (St × (St)) → Option (Int32 × (St × (St)))) (r : Int32 × (St × (St))) : Prop := ∀ (x1 : Int32) (x2 : Int32) (s0 : St × (St)) (H : Heap) (locs : List Loc) (ls : Array Slot), g x1 x2 s0 = some r → va_P (dC, dI) vwCl (dw_X16 a ac s0) H → va_D A (dw_X16 a ac s0) → va_S A s.heap H locs → lv_has ls 3 [(0, .ref (a 0)), (1, .int x1), (2, .int x2)] → W p l e (headSpec ow_dm_X16_isWaiting ({ frames := 0, cells := 0, slots := 0, locals := 0 })).room s m args below meth c H locs 0 0 Q (F0 m 4 ls [])
def dj_X16_isWaiting_0 (p : Program) (l : Launch) (e : Env) (s : State) (m : MethodId) (args : Array Value) (below : List Frame) (meth : Method) (c : Code) (Q : State → Prop) (A : Nat → Prop) (dC : Nat → ClassId) (dI : Nat → Nat → Nat) (a : Nat → Nat) (ac : Nat → ClassId) (g : (St × (St)) → Option (Int32 × (St × (St)))) (r : Int32 × (St × (St))) : Prop := ∀ (s0 : St × (St)) (H : Heap) (locs : List Loc) (ls : Array Slot), g s0 = some r → va_P (dC, dI) vwCl (dw_X16 a ac s0) H → va_D A (dw_X16 a ac s0) → va_S A s.heap H locs → lv_has ls 3 [(0, .ref (a 0))] → W p l e (headSpec ow_dm_X16_isWaiting ({ frames := 0, cells := 0, slots := 0, locals := 0 })).room s m args below meth c H locs 0 0 Q (F0 m 0 ls [])
set_option maxHeartbeats 40000000 in
set_option maxRecDepth 100000 in
theorem db_X16_isWaiting_29 {p : Program} {l : Launch} {e : Env} {s : State} {m : MethodId} {args : Array Value} {below : List Frame} {meth : Method} {c : Code} {Q : State → Prop} {A : Nat → Prop} {dC : Nat → ClassId} {dI : Nat → Nat → Nat} {a : Nat → Nat} {ac : Nat → ClassId} {n : Nat} {r : Int32 × (St × (St))} (C : nd_C p l s m args c A (dC, dI) cX16_isWaiting 3 RX16 ow_dm_X16_isWaiting (dk_X16 ac)) (K : nd_Ki p l e (headSpec ow_dm_X16_isWaiting ({ frames := 0, cells := 0, slots := 0, locals := 0 })).room s m args below meth c Q A (dC, dI) cX16_isWaiting .boolean (St × (St)) (dw_X16 a ac) r) {g4 : Int32 → Int32 → (St × (St)) → Option (Int32 × (St × (St)))} (J4 : dj_X16_isWaiting_4 p l e s m args below meth c Q A dC dI a ac g4 r) : dj_X16_isWaiting_29 p l e s m args below meth c Q A dC dI a ac (df_X16_isWaiting_29 n g4) r := by
  obtain ⟨hlt, hx, hb, hml, hown, hts, hN, hA, hK⟩ := id C
  intro x2 y0 s0 H locs ls h hP hD hS hl
  unfold df_X16_isWaiting_29 at h
  refine lv_istore_n (lv' := [(1, .int y0), (0, .ref (a 0)), (2, .int x2)]) hx hb dX16_isWaiting_29 rfl hl (by decide) rfl (fun ls hl => ?_)
  obtain ⟨z4, ez4, h⟩ := nd_let_e h
  refine lv_iinc (v := z4) (lv' := [(2, .int z4), (1, .int y0), (0, .ref (a 0))]) hx hb dX16_isWaiting_30 hl (k := 2) rfl (by rw [ez4]) (by decide) rfl (fun ls hl => ?_)
  refine lv_goto (tgt := 4) hx hb dX16_isWaiting_33 (by decide) ?_
  exact (J4) (y0) (z4) s0 _ _ _ h hP hD hS (lv_sub hl [2, 1, 0] rfl)
set_option maxHeartbeats 40000000 in
set_option maxRecDepth 100000 in
theorem db_X16_isWaiting_24 {p : Program} {l : Launch} {e : Env} {s : State} {m : MethodId} {args : Array Value} {below : List Frame} {meth : Method} {c : Code} {Q : State → Prop} {A : Nat → Prop} {dC : Nat → ClassId} {dI : Nat → Nat → Nat} {a : Nat → Nat} {ac : Nat → ClassId} {n : Nat} {r : Int32 × (St × (St))} (C : nd_C p l s m args c A (dC, dI) cX16_isWaiting 3 RX16 ow_dm_X16_isWaiting (dk_X16 ac)) (K : nd_Ki p l e (headSpec ow_dm_X16_isWaiting ({ frames := 0, cells := 0, slots := 0, locals := 0 })).room s m args below meth c Q A (dC, dI) cX16_isWaiting .boolean (St × (St)) (dw_X16 a ac) r) {g4 : Int32 → Int32 → (St × (St)) → Option (Int32 × (St × (St)))} (J4 : dj_X16_isWaiting_4 p l e s m args below meth c Q A dC dI a ac g4 r) : dj_X16_isWaiting_24 p l e s m args below meth c Q A dC dI a ac (df_X16_isWaiting_24 n g4) r := by
  obtain ⟨hlt, hx, hb, hml, hown, hts, hN, hA, hK⟩ := id C
  intro x2 s0 H locs ls h hP hD hS hl
  unfold df_X16_isWaiting_24 at h
  refine lv_iconst (v := 1) hx hb dX16_isWaiting_24 (by decide) ?_
  refine lv_goto (tgt := 29) hx hb dX16_isWaiting_25 (by decide) ?_
  exact (db_X16_isWaiting_29 C K J4) (x2) (1) s0 _ _ _ h hP hD hS (lv_sub hl [0, 1] rfl)
set_option maxHeartbeats 40000000 in
set_option maxRecDepth 100000 in
theorem dB_X16_isWaiting_4 {p : Program} {l : Launch} {e : Env} {s : State} {m : MethodId} {args : Array Value} {below : List Frame} {meth : Method} {c : Code} {Q : State → Prop} {A : Nat → Prop} {dC : Nat → ClassId} {dI : Nat → Nat → Nat} {a : Nat → Nat} {ac : Nat → ClassId} {n : Nat} {r : Int32 × (St × (St))} (C : nd_C p l s m args c A (dC, dI) cX16_isWaiting 3 RX16 ow_dm_X16_isWaiting (dk_X16 ac)) (K : nd_Ki p l e (headSpec ow_dm_X16_isWaiting ({ frames := 0, cells := 0, slots := 0, locals := 0 })).room s m args below meth c Q A (dC, dI) cX16_isWaiting .boolean (St × (St)) (dw_X16 a ac) r) {g4 : Int32 → Int32 → (St × (St)) → Option (Int32 × (St × (St)))} (J4 : dj_X16_isWaiting_4 p l e s m args below meth c Q A dC dI a ac g4 r) : dj_X16_isWaiting_4 p l e s m args below meth c Q A dC dI a ac (dF_X16_isWaiting_4 n g4) r := by
  obtain ⟨hlt, hx, hb, hml, hown, hts, hN, hA, hK⟩ := id C
  intro x1 x2 s0 H locs ls h hP hD hS hl
  unfold dF_X16_isWaiting_4 at h
  refine lv_iload_n hx hb dX16_isWaiting_4 rfl (lv_at hl 2 rfl) ?_
  refine lv_bipush (v := 16) hx hb dX16_isWaiting_5 (by decide) ?_
  refine lv_icmp_ge (tgt := 36) hx hb dX16_isWaiting_7 (by decide) (fun c1 => ?_) (fun c1 => ?_)
  · have h := nd_pos h c1
    refine lv_iload_n hx hb dX16_isWaiting_36 rfl (lv_at hl 1 rfl) ?_
    obtain ⟨n2, h⟩ := nd_z_e ⟨_, rfl⟩ h
    exact K _ _ _ _ _ _ dX16_isWaiting_37 n2 (Option.some.inj h).symm hP hD hS
  · have h := nd_neg h c1
    refine lv_iload_n hx hb dX16_isWaiting_10 rfl (lv_at hl 1 rfl) ?_
    refine lv_if_ne (tgt := 24) hx hb dX16_isWaiting_11 (by decide) (fun c3 => ?_) (fun c3 => ?_)
    · have h := nd_neg h c3
      exact (db_X16_isWaiting_24 C K J4) (x2) s0 _ _ _ h hP hD hS (lv_sub hl [0, 2] rfl)
    · have h := nd_pos h c3
      refine lv_aload_n hx hb dX16_isWaiting_14 rfl (lv_at hl 0 rfl) ?_
      refine va_get (D := (dC, dI)) (ci := 17) (v := .ref (a 2)) (C := RX16) (T := TX16) (N := 56) hx hb hts hi_dm_X16_isWaiting_X16 hown hK hP 0 rfl rfl 10 (by decide) (hts (.fieldLink RX16 13 "TimeMachineModel$Machine" "state" "[I") (List.mem_of_getElem? (i := 1) rfl)) (fun _ h9 => h9) rfl dX16_isWaiting_15 ?_
      refine lv_iload_n hx hb dX16_isWaiting_18 rfl (lv_at hl 2 rfl) ?_
      obtain ⟨i5, h⟩ := nd_ck_e h
      refine va_iald (i := x2) hx hb hK hP 2 1 rfl rfl i5 dX16_isWaiting_19 ?_
      refine lv_iconst (v := 2) hx hb dX16_isWaiting_20 (by decide) ?_
      refine lv_icmp_ne (tgt := 28) hx hb dX16_isWaiting_21 (by decide) (fun c6 => ?_) (fun c6 => ?_)
      · have h := nd_neg h c6
        refine lv_iconst (v := 0) hx hb dX16_isWaiting_28 (by decide) ?_
        exact (db_X16_isWaiting_29 C K J4) (x2) (0) s0 _ _ _ h hP hD hS (lv_sub hl [0, 2] rfl)
      · have h := nd_pos h c6
        exact (db_X16_isWaiting_24 C K J4) (x2) s0 _ _ _ h hP hD hS (lv_sub hl [0, 2] rfl)
set_option maxHeartbeats 40000000 in
set_option maxRecDepth 100000 in
theorem db_X16_isWaiting_4 {p : Program} {l : Launch} {e : Env} {s : State} {m : MethodId} {args : Array Value} {below : List Frame} {meth : Method} {c : Code} {Q : State → Prop} {A : Nat → Prop} {dC : Nat → ClassId} {dI : Nat → Nat → Nat} {a : Nat → Nat} {ac : Nat → ClassId} {n : Nat} {r : Int32 × (St × (St))} (C : nd_C p l s m args c A (dC, dI) cX16_isWaiting 3 RX16 ow_dm_X16_isWaiting (dk_X16 ac)) (K : nd_Ki p l e (headSpec ow_dm_X16_isWaiting ({ frames := 0, cells := 0, slots := 0, locals := 0 })).room s m args below meth c Q A (dC, dI) cX16_isWaiting .boolean (St × (St)) (dw_X16 a ac) r) (k : Nat) : dj_X16_isWaiting_4 p l e s m args below meth c Q A dC dI a ac (df_X16_isWaiting_4 n k) r := by
  induction k with
  | zero => intro x1 x2 s0 H locs ls h; exact nomatch (show (none : Option (Int32 × (St × (St)))) = some r from h)
  | succ k ih => exact dB_X16_isWaiting_4 C K ih
set_option maxHeartbeats 40000000 in
set_option maxRecDepth 100000 in
theorem db_X16_isWaiting_0 {p : Program} {l : Launch} {e : Env} {s : State} {m : MethodId} {args : Array Value} {below : List Frame} {meth : Method} {c : Code} {Q : State → Prop} {A : Nat → Prop} {dC : Nat → ClassId} {dI : Nat → Nat → Nat} {a : Nat → Nat} {ac : Nat → ClassId} {n : Nat} {r : Int32 × (St × (St))} (C : nd_C p l s m args c A (dC, dI) cX16_isWaiting 3 RX16 ow_dm_X16_isWaiting (dk_X16 ac)) (K : nd_Ki p l e (headSpec ow_dm_X16_isWaiting ({ frames := 0, cells := 0, slots := 0, locals := 0 })).room s m args below meth c Q A (dC, dI) cX16_isWaiting .boolean (St × (St)) (dw_X16 a ac) r) : dj_X16_isWaiting_0 p l e s m args below meth c Q A dC dI a ac (df_X16_isWaiting_0 n) r := by
  obtain ⟨hlt, hx, hb, hml, hown, hts, hN, hA, hK⟩ := id C
  intro s0 H locs ls h hP hD hS hl
  unfold df_X16_isWaiting_0 at h
  refine lv_iconst (v := 0) hx hb dX16_isWaiting_0 (by decide) ?_
  refine lv_istore_n (lv' := [(1, .int 0), (0, .ref (a 0))]) hx hb dX16_isWaiting_1 rfl hl (by decide) rfl (fun ls hl => ?_)
  refine lv_iconst (v := 0) hx hb dX16_isWaiting_2 (by decide) ?_
  refine lv_istore_n (lv' := [(2, .int 0), (1, .int 0), (0, .ref (a 0))]) hx hb dX16_isWaiting_3 rfl hl (by decide) rfl (fun ls hl => ?_)
  exact (db_X16_isWaiting_4 C K n) (0) (0) s0 _ _ _ h hP hD hS (lv_sub hl [2, 1, 0] rfl)
set_option maxHeartbeats 40000000 in
set_option maxRecDepth 100000 in
theorem dm_X16_isWaiting (l : Launch) (hlt : l.stackTraces = false) (dC : Nat → ClassId) (dI : Nat → Nat → Nat) (a : Nat → Nat) (ac : Nat → ClassId) (n : Nat) (s0 : St × (St)) {r : Int32 × (St × (St))} (h : df_X16_isWaiting n s0 = some r) (sz : Nat) : Met l yX16_isWaiting ow_dm_X16_isWaiting ({ frames := 0, cells := 0, slots := 0, locals := 0 }) (va_Pc [.ref (a 0)] (fun U => U.heap.size = sz ∧ va_P (dC, dI) vwCl (dw_X16 a ac s0) U.heap ∧ va_K (dC, dI) vwCl (dk_X16 ac) U ∧ va_D (fun _ => True) (dw_X16 a ac s0) ∧ nv_E dI (va_A (dw_X16 a ac s0) sz) U)) (va_Qi (fun x _ => x = r.1) (fun (_ : Unit) t => va_P (dC, dI) vwCl (dw_X16 a ac r.2) t.heap ∧ va_K (dC, dI) vwCl (dk_X16 ac) t ∧ va_D (va_A (dw_X16 a ac s0) sz) (dw_X16 a ac r.2)) (va_A (dw_X16 a ac s0) sz)) 0 0 (va_A (dw_X16 a ac s0) sz) := by
  refine Met.ofW (cc := cX16_isWaiting) (maxL := 3) (ret := (some .boolean)) (by decide) rfl ?_
  intro p e s m args below meth c s₁ B hml hv
  obtain ⟨rfl, hsz, hP, hK, hD0, hN⟩ := hv
  have hx := B.exec
  have hb := B.bytes
  have hr := B.returns
  have hts := atoms_spec (ws := ow_dm_X16_isWaiting) B.pre
  have hown : s.vm.findClass RX16 = some m.cls := findClass_of_methodNamed B.named
  have hlocks := B.notSynchronized
  subst hsz
  have hD := hD0.self (sz := s.heap.size)
  generalize hAe : va_A (dw_X16 a ac s0) s.heap.size = A at hD hN ⊢
  have hA : ∀ q : Nat, s.heap.size ≤ q → A q := fun q h => by rw [← hAe]; exact Or.inr h
  have hl := lv_entry ([.ref (a 0)]) (n := 3) (Nat.le_of_ble_eq_true rfl)
  rw [lg_entry_eq]
  generalize (lg_sl ([.ref (a 0)]) ++ List.replicate (3 - (lg_sl ([.ref (a 0)])).length) Slot.unset).toArray = ls at hl ⊢
  have hl : lv_has ls 3 [(0, .ref (a 0))] := hl
  exact db_X16_isWaiting_0 (dC := dC) (dI := dI) (a := a) (ac := ac) (n := n) (r := r) ⟨hlt, hx, hb, hml, hown, hts, hN, hA, hK⟩ (fun pc v τ H locs ls d z er hP hD hS => by subst er; exact W.zret (v := v) hx hb hr z (fun t ht hW => ⟨⟨v, (), rfl, rfl, by rw [ht]; exact hP, va_K.moved hW.alike hK, hD⟩, hS.F ht⟩) hS.2.2 d) s0 _ _ _ h hP hD va_S.rf (lv_sub hl [0] rfl)
def ow_dm_X16_now : List Cond := Cond.code yX16_now cX16_now 1 (some .int) :: ([Cond.fieldLink RX16 132 "TimeMachineModel$Machine" "count" "I"] ++ (u_ws RX16 TX16 56 ++ []))
theorem gd_dm_X16_now : ∀ w ∈ ow_dm_X16_now, (w.onTables && w.keeps) = true ∨ ∃ ty, w = Cond.arrayClass ty := List.forall_mem_cons.mpr ⟨good_of_word rfl, List.forall_mem_append.mpr ⟨fun w h => good_of_word (List.all_eq_true.mp (by decide +kernel) w h), List.forall_mem_append.mpr ⟨gu_X16, fun _ h => nomatch h⟩⟩⟩
theorem hi_dm_X16_now_X16 : ∀ w ∈ u_ws RX16 TX16 56, w ∈ ow_dm_X16_now := fun w h => List.mem_cons_of_mem _ (List.mem_append_right _ (List.mem_append_left _ h))
def dj_X16_now_0 (p : Program) (l : Launch) (e : Env) (s : State) (m : MethodId) (args : Array Value) (below : List Frame) (meth : Method) (c : Code) (Q : State → Prop) (A : Nat → Prop) (dC : Nat → ClassId) (dI : Nat → Nat → Nat) (a : Nat → Nat) (ac : Nat → ClassId) (g : (St × (St)) → Option (Int32 × (St × (St)))) (r : Int32 × (St × (St))) : Prop := ∀ (s0 : St × (St)) (H : Heap) (locs : List Loc) (ls : Array Slot), g s0 = some r → va_P (dC, dI) vwCl (dw_X16 a ac s0) H → va_D A (dw_X16 a ac s0) → va_S A s.heap H locs → lv_has ls 1 [(0, .ref (a 0))] → W p l e (headSpec ow_dm_X16_now ({ frames := 0, cells := 0, slots := 0, locals := 0 })).room s m args below meth c H locs 0 0 Q (F0 m 0 ls [])
set_option maxHeartbeats 40000000 in
set_option maxRecDepth 100000 in
theorem db_X16_now_0 {p : Program} {l : Launch} {e : Env} {s : State} {m : MethodId} {args : Array Value} {below : List Frame} {meth : Method} {c : Code} {Q : State → Prop} {A : Nat → Prop} {dC : Nat → ClassId} {dI : Nat → Nat → Nat} {a : Nat → Nat} {ac : Nat → ClassId} {n : Nat} {r : Int32 × (St × (St))} (C : nd_C p l s m args c A (dC, dI) cX16_now 1 RX16 ow_dm_X16_now (dk_X16 ac)) (K : nd_Ki p l e (headSpec ow_dm_X16_now ({ frames := 0, cells := 0, slots := 0, locals := 0 })).room s m args below meth c Q A (dC, dI) cX16_now .int (St × (St)) (dw_X16 a ac) r) : dj_X16_now_0 p l e s m args below meth c Q A dC dI a ac (df_X16_now_0 n) r := by
  obtain ⟨hlt, hx, hb, hml, hown, hts, hN, hA, hK⟩ := id C
  intro s0 H locs ls h hP hD hS hl
  unfold df_X16_now_0 at h
  refine lv_aload_n hx hb dX16_now_0 rfl (lv_at hl 0 rfl) ?_
  refine va_get (D := (dC, dI)) (ci := 17) (v := .int (sI s0.1 0)) (C := RX16) (T := TX16) (N := 56) hx hb hts hi_dm_X16_now_X16 hown hK hP 0 rfl rfl 1 (by decide) (hts (.fieldLink RX16 132 "TimeMachineModel$Machine" "count" "I") (List.mem_of_getElem? (i := 1) rfl)) (fun _ h9 => h9) rfl dX16_now_1 ?_
  exact K _ _ _ _ _ _ dX16_now_4 rfl (Option.some.inj h).symm hP hD hS
set_option maxHeartbeats 40000000 in
set_option maxRecDepth 100000 in
theorem dm_X16_now (l : Launch) (hlt : l.stackTraces = false) (dC : Nat → ClassId) (dI : Nat → Nat → Nat) (a : Nat → Nat) (ac : Nat → ClassId) (n : Nat) (s0 : St × (St)) {r : Int32 × (St × (St))} (h : df_X16_now n s0 = some r) (sz : Nat) : Met l yX16_now ow_dm_X16_now ({ frames := 0, cells := 0, slots := 0, locals := 0 }) (va_Pc [.ref (a 0)] (fun U => U.heap.size = sz ∧ va_P (dC, dI) vwCl (dw_X16 a ac s0) U.heap ∧ va_K (dC, dI) vwCl (dk_X16 ac) U ∧ va_D (fun _ => True) (dw_X16 a ac s0) ∧ nv_E dI (va_A (dw_X16 a ac s0) sz) U)) (va_Qi (fun x _ => x = r.1) (fun (_ : Unit) t => va_P (dC, dI) vwCl (dw_X16 a ac r.2) t.heap ∧ va_K (dC, dI) vwCl (dk_X16 ac) t ∧ va_D (va_A (dw_X16 a ac s0) sz) (dw_X16 a ac r.2)) (va_A (dw_X16 a ac s0) sz)) 0 0 (va_A (dw_X16 a ac s0) sz) := by
  refine Met.ofW (cc := cX16_now) (maxL := 1) (ret := (some .int)) (by decide) rfl ?_
  intro p e s m args below meth c s₁ B hml hv
  obtain ⟨rfl, hsz, hP, hK, hD0, hN⟩ := hv
  have hx := B.exec
  have hb := B.bytes
  have hr := B.returns
  have hts := atoms_spec (ws := ow_dm_X16_now) B.pre
  have hown : s.vm.findClass RX16 = some m.cls := findClass_of_methodNamed B.named
  have hlocks := B.notSynchronized
  subst hsz
  have hD := hD0.self (sz := s.heap.size)
  generalize hAe : va_A (dw_X16 a ac s0) s.heap.size = A at hD hN ⊢
  have hA : ∀ q : Nat, s.heap.size ≤ q → A q := fun q h => by rw [← hAe]; exact Or.inr h
  have hl := lv_entry ([.ref (a 0)]) (n := 1) (Nat.le_of_ble_eq_true rfl)
  rw [lg_entry_eq]
  generalize (lg_sl ([.ref (a 0)]) ++ List.replicate (1 - (lg_sl ([.ref (a 0)])).length) Slot.unset).toArray = ls at hl ⊢
  have hl : lv_has ls 1 [(0, .ref (a 0))] := hl
  exact db_X16_now_0 (dC := dC) (dI := dI) (a := a) (ac := ac) (n := n) (r := r) ⟨hlt, hx, hb, hml, hown, hts, hN, hA, hK⟩ (fun pc v τ H locs ls d z er hP hD hS => by subst er; exact W.zret (v := v) hx hb hr z (fun t ht hW => ⟨⟨v, (), rfl, rfl, by rw [ht]; exact hP, va_K.moved hW.alike hK, hD⟩, hS.F ht⟩) hS.2.2 d) s0 _ _ _ h hP hD va_S.rf (lv_sub hl [0] rfl)
def ow_dm_X16_watch : List Cond := Cond.code yX16_watch cX16_watch 3 none :: ([Cond.fieldLink RX16 157 "TimeMachineModel$Machine" "watched" "I", Cond.fieldLink RX16 226 "TimeMachineModel$Machine" "watchedAt" "I"] ++ (u_ws RX16 TX16 56 ++ []))
theorem gd_dm_X16_watch : ∀ w ∈ ow_dm_X16_watch, (w.onTables && w.keeps) = true ∨ ∃ ty, w = Cond.arrayClass ty := List.forall_mem_cons.mpr ⟨good_of_word rfl, List.forall_mem_append.mpr ⟨fun w h => good_of_word (List.all_eq_true.mp (by decide +kernel) w h), List.forall_mem_append.mpr ⟨gu_X16, fun _ h => nomatch h⟩⟩⟩
theorem hi_dm_X16_watch_X16 : ∀ w ∈ u_ws RX16 TX16 56, w ∈ ow_dm_X16_watch := fun w h => List.mem_cons_of_mem _ (List.mem_append_right _ (List.mem_append_left _ h))
def dj_X16_watch_0 (p : Program) (l : Launch) (e : Env) (s : State) (m : MethodId) (args : Array Value) (below : List Frame) (meth : Method) (c : Code) (Q : State → Prop) (A : Nat → Prop) (dC : Nat → ClassId) (dI : Nat → Nat → Nat) (a : Nat → Nat) (ac : Nat → ClassId) (g : Int32 → Int32 → (St × (St)) → Option (St × (St))) (r : St × (St)) : Prop := ∀ (v0 : Int32) (v1 : Int32) (s0 : St × (St)) (H : Heap) (locs : List Loc) (ls : Array Slot), g v0 v1 s0 = some r → va_P (dC, dI) vwCl (dw_X16 a ac s0) H → va_D A (dw_X16 a ac s0) → va_S A s.heap H locs → lv_has ls 3 [(0, .ref (a 0)), (1, .int v0), (2, .int v1)] → W p l e (headSpec ow_dm_X16_watch ({ frames := 0, cells := 0, slots := 0, locals := 0 })).room s m args below meth c H locs 0 0 Q (F0 m 0 ls [])
set_option maxHeartbeats 40000000 in
set_option maxRecDepth 100000 in
theorem db_X16_watch_0 {p : Program} {l : Launch} {e : Env} {s : State} {m : MethodId} {args : Array Value} {below : List Frame} {meth : Method} {c : Code} {Q : State → Prop} {A : Nat → Prop} {dC : Nat → ClassId} {dI : Nat → Nat → Nat} {a : Nat → Nat} {ac : Nat → ClassId} {n : Nat} {r : St × (St)} (C : nd_C p l s m args c A (dC, dI) cX16_watch 3 RX16 ow_dm_X16_watch (dk_X16 ac)) (K : nd_Kv p l e (headSpec ow_dm_X16_watch ({ frames := 0, cells := 0, slots := 0, locals := 0 })).room s m args below meth c Q A (dC, dI) cX16_watch (St × (St)) (dw_X16 a ac) r) : dj_X16_watch_0 p l e s m args below meth c Q A dC dI a ac (df_X16_watch_0 n) r := by
  obtain ⟨hlt, hx, hb, hml, hown, hts, hN, hA, hK⟩ := id C
  intro v0 v1 s0 H locs ls h hP hD hS hl
  unfold df_X16_watch_0 at h
  refine lv_aload_n hx hb dX16_watch_0 rfl (lv_at hl 0 rfl) ?_
  refine lv_iload_n hx hb dX16_watch_1 rfl (lv_at hl 1 rfl) ?_
  refine va_put (D := (dC, dI)) (ci := 17) (v := .int v0) (ty := .int) (C := RX16) (T := TX16) (N := 56) hx hb hts hi_dm_X16_watch_X16 tyX16 tyX16_ok nmX16 hown hK hP hD hS 0 rfl rfl 53 (by decide) (hts (.fieldLink RX16 157 "TimeMachineModel$Machine" "watched" "I") (List.mem_of_getElem? (i := 1) rfl)) (fun _ h9 => h9) rfl (by decide +kernel) rfl rfl (Nat.le_of_ble_eq_true rfl) dX16_watch_2 (fun H locs hP hD hS => ?_)
  obtain ⟨s1, es1, h⟩ := nd_let_e h
  have hP : va_P (dC, dI) vwCl (dw_X16 a ac s1) H := by rw [es1]; exact hP
  have hD : va_D A (dw_X16 a ac s1) := by rw [es1]; exact hD
  refine lv_aload_n hx hb dX16_watch_5 rfl (lv_at hl 0 rfl) ?_
  refine lv_iload_n hx hb dX16_watch_6 rfl (lv_at hl 2 rfl) ?_
  refine va_put (D := (dC, dI)) (ci := 17) (v := .int v1) (ty := .int) (C := RX16) (T := TX16) (N := 56) hx hb hts hi_dm_X16_watch_X16 tyX16 tyX16_ok nmX16 hown hK hP hD hS 0 rfl rfl 54 (by decide) (hts (.fieldLink RX16 226 "TimeMachineModel$Machine" "watchedAt" "I") (List.mem_of_getElem? (i := 2) rfl)) (fun _ h9 => h9) rfl (by decide +kernel) rfl rfl (Nat.le_of_ble_eq_true rfl) dX16_watch_7 (fun H locs hP hD hS => ?_)
  obtain ⟨s2, es2, h⟩ := nd_let_e h
  have hP : va_P (dC, dI) vwCl (dw_X16 a ac s2) H := by rw [es2]; exact hP
  have hD : va_D A (dw_X16 a ac s2) := by rw [es2]; exact hD
  exact K _ _ _ _ _ dX16_watch_10 (Option.some.inj h).symm hP hD hS
set_option maxHeartbeats 40000000 in
set_option maxRecDepth 100000 in
theorem dm_X16_watch (l : Launch) (hlt : l.stackTraces = false) (dC : Nat → ClassId) (dI : Nat → Nat → Nat) (a : Nat → Nat) (ac : Nat → ClassId) (n : Nat) (v0 : Int32) (v1 : Int32) (s0 : St × (St)) {r : St × (St)} (h : df_X16_watch n v0 v1 s0 = some r) (sz : Nat) : Met l yX16_watch ow_dm_X16_watch ({ frames := 0, cells := 0, slots := 0, locals := 0 }) (va_Pc [.ref (a 0), .int v0, .int v1] (fun U => U.heap.size = sz ∧ va_P (dC, dI) vwCl (dw_X16 a ac s0) U.heap ∧ va_K (dC, dI) vwCl (dk_X16 ac) U ∧ va_D (fun _ => True) (dw_X16 a ac s0) ∧ nv_E dI (va_A (dw_X16 a ac s0) sz) U)) (va_Qv (fun _ => True) (fun (_ : Unit) t => va_P (dC, dI) vwCl (dw_X16 a ac r) t.heap ∧ va_K (dC, dI) vwCl (dk_X16 ac) t ∧ va_D (va_A (dw_X16 a ac s0) sz) (dw_X16 a ac r)) (va_A (dw_X16 a ac s0) sz)) 0 0 (va_A (dw_X16 a ac s0) sz) := by
  refine Met.ofW (cc := cX16_watch) (maxL := 3) (ret := none) (by decide) rfl ?_
  intro p e s m args below meth c s₁ B hml hv
  obtain ⟨rfl, hsz, hP, hK, hD0, hN⟩ := hv
  have hx := B.exec
  have hb := B.bytes
  have hr := B.returns
  have hts := atoms_spec (ws := ow_dm_X16_watch) B.pre
  have hown : s.vm.findClass RX16 = some m.cls := findClass_of_methodNamed B.named
  have hlocks := B.notSynchronized
  subst hsz
  have hD := hD0.self (sz := s.heap.size)
  generalize hAe : va_A (dw_X16 a ac s0) s.heap.size = A at hD hN ⊢
  have hA : ∀ q : Nat, s.heap.size ≤ q → A q := fun q h => by rw [← hAe]; exact Or.inr h
  have hl := lv_entry ([.ref (a 0), .int v0, .int v1]) (n := 3) (Nat.le_of_ble_eq_true rfl)
  rw [lg_entry_eq]
  generalize (lg_sl ([.ref (a 0), .int v0, .int v1]) ++ List.replicate (3 - (lg_sl ([.ref (a 0), .int v0, .int v1])).length) Slot.unset).toArray = ls at hl ⊢
  have hl : lv_has ls 3 [(0, .ref (a 0)), (1, .int v0), (2, .int v1)] := hl
  exact db_X16_watch_0 (dC := dC) (dI := dI) (a := a) (ac := ac) (n := n) (r := r) ⟨hlt, hx, hb, hml, hown, hts, hN, hA, hK⟩ (fun pc τ H locs ls d er hP hD hS => by subst er; exact W.vret hx hb hr (fun t ht hW => ⟨⟨(), rfl, trivial, by rw [ht]; exact hP, va_K.moved hW.alike hK, hD⟩, hS.F ht⟩) hS.2.2 d) v0 v1 s0 _ _ _ h hP hD va_S.rf (lv_sub hl [0, 1, 2] rfl)
def ow_dm_X16_value : List Cond := Cond.code yX16_value cX16_value 2 (some .int) :: ([Cond.fieldLink RX16 141 "TimeMachineModel$Machine" "current" "I", Cond.fieldLink RX16 42 "TimeMachineModel$Machine" "x" "[I", Cond.fieldLink RX16 45 "TimeMachineModel$Machine" "place" "[I"] ++ (u_ws RX16 TX16 56 ++ []))
theorem gd_dm_X16_value : ∀ w ∈ ow_dm_X16_value, (w.onTables && w.keeps) = true ∨ ∃ ty, w = Cond.arrayClass ty := List.forall_mem_cons.mpr ⟨good_of_word rfl, List.forall_mem_append.mpr ⟨fun w h => good_of_word (List.all_eq_true.mp (by decide +kernel) w h), List.forall_mem_append.mpr ⟨gu_X16, fun _ h => nomatch h⟩⟩⟩
theorem hi_dm_X16_value_X16 : ∀ w ∈ u_ws RX16 TX16 56, w ∈ ow_dm_X16_value := fun w h => List.mem_cons_of_mem _ (List.mem_append_right _ (List.mem_append_left _ h))
def dj_X16_value_44 (p : Program) (l : Launch) (e : Env) (s : State) (m : MethodId) (args : Array Value) (below : List Frame) (meth : Method) (c : Code) (Q : State → Prop) (A : Nat → Prop) (dC : Nat → ClassId) (dI : Nat → Nat → Nat) (a : Nat → Nat) (ac : Nat → ClassId) (g : Int32 → (St × (St)) → Option (Int32 × (St × (St)))) (r : Int32 × (St × (St))) : Prop := ∀ (y0 : Int32) (s0 : St × (St)) (H : Heap) (locs : List Loc) (ls : Array Slot), g y0 s0 = some r → va_P (dC, dI) vwCl (dw_X16 a ac s0) H → va_D A (dw_X16 a ac s0) → va_S A s.heap H locs → lv_has ls 2 [] → W p l e (headSpec ow_dm_X16_value ({ frames := 0, cells := 0, slots := 0, locals := 0 })).room s m args below meth c H locs 0 0 Q (F0 m 44 ls [.int y0])
def dj_X16_value_0 (p : Program) (l : Launch) (e : Env) (s : State) (m : MethodId) (args : Array Value) (below : List Frame) (meth : Method) (c : Code) (Q : State → Prop) (A : Nat → Prop) (dC : Nat → ClassId) (dI : Nat → Nat → Nat) (a : Nat → Nat) (ac : Nat → ClassId) (g : Int32 → (St × (St)) → Option (Int32 × (St × (St)))) (r : Int32 × (St × (St))) : Prop := ∀ (v0 : Int32) (s0 : St × (St)) (H : Heap) (locs : List Loc) (ls : Array Slot), g v0 s0 = some r → va_P (dC, dI) vwCl (dw_X16 a ac s0) H → va_D A (dw_X16 a ac s0) → va_S A s.heap H locs → lv_has ls 2 [(0, .ref (a 0)), (1, .int v0)] → W p l e (headSpec ow_dm_X16_value ({ frames := 0, cells := 0, slots := 0, locals := 0 })).room s m args below meth c H locs 0 0 Q (F0 m 0 ls [])
set_option maxHeartbeats 40000000 in
set_option maxRecDepth 100000 in
theorem db_X16_value_44 {p : Program} {l : Launch} {e : Env} {s : State} {m : MethodId} {args : Array Value} {below : List Frame} {meth : Method} {c : Code} {Q : State → Prop} {A : Nat → Prop} {dC : Nat → ClassId} {dI : Nat → Nat → Nat} {a : Nat → Nat} {ac : Nat → ClassId} {n : Nat} {r : Int32 × (St × (St))} (C : nd_C p l s m args c A (dC, dI) cX16_value 2 RX16 ow_dm_X16_value (dk_X16 ac)) (K : nd_Ki p l e (headSpec ow_dm_X16_value ({ frames := 0, cells := 0, slots := 0, locals := 0 })).room s m args below meth c Q A (dC, dI) cX16_value .int (St × (St)) (dw_X16 a ac) r) : dj_X16_value_44 p l e s m args below meth c Q A dC dI a ac (df_X16_value_44 n) r := by
  obtain ⟨hlt, hx, hb, hml, hown, hts, hN, hA, hK⟩ := id C
  intro y0 s0 H locs ls h hP hD hS hl
  unfold df_X16_value_44 at h
  exact K _ _ _ _ _ _ dX16_value_44 rfl (Option.some.inj h).symm hP hD hS
set_option maxHeartbeats 40000000 in
set_option maxRecDepth 100000 in
theorem db_X16_value_0 {p : Program} {l : Launch} {e : Env} {s : State} {m : MethodId} {args : Array Value} {below : List Frame} {meth : Method} {c : Code} {Q : State → Prop} {A : Nat → Prop} {dC : Nat → ClassId} {dI : Nat → Nat → Nat} {a : Nat → Nat} {ac : Nat → ClassId} {n : Nat} {r : Int32 × (St × (St))} (C : nd_C p l s m args c A (dC, dI) cX16_value 2 RX16 ow_dm_X16_value (dk_X16 ac)) (K : nd_Ki p l e (headSpec ow_dm_X16_value ({ frames := 0, cells := 0, slots := 0, locals := 0 })).room s m args below meth c Q A (dC, dI) cX16_value .int (St × (St)) (dw_X16 a ac) r) : dj_X16_value_0 p l e s m args below meth c Q A dC dI a ac (df_X16_value_0 n) r := by
  obtain ⟨hlt, hx, hb, hml, hown, hts, hN, hA, hK⟩ := id C
  intro v0 s0 H locs ls h hP hD hS hl
  unfold df_X16_value_0 at h
  refine lv_aload_n hx hb dX16_value_0 rfl (lv_at hl 0 rfl) ?_
  refine va_get (D := (dC, dI)) (ci := 17) (v := .int (sI s0.1 1)) (C := RX16) (T := TX16) (N := 56) hx hb hts hi_dm_X16_value_X16 hown hK hP 0 rfl rfl 2 (by decide) (hts (.fieldLink RX16 141 "TimeMachineModel$Machine" "current" "I") (List.mem_of_getElem? (i := 1) rfl)) (fun _ h9 => h9) rfl dX16_value_1 ?_
  refine lv_iconst (v := (-1)) hx hb dX16_value_4 (by decide) ?_
  refine lv_icmp_ne (tgt := 12) hx hb dX16_value_5 (by decide) (fun c1 => ?_) (fun c1 => ?_)
  · have h := nd_neg h c1
    refine lv_iload_n hx hb dX16_value_12 rfl (lv_at hl 1 rfl) ?_
    refine lv_bipush (v := 32) hx hb dX16_value_13 (by decide) ?_
    refine lv_icmp_ne (tgt := 30) hx hb dX16_value_15 (by decide) (fun c2 => ?_) (fun c2 => ?_)
    · have h := nd_neg h c2
      refine lv_aload_n hx hb dX16_value_30 rfl (lv_at hl 0 rfl) ?_
      refine va_get (D := (dC, dI)) (ci := 17) (v := .ref (a 11)) (C := RX16) (T := TX16) (N := 56) hx hb hts hi_dm_X16_value_X16 hown hK hP 0 rfl rfl 19 (by decide) (hts (.fieldLink RX16 42 "TimeMachineModel$Machine" "x" "[I") (List.mem_of_getElem? (i := 2) rfl)) (fun _ h9 => h9) rfl dX16_value_31 ?_
      refine lv_bipush (v := 32) hx hb dX16_value_34 (by decide) ?_
      refine lv_aload_n hx hb dX16_value_36 rfl (lv_at hl 0 rfl) ?_
      refine va_get (D := (dC, dI)) (ci := 17) (v := .int (sI s0.1 1)) (C := RX16) (T := TX16) (N := 56) hx hb hts hi_dm_X16_value_X16 hown hK hP 0 rfl rfl 2 (by decide) (hts (.fieldLink RX16 141 "TimeMachineModel$Machine" "current" "I") (List.mem_of_getElem? (i := 1) rfl)) (fun _ h9 => h9) rfl dX16_value_37 ?_
      refine lv_imul hx hb dX16_value_40 ?_
      refine lv_iload_n hx hb dX16_value_41 rfl (lv_at hl 1 rfl) ?_
      refine lv_iadd hx hb dX16_value_42 ?_
      obtain ⟨i3, h⟩ := nd_ck_e h
      refine va_iald (i := ((32 * (sI s0.1 1)) + v0)) hx hb hK hP 11 10 rfl rfl i3 dX16_value_43 ?_
      exact (db_X16_value_44 C K) ((sR s0.1 9 (Int32.toNatClampNeg ((32 * (sI s0.1 1)) + v0)))) s0 _ _ _ h hP hD hS (lv_sub hl [] rfl)
    · have h := nd_pos h c2
      refine lv_aload_n hx hb dX16_value_18 rfl (lv_at hl 0 rfl) ?_
      refine va_get (D := (dC, dI)) (ci := 17) (v := .ref (a 12)) (C := RX16) (T := TX16) (N := 56) hx hb hts hi_dm_X16_value_X16 hown hK hP 0 rfl rfl 20 (by decide) (hts (.fieldLink RX16 45 "TimeMachineModel$Machine" "place" "[I") (List.mem_of_getElem? (i := 3) rfl)) (fun _ h9 => h9) rfl dX16_value_19 ?_
      refine lv_aload_n hx hb dX16_value_22 rfl (lv_at hl 0 rfl) ?_
      refine va_get (D := (dC, dI)) (ci := 17) (v := .int (sI s0.1 1)) (C := RX16) (T := TX16) (N := 56) hx hb hts hi_dm_X16_value_X16 hown hK hP 0 rfl rfl 2 (by decide) (hts (.fieldLink RX16 141 "TimeMachineModel$Machine" "current" "I") (List.mem_of_getElem? (i := 1) rfl)) (fun _ h9 => h9) rfl dX16_value_23 ?_
      obtain ⟨i4, h⟩ := nd_ck_e h
      refine va_iald (i := (sI s0.1 1)) hx hb hK hP 12 11 rfl rfl i4 dX16_value_26 ?_
      refine lv_goto (tgt := 44) hx hb dX16_value_27 (by decide) ?_
      exact (db_X16_value_44 C K) ((sR s0.1 10 (Int32.toNatClampNeg (sI s0.1 1)))) s0 _ _ _ h hP hD hS (lv_sub hl [] rfl)
  · have h := nd_pos h c1
    refine lv_iconst (v := 0) hx hb dX16_value_8 (by decide) ?_
    refine lv_goto (tgt := 44) hx hb dX16_value_9 (by decide) ?_
    exact (db_X16_value_44 C K) (0) s0 _ _ _ h hP hD hS (lv_sub hl [] rfl)
set_option maxHeartbeats 40000000 in
set_option maxRecDepth 100000 in
theorem dm_X16_value (l : Launch) (hlt : l.stackTraces = false) (dC : Nat → ClassId) (dI : Nat → Nat → Nat) (a : Nat → Nat) (ac : Nat → ClassId) (n : Nat) (v0 : Int32) (s0 : St × (St)) {r : Int32 × (St × (St))} (h : df_X16_value n v0 s0 = some r) (sz : Nat) : Met l yX16_value ow_dm_X16_value ({ frames := 0, cells := 0, slots := 0, locals := 0 }) (va_Pc [.ref (a 0), .int v0] (fun U => U.heap.size = sz ∧ va_P (dC, dI) vwCl (dw_X16 a ac s0) U.heap ∧ va_K (dC, dI) vwCl (dk_X16 ac) U ∧ va_D (fun _ => True) (dw_X16 a ac s0) ∧ nv_E dI (va_A (dw_X16 a ac s0) sz) U)) (va_Qi (fun x _ => x = r.1) (fun (_ : Unit) t => va_P (dC, dI) vwCl (dw_X16 a ac r.2) t.heap ∧ va_K (dC, dI) vwCl (dk_X16 ac) t ∧ va_D (va_A (dw_X16 a ac s0) sz) (dw_X16 a ac r.2)) (va_A (dw_X16 a ac s0) sz)) 0 0 (va_A (dw_X16 a ac s0) sz) := by
  refine Met.ofW (cc := cX16_value) (maxL := 2) (ret := (some .int)) (by decide) rfl ?_
  intro p e s m args below meth c s₁ B hml hv
  obtain ⟨rfl, hsz, hP, hK, hD0, hN⟩ := hv
  have hx := B.exec
  have hb := B.bytes
  have hr := B.returns
  have hts := atoms_spec (ws := ow_dm_X16_value) B.pre
  have hown : s.vm.findClass RX16 = some m.cls := findClass_of_methodNamed B.named
  have hlocks := B.notSynchronized
  subst hsz
  have hD := hD0.self (sz := s.heap.size)
  generalize hAe : va_A (dw_X16 a ac s0) s.heap.size = A at hD hN ⊢
  have hA : ∀ q : Nat, s.heap.size ≤ q → A q := fun q h => by rw [← hAe]; exact Or.inr h
  have hl := lv_entry ([.ref (a 0), .int v0]) (n := 2) (Nat.le_of_ble_eq_true rfl)
  rw [lg_entry_eq]
  generalize (lg_sl ([.ref (a 0), .int v0]) ++ List.replicate (2 - (lg_sl ([.ref (a 0), .int v0])).length) Slot.unset).toArray = ls at hl ⊢
  have hl : lv_has ls 2 [(0, .ref (a 0)), (1, .int v0)] := hl
  exact db_X16_value_0 (dC := dC) (dI := dI) (a := a) (ac := ac) (n := n) (r := r) ⟨hlt, hx, hb, hml, hown, hts, hN, hA, hK⟩ (fun pc v τ H locs ls d z er hP hD hS => by subst er; exact W.zret (v := v) hx hb hr z (fun t ht hW => ⟨⟨v, (), rfl, rfl, by rw [ht]; exact hP, va_K.moved hW.alike hK, hD⟩, hS.F ht⟩) hS.2.2 d) v0 s0 _ _ _ h hP hD va_S.rf (lv_sub hl [0, 1] rfl)
def ow_dm_X16_has : List Cond := Cond.code yX16_has cX16_has 6 (some .boolean) :: ([Cond.fieldLink RX16 141 "TimeMachineModel$Machine" "current" "I", Cond.methodLink RX16 214 yX16_isThere, Cond.instanceMethod yX16_isThere, Cond.selects RX16 yX16_isThere yX16_isThere, Cond.initialized RX16, Cond.constantLong RX16 522 (65535)] ++ (u_ws RX16 TX16 56 ++ (ow_dm_X16_isThere ++ [])))
theorem gd_dm_X16_has : ∀ w ∈ ow_dm_X16_has, (w.onTables && w.keeps) = true ∨ ∃ ty, w = Cond.arrayClass ty := List.forall_mem_cons.mpr ⟨good_of_word rfl, List.forall_mem_append.mpr ⟨fun w h => good_of_word (List.all_eq_true.mp (by decide +kernel) w h), List.forall_mem_append.mpr ⟨gu_X16, List.forall_mem_append.mpr ⟨gd_dm_X16_isThere, fun _ h => nomatch h⟩⟩⟩⟩
theorem hi_dm_X16_has_X16 : ∀ w ∈ u_ws RX16 TX16 56, w ∈ ow_dm_X16_has := fun w h => List.mem_cons_of_mem _ (List.mem_append_right _ (List.mem_append_left _ h))
theorem gi_dm_X16_has_0 : GoodIn ow_dm_X16_has (wsV RX16 214 RX16 yX16_isThere ow_dm_X16_isThere) := goodIn_app (goodIn_of _ (by decide +kernel)) (fun w h => ⟨List.mem_cons_of_mem _ (List.mem_append_right _ (List.mem_append_right _ (List.mem_append_left _ h))), gd_dm_X16_isThere w h⟩)
def dj_X16_has_73 (p : Program) (l : Launch) (e : Env) (s : State) (m : MethodId) (args : Array Value) (below : List Frame) (meth : Method) (c : Code) (Q : State → Prop) (A : Nat → Prop) (dC : Nat → ClassId) (dI : Nat → Nat → Nat) (a : Nat → Nat) (ac : Nat → ClassId) (g : Int32 → (St × (St)) → Option (Int32 × (St × (St)))) (r : Int32 × (St × (St))) : Prop := ∀ (x4 : Int32) (s0 : St × (St)) (H : Heap) (locs : List Loc) (ls : Array Slot), g x4 s0 = some r → va_P (dC, dI) vwCl (dw_X16 a ac s0) H → va_D A (dw_X16 a ac s0) → va_S A s.heap H locs → lv_has ls 6 [(4, .int x4)] → W p l e (headSpec ow_dm_X16_has ({ frames := 1, cells := 0, slots := 0, locals := 22 })).room s m args below meth c H locs 0 0 Q (F0 m 73 ls [])
def dj_X16_has_41 (p : Program) (l : Launch) (e : Env) (s : State) (m : MethodId) (args : Array Value) (below : List Frame) (meth : Method) (c : Code) (Q : State → Prop) (A : Nat → Prop) (dC : Nat → ClassId) (dI : Nat → Nat → Nat) (a : Nat → Nat) (ac : Nat → ClassId) (g : Int64 → Int32 → Int32 → Int32 → (St × (St)) → Option (Int32 × (St × (St)))) (r : Int32 × (St × (St))) : Prop := ∀ (x1 : Int64) (x3 : Int32) (x4 : Int32) (x5 : Int32) (s0 : St × (St)) (H : Heap) (locs : List Loc) (ls : Array Slot), g x1 x3 x4 x5 s0 = some r → va_P (dC, dI) vwCl (dw_X16 a ac s0) H → va_D A (dw_X16 a ac s0) → va_S A s.heap H locs → lv_has ls 6 [(0, .ref (a 0)), (1, .long x1), (3, .int x3), (4, .int x4), (5, .int x5)] → W p l e (headSpec ow_dm_X16_has ({ frames := 1, cells := 0, slots := 0, locals := 22 })).room s m args below meth c H locs 0 0 Q (F0 m 41 ls [])
def dj_X16_has_36 (p : Program) (l : Launch) (e : Env) (s : State) (m : MethodId) (args : Array Value) (below : List Frame) (meth : Method) (c : Code) (Q : State → Prop) (A : Nat → Prop) (dC : Nat → ClassId) (dI : Nat → Nat → Nat) (a : Nat → Nat) (ac : Nat → ClassId) (g : Int64 → Int32 → Int32 → (St × (St)) → Option (Int32 × (St × (St)))) (r : Int32 × (St × (St))) : Prop := ∀ (x1 : Int64) (x3 : Int32) (y0 : Int32) (s0 : St × (St)) (H : Heap) (locs : List Loc) (ls : Array Slot), g x1 x3 y0 s0 = some r → va_P (dC, dI) vwCl (dw_X16 a ac s0) H → va_D A (dw_X16 a ac s0) → va_S A s.heap H locs → lv_has ls 6 [(0, .ref (a 0)), (1, .long x1), (3, .int x3)] → W p l e (headSpec ow_dm_X16_has ({ frames := 1, cells := 0, slots := 0, locals := 22 })).room s m args below meth c H locs 0 0 Q (F0 m 36 ls [.int y0])
def dj_X16_has_35 (p : Program) (l : Launch) (e : Env) (s : State) (m : MethodId) (args : Array Value) (below : List Frame) (meth : Method) (c : Code) (Q : State → Prop) (A : Nat → Prop) (dC : Nat → ClassId) (dI : Nat → Nat → Nat) (a : Nat → Nat) (ac : Nat → ClassId) (g : Int64 → Int32 → (St × (St)) → Option (Int32 × (St × (St)))) (r : Int32 × (St × (St))) : Prop := ∀ (x1 : Int64) (x3 : Int32) (s0 : St × (St)) (H : Heap) (locs : List Loc) (ls : Array Slot), g x1 x3 s0 = some r → va_P (dC, dI) vwCl (dw_X16 a ac s0) H → va_D A (dw_X16 a ac s0) → va_S A s.heap H locs → lv_has ls 6 [(0, .ref (a 0)), (1, .long x1), (3, .int x3)] → W p l e (headSpec ow_dm_X16_has ({ frames := 1, cells := 0, slots := 0, locals := 22 })).room s m args below meth c H locs 0 0 Q (F0 m 35 ls [])
def dj_X16_has_0 (p : Program) (l : Launch) (e : Env) (s : State) (m : MethodId) (args : Array Value) (below : List Frame) (meth : Method) (c : Code) (Q : State → Prop) (A : Nat → Prop) (dC : Nat → ClassId) (dI : Nat → Nat → Nat) (a : Nat → Nat) (ac : Nat → ClassId) (g : Int64 → Int32 → (St × (St)) → Option (Int32 × (St × (St)))) (r : Int32 × (St × (St))) : Prop := ∀ (v0 : Int64) (v1 : Int32) (s0 : St × (St)) (H : Heap) (locs : List Loc) (ls : Array Slot), g v0 v1 s0 = some r → va_P (dC, dI) vwCl (dw_X16 a ac s0) H → va_D A (dw_X16 a ac s0) → va_S A s.heap H locs → lv_has ls 6 [(0, .ref (a 0)), (1, .long v0), (3, .int v1)] → W p l e (headSpec ow_dm_X16_has ({ frames := 1, cells := 0, slots := 0, locals := 22 })).room s m args below meth c H locs 0 0 Q (F0 m 0 ls [])
set_option maxHeartbeats 40000000 in
set_option maxRecDepth 100000 in
theorem db_X16_has_73 {p : Program} {l : Launch} {e : Env} {s : State} {m : MethodId} {args : Array Value} {below : List Frame} {meth : Method} {c : Code} {Q : State → Prop} {A : Nat → Prop} {dC : Nat → ClassId} {dI : Nat → Nat → Nat} {a : Nat → Nat} {ac : Nat → ClassId} {n : Nat} {r : Int32 × (St × (St))} (C : nd_C p l s m args c A (dC, dI) cX16_has 6 RX16 ow_dm_X16_has (dk_X16 ac)) (K : nd_Ki p l e (headSpec ow_dm_X16_has ({ frames := 1, cells := 0, slots := 0, locals := 22 })).room s m args below meth c Q A (dC, dI) cX16_has .boolean (St × (St)) (dw_X16 a ac) r) : dj_X16_has_73 p l e s m args below meth c Q A dC dI a ac (df_X16_has_73 n) r := by
  obtain ⟨hlt, hx, hb, hml, hown, hts, hN, hA, hK⟩ := id C
  intro x4 s0 H locs ls h hP hD hS hl
  unfold df_X16_has_73 at h
  refine lv_iload hx hb dX16_has_73 (lv_at hl 0 rfl) ?_
  obtain ⟨n3, h⟩ := nd_z_e ⟨_, rfl⟩ h
  exact K _ _ _ _ _ _ dX16_has_75 n3 (Option.some.inj h).symm hP hD hS
set_option maxHeartbeats 40000000 in
set_option maxRecDepth 100000 in
theorem dB_X16_has_41 {p : Program} {l : Launch} {e : Env} {s : State} {m : MethodId} {args : Array Value} {below : List Frame} {meth : Method} {c : Code} {Q : State → Prop} {A : Nat → Prop} {dC : Nat → ClassId} {dI : Nat → Nat → Nat} {a : Nat → Nat} {ac : Nat → ClassId} {n : Nat} {r : Int32 × (St × (St))} (C : nd_C p l s m args c A (dC, dI) cX16_has 6 RX16 ow_dm_X16_has (dk_X16 ac)) (K : nd_Ki p l e (headSpec ow_dm_X16_has ({ frames := 1, cells := 0, slots := 0, locals := 22 })).room s m args below meth c Q A (dC, dI) cX16_has .boolean (St × (St)) (dw_X16 a ac) r) {g41 : Int64 → Int32 → Int32 → Int32 → (St × (St)) → Option (Int32 × (St × (St)))} (J41 : dj_X16_has_41 p l e s m args below meth c Q A dC dI a ac g41 r) : dj_X16_has_41 p l e s m args below meth c Q A dC dI a ac (dF_X16_has_41 n g41) r := by
  obtain ⟨hlt, hx, hb, hml, hown, hts, hN, hA, hK⟩ := id C
  intro x1 x3 x4 x5 s0 H locs ls h hP hD hS hl
  unfold dF_X16_has_41 at h
  refine lv_iload hx hb dX16_has_41 (lv_at hl 4 rfl) ?_
  refine lv_iload_n hx hb dX16_has_43 rfl (lv_at hl 2 rfl) ?_
  refine lv_icmp_ge (tgt := 73) hx hb dX16_has_44 (by decide) (fun c2 => ?_) (fun c2 => ?_)
  · have h := nd_pos h c2
    exact (db_X16_has_73 C K) (x4) s0 _ _ _ h hP hD hS (lv_sub hl [3] rfl)
  · have h := nd_neg h c2
    refine lv_iload hx hb dX16_has_47 (lv_at hl 3 rfl) ?_
    refine lv_if_eq (tgt := 73) hx hb dX16_has_49 (by decide) (fun c4 => ?_) (fun c4 => ?_)
    · have h := nd_pos h c4
      exact (db_X16_has_73 C K) (x4) s0 _ _ _ h hP hD hS (lv_sub hl [3] rfl)
    · have h := nd_neg h c4
      refine lv_aload_n hx hb dX16_has_52 rfl (lv_at hl 0 rfl) ?_
      refine lv_aload_n hx hb dX16_has_53 rfl (lv_at hl 0 rfl) ?_
      refine va_get (D := (dC, dI)) (ci := 17) (v := .int (sI s0.1 1)) (C := RX16) (T := TX16) (N := 56) hx hb hts hi_dm_X16_has_X16 hown hK hP 0 rfl rfl 2 (by decide) (hts (.fieldLink RX16 141 "TimeMachineModel$Machine" "current" "I") (List.mem_of_getElem? (i := 1) rfl)) (fun _ h9 => h9) rfl dX16_has_54 ?_
      refine lv_lload_n hx hb dX16_has_57 rfl (lv_at hl 1 rfl) ?_
      refine lv_l2i hx hb dX16_has_58 rfl ?_
      refine lv_iload hx hb dX16_has_59 (lv_at hl 4 rfl) ?_
      refine lv_iadd hx hb dX16_has_61 ?_
      obtain ⟨q5, s6, hq, h⟩ := nd_b2_e h
      have hPc := hP
      have hDc := hD
      have hKc := hK
      have hFc := nd_rs hD hS hA
      refine nd_cVi (As := [.int (sI s0.1 1), .int ((x1.toInt32) + x5)]) (rest := []) (q := q5) (w' := dw_X16 a ac s6) ⟨hx, hb, hml, hown, hts⟩ (fun sz => dm_X16_isThere l hlt dC dI a ac n ((sI s0.1 1)) (((x1.toInt32) + x5)) s0 hq sz) (cwV 2 hts gi_dm_X16_has_0 rfl rfl rfl (by decide +kernel) ⟨Nat.le_of_ble_eq_true rfl, Nat.le_of_ble_eq_true rfl⟩) hPc hDc hKc hS hA hN (va_recv hKc hPc (ci := 17) (q0 := 0) rfl rfl) rfl hl.1 rfl (Nat.le_of_ble_eq_true rfl) dX16_has_62 (fun H locs hP1 hD1 hk1 hS => ?_)
      have hP := hP1
      have hD := hD1.weaken (fun k q _ h => hFc q.1 h)
      refine lv_istore (lv' := [(4, .int q5), (0, .ref (a 0)), (1, .long x1), (3, .int x3), (5, .int x5)]) hx hb dX16_has_65 hl (by decide) rfl (fun ls hl => ?_)
      obtain ⟨z8, ez8, h⟩ := nd_let_e h
      refine lv_iinc (v := z8) (lv' := [(5, .int z8), (4, .int q5), (0, .ref (a 0)), (1, .long x1), (3, .int x3)]) hx hb dX16_has_67 hl (k := 4) rfl (by rw [ez8]) (by decide) rfl (fun ls hl => ?_)
      refine lv_goto (tgt := 41) hx hb dX16_has_70 (by decide) ?_
      exact (J41) (x1) (x3) (q5) (z8) s6 _ _ _ h hP hD hS (lv_sub hl [2, 3, 4, 1, 0] rfl)
set_option maxHeartbeats 40000000 in
set_option maxRecDepth 100000 in
theorem db_X16_has_41 {p : Program} {l : Launch} {e : Env} {s : State} {m : MethodId} {args : Array Value} {below : List Frame} {meth : Method} {c : Code} {Q : State → Prop} {A : Nat → Prop} {dC : Nat → ClassId} {dI : Nat → Nat → Nat} {a : Nat → Nat} {ac : Nat → ClassId} {n : Nat} {r : Int32 × (St × (St))} (C : nd_C p l s m args c A (dC, dI) cX16_has 6 RX16 ow_dm_X16_has (dk_X16 ac)) (K : nd_Ki p l e (headSpec ow_dm_X16_has ({ frames := 1, cells := 0, slots := 0, locals := 22 })).room s m args below meth c Q A (dC, dI) cX16_has .boolean (St × (St)) (dw_X16 a ac) r) (k : Nat) : dj_X16_has_41 p l e s m args below meth c Q A dC dI a ac (df_X16_has_41 n k) r := by
  induction k with
  | zero => intro x1 x3 x4 x5 s0 H locs ls h; exact nomatch (show (none : Option (Int32 × (St × (St)))) = some r from h)
  | succ k ih => exact dB_X16_has_41 C K ih
set_option maxHeartbeats 40000000 in
set_option maxRecDepth 100000 in
theorem db_X16_has_36 {p : Program} {l : Launch} {e : Env} {s : State} {m : MethodId} {args : Array Value} {below : List Frame} {meth : Method} {c : Code} {Q : State → Prop} {A : Nat → Prop} {dC : Nat → ClassId} {dI : Nat → Nat → Nat} {a : Nat → Nat} {ac : Nat → ClassId} {n : Nat} {r : Int32 × (St × (St))} (C : nd_C p l s m args c A (dC, dI) cX16_has 6 RX16 ow_dm_X16_has (dk_X16 ac)) (K : nd_Ki p l e (headSpec ow_dm_X16_has ({ frames := 1, cells := 0, slots := 0, locals := 22 })).room s m args below meth c Q A (dC, dI) cX16_has .boolean (St × (St)) (dw_X16 a ac) r) : dj_X16_has_36 p l e s m args below meth c Q A dC dI a ac (df_X16_has_36 n) r := by
  obtain ⟨hlt, hx, hb, hml, hown, hts, hN, hA, hK⟩ := id C
  intro x1 x3 y0 s0 H locs ls h hP hD hS hl
  unfold df_X16_has_36 at h
  refine lv_istore (lv' := [(4, .int y0), (0, .ref (a 0)), (1, .long x1), (3, .int x3)]) hx hb dX16_has_36 hl (by decide) rfl (fun ls hl => ?_)
  refine lv_iconst (v := 0) hx hb dX16_has_38 (by decide) ?_
  refine lv_istore (lv' := [(5, .int 0), (4, .int y0), (0, .ref (a 0)), (1, .long x1), (3, .int x3)]) hx hb dX16_has_39 hl (by decide) rfl (fun ls hl => ?_)
  exact (db_X16_has_41 C K n) (x1) (x3) (y0) (0) s0 _ _ _ h hP hD hS (lv_sub hl [2, 3, 4, 1, 0] rfl)
set_option maxHeartbeats 40000000 in
set_option maxRecDepth 100000 in
theorem db_X16_has_35 {p : Program} {l : Launch} {e : Env} {s : State} {m : MethodId} {args : Array Value} {below : List Frame} {meth : Method} {c : Code} {Q : State → Prop} {A : Nat → Prop} {dC : Nat → ClassId} {dI : Nat → Nat → Nat} {a : Nat → Nat} {ac : Nat → ClassId} {n : Nat} {r : Int32 × (St × (St))} (C : nd_C p l s m args c A (dC, dI) cX16_has 6 RX16 ow_dm_X16_has (dk_X16 ac)) (K : nd_Ki p l e (headSpec ow_dm_X16_has ({ frames := 1, cells := 0, slots := 0, locals := 22 })).room s m args below meth c Q A (dC, dI) cX16_has .boolean (St × (St)) (dw_X16 a ac) r) : dj_X16_has_35 p l e s m args below meth c Q A dC dI a ac (df_X16_has_35 n) r := by
  obtain ⟨hlt, hx, hb, hml, hown, hts, hN, hA, hK⟩ := id C
  intro x1 x3 s0 H locs ls h hP hD hS hl
  unfold df_X16_has_35 at h
  refine lv_iconst (v := 0) hx hb dX16_has_35 (by decide) ?_
  exact (db_X16_has_36 C K) (x1) (x3) (0) s0 _ _ _ h hP hD hS (lv_sub hl [0, 1, 2] rfl)
set_option maxHeartbeats 40000000 in
set_option maxRecDepth 100000 in
theorem db_X16_has_0 {p : Program} {l : Launch} {e : Env} {s : State} {m : MethodId} {args : Array Value} {below : List Frame} {meth : Method} {c : Code} {Q : State → Prop} {A : Nat → Prop} {dC : Nat → ClassId} {dI : Nat → Nat → Nat} {a : Nat → Nat} {ac : Nat → ClassId} {n : Nat} {r : Int32 × (St × (St))} (C : nd_C p l s m args c A (dC, dI) cX16_has 6 RX16 ow_dm_X16_has (dk_X16 ac)) (K : nd_Ki p l e (headSpec ow_dm_X16_has ({ frames := 1, cells := 0, slots := 0, locals := 22 })).room s m args below meth c Q A (dC, dI) cX16_has .boolean (St × (St)) (dw_X16 a ac) r) : dj_X16_has_0 p l e s m args below meth c Q A dC dI a ac (df_X16_has_0 n) r := by
  obtain ⟨hlt, hx, hb, hml, hown, hts, hN, hA, hK⟩ := id C
  intro v0 v1 s0 H locs ls h hP hD hS hl
  unfold df_X16_has_0 at h
  refine lv_aload_n hx hb dX16_has_0 rfl (lv_at hl 0 rfl) ?_
  refine va_get (D := (dC, dI)) (ci := 17) (v := .int (sI s0.1 1)) (C := RX16) (T := TX16) (N := 56) hx hb hts hi_dm_X16_has_X16 hown hK hP 0 rfl rfl 2 (by decide) (hts (.fieldLink RX16 141 "TimeMachineModel$Machine" "current" "I") (List.mem_of_getElem? (i := 1) rfl)) (fun _ h9 => h9) rfl dX16_has_1 ?_
  refine lv_iconst (v := (-1)) hx hb dX16_has_4 (by decide) ?_
  refine lv_icmp_eq (tgt := 35) hx hb dX16_has_5 (by decide) (fun c1 => ?_) (fun c1 => ?_)
  · have h := nd_pos h c1
    exact (db_X16_has_35 C K) (v0) (v1) s0 _ _ _ h hP hD hS (lv_sub hl [0, 1, 2] rfl)
  · have h := nd_neg h c1
    refine lv_lload_n hx hb dX16_has_8 rfl (lv_at hl 1 rfl) ?_
    refine lv_lconst (v := 0) hx hb dX16_has_9 (by decide) ?_
    refine W.lcmp hx hb dX16_has_10 ?_
    refine lv_if_lt (tgt := 35) hx hb dX16_has_11 (by decide) (fun c9 => ?_) (fun c9 => ?_)
    · have h := nd_pos h c9
      exact (db_X16_has_35 C K) (v0) (v1) s0 _ _ _ h hP hD hS (lv_sub hl [0, 1, 2] rfl)
    · have h := nd_neg h c9
      refine lv_lload_n hx hb dX16_has_14 rfl (lv_at hl 1 rfl) ?_
      refine lv_ldc2 hx hb hown (hts (.constantLong RX16 522 (65535)) (List.mem_of_getElem? (i := 6) rfl)) dX16_has_15 ?_
      refine W.lcmp hx hb dX16_has_18 ?_
      refine lv_if_gt (tgt := 35) hx hb dX16_has_19 (by decide) (fun c10 => ?_) (fun c10 => ?_)
      · have h := nd_pos h c10
        exact (db_X16_has_35 C K) (v0) (v1) s0 _ _ _ h hP hD hS (lv_sub hl [0, 1, 2] rfl)
      · have h := nd_neg h c10
        refine lv_lload_n hx hb dX16_has_22 rfl (lv_at hl 1 rfl) ?_
        refine lv_iload_n hx hb dX16_has_23 rfl (lv_at hl 2 rfl) ?_
        refine lv_i2l hx hb dX16_has_24 rfl ?_
        obtain ⟨i11, h⟩ := nd_nz_e h
        refine lv_lrem hx hb dX16_has_25 i11 ?_
        refine lv_lconst (v := 0) hx hb dX16_has_26 (by decide) ?_
        refine W.lcmp hx hb dX16_has_27 ?_
        refine lv_if_ne (tgt := 35) hx hb dX16_has_28 (by decide) (fun c12 => ?_) (fun c12 => ?_)
        · have h := nd_neg h c12
          exact (db_X16_has_35 C K) (v0) (v1) s0 _ _ _ h hP hD hS (lv_sub hl [0, 1, 2] rfl)
        · have h := nd_pos h c12
          refine lv_iconst (v := 1) hx hb dX16_has_31 (by decide) ?_
          refine lv_goto (tgt := 36) hx hb dX16_has_32 (by decide) ?_
          exact (db_X16_has_36 C K) (v0) (v1) (1) s0 _ _ _ h hP hD hS (lv_sub hl [0, 1, 2] rfl)
set_option maxHeartbeats 40000000 in
set_option maxRecDepth 100000 in
theorem dm_X16_has (l : Launch) (hlt : l.stackTraces = false) (dC : Nat → ClassId) (dI : Nat → Nat → Nat) (a : Nat → Nat) (ac : Nat → ClassId) (n : Nat) (v0 : Int64) (v1 : Int32) (s0 : St × (St)) {r : Int32 × (St × (St))} (h : df_X16_has n v0 v1 s0 = some r) (sz : Nat) : Met l yX16_has ow_dm_X16_has ({ frames := 1, cells := 0, slots := 0, locals := 22 }) (va_Pc [.ref (a 0), .long v0, .int v1] (fun U => U.heap.size = sz ∧ va_P (dC, dI) vwCl (dw_X16 a ac s0) U.heap ∧ va_K (dC, dI) vwCl (dk_X16 ac) U ∧ va_D (fun _ => True) (dw_X16 a ac s0) ∧ nv_E dI (va_A (dw_X16 a ac s0) sz) U)) (va_Qi (fun x _ => x = r.1) (fun (_ : Unit) t => va_P (dC, dI) vwCl (dw_X16 a ac r.2) t.heap ∧ va_K (dC, dI) vwCl (dk_X16 ac) t ∧ va_D (va_A (dw_X16 a ac s0) sz) (dw_X16 a ac r.2)) (va_A (dw_X16 a ac s0) sz)) 0 0 (va_A (dw_X16 a ac s0) sz) := by
  refine Met.ofW (cc := cX16_has) (maxL := 6) (ret := (some .boolean)) (by decide) rfl ?_
  intro p e s m args below meth c s₁ B hml hv
  obtain ⟨rfl, hsz, hP, hK, hD0, hN⟩ := hv
  have hx := B.exec
  have hb := B.bytes
  have hr := B.returns
  have hts := atoms_spec (ws := ow_dm_X16_has) B.pre
  have hown : s.vm.findClass RX16 = some m.cls := findClass_of_methodNamed B.named
  have hlocks := B.notSynchronized
  subst hsz
  have hD := hD0.self (sz := s.heap.size)
  generalize hAe : va_A (dw_X16 a ac s0) s.heap.size = A at hD hN ⊢
  have hA : ∀ q : Nat, s.heap.size ≤ q → A q := fun q h => by rw [← hAe]; exact Or.inr h
  have hl := lv_entry ([.ref (a 0), .long v0, .int v1]) (n := 6) (Nat.le_of_ble_eq_true rfl)
  rw [lg_entry_eq]
  generalize (lg_sl ([.ref (a 0), .long v0, .int v1]) ++ List.replicate (6 - (lg_sl ([.ref (a 0), .long v0, .int v1])).length) Slot.unset).toArray = ls at hl ⊢
  have hl : lv_has ls 6 [(0, .ref (a 0)), (1, .long v0), (3, .int v1)] := hl
  exact db_X16_has_0 (dC := dC) (dI := dI) (a := a) (ac := ac) (n := n) (r := r) ⟨hlt, hx, hb, hml, hown, hts, hN, hA, hK⟩ (fun pc v τ H locs ls d z er hP hD hS => by subst er; exact W.zret (v := v) hx hb hr z (fun t ht hW => ⟨⟨v, (), rfl, rfl, by rw [ht]; exact hP, va_K.moved hW.alike hK, hD⟩, hS.F ht⟩) hS.2.2 d) v0 v1 s0 _ _ _ h hP hD va_S.rf (lv_sub hl [0, 1, 2] rfl)
def ow_dm_X16_cell : List Cond := Cond.code yX16_cell cX16_cell 2 (some .int) :: ([Cond.fieldLink RX16 141 "TimeMachineModel$Machine" "current" "I", Cond.methodLink RX16 517 yX16_peek, Cond.instanceMethod yX16_peek, Cond.selects RX16 yX16_peek yX16_peek, Cond.initialized RX16] ++ (u_ws RX16 TX16 56 ++ (ow_dm_X16_peek ++ [])))
theorem gd_dm_X16_cell : ∀ w ∈ ow_dm_X16_cell, (w.onTables && w.keeps) = true ∨ ∃ ty, w = Cond.arrayClass ty := List.forall_mem_cons.mpr ⟨good_of_word rfl, List.forall_mem_append.mpr ⟨fun w h => good_of_word (List.all_eq_true.mp (by decide +kernel) w h), List.forall_mem_append.mpr ⟨gu_X16, List.forall_mem_append.mpr ⟨gd_dm_X16_peek, fun _ h => nomatch h⟩⟩⟩⟩
theorem hi_dm_X16_cell_X16 : ∀ w ∈ u_ws RX16 TX16 56, w ∈ ow_dm_X16_cell := fun w h => List.mem_cons_of_mem _ (List.mem_append_right _ (List.mem_append_left _ h))
theorem gi_dm_X16_cell_0 : GoodIn ow_dm_X16_cell (wsV RX16 517 RX16 yX16_peek ow_dm_X16_peek) := goodIn_app (goodIn_of _ (by decide +kernel)) (fun w h => ⟨List.mem_cons_of_mem _ (List.mem_append_right _ (List.mem_append_right _ (List.mem_append_left _ h))), gd_dm_X16_peek w h⟩)
def dj_X16_cell_0 (p : Program) (l : Launch) (e : Env) (s : State) (m : MethodId) (args : Array Value) (below : List Frame) (meth : Method) (c : Code) (Q : State → Prop) (A : Nat → Prop) (dC : Nat → ClassId) (dI : Nat → Nat → Nat) (a : Nat → Nat) (ac : Nat → ClassId) (g : Int32 → (St × (St)) → Option (Int32 × (St × (St)))) (r : Int32 × (St × (St))) : Prop := ∀ (v0 : Int32) (s0 : St × (St)) (H : Heap) (locs : List Loc) (ls : Array Slot), g v0 s0 = some r → va_P (dC, dI) vwCl (dw_X16 a ac s0) H → va_D A (dw_X16 a ac s0) → va_S A s.heap H locs → lv_has ls 2 [(0, .ref (a 0)), (1, .int v0)] → W p l e (headSpec ow_dm_X16_cell ({ frames := 2, cells := 0, slots := 0, locals := 44 })).room s m args below meth c H locs 0 0 Q (F0 m 0 ls [])
set_option maxHeartbeats 40000000 in
set_option maxRecDepth 100000 in
theorem db_X16_cell_0 {p : Program} {l : Launch} {e : Env} {s : State} {m : MethodId} {args : Array Value} {below : List Frame} {meth : Method} {c : Code} {Q : State → Prop} {A : Nat → Prop} {dC : Nat → ClassId} {dI : Nat → Nat → Nat} {a : Nat → Nat} {ac : Nat → ClassId} {n : Nat} {r : Int32 × (St × (St))} (C : nd_C p l s m args c A (dC, dI) cX16_cell 2 RX16 ow_dm_X16_cell (dk_X16 ac)) (K : nd_Ki p l e (headSpec ow_dm_X16_cell ({ frames := 2, cells := 0, slots := 0, locals := 44 })).room s m args below meth c Q A (dC, dI) cX16_cell .int (St × (St)) (dw_X16 a ac) r) : dj_X16_cell_0 p l e s m args below meth c Q A dC dI a ac (df_X16_cell_0 n) r := by
  obtain ⟨hlt, hx, hb, hml, hown, hts, hN, hA, hK⟩ := id C
  intro v0 s0 H locs ls h hP hD hS hl
  unfold df_X16_cell_0 at h
  refine lv_aload_n hx hb dX16_cell_0 rfl (lv_at hl 0 rfl) ?_
  refine lv_aload_n hx hb dX16_cell_1 rfl (lv_at hl 0 rfl) ?_
  refine va_get (D := (dC, dI)) (ci := 17) (v := .int (sI s0.1 1)) (C := RX16) (T := TX16) (N := 56) hx hb hts hi_dm_X16_cell_X16 hown hK hP 0 rfl rfl 2 (by decide) (hts (.fieldLink RX16 141 "TimeMachineModel$Machine" "current" "I") (List.mem_of_getElem? (i := 1) rfl)) (fun _ h9 => h9) rfl dX16_cell_2 ?_
  refine lv_iload_n hx hb dX16_cell_5 rfl (lv_at hl 1 rfl) ?_
  obtain ⟨q1, s2, hq, h⟩ := nd_b2_e h
  have hPc := hP
  have hDc := hD
  have hKc := hK
  have hFc := nd_rs hD hS hA
  refine nd_cVi (As := [.int (sI s0.1 1), .int v0]) (rest := []) (q := q1) (w' := dw_X16 a ac s2) ⟨hx, hb, hml, hown, hts⟩ (fun sz => dm_X16_peek l hlt dC dI a ac n ((sI s0.1 1)) (v0) s0 hq sz) (cwV 2 hts gi_dm_X16_cell_0 rfl rfl rfl (by decide +kernel) ⟨Nat.le_of_ble_eq_true rfl, Nat.le_of_ble_eq_true rfl⟩) hPc hDc hKc hS hA hN (va_recv hKc hPc (ci := 17) (q0 := 0) rfl rfl) rfl hl.1 rfl (Nat.le_of_ble_eq_true rfl) dX16_cell_6 (fun H locs hP1 hD1 hk1 hS => ?_)
  have hP := hP1
  have hD := hD1.weaken (fun k q _ h => hFc q.1 h)
  exact K _ _ _ _ _ _ dX16_cell_9 rfl (Option.some.inj h).symm hP hD hS
set_option maxHeartbeats 40000000 in
set_option maxRecDepth 100000 in
theorem dm_X16_cell (l : Launch) (hlt : l.stackTraces = false) (dC : Nat → ClassId) (dI : Nat → Nat → Nat) (a : Nat → Nat) (ac : Nat → ClassId) (n : Nat) (v0 : Int32) (s0 : St × (St)) {r : Int32 × (St × (St))} (h : df_X16_cell n v0 s0 = some r) (sz : Nat) : Met l yX16_cell ow_dm_X16_cell ({ frames := 2, cells := 0, slots := 0, locals := 44 }) (va_Pc [.ref (a 0), .int v0] (fun U => U.heap.size = sz ∧ va_P (dC, dI) vwCl (dw_X16 a ac s0) U.heap ∧ va_K (dC, dI) vwCl (dk_X16 ac) U ∧ va_D (fun _ => True) (dw_X16 a ac s0) ∧ nv_E dI (va_A (dw_X16 a ac s0) sz) U)) (va_Qi (fun x _ => x = r.1) (fun (_ : Unit) t => va_P (dC, dI) vwCl (dw_X16 a ac r.2) t.heap ∧ va_K (dC, dI) vwCl (dk_X16 ac) t ∧ va_D (va_A (dw_X16 a ac s0) sz) (dw_X16 a ac r.2)) (va_A (dw_X16 a ac s0) sz)) 0 0 (va_A (dw_X16 a ac s0) sz) := by
  refine Met.ofW (cc := cX16_cell) (maxL := 2) (ret := (some .int)) (by decide) rfl ?_
  intro p e s m args below meth c s₁ B hml hv
  obtain ⟨rfl, hsz, hP, hK, hD0, hN⟩ := hv
  have hx := B.exec
  have hb := B.bytes
  have hr := B.returns
  have hts := atoms_spec (ws := ow_dm_X16_cell) B.pre
  have hown : s.vm.findClass RX16 = some m.cls := findClass_of_methodNamed B.named
  have hlocks := B.notSynchronized
  subst hsz
  have hD := hD0.self (sz := s.heap.size)
  generalize hAe : va_A (dw_X16 a ac s0) s.heap.size = A at hD hN ⊢
  have hA : ∀ q : Nat, s.heap.size ≤ q → A q := fun q h => by rw [← hAe]; exact Or.inr h
  have hl := lv_entry ([.ref (a 0), .int v0]) (n := 2) (Nat.le_of_ble_eq_true rfl)
  rw [lg_entry_eq]
  generalize (lg_sl ([.ref (a 0), .int v0]) ++ List.replicate (2 - (lg_sl ([.ref (a 0), .int v0])).length) Slot.unset).toArray = ls at hl ⊢
  have hl : lv_has ls 2 [(0, .ref (a 0)), (1, .int v0)] := hl
  exact db_X16_cell_0 (dC := dC) (dI := dI) (a := a) (ac := ac) (n := n) (r := r) ⟨hlt, hx, hb, hml, hown, hts, hN, hA, hK⟩ (fun pc v τ H locs ls d z er hP hD hS => by subst er; exact W.zret (v := v) hx hb hr z (fun t ht hW => ⟨⟨v, (), rfl, rfl, by rw [ht]; exact hP, va_K.moved hW.alike hK, hD⟩, hS.F ht⟩) hS.2.2 d) v0 s0 _ _ _ h hP hD va_S.rf (lv_sub hl [0, 1] rfl)

