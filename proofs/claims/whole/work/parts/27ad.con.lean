set_option maxHeartbeats 40000000 in
set_option maxRecDepth 100000 in
theorem dB_X1_putAll_10 {p : Program} {l : Launch} {e : Env} {s : State} {m : MethodId} {args : Array Value} {below : List Frame} {meth : Method} {c : Code} {Q : State → Prop} {A : Nat → Prop} {dC : Nat → ClassId} {dI : Nat → Nat → Nat} {a : Nat → Nat} {ac : Nat → ClassId} {n : Nat} {r : St × (St × (St)) × (St)} (C : nd_C p l s m args c A (dC, dI) cX1_putAll 4 RX1 ow_dm_X1_putAll (dk_X1p ac)) (K : nd_Kv p l e (headSpec ow_dm_X1_putAll ({ frames := 5, cells := 0, slots := 0, locals := 114 })).room s m args below meth c Q A (dC, dI) cX1_putAll (St × (St × (St)) × (St)) (dw_X1p a ac) r) {g10 : Int32 → (St × (St × (St)) × (St)) → Option (St × (St × (St)) × (St))} (J10 : dj_X1_putAll_10 p l e s m args below meth c Q A dC dI a ac g10 r) : dj_X1_putAll_10 p l e s m args below meth c Q A dC dI a ac (dF_X1_putAll_10 n g10) r := by
  obtain ⟨hlt, hx, hb, hml, hown, hts, hN, hA, hK⟩ := id C
  intro x2 s0 H locs ls h hP hD hS hl
  unfold dF_X1_putAll_10 at h
  refine lv_iload_n hx hb dX1_putAll_10 rfl (lv_at hl 2 rfl) ?_
  refine lv_aload_n hx hb dX1_putAll_11 rfl (lv_at hl 0 rfl) ?_
  refine va_get (D := (dC, dI)) (ci := 2) (v := .int (sI s0.2.1.1 0)) (C := RX1) (T := TX1) (N := 13) hx hb hts hi_dm_X1_putAll_X1 hown hK hP 0 rfl rfl 2 (by decide) (hts (.fieldLink RX1 65 "TimeMachine$Assembler" "statements" "I") (List.mem_of_getElem? (i := 5) rfl)) (fun _ h9 => h9) rfl dX1_putAll_12 ?_
  refine lv_icmp_ge (tgt := 152) hx hb dX1_putAll_15 (by decide) (fun c2 => ?_) (fun c2 => ?_)
  · have h := nd_pos h c2
    exact (db_X1_putAll_152 C K)  s0 _ _ _ h hP hD hS (lv_sub hl [] rfl)
  · have h := nd_neg h c2
    refine lv_aload_n hx hb dX1_putAll_18 rfl (lv_at hl 0 rfl) ?_
    refine va_get (D := (dC, dI)) (ci := 2) (v := .int (sI s0.2.1.1 2)) (C := RX1) (T := TX1) (N := 13) hx hb hts hi_dm_X1_putAll_X1 hown hK hP 0 rfl rfl 5 (by decide) (hts (.fieldLink RX1 32 "TimeMachine$Assembler" "fault" "I") (List.mem_of_getElem? (i := 6) rfl)) (fun _ h9 => h9) rfl dX1_putAll_19 ?_
    refine lv_if_ne (tgt := 152) hx hb dX1_putAll_22 (by decide) (fun c3 => ?_) (fun c3 => ?_)
    · have h := nd_neg h c3
      exact (db_X1_putAll_152 C K)  s0 _ _ _ h hP hD hS (lv_sub hl [] rfl)
    · have h := nd_pos h c3
      refine lv_iload_n hx hb dX1_putAll_25 rfl (lv_at hl 2 rfl) ?_
      refine lv_bipush (v := 8) hx hb dX1_putAll_26 (by decide) ?_
      refine lv_imul hx hb dX1_putAll_28 ?_
      refine lv_topi (fun z4 ez4 => ?_)
      have h := nd_at h ez4
      refine lv_istore_n (lv' := [(3, .int z4), (0, .ref (a 0)), (1, .ref (a 12)), (2, .int x2)]) hx hb dX1_putAll_29 rfl hl (by decide) rfl (fun ls hl => ?_)
      refine lv_aload_n hx hb dX1_putAll_30 rfl (lv_at hl 1 rfl) ?_
      refine lv_aload_n hx hb dX1_putAll_31 rfl (lv_at hl 1 rfl) ?_
      refine va_get (D := (dC, dI)) (ci := 2) (v := .ref (a 1)) (C := RX1) (T := TX1) (N := 13) hx hb hts hi_dm_X1_putAll_X1 hown hK hP 0 rfl rfl 1 (by decide) (hts (.fieldLink RX1 19 "TimeMachine$Assembler" "statement" "[I") (List.mem_of_getElem? (i := 7) rfl)) (fun _ h9 => h9) rfl dX1_putAll_32 ?_
      refine lv_iload_n hx hb dX1_putAll_35 rfl (lv_at hl 0 rfl) ?_
      refine lv_iconst (v := 0) hx hb dX1_putAll_36 (by decide) ?_
      refine lv_iadd hx hb dX1_putAll_37 ?_
      obtain ⟨i5, h⟩ := nd_ck_e h
      refine va_iald (i := (z4 + 0)) hx hb hK hP 1 0 rfl rfl i5 dX1_putAll_38 ?_
      refine va_put (D := (dC, dI)) (ci := 2) (v := .int (sR s0.2.1.1 0 (Int32.toNatClampNeg (z4 + 0)))) (ty := .int) (C := RX1) (T := TX1) (N := 13) hx hb hts hi_dm_X1_putAll_X1 tyX1 tyX1_ok nmX1 hown hK hP hD hS 0 rfl rfl 6 (by decide) (hts (.fieldLink RX1 36 "TimeMachine$Assembler" "line" "I") (List.mem_of_getElem? (i := 8) rfl)) (fun _ h9 => h9) rfl (by decide +kernel) rfl rfl (Nat.le_of_ble_eq_true rfl) dX1_putAll_39 (fun H locs hP hD hS => ?_)
      obtain ⟨s6, es6, h⟩ := nd_let_e h
      have hP : va_P (dC, dI) vwCl (dw_X1p a ac s6) H := by rw [es6]; exact hP
      have hD : va_D A (dw_X1p a ac s6) := by rw [es6]; exact hD
      refine lv_aload_n hx hb dX1_putAll_42 rfl (lv_at hl 1 rfl) ?_
      refine va_get (D := (dC, dI)) (ci := 2) (v := .ref (a 1)) (C := RX1) (T := TX1) (N := 13) hx hb hts hi_dm_X1_putAll_X1 hown hK hP 0 rfl rfl 1 (by decide) (hts (.fieldLink RX1 19 "TimeMachine$Assembler" "statement" "[I") (List.mem_of_getElem? (i := 7) rfl)) (fun _ h9 => h9) rfl dX1_putAll_43 ?_
      refine lv_iload_n hx hb dX1_putAll_46 rfl (lv_at hl 0 rfl) ?_
      refine lv_iconst (v := 4) hx hb dX1_putAll_47 (by decide) ?_
      refine lv_iadd hx hb dX1_putAll_48 ?_
      obtain ⟨i7, h⟩ := nd_ck_e h
      refine va_iald (i := (z4 + 4)) hx hb hK hP 1 0 rfl rfl i7 dX1_putAll_49 ?_
      by_cases c8 : (sR s6.2.1.1 0 (Int32.toNatClampNeg (z4 + 4))) = 0
      · have h := nd_pos h c8
        refine lv_tableIn (off := 42) (tgt := 92) hx hb dX1_putAll_50 (by rw [c8]; decide) (by rw [c8]; decide) (by rw [c8]; decide) (by decide) ?_
        refine lv_aload_n hx hb dX1_putAll_92 rfl (lv_at hl 1 rfl) ?_
        refine lv_aload_n hx hb dX1_putAll_93 rfl (lv_at hl 2 rfl) ?_
        refine lv_iload_n hx hb dX1_putAll_94 rfl (lv_at hl 0 rfl) ?_
        obtain ⟨s10, hq, h⟩ := nd_b1_e h
        have hPc := hP
        have hDc := hD
        have hKc := hK
        have hFc := nd_rs hD hS hA
        refine nd_cVv (As := [.ref (a 12), .int z4]) (rest := []) (w' := dw_X1p a ac s10) ⟨hx, hb, hml, hown, hts⟩ (fun sz => dm_X1_putPlain l hlt dC dI a ac n (z4) s6 hq sz) (cwV 2 hts gi_dm_X1_putAll_1 rfl rfl rfl (by decide +kernel) ⟨Nat.le_of_ble_eq_true rfl, Nat.le_of_ble_eq_true rfl⟩) hPc hDc hKc hS hA hN (va_recv hKc hPc (ci := 2) (q0 := 0) rfl rfl) rfl hl.1 rfl (Nat.le_of_ble_eq_true rfl) dX1_putAll_95 (fun H locs hP1 hD1 hk1 hS => ?_)
        have hP := hP1
        have hD := hD1.weaken (fun k q _ h => hFc q.1 h)
        refine lv_goto (tgt := 146) hx hb dX1_putAll_98 (by decide) ?_
        exact (db_X1_putAll_146 C K J10) (x2) s10 _ _ _ h hP hD hS (lv_sub hl [1, 2, 3] rfl)
      have h := nd_neg h c8
      by_cases c13 : (sR s6.2.1.1 0 (Int32.toNatClampNeg (z4 + 4))) = 1
      · have h := nd_pos h c13
        refine lv_tableIn (off := 51) (tgt := 101) hx hb dX1_putAll_50 (by rw [c13]; decide) (by rw [c13]; decide) (by rw [c13]; decide) (by decide) ?_
        exact (db_X1_putAll_101 C K J10) (x2) (z4) s6 _ _ _ h hP hD hS (lv_sub hl [1, 2, 3, 0] rfl)
      have h := nd_neg h c13
      by_cases c17 : (sR s6.2.1.1 0 (Int32.toNatClampNeg (z4 + 4))) = 2
      · have h := nd_pos h c17
        refine lv_tableIn (off := 51) (tgt := 101) hx hb dX1_putAll_50 (by rw [c17]; decide) (by rw [c17]; decide) (by rw [c17]; decide) (by decide) ?_
        exact (db_X1_putAll_101 C K J10) (x2) (z4) s6 _ _ _ h hP hD hS (lv_sub hl [1, 2, 3, 0] rfl)
      have h := nd_neg h c17
      by_cases c18 : (sR s6.2.1.1 0 (Int32.toNatClampNeg (z4 + 4))) = 3
      · have h := nd_pos h c18
        refine lv_tableIn (off := 60) (tgt := 110) hx hb dX1_putAll_50 (by rw [c18]; decide) (by rw [c18]; decide) (by rw [c18]; decide) (by decide) ?_
        refine lv_aload_n hx hb dX1_putAll_110 rfl (lv_at hl 1 rfl) ?_
        refine lv_aload_n hx hb dX1_putAll_111 rfl (lv_at hl 2 rfl) ?_
        refine lv_iload_n hx hb dX1_putAll_112 rfl (lv_at hl 0 rfl) ?_
        obtain ⟨s20, hq, h⟩ := nd_b1_e h
        have hPc := hP
        have hDc := hD
        have hKc := hK
        have hFc := nd_rs hD hS hA
        refine nd_cVv (As := [.ref (a 12), .int z4]) (rest := []) (w' := dw_X1p a ac s20) ⟨hx, hb, hml, hown, hts⟩ (fun sz => dm_X1_putAddress l hlt dC dI a ac n (z4) s6 hq sz) (cwV 2 hts gi_dm_X1_putAll_3 rfl rfl rfl (by decide +kernel) ⟨Nat.le_of_ble_eq_true rfl, Nat.le_of_ble_eq_true rfl⟩) hPc hDc hKc hS hA hN (va_recv hKc hPc (ci := 2) (q0 := 0) rfl rfl) rfl hl.1 rfl (Nat.le_of_ble_eq_true rfl) dX1_putAll_113 (fun H locs hP1 hD1 hk1 hS => ?_)
        have hP := hP1
        have hD := hD1.weaken (fun k q _ h => hFc q.1 h)
        refine lv_goto (tgt := 146) hx hb dX1_putAll_116 (by decide) ?_
        exact (db_X1_putAll_146 C K J10) (x2) s20 _ _ _ h hP hD hS (lv_sub hl [1, 2, 3] rfl)
      have h := nd_neg h c18
      by_cases c22 : (sR s6.2.1.1 0 (Int32.toNatClampNeg (z4 + 4))) = 4
      · have h := nd_pos h c22
        refine lv_tableIn (off := 69) (tgt := 119) hx hb dX1_putAll_50 (by rw [c22]; decide) (by rw [c22]; decide) (by rw [c22]; decide) (by decide) ?_
        refine lv_aload_n hx hb dX1_putAll_119 rfl (lv_at hl 1 rfl) ?_
        refine lv_aload_n hx hb dX1_putAll_120 rfl (lv_at hl 2 rfl) ?_
        refine lv_iload_n hx hb dX1_putAll_121 rfl (lv_at hl 0 rfl) ?_
        obtain ⟨s24, hq, h⟩ := nd_b1_e h
        have hPc := hP
        have hDc := hD
        have hKc := hK
        have hFc := nd_rs hD hS hA
        refine nd_cVv (As := [.ref (a 12), .int z4]) (rest := []) (w' := dw_X1p a ac s24) ⟨hx, hb, hml, hown, hts⟩ (fun sz => dm_X1_putNumber l hlt dC dI a ac n (z4) s6 hq sz) (cwV 2 hts gi_dm_X1_putAll_4 rfl rfl rfl (by decide +kernel) ⟨Nat.le_of_ble_eq_true rfl, Nat.le_of_ble_eq_true rfl⟩) hPc hDc hKc hS hA hN (va_recv hKc hPc (ci := 2) (q0 := 0) rfl rfl) rfl hl.1 rfl (Nat.le_of_ble_eq_true rfl) dX1_putAll_122 (fun H locs hP1 hD1 hk1 hS => ?_)
        have hP := hP1
        have hD := hD1.weaken (fun k q _ h => hFc q.1 h)
        refine lv_goto (tgt := 146) hx hb dX1_putAll_125 (by decide) ?_
        exact (db_X1_putAll_146 C K J10) (x2) s24 _ _ _ h hP hD hS (lv_sub hl [1, 2, 3] rfl)
      have h := nd_neg h c22
      by_cases c26 : (sR s6.2.1.1 0 (Int32.toNatClampNeg (z4 + 4))) = 5
      · have h := nd_pos h c26
        refine lv_tableIn (off := 78) (tgt := 128) hx hb dX1_putAll_50 (by rw [c26]; decide) (by rw [c26]; decide) (by rw [c26]; decide) (by decide) ?_
        refine lv_aload_n hx hb dX1_putAll_128 rfl (lv_at hl 1 rfl) ?_
        refine lv_aload_n hx hb dX1_putAll_129 rfl (lv_at hl 2 rfl) ?_
        refine lv_iload_n hx hb dX1_putAll_130 rfl (lv_at hl 0 rfl) ?_
        obtain ⟨s28, hq, h⟩ := nd_b1_e h
        have hPc := hP
        have hDc := hD
        have hKc := hK
        have hFc := nd_rs hD hS hA
        refine nd_cVv (As := [.ref (a 12), .int z4]) (rest := []) (w' := dw_X1p a ac s28) ⟨hx, hb, hml, hown, hts⟩ (fun sz => dm_X1_putList l hlt dC dI a ac n (z4) s6 hq sz) (cwV 2 hts gi_dm_X1_putAll_5 rfl rfl rfl (by decide +kernel) ⟨Nat.le_of_ble_eq_true rfl, Nat.le_of_ble_eq_true rfl⟩) hPc hDc hKc hS hA hN (va_recv hKc hPc (ci := 2) (q0 := 0) rfl rfl) rfl hl.1 rfl (Nat.le_of_ble_eq_true rfl) dX1_putAll_131 (fun H locs hP1 hD1 hk1 hS => ?_)
        have hP := hP1
        have hD := hD1.weaken (fun k q _ h => hFc q.1 h)
        refine lv_goto (tgt := 146) hx hb dX1_putAll_134 (by decide) ?_
        exact (db_X1_putAll_146 C K J10) (x2) s28 _ _ _ h hP hD hS (lv_sub hl [1, 2, 3] rfl)
      have h := nd_neg h c26
      by_cases c30 : (sR s6.2.1.1 0 (Int32.toNatClampNeg (z4 + 4))) = 6
      · have h := nd_pos h c30
        refine lv_tableIn (off := 87) (tgt := 137) hx hb dX1_putAll_50 (by rw [c30]; decide) (by rw [c30]; decide) (by rw [c30]; decide) (by decide) ?_
        refine lv_aload_n hx hb dX1_putAll_137 rfl (lv_at hl 1 rfl) ?_
        refine lv_aload_n hx hb dX1_putAll_138 rfl (lv_at hl 2 rfl) ?_
        refine lv_iload_n hx hb dX1_putAll_139 rfl (lv_at hl 0 rfl) ?_
        obtain ⟨s32, hq, h⟩ := nd_b1_e h
        have hPc := hP
        have hDc := hD
        have hKc := hK
        have hFc := nd_rs hD hS hA
        refine nd_cVv (As := [.ref (a 12), .int z4]) (rest := []) (w' := dw_X1p a ac s32) ⟨hx, hb, hml, hown, hts⟩ (fun sz => dm_X1_putTexts l hlt dC dI a ac n (z4) s6 hq sz) (cwV 2 hts gi_dm_X1_putAll_6 rfl rfl rfl (by decide +kernel) ⟨Nat.le_of_ble_eq_true rfl, Nat.le_of_ble_eq_true rfl⟩) hPc hDc hKc hS hA hN (va_recv hKc hPc (ci := 2) (q0 := 0) rfl rfl) rfl hl.1 rfl (Nat.le_of_ble_eq_true rfl) dX1_putAll_140 (fun H locs hP1 hD1 hk1 hS => ?_)
        have hP := hP1
        have hD := hD1.weaken (fun k q _ h => hFc q.1 h)
        refine lv_goto (tgt := 146) hx hb dX1_putAll_143 (by decide) ?_
        exact (db_X1_putAll_146 C K J10) (x2) s32 _ _ _ h hP hD hS (lv_sub hl [1, 2, 3] rfl)
      have h := nd_neg h c30
      refine lv_tableOut (tgt := 146) hx hb dX1_putAll_50 (by have g0 := nv_nei c8 (k := 0) (by decide); have g1 := nv_nei c13 (k := 1) (by decide); have g2 := nv_nei c17 (k := 2) (by decide); have g3 := nv_nei c18 (k := 3) (by decide); have g4 := nv_nei c22 (k := 4) (by decide); have g5 := nv_nei c26 (k := 5) (by decide); have g6 := nv_nei c30 (k := 6) (by decide); omega) (by decide) ?_
      exact (db_X1_putAll_146 C K J10) (x2) s6 _ _ _ h hP hD hS (lv_sub hl [1, 2, 3] rfl)
set_option maxHeartbeats 40000000 in
set_option maxRecDepth 100000 in
theorem db_X1_putAll_10 {p : Program} {l : Launch} {e : Env} {s : State} {m : MethodId} {args : Array Value} {below : List Frame} {meth : Method} {c : Code} {Q : State → Prop} {A : Nat → Prop} {dC : Nat → ClassId} {dI : Nat → Nat → Nat} {a : Nat → Nat} {ac : Nat → ClassId} {n : Nat} {r : St × (St × (St)) × (St)} (C : nd_C p l s m args c A (dC, dI) cX1_putAll 4 RX1 ow_dm_X1_putAll (dk_X1p ac)) (K : nd_Kv p l e (headSpec ow_dm_X1_putAll ({ frames := 5, cells := 0, slots := 0, locals := 114 })).room s m args below meth c Q A (dC, dI) cX1_putAll (St × (St × (St)) × (St)) (dw_X1p a ac) r) (k : Nat) : dj_X1_putAll_10 p l e s m args below meth c Q A dC dI a ac (df_X1_putAll_10 n k) r := by
  induction k with
  | zero => intro x2 s0 H locs ls h; exact nomatch (show (none : Option (St × (St × (St)) × (St))) = some r from h)
  | succ k ih => exact dB_X1_putAll_10 C K ih
set_option maxHeartbeats 40000000 in
set_option maxRecDepth 100000 in
theorem db_X1_putAll_0 {p : Program} {l : Launch} {e : Env} {s : State} {m : MethodId} {args : Array Value} {below : List Frame} {meth : Method} {c : Code} {Q : State → Prop} {A : Nat → Prop} {dC : Nat → ClassId} {dI : Nat → Nat → Nat} {a : Nat → Nat} {ac : Nat → ClassId} {n : Nat} {r : St × (St × (St)) × (St)} (C : nd_C p l s m args c A (dC, dI) cX1_putAll 4 RX1 ow_dm_X1_putAll (dk_X1p ac)) (K : nd_Kv p l e (headSpec ow_dm_X1_putAll ({ frames := 5, cells := 0, slots := 0, locals := 114 })).room s m args below meth c Q A (dC, dI) cX1_putAll (St × (St × (St)) × (St)) (dw_X1p a ac) r) : dj_X1_putAll_0 p l e s m args below meth c Q A dC dI a ac (df_X1_putAll_0 n) r := by
  obtain ⟨hlt, hx, hb, hml, hown, hts, hN, hA, hK⟩ := id C
  intro s0 H locs ls h hP hD hS hl
  unfold df_X1_putAll_0 at h
  refine lv_aload_n hx hb dX1_putAll_0 rfl (lv_at hl 1 rfl) ?_
  refine va_get (D := (dC, dI)) (ci := 9) (v := .ref (a 13)) (C := RX8) (T := TX8) (N := 10) hx hb hts hi_dm_X1_putAll_X8 hown hK hP 12 rfl rfl 0 (by decide) (hts (.fieldLink RX1 300 "TimeMachine$Program" "image" "[B") (List.mem_of_getElem? (i := 1) rfl)) (fun _ h9 => h9) rfl dX1_putAll_1 ?_
  refine lv_iconst (v := 0) hx hb dX1_putAll_4 (by decide) ?_
  have hcl : (dw_X1p a ac s0)[13]? = some ((a 13), .inl (ac 13, 32768, .inl (sR s0.2.2 0))) := rfl
  have hPc := nd_c1 hP hcl
  have hDc := nd_cd hD hcl
  have hKc : va_K (dC, dI) vwCl [(ac 13, .byte)] s := hK.sub [10] rfl
  have hFc := nd_rs hDc hS hA
  refine va_callv (va_runS (As := [.ref (a 13), .int 0]) (rest := []) ⟨hx, hb, hml, hown, hts⟩ (dm_J7_fill_031fb l hlt dC dI (a 13) (ac 13) 32768 (by decide) (sR s0.2.2 0) 0 _) (va_cwS 2 hts gi_dm_X1_putAll_0 rfl rfl rfl (by decide +kernel) ⟨Nat.le_of_ble_eq_true rfl, Nat.le_of_ble_eq_true rfl⟩) ⟨fun a U g mk q => by obtain ⟨q0, q1, qP, qK, qD, qN⟩ := q; exact ⟨q0, q1, qP, va_K.moved (u := U) (U := U.calling g mk a) (Vm.Alike.refl U.vm) qK, qD, nv_same rfl rfl qN⟩, fun U hU hW => ⟨rfl, by rw [hU], by rw [hU]; exact hPc, va_K.moved hW.alike hKc, hDc.weaken (fun _ _ _ _ => trivial), nv_call hS hFc hU hW hN⟩⟩ rfl rfl hl.1 rfl (lv_room (Nat.le_of_ble_eq_true rfl)) dX1_putAll_5 ⟨by decide +kernel, by decide +kernel⟩) hS (fun q _ h => hFc q h) hFc (fun u t H locs ht hvm hw hB hz1 hk1 hS => ?_)
  obtain ⟨hP1, -, hD1⟩ := hB
  rw [ht] at hP1
  have hP := nd_cs hP hD hcl hk1 hP1
  have hD := hD.set (e := .inl (ac 13, 32768, .inl (nd_fl 32768 (vp_nar .byte 0) (sR s0.2.2 0)))) hcl
  refine W.widen (k := 0) (n := 0) (Nat.le_refl _) (Nat.le_refl _) ?_
  obtain ⟨s1, es1, h⟩ := nd_let_e h
  have hP : va_P (dC, dI) vwCl (dw_X1p a ac s1) H := by rw [es1]; exact hP
  have hD : va_D A (dw_X1p a ac s1) := by rw [es1]; exact hD
  refine lv_iconst (v := 0) hx hb dX1_putAll_8 (by decide) ?_
  refine lv_istore_n (lv' := [(2, .int 0), (0, .ref (a 0)), (1, .ref (a 12))]) hx hb dX1_putAll_9 rfl hl (by decide) rfl (fun ls hl => ?_)
  exact (db_X1_putAll_10 C K n) (0) s1 _ _ _ h hP hD hS (lv_sub hl [1, 2, 0] rfl)
set_option maxHeartbeats 40000000 in
set_option maxRecDepth 100000 in
theorem dm_X1_putAll (l : Launch) (hlt : l.stackTraces = false) (dC : Nat → ClassId) (dI : Nat → Nat → Nat) (a : Nat → Nat) (ac : Nat → ClassId) (n : Nat) (s0 : St × (St × (St)) × (St)) {r : St × (St × (St)) × (St)} (h : df_X1_putAll n s0 = some r) (sz : Nat) : Met l yX1_putAll ow_dm_X1_putAll ({ frames := 5, cells := 0, slots := 0, locals := 114 }) (va_Pc [.ref (a 0), .ref (a 12)] (fun U => U.heap.size = sz ∧ va_P (dC, dI) vwCl (dw_X1p a ac s0) U.heap ∧ va_K (dC, dI) vwCl (dk_X1p ac) U ∧ va_D (fun _ => True) (dw_X1p a ac s0) ∧ nv_E (va_A (dw_X1p a ac s0) sz) U)) (va_Qv (fun _ => True) (fun (_ : Unit) t => va_P (dC, dI) vwCl (dw_X1p a ac r) t.heap ∧ va_K (dC, dI) vwCl (dk_X1p ac) t ∧ va_D (va_A (dw_X1p a ac s0) sz) (dw_X1p a ac r)) (va_A (dw_X1p a ac s0) sz)) 0 0 (va_A (dw_X1p a ac s0) sz) := by
  refine Met.ofW (cc := cX1_putAll) (maxL := 4) (ret := none) (by decide) rfl ?_
  intro p e s m args below meth c s₁ B hml hv
  obtain ⟨rfl, hsz, hP, hK, hD0, hN⟩ := hv
  have hx := B.exec
  have hb := B.bytes
  have hr := B.returns
  have hts := atoms_spec (ws := ow_dm_X1_putAll) B.pre
  have hown : s.vm.findClass RX1 = some m.cls := findClass_of_methodNamed B.named
  have hlocks := B.notSynchronized
  subst hsz
  have hD := hD0.self (sz := s.heap.size)
  generalize hAe : va_A (dw_X1p a ac s0) s.heap.size = A at hD hN ⊢
  have hA : ∀ q : Nat, s.heap.size ≤ q → A q := fun q h => by rw [← hAe]; exact Or.inr h
  have hl := lv_entry ([.ref (a 0), .ref (a 12)]) (n := 4) (Nat.le_of_ble_eq_true rfl)
  rw [lg_entry_eq]
  generalize (lg_sl ([.ref (a 0), .ref (a 12)]) ++ List.replicate (4 - (lg_sl ([.ref (a 0), .ref (a 12)])).length) Slot.unset).toArray = ls at hl ⊢
  have hl : lv_has ls 4 [(0, .ref (a 0)), (1, .ref (a 12))] := hl
  exact db_X1_putAll_0 (dC := dC) (dI := dI) (a := a) (ac := ac) (n := n) (r := r) ⟨hlt, hx, hb, hml, hown, hts, hN, hA, hK⟩ (fun pc τ H locs ls d er hP hD hS => by subst er; exact W.vret hx hb hr (fun t ht hW => ⟨⟨(), rfl, trivial, by rw [ht]; exact hP, va_K.moved hW.alike hK, hD⟩, hS.F ht⟩) hS.2.2 d) s0 _ _ _ h hP hD va_S.rf (lv_sub hl [0, 1] rfl)
def ow_dm_X9_nameAt : List Cond := .code yX9_nameAt cX9_nameAt 9 (some .int) :: ([.fieldLink RX9 30 "TimeMachine$Reader" "bucket" "[I", .fieldLink RX9 43 "TimeMachine$Reader" "names" "I", .fieldLink RX9 27 "TimeMachine$Reader" "name" "[I", .fieldLink RX9 9 "TimeMachine$Reader" "source" "[B"] ++ (u_ws RX9 TX9 20 ++ []))
theorem gd_dm_X9_nameAt : ∀ w ∈ ow_dm_X9_nameAt, (w.onTables && w.keeps) = true ∨ ∃ ty, w = Cond.arrayClass ty := List.forall_mem_cons.mpr ⟨good_of_word rfl, List.forall_mem_append.mpr ⟨fun w h => good_of_word (List.all_eq_true.mp (by decide +kernel) w h), List.forall_mem_append.mpr ⟨gu_X9, fun _ h => nomatch h⟩⟩⟩
theorem hi_dm_X9_nameAt_X9 : ∀ w ∈ u_ws RX9 TX9 20, w ∈ ow_dm_X9_nameAt := fun w h => List.mem_cons_of_mem _ (List.mem_append_right _ (List.mem_append_left _ h))
def dj_X9_nameAt_214 (p : Program) (l : Launch) (e : Env) (s : State) (m : MethodId) (args : Array Value) (below : List Frame) (meth : Method) (c : Code) (Q : State → Prop) (A : Nat → Prop) (dC : Nat → ClassId) (dI : Nat → Nat → Nat) (a : Nat → Nat) (ac : Nat → ClassId) (g : Int32 → Int32 → Int32 → (St) → Option (Int32 × (St))) (r : Int32 × (St)) : Prop := ∀ (x1 : Int32) (x2 : Int32) (x3 : Int32) (s0 : St) (H : Heap) (locs : List Loc) (ls : Array Slot), g x1 x2 x3 s0 = some r → va_P (dC, dI) vwCl (dw_X9 a ac s0) H → va_D A (dw_X9 a ac s0) → va_S A s.heap H locs → lv_has ls 9 [(0, .ref (a 0)), (1, .int x1), (2, .int x2), (3, .int x3)] → W p l e (headSpec ow_dm_X9_nameAt ({ frames := 0, cells := 0, slots := 0, locals := 0 })).room s m args below meth c H locs 0 0 Q (F0 m 214 ls [])
def dj_X9_nameAt_194 (p : Program) (l : Launch) (e : Env) (s : State) (m : MethodId) (args : Array Value) (below : List Frame) (meth : Method) (c : Code) (Q : State → Prop) (A : Nat → Prop) (dC : Nat → ClassId) (dI : Nat → Nat → Nat) (a : Nat → Nat) (ac : Nat → ClassId) (g : Int32 → Int32 → Int32 → (St) → Option (Int32 × (St))) (r : Int32 × (St)) : Prop := ∀ (x1 : Int32) (x2 : Int32) (x3 : Int32) (s0 : St) (H : Heap) (locs : List Loc) (ls : Array Slot), g x1 x2 x3 s0 = some r → va_P (dC, dI) vwCl (dw_X9 a ac s0) H → va_D A (dw_X9 a ac s0) → va_S A s.heap H locs → lv_has ls 9 [(0, .ref (a 0)), (1, .int x1), (2, .int x2), (3, .int x3)] → W p l e (headSpec ow_dm_X9_nameAt ({ frames := 0, cells := 0, slots := 0, locals := 0 })).room s m args below meth c H locs 0 0 Q (F0 m 194 ls [])
def dj_X9_nameAt_165 (p : Program) (l : Launch) (e : Env) (s : State) (m : MethodId) (args : Array Value) (below : List Frame) (meth : Method) (c : Code) (Q : State → Prop) (A : Nat → Prop) (dC : Nat → ClassId) (dI : Nat → Nat → Nat) (a : Nat → Nat) (ac : Nat → ClassId) (g : Int32 → Int32 → Int32 → Int32 → Int32 → Int32 → (St) → Option (Int32 × (St))) (r : Int32 × (St)) : Prop := ∀ (x1 : Int32) (x2 : Int32) (x3 : Int32) (x4 : Int32) (x5 : Int32) (x7 : Int32) (s0 : St) (H : Heap) (locs : List Loc) (ls : Array Slot), g x1 x2 x3 x4 x5 x7 s0 = some r → va_P (dC, dI) vwCl (dw_X9 a ac s0) H → va_D A (dw_X9 a ac s0) → va_S A s.heap H locs → lv_has ls 9 [(0, .ref (a 0)), (1, .int x1), (2, .int x2), (3, .int x3), (4, .int x4), (5, .int x5), (7, .int x7)] → W p l e (headSpec ow_dm_X9_nameAt ({ frames := 0, cells := 0, slots := 0, locals := 0 })).room s m args below meth c H locs 0 0 Q (F0 m 165 ls [])
def dj_X9_nameAt_157 (p : Program) (l : Launch) (e : Env) (s : State) (m : MethodId) (args : Array Value) (below : List Frame) (meth : Method) (c : Code) (Q : State → Prop) (A : Nat → Prop) (dC : Nat → ClassId) (dI : Nat → Nat → Nat) (a : Nat → Nat) (ac : Nat → ClassId) (g : Int32 → Int32 → Int32 → Int32 → Int32 → Int32 → Int32 → Int32 → (St) → Option (Int32 × (St))) (r : Int32 × (St)) : Prop := ∀ (x1 : Int32) (x2 : Int32) (x3 : Int32) (x4 : Int32) (x5 : Int32) (x6 : Int32) (x8 : Int32) (y0 : Int32) (s0 : St) (H : Heap) (locs : List Loc) (ls : Array Slot), g x1 x2 x3 x4 x5 x6 x8 y0 s0 = some r → va_P (dC, dI) vwCl (dw_X9 a ac s0) H → va_D A (dw_X9 a ac s0) → va_S A s.heap H locs → lv_has ls 9 [(0, .ref (a 0)), (1, .int x1), (2, .int x2), (3, .int x3), (4, .int x4), (5, .int x5), (6, .int x6), (8, .int x8)] → W p l e (headSpec ow_dm_X9_nameAt ({ frames := 0, cells := 0, slots := 0, locals := 0 })).room s m args below meth c H locs 0 0 Q (F0 m 157 ls [.int y0])
def dj_X9_nameAt_119 (p : Program) (l : Launch) (e : Env) (s : State) (m : MethodId) (args : Array Value) (below : List Frame) (meth : Method) (c : Code) (Q : State → Prop) (A : Nat → Prop) (dC : Nat → ClassId) (dI : Nat → Nat → Nat) (a : Nat → Nat) (ac : Nat → ClassId) (g : Int32 → Int32 → Int32 → Int32 → Int32 → Int32 → Int32 → Int32 → (St) → Option (Int32 × (St))) (r : Int32 × (St)) : Prop := ∀ (x1 : Int32) (x2 : Int32) (x3 : Int32) (x4 : Int32) (x5 : Int32) (x6 : Int32) (x7 : Int32) (x8 : Int32) (s0 : St) (H : Heap) (locs : List Loc) (ls : Array Slot), g x1 x2 x3 x4 x5 x6 x7 x8 s0 = some r → va_P (dC, dI) vwCl (dw_X9 a ac s0) H → va_D A (dw_X9 a ac s0) → va_S A s.heap H locs → lv_has ls 9 [(0, .ref (a 0)), (1, .int x1), (2, .int x2), (3, .int x3), (4, .int x4), (5, .int x5), (6, .int x6), (7, .int x7), (8, .int x8)] → W p l e (headSpec ow_dm_X9_nameAt ({ frames := 0, cells := 0, slots := 0, locals := 0 })).room s m args below meth c H locs 0 0 Q (F0 m 119 ls [])
def dj_X9_nameAt_114 (p : Program) (l : Launch) (e : Env) (s : State) (m : MethodId) (args : Array Value) (below : List Frame) (meth : Method) (c : Code) (Q : State → Prop) (A : Nat → Prop) (dC : Nat → ClassId) (dI : Nat → Nat → Nat) (a : Nat → Nat) (ac : Nat → ClassId) (g : Int32 → Int32 → Int32 → Int32 → Int32 → Int32 → Int32 → (St) → Option (Int32 × (St))) (r : Int32 × (St)) : Prop := ∀ (x1 : Int32) (x2 : Int32) (x3 : Int32) (x4 : Int32) (x5 : Int32) (x6 : Int32) (y0 : Int32) (s0 : St) (H : Heap) (locs : List Loc) (ls : Array Slot), g x1 x2 x3 x4 x5 x6 y0 s0 = some r → va_P (dC, dI) vwCl (dw_X9 a ac s0) H → va_D A (dw_X9 a ac s0) → va_S A s.heap H locs → lv_has ls 9 [(0, .ref (a 0)), (1, .int x1), (2, .int x2), (3, .int x3), (4, .int x4), (5, .int x5), (6, .int x6)] → W p l e (headSpec ow_dm_X9_nameAt ({ frames := 0, cells := 0, slots := 0, locals := 0 })).room s m args below meth c H locs 0 0 Q (F0 m 114 ls [.int y0])
def dj_X9_nameAt_71 (p : Program) (l : Launch) (e : Env) (s : State) (m : MethodId) (args : Array Value) (below : List Frame) (meth : Method) (c : Code) (Q : State → Prop) (A : Nat → Prop) (dC : Nat → ClassId) (dI : Nat → Nat → Nat) (a : Nat → Nat) (ac : Nat → ClassId) (g : Int32 → Int32 → Int32 → Int32 → Int32 → (St) → Option (Int32 × (St))) (r : Int32 × (St)) : Prop := ∀ (x1 : Int32) (x2 : Int32) (x3 : Int32) (x4 : Int32) (x5 : Int32) (s0 : St) (H : Heap) (locs : List Loc) (ls : Array Slot), g x1 x2 x3 x4 x5 s0 = some r → va_P (dC, dI) vwCl (dw_X9 a ac s0) H → va_D A (dw_X9 a ac s0) → va_S A s.heap H locs → lv_has ls 9 [(0, .ref (a 0)), (1, .int x1), (2, .int x2), (3, .int x3), (4, .int x4), (5, .int x5)] → W p l e (headSpec ow_dm_X9_nameAt ({ frames := 0, cells := 0, slots := 0, locals := 0 })).room s m args below meth c H locs 0 0 Q (F0 m 71 ls [])
def dj_X9_nameAt_44 (p : Program) (l : Launch) (e : Env) (s : State) (m : MethodId) (args : Array Value) (below : List Frame) (meth : Method) (c : Code) (Q : State → Prop) (A : Nat → Prop) (dC : Nat → ClassId) (dI : Nat → Nat → Nat) (a : Nat → Nat) (ac : Nat → ClassId) (g : Int32 → Int32 → Int32 → (St) → Option (Int32 × (St))) (r : Int32 × (St)) : Prop := ∀ (x1 : Int32) (x2 : Int32) (x3 : Int32) (s0 : St) (H : Heap) (locs : List Loc) (ls : Array Slot), g x1 x2 x3 s0 = some r → va_P (dC, dI) vwCl (dw_X9 a ac s0) H → va_D A (dw_X9 a ac s0) → va_S A s.heap H locs → lv_has ls 9 [(0, .ref (a 0)), (1, .int x1), (2, .int x2), (3, .int x3)] → W p l e (headSpec ow_dm_X9_nameAt ({ frames := 0, cells := 0, slots := 0, locals := 0 })).room s m args below meth c H locs 0 0 Q (F0 m 44 ls [])
def dj_X9_nameAt_5 (p : Program) (l : Launch) (e : Env) (s : State) (m : MethodId) (args : Array Value) (below : List Frame) (meth : Method) (c : Code) (Q : State → Prop) (A : Nat → Prop) (dC : Nat → ClassId) (dI : Nat → Nat → Nat) (a : Nat → Nat) (ac : Nat → ClassId) (g : Int32 → Int32 → Int32 → Int32 → (St) → Option (Int32 × (St))) (r : Int32 × (St)) : Prop := ∀ (x1 : Int32) (x2 : Int32) (x3 : Int32) (x4 : Int32) (s0 : St) (H : Heap) (locs : List Loc) (ls : Array Slot), g x1 x2 x3 x4 s0 = some r → va_P (dC, dI) vwCl (dw_X9 a ac s0) H → va_D A (dw_X9 a ac s0) → va_S A s.heap H locs → lv_has ls 9 [(0, .ref (a 0)), (1, .int x1), (2, .int x2), (3, .int x3), (4, .int x4)] → W p l e (headSpec ow_dm_X9_nameAt ({ frames := 0, cells := 0, slots := 0, locals := 0 })).room s m args below meth c H locs 0 0 Q (F0 m 5 ls [])
def dj_X9_nameAt_0 (p : Program) (l : Launch) (e : Env) (s : State) (m : MethodId) (args : Array Value) (below : List Frame) (meth : Method) (c : Code) (Q : State → Prop) (A : Nat → Prop) (dC : Nat → ClassId) (dI : Nat → Nat → Nat) (a : Nat → Nat) (ac : Nat → ClassId) (g : Int32 → Int32 → (St) → Option (Int32 × (St))) (r : Int32 × (St)) : Prop := ∀ (v0 : Int32) (v1 : Int32) (s0 : St) (H : Heap) (locs : List Loc) (ls : Array Slot), g v0 v1 s0 = some r → va_P (dC, dI) vwCl (dw_X9 a ac s0) H → va_D A (dw_X9 a ac s0) → va_S A s.heap H locs → lv_has ls 9 [(0, .ref (a 0)), (1, .int v0), (2, .int v1)] → W p l e (headSpec ow_dm_X9_nameAt ({ frames := 0, cells := 0, slots := 0, locals := 0 })).room s m args below meth c H locs 0 0 Q (F0 m 0 ls [])
set_option maxHeartbeats 40000000 in
set_option maxRecDepth 100000 in
theorem db_X9_nameAt_214 {p : Program} {l : Launch} {e : Env} {s : State} {m : MethodId} {args : Array Value} {below : List Frame} {meth : Method} {c : Code} {Q : State → Prop} {A : Nat → Prop} {dC : Nat → ClassId} {dI : Nat → Nat → Nat} {a : Nat → Nat} {ac : Nat → ClassId} {n : Nat} {r : Int32 × (St)} (C : nd_C p l s m args c A (dC, dI) cX9_nameAt 9 RX9 ow_dm_X9_nameAt (dk_X9 ac)) (K : nd_Ki p l e (headSpec ow_dm_X9_nameAt ({ frames := 0, cells := 0, slots := 0, locals := 0 })).room s m args below meth c Q A (dC, dI) cX9_nameAt .int (St) (dw_X9 a ac) r) : dj_X9_nameAt_214 p l e s m args below meth c Q A dC dI a ac (df_X9_nameAt_214 n) r := by
  obtain ⟨hlt, hx, hb, hml, hown, hts, hN, hA, hK⟩ := id C
  intro x1 x2 x3 s0 H locs ls h hP hD hS hl
  unfold df_X9_nameAt_214 at h
  refine lv_aload_n hx hb dX9_nameAt_214 rfl (lv_at hl 0 rfl) ?_
  refine va_get (D := (dC, dI)) (ci := 10) (v := .int (sI s0 8)) (C := RX9) (T := TX9) (N := 20) hx hb hts hi_dm_X9_nameAt_X9 hown hK hP 0 rfl rfl 13 (by decide) (hts (.fieldLink RX9 43 "TimeMachine$Reader" "names" "I") (List.mem_of_getElem? (i := 2) rfl)) (fun _ h9 => h9) rfl dX9_nameAt_215 ?_
  refine lv_iconst (v := 1) hx hb dX9_nameAt_218 (by decide) ?_
  refine lv_isub hx hb dX9_nameAt_219 ?_
  refine lv_topi (fun z8 ez8 => ?_)
  have h := nd_at h ez8
  refine lv_istore (lv' := [(4, .int z8), (0, .ref (a 0)), (1, .int x1), (2, .int x2), (3, .int x3)]) hx hb dX9_nameAt_220 hl (by decide) rfl (fun ls hl => ?_)
  refine lv_aload_n hx hb dX9_nameAt_222 rfl (lv_at hl 1 rfl) ?_
  refine va_get (D := (dC, dI)) (ci := 10) (v := .ref (a 4)) (C := RX9) (T := TX9) (N := 20) hx hb hts hi_dm_X9_nameAt_X9 hown hK hP 0 rfl rfl 12 (by decide) (hts (.fieldLink RX9 27 "TimeMachine$Reader" "name" "[I") (List.mem_of_getElem? (i := 3) rfl)) (fun _ h9 => h9) rfl dX9_nameAt_223 ?_
  refine lv_iload hx hb dX9_nameAt_226 (lv_at hl 0 rfl) ?_
  refine lv_iconst (v := 5) hx hb dX9_nameAt_228 (by decide) ?_
  refine lv_imul hx hb dX9_nameAt_229 ?_
  refine lv_iconst (v := 0) hx hb dX9_nameAt_230 (by decide) ?_
  refine lv_iadd hx hb dX9_nameAt_231 ?_
  refine lv_iload_n hx hb dX9_nameAt_232 rfl (lv_at hl 2 rfl) ?_
  obtain ⟨i9, h⟩ := nd_ck_e h
  refine va_iast (i := ((z8 * 5) + 0)) (x := x1) hx hb hK hP hD hS 4 3 rfl rfl i9 dX9_nameAt_233 (fun H locs hP hD hS => ?_)
  obtain ⟨s10, es10, h⟩ := nd_let_e h
  have hP : va_P (dC, dI) vwCl (dw_X9 a ac s10) H := by rw [es10]; exact hP
  have hD : va_D A (dw_X9 a ac s10) := by rw [es10]; exact hD
  refine lv_aload_n hx hb dX9_nameAt_234 rfl (lv_at hl 1 rfl) ?_
  refine va_get (D := (dC, dI)) (ci := 10) (v := .ref (a 4)) (C := RX9) (T := TX9) (N := 20) hx hb hts hi_dm_X9_nameAt_X9 hown hK hP 0 rfl rfl 12 (by decide) (hts (.fieldLink RX9 27 "TimeMachine$Reader" "name" "[I") (List.mem_of_getElem? (i := 3) rfl)) (fun _ h9 => h9) rfl dX9_nameAt_235 ?_
  refine lv_iload hx hb dX9_nameAt_238 (lv_at hl 0 rfl) ?_
  refine lv_iconst (v := 5) hx hb dX9_nameAt_240 (by decide) ?_
  refine lv_imul hx hb dX9_nameAt_241 ?_
  refine lv_iconst (v := 1) hx hb dX9_nameAt_242 (by decide) ?_
  refine lv_iadd hx hb dX9_nameAt_243 ?_
  refine lv_iload_n hx hb dX9_nameAt_244 rfl (lv_at hl 3 rfl) ?_
  obtain ⟨i11, h⟩ := nd_ck_e h
  refine va_iast (i := ((z8 * 5) + 1)) (x := x2) hx hb hK hP hD hS 4 3 rfl rfl i11 dX9_nameAt_245 (fun H locs hP hD hS => ?_)
  obtain ⟨s12, es12, h⟩ := nd_let_e h
  have hP : va_P (dC, dI) vwCl (dw_X9 a ac s12) H := by rw [es12]; exact hP
  have hD : va_D A (dw_X9 a ac s12) := by rw [es12]; exact hD
  refine lv_aload_n hx hb dX9_nameAt_246 rfl (lv_at hl 1 rfl) ?_
  refine va_get (D := (dC, dI)) (ci := 10) (v := .ref (a 4)) (C := RX9) (T := TX9) (N := 20) hx hb hts hi_dm_X9_nameAt_X9 hown hK hP 0 rfl rfl 12 (by decide) (hts (.fieldLink RX9 27 "TimeMachine$Reader" "name" "[I") (List.mem_of_getElem? (i := 3) rfl)) (fun _ h9 => h9) rfl dX9_nameAt_247 ?_
  refine lv_iload hx hb dX9_nameAt_250 (lv_at hl 0 rfl) ?_
  refine lv_iconst (v := 5) hx hb dX9_nameAt_252 (by decide) ?_
  refine lv_imul hx hb dX9_nameAt_253 ?_
  refine lv_iconst (v := 2) hx hb dX9_nameAt_254 (by decide) ?_
  refine lv_iadd hx hb dX9_nameAt_255 ?_
  refine lv_iconst (v := 0) hx hb dX9_nameAt_256 (by decide) ?_
  obtain ⟨i13, h⟩ := nd_ck_e h
  refine va_iast (i := ((z8 * 5) + 2)) (x := 0) hx hb hK hP hD hS 4 3 rfl rfl i13 dX9_nameAt_257 (fun H locs hP hD hS => ?_)
  obtain ⟨s14, es14, h⟩ := nd_let_e h
  have hP : va_P (dC, dI) vwCl (dw_X9 a ac s14) H := by rw [es14]; exact hP
  have hD : va_D A (dw_X9 a ac s14) := by rw [es14]; exact hD
  refine lv_aload_n hx hb dX9_nameAt_258 rfl (lv_at hl 1 rfl) ?_
  refine va_get (D := (dC, dI)) (ci := 10) (v := .ref (a 4)) (C := RX9) (T := TX9) (N := 20) hx hb hts hi_dm_X9_nameAt_X9 hown hK hP 0 rfl rfl 12 (by decide) (hts (.fieldLink RX9 27 "TimeMachine$Reader" "name" "[I") (List.mem_of_getElem? (i := 3) rfl)) (fun _ h9 => h9) rfl dX9_nameAt_259 ?_
  refine lv_iload hx hb dX9_nameAt_262 (lv_at hl 0 rfl) ?_
  refine lv_iconst (v := 5) hx hb dX9_nameAt_264 (by decide) ?_
  refine lv_imul hx hb dX9_nameAt_265 ?_
  refine lv_iconst (v := 4) hx hb dX9_nameAt_266 (by decide) ?_
  refine lv_iadd hx hb dX9_nameAt_267 ?_
  refine lv_aload_n hx hb dX9_nameAt_268 rfl (lv_at hl 1 rfl) ?_
  refine va_get (D := (dC, dI)) (ci := 10) (v := .ref (a 5)) (C := RX9) (T := TX9) (N := 20) hx hb hts hi_dm_X9_nameAt_X9 hown hK hP 0 rfl rfl 14 (by decide) (hts (.fieldLink RX9 30 "TimeMachine$Reader" "bucket" "[I") (List.mem_of_getElem? (i := 1) rfl)) (fun _ h9 => h9) rfl dX9_nameAt_269 ?_
  refine lv_iload_n hx hb dX9_nameAt_272 rfl (lv_at hl 4 rfl) ?_
  obtain ⟨i15, h⟩ := nd_ck_e h
  refine va_iald (i := x3) hx hb hK hP 5 4 rfl rfl i15 dX9_nameAt_273 ?_
  obtain ⟨i16, h⟩ := nd_ck_e h
  refine va_iast (i := ((z8 * 5) + 4)) (x := (sR s14 4 (Int32.toNatClampNeg x3))) hx hb hK hP hD hS 4 3 rfl rfl i16 dX9_nameAt_274 (fun H locs hP hD hS => ?_)
  obtain ⟨s17, es17, h⟩ := nd_let_e h
  have hP : va_P (dC, dI) vwCl (dw_X9 a ac s17) H := by rw [es17]; exact hP
  have hD : va_D A (dw_X9 a ac s17) := by rw [es17]; exact hD
  refine lv_aload_n hx hb dX9_nameAt_275 rfl (lv_at hl 1 rfl) ?_
  refine va_get (D := (dC, dI)) (ci := 10) (v := .ref (a 5)) (C := RX9) (T := TX9) (N := 20) hx hb hts hi_dm_X9_nameAt_X9 hown hK hP 0 rfl rfl 14 (by decide) (hts (.fieldLink RX9 30 "TimeMachine$Reader" "bucket" "[I") (List.mem_of_getElem? (i := 1) rfl)) (fun _ h9 => h9) rfl dX9_nameAt_276 ?_
  refine lv_iload_n hx hb dX9_nameAt_279 rfl (lv_at hl 4 rfl) ?_
  refine lv_iload hx hb dX9_nameAt_280 (lv_at hl 0 rfl) ?_
  refine lv_iconst (v := 1) hx hb dX9_nameAt_282 (by decide) ?_
  refine lv_iadd hx hb dX9_nameAt_283 ?_
  obtain ⟨i18, h⟩ := nd_ck_e h
  refine va_iast (i := x3) (x := (z8 + 1)) hx hb hK hP hD hS 5 4 rfl rfl i18 dX9_nameAt_284 (fun H locs hP hD hS => ?_)
  obtain ⟨s19, es19, h⟩ := nd_let_e h
  have hP : va_P (dC, dI) vwCl (dw_X9 a ac s19) H := by rw [es19]; exact hP
  have hD : va_D A (dw_X9 a ac s19) := by rw [es19]; exact hD
  refine lv_iload hx hb dX9_nameAt_285 (lv_at hl 0 rfl) ?_
  exact K _ _ _ _ _ _ dX9_nameAt_287 rfl (Option.some.inj h).symm hP hD hS
set_option maxHeartbeats 40000000 in
set_option maxRecDepth 100000 in
theorem db_X9_nameAt_194 {p : Program} {l : Launch} {e : Env} {s : State} {m : MethodId} {args : Array Value} {below : List Frame} {meth : Method} {c : Code} {Q : State → Prop} {A : Nat → Prop} {dC : Nat → ClassId} {dI : Nat → Nat → Nat} {a : Nat → Nat} {ac : Nat → ClassId} {n : Nat} {r : Int32 × (St)} (C : nd_C p l s m args c A (dC, dI) cX9_nameAt 9 RX9 ow_dm_X9_nameAt (dk_X9 ac)) (K : nd_Ki p l e (headSpec ow_dm_X9_nameAt ({ frames := 0, cells := 0, slots := 0, locals := 0 })).room s m args below meth c Q A (dC, dI) cX9_nameAt .int (St) (dw_X9 a ac) r) : dj_X9_nameAt_194 p l e s m args below meth c Q A dC dI a ac (df_X9_nameAt_194 n) r := by
  obtain ⟨hlt, hx, hb, hml, hown, hts, hN, hA, hK⟩ := id C
  intro x1 x2 x3 s0 H locs ls h hP hD hS hl
  unfold df_X9_nameAt_194 at h
  refine lv_aload_n hx hb dX9_nameAt_194 rfl (lv_at hl 0 rfl) ?_
  refine va_get (D := (dC, dI)) (ci := 10) (v := .int (sI s0 8)) (C := RX9) (T := TX9) (N := 20) hx hb hts hi_dm_X9_nameAt_X9 hown hK hP 0 rfl rfl 13 (by decide) (hts (.fieldLink RX9 43 "TimeMachine$Reader" "names" "I") (List.mem_of_getElem? (i := 2) rfl)) (fun _ h9 => h9) rfl dX9_nameAt_195 ?_
  refine lv_sipush (v := 16384) hx hb dX9_nameAt_198 (by decide) ?_
  refine lv_icmp_ge (tgt := 214) hx hb dX9_nameAt_201 (by decide) (fun c7 => ?_) (fun c7 => ?_)
  · have h := nd_pos h c7
    exact (db_X9_nameAt_214 C K) (x1) (x2) (x3) s0 _ _ _ h hP hD hS (lv_sub hl [0, 1, 2, 3] rfl)
  · have h := nd_neg h c7
    refine lv_aload_n hx hb dX9_nameAt_204 rfl (lv_at hl 0 rfl) ?_
    refine lv_dup hx hb dX9_nameAt_205 rfl ?_
    refine va_get (D := (dC, dI)) (ci := 10) (v := .int (sI s0 8)) (C := RX9) (T := TX9) (N := 20) hx hb hts hi_dm_X9_nameAt_X9 hown hK hP 0 rfl rfl 13 (by decide) (hts (.fieldLink RX9 43 "TimeMachine$Reader" "names" "I") (List.mem_of_getElem? (i := 2) rfl)) (fun _ h9 => h9) rfl dX9_nameAt_206 ?_
    refine lv_iconst (v := 1) hx hb dX9_nameAt_209 (by decide) ?_
    refine lv_iadd hx hb dX9_nameAt_210 ?_
    refine va_put (D := (dC, dI)) (ci := 10) (v := .int ((sI s0 8) + 1)) (ty := .int) (C := RX9) (T := TX9) (N := 20) hx hb hts hi_dm_X9_nameAt_X9 tyX9 tyX9_ok nmX9 hown hK hP hD hS 0 rfl rfl 13 (by decide) (hts (.fieldLink RX9 43 "TimeMachine$Reader" "names" "I") (List.mem_of_getElem? (i := 2) rfl)) (fun _ h9 => h9) rfl (by decide +kernel) rfl rfl (Nat.le_of_ble_eq_true rfl) dX9_nameAt_211 (fun H locs hP hD hS => ?_)
    obtain ⟨s20, es20, h⟩ := nd_let_e h
    have hP : va_P (dC, dI) vwCl (dw_X9 a ac s20) H := by rw [es20]; exact hP
    have hD : va_D A (dw_X9 a ac s20) := by rw [es20]; exact hD
    exact (db_X9_nameAt_214 C K) (x1) (x2) (x3) s20 _ _ _ h hP hD hS (lv_sub hl [0, 1, 2, 3] rfl)
set_option maxHeartbeats 40000000 in
set_option maxRecDepth 100000 in
theorem db_X9_nameAt_165 {p : Program} {l : Launch} {e : Env} {s : State} {m : MethodId} {args : Array Value} {below : List Frame} {meth : Method} {c : Code} {Q : State → Prop} {A : Nat → Prop} {dC : Nat → ClassId} {dI : Nat → Nat → Nat} {a : Nat → Nat} {ac : Nat → ClassId} {n : Nat} {r : Int32 × (St)} (C : nd_C p l s m args c A (dC, dI) cX9_nameAt 9 RX9 ow_dm_X9_nameAt (dk_X9 ac)) (K : nd_Ki p l e (headSpec ow_dm_X9_nameAt ({ frames := 0, cells := 0, slots := 0, locals := 0 })).room s m args below meth c Q A (dC, dI) cX9_nameAt .int (St) (dw_X9 a ac) r) {g71 : Int32 → Int32 → Int32 → Int32 → Int32 → (St) → Option (Int32 × (St))} (J71 : dj_X9_nameAt_71 p l e s m args below meth c Q A dC dI a ac g71 r) : dj_X9_nameAt_165 p l e s m args below meth c Q A dC dI a ac (df_X9_nameAt_165 n g71) r := by
  obtain ⟨hlt, hx, hb, hml, hown, hts, hN, hA, hK⟩ := id C
  intro x1 x2 x3 x4 x5 x7 s0 H locs ls h hP hD hS hl
  unfold df_X9_nameAt_165 at h
  refine lv_iload hx hb dX9_nameAt_165 (lv_at hl 6 rfl) ?_
  refine lv_if_eq (tgt := 173) hx hb dX9_nameAt_167 (by decide) (fun c27 => ?_) (fun c27 => ?_)
  · have h := nd_pos h c27
    refine lv_aload_n hx hb dX9_nameAt_173 rfl (lv_at hl 0 rfl) ?_
    refine va_get (D := (dC, dI)) (ci := 10) (v := .ref (a 4)) (C := RX9) (T := TX9) (N := 20) hx hb hts hi_dm_X9_nameAt_X9 hown hK hP 0 rfl rfl 12 (by decide) (hts (.fieldLink RX9 27 "TimeMachine$Reader" "name" "[I") (List.mem_of_getElem? (i := 3) rfl)) (fun _ h9 => h9) rfl dX9_nameAt_174 ?_
    refine lv_iload hx hb dX9_nameAt_177 (lv_at hl 4 rfl) ?_
    refine lv_iconst (v := 5) hx hb dX9_nameAt_179 (by decide) ?_
    refine lv_imul hx hb dX9_nameAt_180 ?_
    refine lv_iconst (v := 4) hx hb dX9_nameAt_181 (by decide) ?_
    refine lv_iadd hx hb dX9_nameAt_182 ?_
    obtain ⟨i28, h⟩ := nd_ck_e h
    refine va_iald (i := ((x4 * 5) + 4)) hx hb hK hP 4 3 rfl rfl i28 dX9_nameAt_183 ?_
    refine lv_iconst (v := 1) hx hb dX9_nameAt_184 (by decide) ?_
    refine lv_isub hx hb dX9_nameAt_185 ?_
    refine lv_topi (fun z29 ez29 => ?_)
    have h := nd_at h ez29
    refine lv_istore (lv' := [(4, .int z29), (0, .ref (a 0)), (1, .int x1), (2, .int x2), (3, .int x3), (5, .int x5), (7, .int x7)]) hx hb dX9_nameAt_186 hl (by decide) rfl (fun ls hl => ?_)
    obtain ⟨z30, ez30, h⟩ := nd_let_e h
    refine lv_iinc (v := z30) (lv' := [(5, .int z30), (4, .int z29), (0, .ref (a 0)), (1, .int x1), (2, .int x2), (3, .int x3), (7, .int x7)]) hx hb dX9_nameAt_188 hl (k := 5) rfl (by rw [ez30]) (by decide) rfl (fun ls hl => ?_)
    refine lv_goto (tgt := 71) hx hb dX9_nameAt_191 (by decide) ?_
    exact (J71) (x1) (x2) (x3) (z29) (z30) s0 _ _ _ h hP hD hS (lv_sub hl [2, 3, 4, 5, 1, 0] rfl)
  · have h := nd_neg h c27
    refine lv_iload hx hb dX9_nameAt_170 (lv_at hl 4 rfl) ?_
    exact K _ _ _ _ _ _ dX9_nameAt_172 rfl (Option.some.inj h).symm hP hD hS
set_option maxHeartbeats 40000000 in
set_option maxRecDepth 100000 in
theorem db_X9_nameAt_157 {p : Program} {l : Launch} {e : Env} {s : State} {m : MethodId} {args : Array Value} {below : List Frame} {meth : Method} {c : Code} {Q : State → Prop} {A : Nat → Prop} {dC : Nat → ClassId} {dI : Nat → Nat → Nat} {a : Nat → Nat} {ac : Nat → ClassId} {n : Nat} {r : Int32 × (St)} (C : nd_C p l s m args c A (dC, dI) cX9_nameAt 9 RX9 ow_dm_X9_nameAt (dk_X9 ac)) (K : nd_Ki p l e (headSpec ow_dm_X9_nameAt ({ frames := 0, cells := 0, slots := 0, locals := 0 })).room s m args below meth c Q A (dC, dI) cX9_nameAt .int (St) (dw_X9 a ac) r) {g71 : Int32 → Int32 → Int32 → Int32 → Int32 → (St) → Option (Int32 × (St))} {g119 : Int32 → Int32 → Int32 → Int32 → Int32 → Int32 → Int32 → Int32 → (St) → Option (Int32 × (St))} (J71 : dj_X9_nameAt_71 p l e s m args below meth c Q A dC dI a ac g71 r) (J119 : dj_X9_nameAt_119 p l e s m args below meth c Q A dC dI a ac g119 r) : dj_X9_nameAt_157 p l e s m args below meth c Q A dC dI a ac (df_X9_nameAt_157 n g71 g119) r := by
  obtain ⟨hlt, hx, hb, hml, hown, hts, hN, hA, hK⟩ := id C
  intro x1 x2 x3 x4 x5 x6 x8 y0 s0 H locs ls h hP hD hS hl
  unfold df_X9_nameAt_157 at h
  refine lv_istore (lv' := [(7, .int y0), (0, .ref (a 0)), (1, .int x1), (2, .int x2), (3, .int x3), (4, .int x4), (5, .int x5), (6, .int x6), (8, .int x8)]) hx hb dX9_nameAt_157 hl (by decide) rfl (fun ls hl => ?_)
  obtain ⟨z37, ez37, h⟩ := nd_let_e h
  refine lv_iinc (v := z37) (lv' := [(8, .int z37), (7, .int y0), (0, .ref (a 0)), (1, .int x1), (2, .int x2), (3, .int x3), (4, .int x4), (5, .int x5), (6, .int x6)]) hx hb dX9_nameAt_159 hl (k := 8) rfl (by rw [ez37]) (by decide) rfl (fun ls hl => ?_)
  refine lv_goto (tgt := 119) hx hb dX9_nameAt_162 (by decide) ?_
  exact (J119) (x1) (x2) (x3) (x4) (x5) (x6) (y0) (z37) s0 _ _ _ h hP hD hS (lv_sub hl [2, 3, 4, 5, 6, 7, 8, 1, 0] rfl)
set_option maxHeartbeats 40000000 in
set_option maxRecDepth 100000 in
theorem dB_X9_nameAt_119 {p : Program} {l : Launch} {e : Env} {s : State} {m : MethodId} {args : Array Value} {below : List Frame} {meth : Method} {c : Code} {Q : State → Prop} {A : Nat → Prop} {dC : Nat → ClassId} {dI : Nat → Nat → Nat} {a : Nat → Nat} {ac : Nat → ClassId} {n : Nat} {r : Int32 × (St)} (C : nd_C p l s m args c A (dC, dI) cX9_nameAt 9 RX9 ow_dm_X9_nameAt (dk_X9 ac)) (K : nd_Ki p l e (headSpec ow_dm_X9_nameAt ({ frames := 0, cells := 0, slots := 0, locals := 0 })).room s m args below meth c Q A (dC, dI) cX9_nameAt .int (St) (dw_X9 a ac) r) {g71 : Int32 → Int32 → Int32 → Int32 → Int32 → (St) → Option (Int32 × (St))} (J71 : dj_X9_nameAt_71 p l e s m args below meth c Q A dC dI a ac g71 r) {g119 : Int32 → Int32 → Int32 → Int32 → Int32 → Int32 → Int32 → Int32 → (St) → Option (Int32 × (St))} (J119 : dj_X9_nameAt_119 p l e s m args below meth c Q A dC dI a ac g119 r) : dj_X9_nameAt_119 p l e s m args below meth c Q A dC dI a ac (dF_X9_nameAt_119 n g71 g119) r := by
  obtain ⟨hlt, hx, hb, hml, hown, hts, hN, hA, hK⟩ := id C
  intro x1 x2 x3 x4 x5 x6 x7 x8 s0 H locs ls h hP hD hS hl
  unfold dF_X9_nameAt_119 at h
  refine lv_iload hx hb dX9_nameAt_119 (lv_at hl 7 rfl) ?_
  refine lv_if_eq (tgt := 165) hx hb dX9_nameAt_121 (by decide) (fun c26 => ?_) (fun c26 => ?_)
  · have h := nd_pos h c26
    exact (db_X9_nameAt_165 C K J71) (x1) (x2) (x3) (x4) (x5) (x7) s0 _ _ _ h hP hD hS (lv_sub hl [0, 1, 2, 3, 4, 5, 7] rfl)
  · have h := nd_neg h c26
    refine lv_iload hx hb dX9_nameAt_124 (lv_at hl 8 rfl) ?_
    refine lv_iload_n hx hb dX9_nameAt_126 rfl (lv_at hl 2 rfl) ?_
    refine lv_icmp_ge (tgt := 165) hx hb dX9_nameAt_127 (by decide) (fun c31 => ?_) (fun c31 => ?_)
    · have h := nd_pos h c31
      exact (db_X9_nameAt_165 C K J71) (x1) (x2) (x3) (x4) (x5) (x7) s0 _ _ _ h hP hD hS (lv_sub hl [0, 1, 2, 3, 4, 5, 7] rfl)
    · have h := nd_neg h c31
      refine lv_aload_n hx hb dX9_nameAt_130 rfl (lv_at hl 0 rfl) ?_
      obtain ⟨o32, h⟩ := nd_o_e h
      refine va_get (D := (dC, dI)) (ci := 10) (v := .ref (a 8)) (C := RX9) (T := TX9) (N := 20) hx hb hts hi_dm_X9_nameAt_X9 hown hK hP 0 rfl rfl 0 (by decide) (hts (.fieldLink RX9 9 "TimeMachine$Reader" "source" "[B") (List.mem_of_getElem? (i := 4) rfl)) (fun _ h9 => h9) (congrArg (fun z => some (va_rf (Option.map a z))) o32) dX9_nameAt_131 ?_
      refine lv_iload hx hb dX9_nameAt_134 (lv_at hl 6 rfl) ?_
      refine lv_iload hx hb dX9_nameAt_136 (lv_at hl 8 rfl) ?_
      refine lv_iadd hx hb dX9_nameAt_138 ?_
      obtain ⟨i33, h⟩ := nd_ck_e h
      refine va_bald (i := (x6 + x8)) hx hb hK hP 8 7 rfl rfl i33 dX9_nameAt_139 ?_
      refine lv_aload_n hx hb dX9_nameAt_140 rfl (lv_at hl 0 rfl) ?_
      obtain ⟨o34, h⟩ := nd_o_e h
      refine va_get (D := (dC, dI)) (ci := 10) (v := .ref (a 8)) (C := RX9) (T := TX9) (N := 20) hx hb hts hi_dm_X9_nameAt_X9 hown hK hP 0 rfl rfl 0 (by decide) (hts (.fieldLink RX9 9 "TimeMachine$Reader" "source" "[B") (List.mem_of_getElem? (i := 4) rfl)) (fun _ h9 => h9) (congrArg (fun z => some (va_rf (Option.map a z))) o34) dX9_nameAt_141 ?_
      refine lv_iload_n hx hb dX9_nameAt_144 rfl (lv_at hl 1 rfl) ?_
      refine lv_iload hx hb dX9_nameAt_145 (lv_at hl 8 rfl) ?_
      refine lv_iadd hx hb dX9_nameAt_147 ?_
      obtain ⟨i35, h⟩ := nd_ck_e h
      refine va_bald (i := (x1 + x8)) hx hb hK hP 8 7 rfl rfl i35 dX9_nameAt_148 ?_
      refine lv_icmp_ne (tgt := 156) hx hb dX9_nameAt_149 (by decide) (fun c36 => ?_) (fun c36 => ?_)
      · have h := nd_neg h c36
        refine lv_iconst (v := 0) hx hb dX9_nameAt_156 (by decide) ?_
        exact (db_X9_nameAt_157 C K J71 J119) (x1) (x2) (x3) (x4) (x5) (x6) (x8) (0) s0 _ _ _ h hP hD hS (lv_sub hl [0, 1, 2, 3, 4, 5, 6, 8] rfl)
      · have h := nd_pos h c36
        refine lv_iconst (v := 1) hx hb dX9_nameAt_152 (by decide) ?_
        refine lv_goto (tgt := 157) hx hb dX9_nameAt_153 (by decide) ?_
        exact (db_X9_nameAt_157 C K J71 J119) (x1) (x2) (x3) (x4) (x5) (x6) (x8) (1) s0 _ _ _ h hP hD hS (lv_sub hl [0, 1, 2, 3, 4, 5, 6, 8] rfl)
set_option maxHeartbeats 40000000 in
set_option maxRecDepth 100000 in
theorem db_X9_nameAt_119 {p : Program} {l : Launch} {e : Env} {s : State} {m : MethodId} {args : Array Value} {below : List Frame} {meth : Method} {c : Code} {Q : State → Prop} {A : Nat → Prop} {dC : Nat → ClassId} {dI : Nat → Nat → Nat} {a : Nat → Nat} {ac : Nat → ClassId} {n : Nat} {r : Int32 × (St)} (C : nd_C p l s m args c A (dC, dI) cX9_nameAt 9 RX9 ow_dm_X9_nameAt (dk_X9 ac)) (K : nd_Ki p l e (headSpec ow_dm_X9_nameAt ({ frames := 0, cells := 0, slots := 0, locals := 0 })).room s m args below meth c Q A (dC, dI) cX9_nameAt .int (St) (dw_X9 a ac) r) {g71 : Int32 → Int32 → Int32 → Int32 → Int32 → (St) → Option (Int32 × (St))} (J71 : dj_X9_nameAt_71 p l e s m args below meth c Q A dC dI a ac g71 r) (k : Nat) : dj_X9_nameAt_119 p l e s m args below meth c Q A dC dI a ac (df_X9_nameAt_119 n g71 k) r := by
  induction k with
  | zero => intro x1 x2 x3 x4 x5 x6 x7 x8 s0 H locs ls h; exact nomatch (show (none : Option (Int32 × (St))) = some r from h)
  | succ k ih => exact dB_X9_nameAt_119 C K J71 ih
set_option maxHeartbeats 40000000 in
set_option maxRecDepth 100000 in
theorem db_X9_nameAt_114 {p : Program} {l : Launch} {e : Env} {s : State} {m : MethodId} {args : Array Value} {below : List Frame} {meth : Method} {c : Code} {Q : State → Prop} {A : Nat → Prop} {dC : Nat → ClassId} {dI : Nat → Nat → Nat} {a : Nat → Nat} {ac : Nat → ClassId} {n : Nat} {r : Int32 × (St)} (C : nd_C p l s m args c A (dC, dI) cX9_nameAt 9 RX9 ow_dm_X9_nameAt (dk_X9 ac)) (K : nd_Ki p l e (headSpec ow_dm_X9_nameAt ({ frames := 0, cells := 0, slots := 0, locals := 0 })).room s m args below meth c Q A (dC, dI) cX9_nameAt .int (St) (dw_X9 a ac) r) {g71 : Int32 → Int32 → Int32 → Int32 → Int32 → (St) → Option (Int32 × (St))} (J71 : dj_X9_nameAt_71 p l e s m args below meth c Q A dC dI a ac g71 r) : dj_X9_nameAt_114 p l e s m args below meth c Q A dC dI a ac (df_X9_nameAt_114 n g71) r := by
  obtain ⟨hlt, hx, hb, hml, hown, hts, hN, hA, hK⟩ := id C
  intro x1 x2 x3 x4 x5 x6 y0 s0 H locs ls h hP hD hS hl
  unfold df_X9_nameAt_114 at h
  refine lv_istore (lv' := [(7, .int y0), (0, .ref (a 0)), (1, .int x1), (2, .int x2), (3, .int x3), (4, .int x4), (5, .int x5), (6, .int x6)]) hx hb dX9_nameAt_114 hl (by decide) rfl (fun ls hl => ?_)
  refine lv_iconst (v := 0) hx hb dX9_nameAt_116 (by decide) ?_
  refine lv_istore (lv' := [(8, .int 0), (7, .int y0), (0, .ref (a 0)), (1, .int x1), (2, .int x2), (3, .int x3), (4, .int x4), (5, .int x5), (6, .int x6)]) hx hb dX9_nameAt_117 hl (by decide) rfl (fun ls hl => ?_)
  exact (db_X9_nameAt_119 C K J71 n) (x1) (x2) (x3) (x4) (x5) (x6) (y0) (0) s0 _ _ _ h hP hD hS (lv_sub hl [2, 3, 4, 5, 6, 7, 8, 1, 0] rfl)
set_option maxHeartbeats 40000000 in
set_option maxRecDepth 100000 in
theorem dB_X9_nameAt_71 {p : Program} {l : Launch} {e : Env} {s : State} {m : MethodId} {args : Array Value} {below : List Frame} {meth : Method} {c : Code} {Q : State → Prop} {A : Nat → Prop} {dC : Nat → ClassId} {dI : Nat → Nat → Nat} {a : Nat → Nat} {ac : Nat → ClassId} {n : Nat} {r : Int32 × (St)} (C : nd_C p l s m args c A (dC, dI) cX9_nameAt 9 RX9 ow_dm_X9_nameAt (dk_X9 ac)) (K : nd_Ki p l e (headSpec ow_dm_X9_nameAt ({ frames := 0, cells := 0, slots := 0, locals := 0 })).room s m args below meth c Q A (dC, dI) cX9_nameAt .int (St) (dw_X9 a ac) r) {g71 : Int32 → Int32 → Int32 → Int32 → Int32 → (St) → Option (Int32 × (St))} (J71 : dj_X9_nameAt_71 p l e s m args below meth c Q A dC dI a ac g71 r) : dj_X9_nameAt_71 p l e s m args below meth c Q A dC dI a ac (dF_X9_nameAt_71 n g71) r := by
  obtain ⟨hlt, hx, hb, hml, hown, hts, hN, hA, hK⟩ := id C
  intro x1 x2 x3 x4 x5 s0 H locs ls h hP hD hS hl
  unfold dF_X9_nameAt_71 at h
  refine lv_iload hx hb dX9_nameAt_71 (lv_at hl 5 rfl) ?_
  refine lv_if_le (tgt := 194) hx hb dX9_nameAt_73 (by decide) (fun c6 => ?_) (fun c6 => ?_)
  · have h := nd_pos h c6
    exact (db_X9_nameAt_194 C K) (x1) (x2) (x3) s0 _ _ _ h hP hD hS (lv_sub hl [0, 1, 2, 3] rfl)
  · have h := nd_neg h c6
    refine lv_iload hx hb dX9_nameAt_76 (lv_at hl 4 rfl) ?_
    refine lv_if_lt (tgt := 194) hx hb dX9_nameAt_78 (by decide) (fun c21 => ?_) (fun c21 => ?_)
    · have h := nd_pos h c21
      exact (db_X9_nameAt_194 C K) (x1) (x2) (x3) s0 _ _ _ h hP hD hS (lv_sub hl [0, 1, 2, 3] rfl)
    · have h := nd_neg h c21
      refine lv_aload_n hx hb dX9_nameAt_81 rfl (lv_at hl 0 rfl) ?_
      refine va_get (D := (dC, dI)) (ci := 10) (v := .ref (a 4)) (C := RX9) (T := TX9) (N := 20) hx hb hts hi_dm_X9_nameAt_X9 hown hK hP 0 rfl rfl 12 (by decide) (hts (.fieldLink RX9 27 "TimeMachine$Reader" "name" "[I") (List.mem_of_getElem? (i := 3) rfl)) (fun _ h9 => h9) rfl dX9_nameAt_82 ?_
      refine lv_iload hx hb dX9_nameAt_85 (lv_at hl 4 rfl) ?_
      refine lv_iconst (v := 5) hx hb dX9_nameAt_87 (by decide) ?_
      refine lv_imul hx hb dX9_nameAt_88 ?_
      refine lv_iconst (v := 0) hx hb dX9_nameAt_89 (by decide) ?_
      refine lv_iadd hx hb dX9_nameAt_90 ?_
      obtain ⟨i22, h⟩ := nd_ck_e h
      refine va_iald (i := ((x4 * 5) + 0)) hx hb hK hP 4 3 rfl rfl i22 dX9_nameAt_91 ?_
      refine lv_topi (fun z23 ez23 => ?_)
      have h := nd_at h ez23
      refine lv_istore (lv' := [(6, .int z23), (0, .ref (a 0)), (1, .int x1), (2, .int x2), (3, .int x3), (4, .int x4), (5, .int x5)]) hx hb dX9_nameAt_92 hl (by decide) rfl (fun ls hl => ?_)
      refine lv_aload_n hx hb dX9_nameAt_94 rfl (lv_at hl 1 rfl) ?_
      refine va_get (D := (dC, dI)) (ci := 10) (v := .ref (a 4)) (C := RX9) (T := TX9) (N := 20) hx hb hts hi_dm_X9_nameAt_X9 hown hK hP 0 rfl rfl 12 (by decide) (hts (.fieldLink RX9 27 "TimeMachine$Reader" "name" "[I") (List.mem_of_getElem? (i := 3) rfl)) (fun _ h9 => h9) rfl dX9_nameAt_95 ?_
      refine lv_iload hx hb dX9_nameAt_98 (lv_at hl 5 rfl) ?_
      refine lv_iconst (v := 5) hx hb dX9_nameAt_100 (by decide) ?_
      refine lv_imul hx hb dX9_nameAt_101 ?_
      refine lv_iconst (v := 1) hx hb dX9_nameAt_102 (by decide) ?_
      refine lv_iadd hx hb dX9_nameAt_103 ?_
      obtain ⟨i24, h⟩ := nd_ck_e h
      refine va_iald (i := ((x4 * 5) + 1)) hx hb hK hP 4 3 rfl rfl i24 dX9_nameAt_104 ?_
      refine lv_iload_n hx hb dX9_nameAt_105 rfl (lv_at hl 3 rfl) ?_
      refine lv_icmp_ne (tgt := 113) hx hb dX9_nameAt_106 (by decide) (fun c25 => ?_) (fun c25 => ?_)
      · have h := nd_neg h c25
        refine lv_iconst (v := 0) hx hb dX9_nameAt_113 (by decide) ?_
        exact (db_X9_nameAt_114 C K J71) (x1) (x2) (x3) (x4) (x5) (z23) (0) s0 _ _ _ h hP hD hS (lv_sub hl [1, 2, 3, 4, 5, 6, 0] rfl)
      · have h := nd_pos h c25
        refine lv_iconst (v := 1) hx hb dX9_nameAt_109 (by decide) ?_
        refine lv_goto (tgt := 114) hx hb dX9_nameAt_110 (by decide) ?_
        exact (db_X9_nameAt_114 C K J71) (x1) (x2) (x3) (x4) (x5) (z23) (1) s0 _ _ _ h hP hD hS (lv_sub hl [1, 2, 3, 4, 5, 6, 0] rfl)
set_option maxHeartbeats 40000000 in
set_option maxRecDepth 100000 in
theorem db_X9_nameAt_71 {p : Program} {l : Launch} {e : Env} {s : State} {m : MethodId} {args : Array Value} {below : List Frame} {meth : Method} {c : Code} {Q : State → Prop} {A : Nat → Prop} {dC : Nat → ClassId} {dI : Nat → Nat → Nat} {a : Nat → Nat} {ac : Nat → ClassId} {n : Nat} {r : Int32 × (St)} (C : nd_C p l s m args c A (dC, dI) cX9_nameAt 9 RX9 ow_dm_X9_nameAt (dk_X9 ac)) (K : nd_Ki p l e (headSpec ow_dm_X9_nameAt ({ frames := 0, cells := 0, slots := 0, locals := 0 })).room s m args below meth c Q A (dC, dI) cX9_nameAt .int (St) (dw_X9 a ac) r) (k : Nat) : dj_X9_nameAt_71 p l e s m args below meth c Q A dC dI a ac (df_X9_nameAt_71 n k) r := by
  induction k with
  | zero => intro x1 x2 x3 x4 x5 s0 H locs ls h; exact nomatch (show (none : Option (Int32 × (St))) = some r from h)
  | succ k ih => exact dB_X9_nameAt_71 C K ih
set_option maxHeartbeats 40000000 in
set_option maxRecDepth 100000 in
theorem db_X9_nameAt_44 {p : Program} {l : Launch} {e : Env} {s : State} {m : MethodId} {args : Array Value} {below : List Frame} {meth : Method} {c : Code} {Q : State → Prop} {A : Nat → Prop} {dC : Nat → ClassId} {dI : Nat → Nat → Nat} {a : Nat → Nat} {ac : Nat → ClassId} {n : Nat} {r : Int32 × (St)} (C : nd_C p l s m args c A (dC, dI) cX9_nameAt 9 RX9 ow_dm_X9_nameAt (dk_X9 ac)) (K : nd_Ki p l e (headSpec ow_dm_X9_nameAt ({ frames := 0, cells := 0, slots := 0, locals := 0 })).room s m args below meth c Q A (dC, dI) cX9_nameAt .int (St) (dw_X9 a ac) r) : dj_X9_nameAt_44 p l e s m args below meth c Q A dC dI a ac (df_X9_nameAt_44 n) r := by
  obtain ⟨hlt, hx, hb, hml, hown, hts, hN, hA, hK⟩ := id C
  intro x1 x2 x3 s0 H locs ls h hP hD hS hl
  unfold df_X9_nameAt_44 at h
  refine lv_iload_n hx hb dX9_nameAt_44 rfl (lv_at hl 3 rfl) ?_
  refine lv_iload_n hx hb dX9_nameAt_45 rfl (lv_at hl 3 rfl) ?_
  refine lv_bipush (v := 8) hx hb dX9_nameAt_46 (by decide) ?_
  refine lv_ishr hx hb dX9_nameAt_48 ?_
  refine lv_ixor hx hb dX9_nameAt_49 ?_
  refine lv_sipush (v := 255) hx hb dX9_nameAt_50 (by decide) ?_
  refine lv_iand hx hb dX9_nameAt_53 ?_
  refine lv_topi (fun z2 ez2 => ?_)
  have h := nd_at h ez2
  refine lv_istore_n (lv' := [(3, .int z2), (0, .ref (a 0)), (1, .int x1), (2, .int x2)]) hx hb dX9_nameAt_54 rfl hl (by decide) rfl (fun ls hl => ?_)
  refine lv_aload_n hx hb dX9_nameAt_55 rfl (lv_at hl 1 rfl) ?_
  refine va_get (D := (dC, dI)) (ci := 10) (v := .ref (a 5)) (C := RX9) (T := TX9) (N := 20) hx hb hts hi_dm_X9_nameAt_X9 hown hK hP 0 rfl rfl 14 (by decide) (hts (.fieldLink RX9 30 "TimeMachine$Reader" "bucket" "[I") (List.mem_of_getElem? (i := 1) rfl)) (fun _ h9 => h9) rfl dX9_nameAt_56 ?_
  refine lv_iload_n hx hb dX9_nameAt_59 rfl (lv_at hl 0 rfl) ?_
  obtain ⟨i3, h⟩ := nd_ck_e h
  refine va_iald (i := z2) hx hb hK hP 5 4 rfl rfl i3 dX9_nameAt_60 ?_
  refine lv_iconst (v := 1) hx hb dX9_nameAt_61 (by decide) ?_
  refine lv_isub hx hb dX9_nameAt_62 ?_
  refine lv_topi (fun z4 ez4 => ?_)
  have h := nd_at h ez4
  refine lv_istore (lv' := [(4, .int z4), (3, .int z2), (0, .ref (a 0)), (1, .int x1), (2, .int x2)]) hx hb dX9_nameAt_63 hl (by decide) rfl (fun ls hl => ?_)
  refine lv_aload_n hx hb dX9_nameAt_65 rfl (lv_at hl 2 rfl) ?_
  refine va_get (D := (dC, dI)) (ci := 10) (v := .int (sI s0 8)) (C := RX9) (T := TX9) (N := 20) hx hb hts hi_dm_X9_nameAt_X9 hown hK hP 0 rfl rfl 13 (by decide) (hts (.fieldLink RX9 43 "TimeMachine$Reader" "names" "I") (List.mem_of_getElem? (i := 2) rfl)) (fun _ h9 => h9) rfl dX9_nameAt_66 ?_
  refine lv_topi (fun z5 ez5 => ?_)
  have h := nd_at h ez5
  refine lv_istore (lv' := [(5, .int z5), (4, .int z4), (3, .int z2), (0, .ref (a 0)), (1, .int x1), (2, .int x2)]) hx hb dX9_nameAt_69 hl (by decide) rfl (fun ls hl => ?_)
  exact (db_X9_nameAt_71 C K n) (x1) (x2) (z2) (z4) (z5) s0 _ _ _ h hP hD hS (lv_sub hl [3, 4, 5, 2, 1, 0] rfl)
set_option maxHeartbeats 40000000 in
set_option maxRecDepth 100000 in
theorem dB_X9_nameAt_5 {p : Program} {l : Launch} {e : Env} {s : State} {m : MethodId} {args : Array Value} {below : List Frame} {meth : Method} {c : Code} {Q : State → Prop} {A : Nat → Prop} {dC : Nat → ClassId} {dI : Nat → Nat → Nat} {a : Nat → Nat} {ac : Nat → ClassId} {n : Nat} {r : Int32 × (St)} (C : nd_C p l s m args c A (dC, dI) cX9_nameAt 9 RX9 ow_dm_X9_nameAt (dk_X9 ac)) (K : nd_Ki p l e (headSpec ow_dm_X9_nameAt ({ frames := 0, cells := 0, slots := 0, locals := 0 })).room s m args below meth c Q A (dC, dI) cX9_nameAt .int (St) (dw_X9 a ac) r) {g5 : Int32 → Int32 → Int32 → Int32 → (St) → Option (Int32 × (St))} (J5 : dj_X9_nameAt_5 p l e s m args below meth c Q A dC dI a ac g5 r) : dj_X9_nameAt_5 p l e s m args below meth c Q A dC dI a ac (dF_X9_nameAt_5 n g5) r := by
  obtain ⟨hlt, hx, hb, hml, hown, hts, hN, hA, hK⟩ := id C
  intro x1 x2 x3 x4 s0 H locs ls h hP hD hS hl
  unfold dF_X9_nameAt_5 at h
  refine lv_iload hx hb dX9_nameAt_5 (lv_at hl 4 rfl) ?_
  refine lv_iload_n hx hb dX9_nameAt_7 rfl (lv_at hl 2 rfl) ?_
  refine lv_icmp_ge (tgt := 44) hx hb dX9_nameAt_8 (by decide) (fun c1 => ?_) (fun c1 => ?_)
  · have h := nd_pos h c1
    exact (db_X9_nameAt_44 C K) (x1) (x2) (x3) s0 _ _ _ h hP hD hS (lv_sub hl [0, 1, 2, 3] rfl)
  · have h := nd_neg h c1
    refine lv_iload_n hx hb dX9_nameAt_11 rfl (lv_at hl 1 rfl) ?_
    refine lv_iload hx hb dX9_nameAt_12 (lv_at hl 4 rfl) ?_
    refine lv_iadd hx hb dX9_nameAt_14 ?_
    refine lv_aload_n hx hb dX9_nameAt_15 rfl (lv_at hl 0 rfl) ?_
    obtain ⟨o38, h⟩ := nd_o_e h
    refine va_get (D := (dC, dI)) (ci := 10) (v := .ref (a 8)) (C := RX9) (T := TX9) (N := 20) hx hb hts hi_dm_X9_nameAt_X9 hown hK hP 0 rfl rfl 0 (by decide) (hts (.fieldLink RX9 9 "TimeMachine$Reader" "source" "[B") (List.mem_of_getElem? (i := 4) rfl)) (fun _ h9 => h9) (congrArg (fun z => some (va_rf (Option.map a z))) o38) dX9_nameAt_16 ?_
    refine va_alen (v := 32768) hx hb hK hP 8 7 rfl rfl (show Int32.ofNat 32768 = 32768 by decide) dX9_nameAt_19 ?_
    refine lv_icmp_ge (tgt := 44) hx hb dX9_nameAt_20 (by decide) (fun c39 => ?_) (fun c39 => ?_)
    · have h := nd_pos h c39
      exact (db_X9_nameAt_44 C K) (x1) (x2) (x3) s0 _ _ _ h hP hD hS (lv_sub hl [0, 1, 2, 3] rfl)
    · have h := nd_neg h c39
      refine lv_iload_n hx hb dX9_nameAt_23 rfl (lv_at hl 3 rfl) ?_
      refine lv_bipush (v := 31) hx hb dX9_nameAt_24 (by decide) ?_
      refine lv_imul hx hb dX9_nameAt_26 ?_
      refine lv_aload_n hx hb dX9_nameAt_27 rfl (lv_at hl 0 rfl) ?_
      obtain ⟨o40, h⟩ := nd_o_e h
      refine va_get (D := (dC, dI)) (ci := 10) (v := .ref (a 8)) (C := RX9) (T := TX9) (N := 20) hx hb hts hi_dm_X9_nameAt_X9 hown hK hP 0 rfl rfl 0 (by decide) (hts (.fieldLink RX9 9 "TimeMachine$Reader" "source" "[B") (List.mem_of_getElem? (i := 4) rfl)) (fun _ h9 => h9) (congrArg (fun z => some (va_rf (Option.map a z))) o40) dX9_nameAt_28 ?_
      refine lv_iload_n hx hb dX9_nameAt_31 rfl (lv_at hl 1 rfl) ?_
      refine lv_iload hx hb dX9_nameAt_32 (lv_at hl 4 rfl) ?_
      refine lv_iadd hx hb dX9_nameAt_34 ?_
      obtain ⟨i41, h⟩ := nd_ck_e h
      refine va_bald (i := (x1 + x4)) hx hb hK hP 8 7 rfl rfl i41 dX9_nameAt_35 ?_
      refine lv_iadd hx hb dX9_nameAt_36 ?_
      refine lv_topi (fun z42 ez42 => ?_)
      have h := nd_at h ez42
      refine lv_istore_n (lv' := [(3, .int z42), (0, .ref (a 0)), (1, .int x1), (2, .int x2), (4, .int x4)]) hx hb dX9_nameAt_37 rfl hl (by decide) rfl (fun ls hl => ?_)
      obtain ⟨z43, ez43, h⟩ := nd_let_e h
      refine lv_iinc (v := z43) (lv' := [(4, .int z43), (3, .int z42), (0, .ref (a 0)), (1, .int x1), (2, .int x2)]) hx hb dX9_nameAt_38 hl (k := 4) rfl (by rw [ez43]) (by decide) rfl (fun ls hl => ?_)
      refine lv_goto (tgt := 5) hx hb dX9_nameAt_41 (by decide) ?_
      exact (J5) (x1) (x2) (z42) (z43) s0 _ _ _ h hP hD hS (lv_sub hl [2, 3, 4, 1, 0] rfl)
set_option maxHeartbeats 40000000 in
set_option maxRecDepth 100000 in
theorem db_X9_nameAt_5 {p : Program} {l : Launch} {e : Env} {s : State} {m : MethodId} {args : Array Value} {below : List Frame} {meth : Method} {c : Code} {Q : State → Prop} {A : Nat → Prop} {dC : Nat → ClassId} {dI : Nat → Nat → Nat} {a : Nat → Nat} {ac : Nat → ClassId} {n : Nat} {r : Int32 × (St)} (C : nd_C p l s m args c A (dC, dI) cX9_nameAt 9 RX9 ow_dm_X9_nameAt (dk_X9 ac)) (K : nd_Ki p l e (headSpec ow_dm_X9_nameAt ({ frames := 0, cells := 0, slots := 0, locals := 0 })).room s m args below meth c Q A (dC, dI) cX9_nameAt .int (St) (dw_X9 a ac) r) (k : Nat) : dj_X9_nameAt_5 p l e s m args below meth c Q A dC dI a ac (df_X9_nameAt_5 n k) r := by
  induction k with
  | zero => intro x1 x2 x3 x4 s0 H locs ls h; exact nomatch (show (none : Option (Int32 × (St))) = some r from h)
  | succ k ih => exact dB_X9_nameAt_5 C K ih
set_option maxHeartbeats 40000000 in
set_option maxRecDepth 100000 in
theorem db_X9_nameAt_0 {p : Program} {l : Launch} {e : Env} {s : State} {m : MethodId} {args : Array Value} {below : List Frame} {meth : Method} {c : Code} {Q : State → Prop} {A : Nat → Prop} {dC : Nat → ClassId} {dI : Nat → Nat → Nat} {a : Nat → Nat} {ac : Nat → ClassId} {n : Nat} {r : Int32 × (St)} (C : nd_C p l s m args c A (dC, dI) cX9_nameAt 9 RX9 ow_dm_X9_nameAt (dk_X9 ac)) (K : nd_Ki p l e (headSpec ow_dm_X9_nameAt ({ frames := 0, cells := 0, slots := 0, locals := 0 })).room s m args below meth c Q A (dC, dI) cX9_nameAt .int (St) (dw_X9 a ac) r) : dj_X9_nameAt_0 p l e s m args below meth c Q A dC dI a ac (df_X9_nameAt_0 n) r := by
  obtain ⟨hlt, hx, hb, hml, hown, hts, hN, hA, hK⟩ := id C
  intro v0 v1 s0 H locs ls h hP hD hS hl
  unfold df_X9_nameAt_0 at h
  refine lv_iconst (v := 0) hx hb dX9_nameAt_0 (by decide) ?_
  refine lv_istore_n (lv' := [(3, .int 0), (0, .ref (a 0)), (1, .int v0), (2, .int v1)]) hx hb dX9_nameAt_1 rfl hl (by decide) rfl (fun ls hl => ?_)
  refine lv_iconst (v := 0) hx hb dX9_nameAt_2 (by decide) ?_
  refine lv_istore (lv' := [(4, .int 0), (3, .int 0), (0, .ref (a 0)), (1, .int v0), (2, .int v1)]) hx hb dX9_nameAt_3 hl (by decide) rfl (fun ls hl => ?_)
  exact (db_X9_nameAt_5 C K n) (v0) (v1) (0) (0) s0 _ _ _ h hP hD hS (lv_sub hl [2, 3, 4, 1, 0] rfl)
set_option maxHeartbeats 40000000 in
set_option maxRecDepth 100000 in
theorem dm_X9_nameAt (l : Launch) (hlt : l.stackTraces = false) (dC : Nat → ClassId) (dI : Nat → Nat → Nat) (a : Nat → Nat) (ac : Nat → ClassId) (n : Nat) (v0 : Int32) (v1 : Int32) (s0 : St) {r : Int32 × (St)} (h : df_X9_nameAt n v0 v1 s0 = some r) (sz : Nat) : Met l yX9_nameAt ow_dm_X9_nameAt ({ frames := 0, cells := 0, slots := 0, locals := 0 }) (va_Pc [.ref (a 0), .int v0, .int v1] (fun U => U.heap.size = sz ∧ va_P (dC, dI) vwCl (dw_X9 a ac s0) U.heap ∧ va_K (dC, dI) vwCl (dk_X9 ac) U ∧ va_D (fun _ => True) (dw_X9 a ac s0) ∧ nv_E (va_A (dw_X9 a ac s0) sz) U)) (va_Qi (fun x _ => x = r.1) (fun (_ : Unit) t => va_P (dC, dI) vwCl (dw_X9 a ac r.2) t.heap ∧ va_K (dC, dI) vwCl (dk_X9 ac) t ∧ va_D (va_A (dw_X9 a ac s0) sz) (dw_X9 a ac r.2)) (va_A (dw_X9 a ac s0) sz)) 0 0 (va_A (dw_X9 a ac s0) sz) := by
  refine Met.ofW (cc := cX9_nameAt) (maxL := 9) (ret := (some .int)) (by decide) rfl ?_
  intro p e s m args below meth c s₁ B hml hv
  obtain ⟨rfl, hsz, hP, hK, hD0, hN⟩ := hv
  have hx := B.exec
  have hb := B.bytes
  have hr := B.returns
  have hts := atoms_spec (ws := ow_dm_X9_nameAt) B.pre
  have hown : s.vm.findClass RX9 = some m.cls := findClass_of_methodNamed B.named
  have hlocks := B.notSynchronized
  subst hsz
  have hD := hD0.self (sz := s.heap.size)
  generalize hAe : va_A (dw_X9 a ac s0) s.heap.size = A at hD hN ⊢
  have hA : ∀ q : Nat, s.heap.size ≤ q → A q := fun q h => by rw [← hAe]; exact Or.inr h
  have hl := lv_entry ([.ref (a 0), .int v0, .int v1]) (n := 9) (Nat.le_of_ble_eq_true rfl)
  rw [lg_entry_eq]
  generalize (lg_sl ([.ref (a 0), .int v0, .int v1]) ++ List.replicate (9 - (lg_sl ([.ref (a 0), .int v0, .int v1])).length) Slot.unset).toArray = ls at hl ⊢
  have hl : lv_has ls 9 [(0, .ref (a 0)), (1, .int v0), (2, .int v1)] := hl
  exact db_X9_nameAt_0 (dC := dC) (dI := dI) (a := a) (ac := ac) (n := n) (r := r) ⟨hlt, hx, hb, hml, hown, hts, hN, hA, hK⟩ (fun pc v τ H locs ls d z er hP hD hS => by subst er; exact W.zret (v := v) hx hb hr z (fun t ht hW => ⟨⟨v, (), rfl, rfl, by rw [ht]; exact hP, va_K.moved hW.alike hK, hD⟩, hS.F ht⟩) hS.2.2 d) v0 v1 s0 _ _ _ h hP hD va_S.rf (lv_sub hl [0, 1, 2] rfl)
def ow_dm_X1_add : List Cond := .code yX1_add cX1_add 6 none :: ([.fieldLink RX1 32 "TimeMachine$Assembler" "fault" "I", .fieldLink RX1 65 "TimeMachine$Assembler" "statements" "I", .fieldLink RX1 19 "TimeMachine$Assembler" "statement" "[I", .fieldLink RX1 36 "TimeMachine$Assembler" "line" "I", .fieldLink RX1 71 "TimeMachine$Assembler" "section" "I"] ++ (u_ws RX1 TX1 13 ++ []))
theorem gd_dm_X1_add : ∀ w ∈ ow_dm_X1_add, (w.onTables && w.keeps) = true ∨ ∃ ty, w = Cond.arrayClass ty := List.forall_mem_cons.mpr ⟨good_of_word rfl, List.forall_mem_append.mpr ⟨fun w h => good_of_word (List.all_eq_true.mp (by decide +kernel) w h), List.forall_mem_append.mpr ⟨gu_X1, fun _ h => nomatch h⟩⟩⟩
theorem hi_dm_X1_add_X1 : ∀ w ∈ u_ws RX1 TX1 13, w ∈ ow_dm_X1_add := fun w h => List.mem_cons_of_mem _ (List.mem_append_right _ (List.mem_append_left _ h))
def dj_X1_add_17 (p : Program) (l : Launch) (e : Env) (s : State) (m : MethodId) (args : Array Value) (below : List Frame) (meth : Method) (c : Code) (Q : State → Prop) (A : Nat → Prop) (dC : Nat → ClassId) (dI : Nat → Nat → Nat) (a : Nat → Nat) (ac : Nat → ClassId) (g : (St × (St)) → Option (St × (St))) (r : St × (St)) : Prop := ∀ (s0 : St × (St)) (H : Heap) (locs : List Loc) (ls : Array Slot), g s0 = some r → va_P (dC, dI) vwCl (dw_X1 a ac s0) H → va_D A (dw_X1 a ac s0) → va_S A s.heap H locs → lv_has ls 6 [] → W p l e (headSpec ow_dm_X1_add ({ frames := 0, cells := 0, slots := 0, locals := 0 })).room s m args below meth c H locs 0 0 Q (F0 m 17 ls [])
def dj_X1_add_0 (p : Program) (l : Launch) (e : Env) (s : State) (m : MethodId) (args : Array Value) (below : List Frame) (meth : Method) (c : Code) (Q : State → Prop) (A : Nat → Prop) (dC : Nat → ClassId) (dI : Nat → Nat → Nat) (a : Nat → Nat) (ac : Nat → ClassId) (g : Int32 → Int32 → Int32 → Int32 → (St × (St)) → Option (St × (St))) (r : St × (St)) : Prop := ∀ (v0 : Int32) (v1 : Int32) (v2 : Int32) (v3 : Int32) (s0 : St × (St)) (H : Heap) (locs : List Loc) (ls : Array Slot), g v0 v1 v2 v3 s0 = some r → va_P (dC, dI) vwCl (dw_X1 a ac s0) H → va_D A (dw_X1 a ac s0) → va_S A s.heap H locs → lv_has ls 6 [(0, .ref (a 0)), (1, .int v0), (2, .int v1), (3, .int v2), (4, .int v3)] → W p l e (headSpec ow_dm_X1_add ({ frames := 0, cells := 0, slots := 0, locals := 0 })).room s m args below meth c H locs 0 0 Q (F0 m 0 ls [])
set_option maxHeartbeats 40000000 in
set_option maxRecDepth 100000 in
theorem db_X1_add_17 {p : Program} {l : Launch} {e : Env} {s : State} {m : MethodId} {args : Array Value} {below : List Frame} {meth : Method} {c : Code} {Q : State → Prop} {A : Nat → Prop} {dC : Nat → ClassId} {dI : Nat → Nat → Nat} {a : Nat → Nat} {ac : Nat → ClassId} {n : Nat} {r : St × (St)} (C : nd_C p l s m args c A (dC, dI) cX1_add 6 RX1 ow_dm_X1_add (dk_X1 ac)) (K : nd_Kv p l e (headSpec ow_dm_X1_add ({ frames := 0, cells := 0, slots := 0, locals := 0 })).room s m args below meth c Q A (dC, dI) cX1_add (St × (St)) (dw_X1 a ac) r) : dj_X1_add_17 p l e s m args below meth c Q A dC dI a ac (df_X1_add_17 n) r := by
  obtain ⟨hlt, hx, hb, hml, hown, hts, hN, hA, hK⟩ := id C
  intro s0 H locs ls h hP hD hS hl
  unfold df_X1_add_17 at h
  exact K _ _ _ _ _ dX1_add_17 (Option.some.inj h).symm hP hD hS
set_option maxHeartbeats 40000000 in
set_option maxRecDepth 100000 in
theorem db_X1_add_0 {p : Program} {l : Launch} {e : Env} {s : State} {m : MethodId} {args : Array Value} {below : List Frame} {meth : Method} {c : Code} {Q : State → Prop} {A : Nat → Prop} {dC : Nat → ClassId} {dI : Nat → Nat → Nat} {a : Nat → Nat} {ac : Nat → ClassId} {n : Nat} {r : St × (St)} (C : nd_C p l s m args c A (dC, dI) cX1_add 6 RX1 ow_dm_X1_add (dk_X1 ac)) (K : nd_Kv p l e (headSpec ow_dm_X1_add ({ frames := 0, cells := 0, slots := 0, locals := 0 })).room s m args below meth c Q A (dC, dI) cX1_add (St × (St)) (dw_X1 a ac) r) : dj_X1_add_0 p l e s m args below meth c Q A dC dI a ac (df_X1_add_0 n) r := by
  obtain ⟨hlt, hx, hb, hml, hown, hts, hN, hA, hK⟩ := id C
  intro v0 v1 v2 v3 s0 H locs ls h hP hD hS hl
  unfold df_X1_add_0 at h
  refine lv_aload_n hx hb dX1_add_0 rfl (lv_at hl 0 rfl) ?_
  refine va_get (D := (dC, dI)) (ci := 2) (v := .int (sI s0.1 2)) (C := RX1) (T := TX1) (N := 13) hx hb hts hi_dm_X1_add_X1 hown hK hP 0 rfl rfl 5 (by decide) (hts (.fieldLink RX1 32 "TimeMachine$Assembler" "fault" "I") (List.mem_of_getElem? (i := 1) rfl)) (fun _ h9 => h9) rfl dX1_add_1 ?_
  refine lv_if_ne (tgt := 17) hx hb dX1_add_4 (by decide) (fun c1 => ?_) (fun c1 => ?_)
  · have h := nd_neg h c1
    exact (db_X1_add_17 C K)  s0 _ _ _ h hP hD hS (lv_sub hl [] rfl)
  · have h := nd_pos h c1
    refine lv_aload_n hx hb dX1_add_7 rfl (lv_at hl 0 rfl) ?_
    refine va_get (D := (dC, dI)) (ci := 2) (v := .int (sI s0.1 0)) (C := RX1) (T := TX1) (N := 13) hx hb hts hi_dm_X1_add_X1 hown hK hP 0 rfl rfl 2 (by decide) (hts (.fieldLink RX1 65 "TimeMachine$Assembler" "statements" "I") (List.mem_of_getElem? (i := 2) rfl)) (fun _ h9 => h9) rfl dX1_add_8 ?_
    refine lv_sipush (v := 8194) hx hb dX1_add_11 (by decide) ?_
    refine lv_icmp_lt (tgt := 18) hx hb dX1_add_14 (by decide) (fun c2 => ?_) (fun c2 => ?_)
    · have h := nd_pos h c2
      refine lv_aload_n hx hb dX1_add_18 rfl (lv_at hl 0 rfl) ?_
      refine va_get (D := (dC, dI)) (ci := 2) (v := .int (sI s0.1 0)) (C := RX1) (T := TX1) (N := 13) hx hb hts hi_dm_X1_add_X1 hown hK hP 0 rfl rfl 2 (by decide) (hts (.fieldLink RX1 65 "TimeMachine$Assembler" "statements" "I") (List.mem_of_getElem? (i := 2) rfl)) (fun _ h9 => h9) rfl dX1_add_19 ?_
      refine lv_bipush (v := 8) hx hb dX1_add_22 (by decide) ?_
      refine lv_imul hx hb dX1_add_24 ?_
      refine lv_topi (fun z3 ez3 => ?_)
      have h := nd_at h ez3
      refine lv_istore (lv' := [(5, .int z3), (0, .ref (a 0)), (1, .int v0), (2, .int v1), (3, .int v2), (4, .int v3)]) hx hb dX1_add_25 hl (by decide) rfl (fun ls hl => ?_)
      refine lv_aload_n hx hb dX1_add_27 rfl (lv_at hl 1 rfl) ?_
      refine va_get (D := (dC, dI)) (ci := 2) (v := .ref (a 1)) (C := RX1) (T := TX1) (N := 13) hx hb hts hi_dm_X1_add_X1 hown hK hP 0 rfl rfl 1 (by decide) (hts (.fieldLink RX1 19 "TimeMachine$Assembler" "statement" "[I") (List.mem_of_getElem? (i := 3) rfl)) (fun _ h9 => h9) rfl dX1_add_28 ?_
      refine lv_iload hx hb dX1_add_31 (lv_at hl 0 rfl) ?_
      refine lv_iconst (v := 0) hx hb dX1_add_33 (by decide) ?_
      refine lv_iadd hx hb dX1_add_34 ?_
      refine lv_aload_n hx hb dX1_add_35 rfl (lv_at hl 1 rfl) ?_
      refine va_get (D := (dC, dI)) (ci := 2) (v := .int (sI s0.1 3)) (C := RX1) (T := TX1) (N := 13) hx hb hts hi_dm_X1_add_X1 hown hK hP 0 rfl rfl 6 (by decide) (hts (.fieldLink RX1 36 "TimeMachine$Assembler" "line" "I") (List.mem_of_getElem? (i := 4) rfl)) (fun _ h9 => h9) rfl dX1_add_36 ?_
      obtain ⟨i4, h⟩ := nd_ck_e h
      refine va_iast (i := (z3 + 0)) (x := (sI s0.1 3)) hx hb hK hP hD hS 1 0 rfl rfl i4 dX1_add_39 (fun H locs hP hD hS => ?_)
      obtain ⟨s5, es5, h⟩ := nd_let_e h
      have hP : va_P (dC, dI) vwCl (dw_X1 a ac s5) H := by rw [es5]; exact hP
      have hD : va_D A (dw_X1 a ac s5) := by rw [es5]; exact hD
      refine lv_aload_n hx hb dX1_add_40 rfl (lv_at hl 1 rfl) ?_
      refine va_get (D := (dC, dI)) (ci := 2) (v := .ref (a 1)) (C := RX1) (T := TX1) (N := 13) hx hb hts hi_dm_X1_add_X1 hown hK hP 0 rfl rfl 1 (by decide) (hts (.fieldLink RX1 19 "TimeMachine$Assembler" "statement" "[I") (List.mem_of_getElem? (i := 3) rfl)) (fun _ h9 => h9) rfl dX1_add_41 ?_
      refine lv_iload hx hb dX1_add_44 (lv_at hl 0 rfl) ?_
      refine lv_iconst (v := 1) hx hb dX1_add_46 (by decide) ?_
      refine lv_iadd hx hb dX1_add_47 ?_
      refine lv_aload_n hx hb dX1_add_48 rfl (lv_at hl 1 rfl) ?_
      refine va_get (D := (dC, dI)) (ci := 2) (v := .int (sI s5.1 4)) (C := RX1) (T := TX1) (N := 13) hx hb hts hi_dm_X1_add_X1 hown hK hP 0 rfl rfl 7 (by decide) (hts (.fieldLink RX1 71 "TimeMachine$Assembler" "section" "I") (List.mem_of_getElem? (i := 5) rfl)) (fun _ h9 => h9) rfl dX1_add_49 ?_
      obtain ⟨i6, h⟩ := nd_ck_e h
      refine va_iast (i := (z3 + 1)) (x := (sI s5.1 4)) hx hb hK hP hD hS 1 0 rfl rfl i6 dX1_add_52 (fun H locs hP hD hS => ?_)
      obtain ⟨s7, es7, h⟩ := nd_let_e h
      have hP : va_P (dC, dI) vwCl (dw_X1 a ac s7) H := by rw [es7]; exact hP
      have hD : va_D A (dw_X1 a ac s7) := by rw [es7]; exact hD
      refine lv_aload_n hx hb dX1_add_53 rfl (lv_at hl 1 rfl) ?_
      refine va_get (D := (dC, dI)) (ci := 2) (v := .ref (a 1)) (C := RX1) (T := TX1) (N := 13) hx hb hts hi_dm_X1_add_X1 hown hK hP 0 rfl rfl 1 (by decide) (hts (.fieldLink RX1 19 "TimeMachine$Assembler" "statement" "[I") (List.mem_of_getElem? (i := 3) rfl)) (fun _ h9 => h9) rfl dX1_add_54 ?_
      refine lv_iload hx hb dX1_add_57 (lv_at hl 0 rfl) ?_
      refine lv_iconst (v := 2) hx hb dX1_add_59 (by decide) ?_
      refine lv_iadd hx hb dX1_add_60 ?_
      refine lv_iconst (v := 0) hx hb dX1_add_61 (by decide) ?_
      obtain ⟨i8, h⟩ := nd_ck_e h
      refine va_iast (i := (z3 + 2)) (x := 0) hx hb hK hP hD hS 1 0 rfl rfl i8 dX1_add_62 (fun H locs hP hD hS => ?_)
      obtain ⟨s9, es9, h⟩ := nd_let_e h
      have hP : va_P (dC, dI) vwCl (dw_X1 a ac s9) H := by rw [es9]; exact hP
      have hD : va_D A (dw_X1 a ac s9) := by rw [es9]; exact hD
      refine lv_aload_n hx hb dX1_add_63 rfl (lv_at hl 1 rfl) ?_
      refine va_get (D := (dC, dI)) (ci := 2) (v := .ref (a 1)) (C := RX1) (T := TX1) (N := 13) hx hb hts hi_dm_X1_add_X1 hown hK hP 0 rfl rfl 1 (by decide) (hts (.fieldLink RX1 19 "TimeMachine$Assembler" "statement" "[I") (List.mem_of_getElem? (i := 3) rfl)) (fun _ h9 => h9) rfl dX1_add_64 ?_
      refine lv_iload hx hb dX1_add_67 (lv_at hl 0 rfl) ?_
      refine lv_iconst (v := 3) hx hb dX1_add_69 (by decide) ?_
      refine lv_iadd hx hb dX1_add_70 ?_
      refine lv_iload_n hx hb dX1_add_71 rfl (lv_at hl 3 rfl) ?_
      obtain ⟨i10, h⟩ := nd_ck_e h
      refine va_iast (i := (z3 + 3)) (x := v1) hx hb hK hP hD hS 1 0 rfl rfl i10 dX1_add_72 (fun H locs hP hD hS => ?_)
      obtain ⟨s11, es11, h⟩ := nd_let_e h
      have hP : va_P (dC, dI) vwCl (dw_X1 a ac s11) H := by rw [es11]; exact hP
      have hD : va_D A (dw_X1 a ac s11) := by rw [es11]; exact hD
      refine lv_aload_n hx hb dX1_add_73 rfl (lv_at hl 1 rfl) ?_
      refine va_get (D := (dC, dI)) (ci := 2) (v := .ref (a 1)) (C := RX1) (T := TX1) (N := 13) hx hb hts hi_dm_X1_add_X1 hown hK hP 0 rfl rfl 1 (by decide) (hts (.fieldLink RX1 19 "TimeMachine$Assembler" "statement" "[I") (List.mem_of_getElem? (i := 3) rfl)) (fun _ h9 => h9) rfl dX1_add_74 ?_
      refine lv_iload hx hb dX1_add_77 (lv_at hl 0 rfl) ?_
      refine lv_iconst (v := 4) hx hb dX1_add_79 (by decide) ?_
      refine lv_iadd hx hb dX1_add_80 ?_
      refine lv_iload_n hx hb dX1_add_81 rfl (lv_at hl 2 rfl) ?_
      obtain ⟨i12, h⟩ := nd_ck_e h
      refine va_iast (i := (z3 + 4)) (x := v0) hx hb hK hP hD hS 1 0 rfl rfl i12 dX1_add_82 (fun H locs hP hD hS => ?_)
      obtain ⟨s13, es13, h⟩ := nd_let_e h
      have hP : va_P (dC, dI) vwCl (dw_X1 a ac s13) H := by rw [es13]; exact hP
      have hD : va_D A (dw_X1 a ac s13) := by rw [es13]; exact hD
      refine lv_aload_n hx hb dX1_add_83 rfl (lv_at hl 1 rfl) ?_
      refine va_get (D := (dC, dI)) (ci := 2) (v := .ref (a 1)) (C := RX1) (T := TX1) (N := 13) hx hb hts hi_dm_X1_add_X1 hown hK hP 0 rfl rfl 1 (by decide) (hts (.fieldLink RX1 19 "TimeMachine$Assembler" "statement" "[I") (List.mem_of_getElem? (i := 3) rfl)) (fun _ h9 => h9) rfl dX1_add_84 ?_
      refine lv_iload hx hb dX1_add_87 (lv_at hl 0 rfl) ?_
      refine lv_iconst (v := 5) hx hb dX1_add_89 (by decide) ?_
      refine lv_iadd hx hb dX1_add_90 ?_
      refine lv_iload_n hx hb dX1_add_91 rfl (lv_at hl 4 rfl) ?_
      obtain ⟨i14, h⟩ := nd_ck_e h
      refine va_iast (i := (z3 + 5)) (x := v2) hx hb hK hP hD hS 1 0 rfl rfl i14 dX1_add_92 (fun H locs hP hD hS => ?_)
      obtain ⟨s15, es15, h⟩ := nd_let_e h
      have hP : va_P (dC, dI) vwCl (dw_X1 a ac s15) H := by rw [es15]; exact hP
      have hD : va_D A (dw_X1 a ac s15) := by rw [es15]; exact hD
      refine lv_aload_n hx hb dX1_add_93 rfl (lv_at hl 1 rfl) ?_
      refine va_get (D := (dC, dI)) (ci := 2) (v := .ref (a 1)) (C := RX1) (T := TX1) (N := 13) hx hb hts hi_dm_X1_add_X1 hown hK hP 0 rfl rfl 1 (by decide) (hts (.fieldLink RX1 19 "TimeMachine$Assembler" "statement" "[I") (List.mem_of_getElem? (i := 3) rfl)) (fun _ h9 => h9) rfl dX1_add_94 ?_
      refine lv_iload hx hb dX1_add_97 (lv_at hl 0 rfl) ?_
      refine lv_bipush (v := 6) hx hb dX1_add_99 (by decide) ?_
      refine lv_iadd hx hb dX1_add_101 ?_
      refine lv_iload hx hb dX1_add_102 (lv_at hl 5 rfl) ?_
      obtain ⟨i16, h⟩ := nd_ck_e h
      refine va_iast (i := (z3 + 6)) (x := v3) hx hb hK hP hD hS 1 0 rfl rfl i16 dX1_add_104 (fun H locs hP hD hS => ?_)
      obtain ⟨s17, es17, h⟩ := nd_let_e h
      have hP : va_P (dC, dI) vwCl (dw_X1 a ac s17) H := by rw [es17]; exact hP
      have hD : va_D A (dw_X1 a ac s17) := by rw [es17]; exact hD
      refine lv_aload_n hx hb dX1_add_105 rfl (lv_at hl 1 rfl) ?_
      refine va_get (D := (dC, dI)) (ci := 2) (v := .ref (a 1)) (C := RX1) (T := TX1) (N := 13) hx hb hts hi_dm_X1_add_X1 hown hK hP 0 rfl rfl 1 (by decide) (hts (.fieldLink RX1 19 "TimeMachine$Assembler" "statement" "[I") (List.mem_of_getElem? (i := 3) rfl)) (fun _ h9 => h9) rfl dX1_add_106 ?_
      refine lv_iload hx hb dX1_add_109 (lv_at hl 0 rfl) ?_
      refine lv_bipush (v := 7) hx hb dX1_add_111 (by decide) ?_
      refine lv_iadd hx hb dX1_add_113 ?_
      refine lv_iconst (v := 0) hx hb dX1_add_114 (by decide) ?_
      obtain ⟨i18, h⟩ := nd_ck_e h
      refine va_iast (i := (z3 + 7)) (x := 0) hx hb hK hP hD hS 1 0 rfl rfl i18 dX1_add_115 (fun H locs hP hD hS => ?_)
      obtain ⟨s19, es19, h⟩ := nd_let_e h
      have hP : va_P (dC, dI) vwCl (dw_X1 a ac s19) H := by rw [es19]; exact hP
      have hD : va_D A (dw_X1 a ac s19) := by rw [es19]; exact hD
      refine lv_aload_n hx hb dX1_add_116 rfl (lv_at hl 1 rfl) ?_
      refine lv_dup hx hb dX1_add_117 rfl ?_
      refine va_get (D := (dC, dI)) (ci := 2) (v := .int (sI s19.1 0)) (C := RX1) (T := TX1) (N := 13) hx hb hts hi_dm_X1_add_X1 hown hK hP 0 rfl rfl 2 (by decide) (hts (.fieldLink RX1 65 "TimeMachine$Assembler" "statements" "I") (List.mem_of_getElem? (i := 2) rfl)) (fun _ h9 => h9) rfl dX1_add_118 ?_
      refine lv_iconst (v := 1) hx hb dX1_add_121 (by decide) ?_
      refine lv_iadd hx hb dX1_add_122 ?_
      refine va_put (D := (dC, dI)) (ci := 2) (v := .int ((sI s19.1 0) + 1)) (ty := .int) (C := RX1) (T := TX1) (N := 13) hx hb hts hi_dm_X1_add_X1 tyX1 tyX1_ok nmX1 hown hK hP hD hS 0 rfl rfl 2 (by decide) (hts (.fieldLink RX1 65 "TimeMachine$Assembler" "statements" "I") (List.mem_of_getElem? (i := 2) rfl)) (fun _ h9 => h9) rfl (by decide +kernel) rfl rfl (Nat.le_of_ble_eq_true rfl) dX1_add_123 (fun H locs hP hD hS => ?_)
      obtain ⟨s20, es20, h⟩ := nd_let_e h
      have hP : va_P (dC, dI) vwCl (dw_X1 a ac s20) H := by rw [es20]; exact hP
      have hD : va_D A (dw_X1 a ac s20) := by rw [es20]; exact hD
      exact K _ _ _ _ _ dX1_add_126 (Option.some.inj h).symm hP hD hS
    · have h := nd_neg h c2
      exact (db_X1_add_17 C K)  s0 _ _ _ h hP hD hS (lv_sub hl [] rfl)
set_option maxHeartbeats 40000000 in
set_option maxRecDepth 100000 in
theorem dm_X1_add (l : Launch) (hlt : l.stackTraces = false) (dC : Nat → ClassId) (dI : Nat → Nat → Nat) (a : Nat → Nat) (ac : Nat → ClassId) (n : Nat) (v0 : Int32) (v1 : Int32) (v2 : Int32) (v3 : Int32) (s0 : St × (St)) {r : St × (St)} (h : df_X1_add n v0 v1 v2 v3 s0 = some r) (sz : Nat) : Met l yX1_add ow_dm_X1_add ({ frames := 0, cells := 0, slots := 0, locals := 0 }) (va_Pc [.ref (a 0), .int v0, .int v1, .int v2, .int v3] (fun U => U.heap.size = sz ∧ va_P (dC, dI) vwCl (dw_X1 a ac s0) U.heap ∧ va_K (dC, dI) vwCl (dk_X1 ac) U ∧ va_D (fun _ => True) (dw_X1 a ac s0) ∧ nv_E (va_A (dw_X1 a ac s0) sz) U)) (va_Qv (fun _ => True) (fun (_ : Unit) t => va_P (dC, dI) vwCl (dw_X1 a ac r) t.heap ∧ va_K (dC, dI) vwCl (dk_X1 ac) t ∧ va_D (va_A (dw_X1 a ac s0) sz) (dw_X1 a ac r)) (va_A (dw_X1 a ac s0) sz)) 0 0 (va_A (dw_X1 a ac s0) sz) := by
  refine Met.ofW (cc := cX1_add) (maxL := 6) (ret := none) (by decide) rfl ?_
  intro p e s m args below meth c s₁ B hml hv
  obtain ⟨rfl, hsz, hP, hK, hD0, hN⟩ := hv
  have hx := B.exec
  have hb := B.bytes
  have hr := B.returns
  have hts := atoms_spec (ws := ow_dm_X1_add) B.pre
  have hown : s.vm.findClass RX1 = some m.cls := findClass_of_methodNamed B.named
  have hlocks := B.notSynchronized
  subst hsz
  have hD := hD0.self (sz := s.heap.size)
  generalize hAe : va_A (dw_X1 a ac s0) s.heap.size = A at hD hN ⊢
  have hA : ∀ q : Nat, s.heap.size ≤ q → A q := fun q h => by rw [← hAe]; exact Or.inr h
  have hl := lv_entry ([.ref (a 0), .int v0, .int v1, .int v2, .int v3]) (n := 6) (Nat.le_of_ble_eq_true rfl)
  rw [lg_entry_eq]
  generalize (lg_sl ([.ref (a 0), .int v0, .int v1, .int v2, .int v3]) ++ List.replicate (6 - (lg_sl ([.ref (a 0), .int v0, .int v1, .int v2, .int v3])).length) Slot.unset).toArray = ls at hl ⊢
  have hl : lv_has ls 6 [(0, .ref (a 0)), (1, .int v0), (2, .int v1), (3, .int v2), (4, .int v3)] := hl
  exact db_X1_add_0 (dC := dC) (dI := dI) (a := a) (ac := ac) (n := n) (r := r) ⟨hlt, hx, hb, hml, hown, hts, hN, hA, hK⟩ (fun pc τ H locs ls d er hP hD hS => by subst er; exact W.vret hx hb hr (fun t ht hW => ⟨⟨(), rfl, trivial, by rw [ht]; exact hP, va_K.moved hW.alike hK, hD⟩, hS.F ht⟩) hS.2.2 d) v0 v1 v2 v3 s0 _ _ _ h hP hD va_S.rf (lv_sub hl [0, 1, 2, 3, 4] rfl)
def ow_dm_X9_emit : List Cond := .code yX9_emit cX9_emit 3 none :: ([.fieldLink RX9 39 "TimeMachine$Reader" "codes" "I", .fieldLink RX9 16 "TimeMachine$Reader" "code" "[I", .fieldLink RX9 20 "TimeMachine$Reader" "argument" "[I"] ++ (u_ws RX9 TX9 20 ++ []))
theorem gd_dm_X9_emit : ∀ w ∈ ow_dm_X9_emit, (w.onTables && w.keeps) = true ∨ ∃ ty, w = Cond.arrayClass ty := List.forall_mem_cons.mpr ⟨good_of_word rfl, List.forall_mem_append.mpr ⟨fun w h => good_of_word (List.all_eq_true.mp (by decide +kernel) w h), List.forall_mem_append.mpr ⟨gu_X9, fun _ h => nomatch h⟩⟩⟩
theorem hi_dm_X9_emit_X9 : ∀ w ∈ u_ws RX9 TX9 20, w ∈ ow_dm_X9_emit := fun w h => List.mem_cons_of_mem _ (List.mem_append_right _ (List.mem_append_left _ h))
def dj_X9_emit_42 (p : Program) (l : Launch) (e : Env) (s : State) (m : MethodId) (args : Array Value) (below : List Frame) (meth : Method) (c : Code) (Q : State → Prop) (A : Nat → Prop) (dC : Nat → ClassId) (dI : Nat → Nat → Nat) (a : Nat → Nat) (ac : Nat → ClassId) (g : (St) → Option (St)) (r : St) : Prop := ∀ (s0 : St) (H : Heap) (locs : List Loc) (ls : Array Slot), g s0 = some r → va_P (dC, dI) vwCl (dw_X9 a ac s0) H → va_D A (dw_X9 a ac s0) → va_S A s.heap H locs → lv_has ls 3 [] → W p l e (headSpec ow_dm_X9_emit ({ frames := 0, cells := 0, slots := 0, locals := 0 })).room s m args below meth c H locs 0 0 Q (F0 m 42 ls [])
def dj_X9_emit_0 (p : Program) (l : Launch) (e : Env) (s : State) (m : MethodId) (args : Array Value) (below : List Frame) (meth : Method) (c : Code) (Q : State → Prop) (A : Nat → Prop) (dC : Nat → ClassId) (dI : Nat → Nat → Nat) (a : Nat → Nat) (ac : Nat → ClassId) (g : Int32 → Int32 → (St) → Option (St)) (r : St) : Prop := ∀ (v0 : Int32) (v1 : Int32) (s0 : St) (H : Heap) (locs : List Loc) (ls : Array Slot), g v0 v1 s0 = some r → va_P (dC, dI) vwCl (dw_X9 a ac s0) H → va_D A (dw_X9 a ac s0) → va_S A s.heap H locs → lv_has ls 3 [(0, .ref (a 0)), (1, .int v0), (2, .int v1)] → W p l e (headSpec ow_dm_X9_emit ({ frames := 0, cells := 0, slots := 0, locals := 0 })).room s m args below meth c H locs 0 0 Q (F0 m 0 ls [])
set_option maxHeartbeats 40000000 in
set_option maxRecDepth 100000 in
theorem db_X9_emit_42 {p : Program} {l : Launch} {e : Env} {s : State} {m : MethodId} {args : Array Value} {below : List Frame} {meth : Method} {c : Code} {Q : State → Prop} {A : Nat → Prop} {dC : Nat → ClassId} {dI : Nat → Nat → Nat} {a : Nat → Nat} {ac : Nat → ClassId} {n : Nat} {r : St} (C : nd_C p l s m args c A (dC, dI) cX9_emit 3 RX9 ow_dm_X9_emit (dk_X9 ac)) (K : nd_Kv p l e (headSpec ow_dm_X9_emit ({ frames := 0, cells := 0, slots := 0, locals := 0 })).room s m args below meth c Q A (dC, dI) cX9_emit (St) (dw_X9 a ac) r) : dj_X9_emit_42 p l e s m args below meth c Q A dC dI a ac (df_X9_emit_42 n) r := by
  obtain ⟨hlt, hx, hb, hml, hown, hts, hN, hA, hK⟩ := id C
  intro s0 H locs ls h hP hD hS hl
  unfold df_X9_emit_42 at h
  exact K _ _ _ _ _ dX9_emit_42 (Option.some.inj h).symm hP hD hS
set_option maxHeartbeats 40000000 in
set_option maxRecDepth 100000 in
theorem db_X9_emit_0 {p : Program} {l : Launch} {e : Env} {s : State} {m : MethodId} {args : Array Value} {below : List Frame} {meth : Method} {c : Code} {Q : State → Prop} {A : Nat → Prop} {dC : Nat → ClassId} {dI : Nat → Nat → Nat} {a : Nat → Nat} {ac : Nat → ClassId} {n : Nat} {r : St} (C : nd_C p l s m args c A (dC, dI) cX9_emit 3 RX9 ow_dm_X9_emit (dk_X9 ac)) (K : nd_Kv p l e (headSpec ow_dm_X9_emit ({ frames := 0, cells := 0, slots := 0, locals := 0 })).room s m args below meth c Q A (dC, dI) cX9_emit (St) (dw_X9 a ac) r) : dj_X9_emit_0 p l e s m args below meth c Q A dC dI a ac (df_X9_emit_0 n) r := by
  obtain ⟨hlt, hx, hb, hml, hown, hts, hN, hA, hK⟩ := id C
  intro v0 v1 s0 H locs ls h hP hD hS hl
  unfold df_X9_emit_0 at h
  refine lv_aload_n hx hb dX9_emit_0 rfl (lv_at hl 0 rfl) ?_
  refine va_get (D := (dC, dI)) (ci := 10) (v := .int (sI s0 5)) (C := RX9) (T := TX9) (N := 20) hx hb hts hi_dm_X9_emit_X9 hown hK hP 0 rfl rfl 8 (by decide) (hts (.fieldLink RX9 39 "TimeMachine$Reader" "codes" "I") (List.mem_of_getElem? (i := 1) rfl)) (fun _ h9 => h9) rfl dX9_emit_1 ?_
  refine lv_aload_n hx hb dX9_emit_4 rfl (lv_at hl 0 rfl) ?_
  refine va_get (D := (dC, dI)) (ci := 10) (v := .ref (a 1)) (C := RX9) (T := TX9) (N := 20) hx hb hts hi_dm_X9_emit_X9 hown hK hP 0 rfl rfl 6 (by decide) (hts (.fieldLink RX9 16 "TimeMachine$Reader" "code" "[I") (List.mem_of_getElem? (i := 2) rfl)) (fun _ h9 => h9) rfl dX9_emit_5 ?_
  refine va_alen (v := 32832) hx hb hK hP 1 0 rfl rfl (show Int32.ofNat 32832 = 32832 by decide) dX9_emit_8 ?_
  refine lv_icmp_ge (tgt := 42) hx hb dX9_emit_9 (by decide) (fun c1 => ?_) (fun c1 => ?_)
  · have h := nd_pos h c1
    exact (db_X9_emit_42 C K)  s0 _ _ _ h hP hD hS (lv_sub hl [] rfl)
  · have h := nd_neg h c1
    refine lv_aload_n hx hb dX9_emit_12 rfl (lv_at hl 0 rfl) ?_
    refine va_get (D := (dC, dI)) (ci := 10) (v := .ref (a 1)) (C := RX9) (T := TX9) (N := 20) hx hb hts hi_dm_X9_emit_X9 hown hK hP 0 rfl rfl 6 (by decide) (hts (.fieldLink RX9 16 "TimeMachine$Reader" "code" "[I") (List.mem_of_getElem? (i := 2) rfl)) (fun _ h9 => h9) rfl dX9_emit_13 ?_
    refine lv_aload_n hx hb dX9_emit_16 rfl (lv_at hl 0 rfl) ?_
    refine va_get (D := (dC, dI)) (ci := 10) (v := .int (sI s0 5)) (C := RX9) (T := TX9) (N := 20) hx hb hts hi_dm_X9_emit_X9 hown hK hP 0 rfl rfl 8 (by decide) (hts (.fieldLink RX9 39 "TimeMachine$Reader" "codes" "I") (List.mem_of_getElem? (i := 1) rfl)) (fun _ h9 => h9) rfl dX9_emit_17 ?_
    refine lv_iload_n hx hb dX9_emit_20 rfl (lv_at hl 1 rfl) ?_
    obtain ⟨i2, h⟩ := nd_ck_e h
    refine va_iast (i := (sI s0 5)) (x := v0) hx hb hK hP hD hS 1 0 rfl rfl i2 dX9_emit_21 (fun H locs hP hD hS => ?_)
    obtain ⟨s3, es3, h⟩ := nd_let_e h
    have hP : va_P (dC, dI) vwCl (dw_X9 a ac s3) H := by rw [es3]; exact hP
    have hD : va_D A (dw_X9 a ac s3) := by rw [es3]; exact hD
    refine lv_aload_n hx hb dX9_emit_22 rfl (lv_at hl 0 rfl) ?_
    refine va_get (D := (dC, dI)) (ci := 10) (v := .ref (a 2)) (C := RX9) (T := TX9) (N := 20) hx hb hts hi_dm_X9_emit_X9 hown hK hP 0 rfl rfl 7 (by decide) (hts (.fieldLink RX9 20 "TimeMachine$Reader" "argument" "[I") (List.mem_of_getElem? (i := 3) rfl)) (fun _ h9 => h9) rfl dX9_emit_23 ?_
    refine lv_aload_n hx hb dX9_emit_26 rfl (lv_at hl 0 rfl) ?_
    refine va_get (D := (dC, dI)) (ci := 10) (v := .int (sI s3 5)) (C := RX9) (T := TX9) (N := 20) hx hb hts hi_dm_X9_emit_X9 hown hK hP 0 rfl rfl 8 (by decide) (hts (.fieldLink RX9 39 "TimeMachine$Reader" "codes" "I") (List.mem_of_getElem? (i := 1) rfl)) (fun _ h9 => h9) rfl dX9_emit_27 ?_
    refine lv_iload_n hx hb dX9_emit_30 rfl (lv_at hl 2 rfl) ?_
    obtain ⟨i4, h⟩ := nd_ck_e h
    refine va_iast (i := (sI s3 5)) (x := v1) hx hb hK hP hD hS 2 1 rfl rfl i4 dX9_emit_31 (fun H locs hP hD hS => ?_)
    obtain ⟨s5, es5, h⟩ := nd_let_e h
    have hP : va_P (dC, dI) vwCl (dw_X9 a ac s5) H := by rw [es5]; exact hP
    have hD : va_D A (dw_X9 a ac s5) := by rw [es5]; exact hD
    refine lv_aload_n hx hb dX9_emit_32 rfl (lv_at hl 0 rfl) ?_
    refine lv_dup hx hb dX9_emit_33 rfl ?_
    refine va_get (D := (dC, dI)) (ci := 10) (v := .int (sI s5 5)) (C := RX9) (T := TX9) (N := 20) hx hb hts hi_dm_X9_emit_X9 hown hK hP 0 rfl rfl 8 (by decide) (hts (.fieldLink RX9 39 "TimeMachine$Reader" "codes" "I") (List.mem_of_getElem? (i := 1) rfl)) (fun _ h9 => h9) rfl dX9_emit_34 ?_
    refine lv_iconst (v := 1) hx hb dX9_emit_37 (by decide) ?_
    refine lv_iadd hx hb dX9_emit_38 ?_
    refine va_put (D := (dC, dI)) (ci := 10) (v := .int ((sI s5 5) + 1)) (ty := .int) (C := RX9) (T := TX9) (N := 20) hx hb hts hi_dm_X9_emit_X9 tyX9 tyX9_ok nmX9 hown hK hP hD hS 0 rfl rfl 8 (by decide) (hts (.fieldLink RX9 39 "TimeMachine$Reader" "codes" "I") (List.mem_of_getElem? (i := 1) rfl)) (fun _ h9 => h9) rfl (by decide +kernel) rfl rfl (Nat.le_of_ble_eq_true rfl) dX9_emit_39 (fun H locs hP hD hS => ?_)
    obtain ⟨s6, es6, h⟩ := nd_let_e h
    have hP : va_P (dC, dI) vwCl (dw_X9 a ac s6) H := by rw [es6]; exact hP
    have hD : va_D A (dw_X9 a ac s6) := by rw [es6]; exact hD
    exact (db_X9_emit_42 C K)  s6 _ _ _ h hP hD hS (lv_sub hl [] rfl)
set_option maxHeartbeats 40000000 in
set_option maxRecDepth 100000 in
theorem dm_X9_emit (l : Launch) (hlt : l.stackTraces = false) (dC : Nat → ClassId) (dI : Nat → Nat → Nat) (a : Nat → Nat) (ac : Nat → ClassId) (n : Nat) (v0 : Int32) (v1 : Int32) (s0 : St) {r : St} (h : df_X9_emit n v0 v1 s0 = some r) (sz : Nat) : Met l yX9_emit ow_dm_X9_emit ({ frames := 0, cells := 0, slots := 0, locals := 0 }) (va_Pc [.ref (a 0), .int v0, .int v1] (fun U => U.heap.size = sz ∧ va_P (dC, dI) vwCl (dw_X9 a ac s0) U.heap ∧ va_K (dC, dI) vwCl (dk_X9 ac) U ∧ va_D (fun _ => True) (dw_X9 a ac s0) ∧ nv_E (va_A (dw_X9 a ac s0) sz) U)) (va_Qv (fun _ => True) (fun (_ : Unit) t => va_P (dC, dI) vwCl (dw_X9 a ac r) t.heap ∧ va_K (dC, dI) vwCl (dk_X9 ac) t ∧ va_D (va_A (dw_X9 a ac s0) sz) (dw_X9 a ac r)) (va_A (dw_X9 a ac s0) sz)) 0 0 (va_A (dw_X9 a ac s0) sz) := by
  refine Met.ofW (cc := cX9_emit) (maxL := 3) (ret := none) (by decide) rfl ?_
  intro p e s m args below meth c s₁ B hml hv
  obtain ⟨rfl, hsz, hP, hK, hD0, hN⟩ := hv
  have hx := B.exec
  have hb := B.bytes
  have hr := B.returns
  have hts := atoms_spec (ws := ow_dm_X9_emit) B.pre
  have hown : s.vm.findClass RX9 = some m.cls := findClass_of_methodNamed B.named
  have hlocks := B.notSynchronized
  subst hsz
  have hD := hD0.self (sz := s.heap.size)
  generalize hAe : va_A (dw_X9 a ac s0) s.heap.size = A at hD hN ⊢
  have hA : ∀ q : Nat, s.heap.size ≤ q → A q := fun q h => by rw [← hAe]; exact Or.inr h
  have hl := lv_entry ([.ref (a 0), .int v0, .int v1]) (n := 3) (Nat.le_of_ble_eq_true rfl)
  rw [lg_entry_eq]
  generalize (lg_sl ([.ref (a 0), .int v0, .int v1]) ++ List.replicate (3 - (lg_sl ([.ref (a 0), .int v0, .int v1])).length) Slot.unset).toArray = ls at hl ⊢
  have hl : lv_has ls 3 [(0, .ref (a 0)), (1, .int v0), (2, .int v1)] := hl
  exact db_X9_emit_0 (dC := dC) (dI := dI) (a := a) (ac := ac) (n := n) (r := r) ⟨hlt, hx, hb, hml, hown, hts, hN, hA, hK⟩ (fun pc τ H locs ls d er hP hD hS => by subst er; exact W.vret hx hb hr (fun t ht hW => ⟨⟨(), rfl, trivial, by rw [ht]; exact hP, va_K.moved hW.alike hK, hD⟩, hS.F ht⟩) hS.2.2 d) v0 v1 s0 _ _ _ h hP hD va_S.rf (lv_sub hl [0, 1, 2] rfl)
def ow_dm_X9_character : List Cond := .code yX9_character cX9_character 5 (some .int) :: ([.fieldLink RX9 64 "TimeMachine$Reader" "stop" "I", .fieldLink RX9 9 "TimeMachine$Reader" "source" "[B"] ++ (u_ws RX9 TX9 20 ++ []))
theorem gd_dm_X9_character : ∀ w ∈ ow_dm_X9_character, (w.onTables && w.keeps) = true ∨ ∃ ty, w = Cond.arrayClass ty := List.forall_mem_cons.mpr ⟨good_of_word rfl, List.forall_mem_append.mpr ⟨fun w h => good_of_word (List.all_eq_true.mp (by decide +kernel) w h), List.forall_mem_append.mpr ⟨gu_X9, fun _ h => nomatch h⟩⟩⟩
theorem hi_dm_X9_character_X9 : ∀ w ∈ u_ws RX9 TX9 20, w ∈ ow_dm_X9_character := fun w h => List.mem_cons_of_mem _ (List.mem_append_right _ (List.mem_append_left _ h))
def dj_X9_character_12 (p : Program) (l : Launch) (e : Env) (s : State) (m : MethodId) (args : Array Value) (below : List Frame) (meth : Method) (c : Code) (Q : State → Prop) (A : Nat → Prop) (dC : Nat → ClassId) (dI : Nat → Nat → Nat) (a : Nat → Nat) (ac : Nat → ClassId) (g : (St) → Option (Int32 × (St))) (r : Int32 × (St)) : Prop := ∀ (s0 : St) (H : Heap) (locs : List Loc) (ls : Array Slot), g s0 = some r → va_P (dC, dI) vwCl (dw_X9 a ac s0) H → va_D A (dw_X9 a ac s0) → va_S A s.heap H locs → lv_has ls 5 [] → W p l e (headSpec ow_dm_X9_character ({ frames := 0, cells := 0, slots := 0, locals := 0 })).room s m args below meth c H locs 0 0 Q (F0 m 12 ls [])
def dj_X9_character_132 (p : Program) (l : Launch) (e : Env) (s : State) (m : MethodId) (args : Array Value) (below : List Frame) (meth : Method) (c : Code) (Q : State → Prop) (A : Nat → Prop) (dC : Nat → ClassId) (dI : Nat → Nat → Nat) (a : Nat → Nat) (ac : Nat → ClassId) (g : Int32 → (St) → Option (Int32 × (St))) (r : Int32 × (St)) : Prop := ∀ (x4 : Int32) (s0 : St) (H : Heap) (locs : List Loc) (ls : Array Slot), g x4 s0 = some r → va_P (dC, dI) vwCl (dw_X9 a ac s0) H → va_D A (dw_X9 a ac s0) → va_S A s.heap H locs → lv_has ls 5 [(4, .int x4)] → W p l e (headSpec ow_dm_X9_character ({ frames := 0, cells := 0, slots := 0, locals := 0 })).room s m args below meth c H locs 0 0 Q (F0 m 132 ls [])
def dj_X9_character_60 (p : Program) (l : Launch) (e : Env) (s : State) (m : MethodId) (args : Array Value) (below : List Frame) (meth : Method) (c : Code) (Q : State → Prop) (A : Nat → Prop) (dC : Nat → ClassId) (dI : Nat → Nat → Nat) (a : Nat → Nat) (ac : Nat → ClassId) (g : Int32 → (St) → Option (Int32 × (St))) (r : Int32 × (St)) : Prop := ∀ (y0 : Int32) (s0 : St) (H : Heap) (locs : List Loc) (ls : Array Slot), g y0 s0 = some r → va_P (dC, dI) vwCl (dw_X9 a ac s0) H → va_D A (dw_X9 a ac s0) → va_S A s.heap H locs → lv_has ls 5 [] → W p l e (headSpec ow_dm_X9_character ({ frames := 0, cells := 0, slots := 0, locals := 0 })).room s m args below meth c H locs 0 0 Q (F0 m 60 ls [.int y0])
def dj_X9_character_37 (p : Program) (l : Launch) (e : Env) (s : State) (m : MethodId) (args : Array Value) (below : List Frame) (meth : Method) (c : Code) (Q : State → Prop) (A : Nat → Prop) (dC : Nat → ClassId) (dI : Nat → Nat → Nat) (a : Nat → Nat) (ac : Nat → ClassId) (g : Int32 → (St) → Option (Int32 × (St))) (r : Int32 × (St)) : Prop := ∀ (y0 : Int32) (s0 : St) (H : Heap) (locs : List Loc) (ls : Array Slot), g y0 s0 = some r → va_P (dC, dI) vwCl (dw_X9 a ac s0) H → va_D A (dw_X9 a ac s0) → va_S A s.heap H locs → lv_has ls 5 [] → W p l e (headSpec ow_dm_X9_character ({ frames := 0, cells := 0, slots := 0, locals := 0 })).room s m args below meth c H locs 0 0 Q (F0 m 37 ls [.int y0])
def dj_X9_character_0 (p : Program) (l : Launch) (e : Env) (s : State) (m : MethodId) (args : Array Value) (below : List Frame) (meth : Method) (c : Code) (Q : State → Prop) (A : Nat → Prop) (dC : Nat → ClassId) (dI : Nat → Nat → Nat) (a : Nat → Nat) (ac : Nat → ClassId) (g : Int32 → Int32 → (St) → Option (Int32 × (St))) (r : Int32 × (St)) : Prop := ∀ (v0 : Int32) (v1 : Int32) (s0 : St) (H : Heap) (locs : List Loc) (ls : Array Slot), g v0 v1 s0 = some r → va_P (dC, dI) vwCl (dw_X9 a ac s0) H → va_D A (dw_X9 a ac s0) → va_S A s.heap H locs → lv_has ls 5 [(0, .ref (a 0)), (1, .int v0), (2, .int v1)] → W p l e (headSpec ow_dm_X9_character ({ frames := 0, cells := 0, slots := 0, locals := 0 })).room s m args below meth c H locs 0 0 Q (F0 m 0 ls [])
set_option maxHeartbeats 40000000 in
set_option maxRecDepth 100000 in
theorem db_X9_character_12 {p : Program} {l : Launch} {e : Env} {s : State} {m : MethodId} {args : Array Value} {below : List Frame} {meth : Method} {c : Code} {Q : State → Prop} {A : Nat → Prop} {dC : Nat → ClassId} {dI : Nat → Nat → Nat} {a : Nat → Nat} {ac : Nat → ClassId} {n : Nat} {r : Int32 × (St)} (C : nd_C p l s m args c A (dC, dI) cX9_character 5 RX9 ow_dm_X9_character (dk_X9 ac)) (K : nd_Ki p l e (headSpec ow_dm_X9_character ({ frames := 0, cells := 0, slots := 0, locals := 0 })).room s m args below meth c Q A (dC, dI) cX9_character .int (St) (dw_X9 a ac) r) : dj_X9_character_12 p l e s m args below meth c Q A dC dI a ac (df_X9_character_12 n) r := by
  obtain ⟨hlt, hx, hb, hml, hown, hts, hN, hA, hK⟩ := id C
  intro s0 H locs ls h hP hD hS hl
  unfold df_X9_character_12 at h
  refine lv_iconst (v := (-1)) hx hb dX9_character_12 (by decide) ?_
  exact K _ _ _ _ _ _ dX9_character_13 rfl (Option.some.inj h).symm hP hD hS
set_option maxHeartbeats 40000000 in
set_option maxRecDepth 100000 in
theorem db_X9_character_132 {p : Program} {l : Launch} {e : Env} {s : State} {m : MethodId} {args : Array Value} {below : List Frame} {meth : Method} {c : Code} {Q : State → Prop} {A : Nat → Prop} {dC : Nat → ClassId} {dI : Nat → Nat → Nat} {a : Nat → Nat} {ac : Nat → ClassId} {n : Nat} {r : Int32 × (St)} (C : nd_C p l s m args c A (dC, dI) cX9_character 5 RX9 ow_dm_X9_character (dk_X9 ac)) (K : nd_Ki p l e (headSpec ow_dm_X9_character ({ frames := 0, cells := 0, slots := 0, locals := 0 })).room s m args below meth c Q A (dC, dI) cX9_character .int (St) (dw_X9 a ac) r) : dj_X9_character_132 p l e s m args below meth c Q A dC dI a ac (df_X9_character_132 n) r := by
  obtain ⟨hlt, hx, hb, hml, hown, hts, hN, hA, hK⟩ := id C
  intro x4 s0 H locs ls h hP hD hS hl
  unfold df_X9_character_132 at h
  refine lv_iload hx hb dX9_character_132 (lv_at hl 0 rfl) ?_
  exact K _ _ _ _ _ _ dX9_character_134 rfl (Option.some.inj h).symm hP hD hS
set_option maxHeartbeats 40000000 in
set_option maxRecDepth 100000 in
theorem db_X9_character_60 {p : Program} {l : Launch} {e : Env} {s : State} {m : MethodId} {args : Array Value} {below : List Frame} {meth : Method} {c : Code} {Q : State → Prop} {A : Nat → Prop} {dC : Nat → ClassId} {dI : Nat → Nat → Nat} {a : Nat → Nat} {ac : Nat → ClassId} {n : Nat} {r : Int32 × (St)} (C : nd_C p l s m args c A (dC, dI) cX9_character 5 RX9 ow_dm_X9_character (dk_X9 ac)) (K : nd_Ki p l e (headSpec ow_dm_X9_character ({ frames := 0, cells := 0, slots := 0, locals := 0 })).room s m args below meth c Q A (dC, dI) cX9_character .int (St) (dw_X9 a ac) r) : dj_X9_character_60 p l e s m args below meth c Q A dC dI a ac (df_X9_character_60 n) r := by
  obtain ⟨hlt, hx, hb, hml, hown, hts, hN, hA, hK⟩ := id C
  intro y0 s0 H locs ls h hP hD hS hl
  unfold df_X9_character_60 at h
  refine lv_istore (lv' := [(4, .int y0)]) hx hb dX9_character_60 hl (by decide) rfl (fun ls hl => ?_)
  refine lv_iload hx hb dX9_character_62 (lv_at hl 0 rfl) ?_
  by_cases c8 : y0 = 34
  · have h := nd_pos h c8
    refine lv_lookup (off := 68) (tgt := 132) hx hb dX9_character_64 (by decide) (by rw [c8]; decide) (by decide) ?_
    exact (db_X9_character_132 C K) (y0) s0 _ _ _ h hP hD hS (lv_sub hl [0] rfl)
  have h := nd_neg h c8
  by_cases c9 : y0 = 39
  · have h := nd_pos h c9
    refine lv_lookup (off := 68) (tgt := 132) hx hb dX9_character_64 (by decide) (by rw [c9]; decide) (by decide) ?_
    exact (db_X9_character_132 C K) (y0) s0 _ _ _ h hP hD hS (lv_sub hl [0] rfl)
  have h := nd_neg h c9
  by_cases c10 : y0 = 48
  · have h := nd_pos h c10
    refine lv_lookup (off := 66) (tgt := 130) hx hb dX9_character_64 (by decide) (by rw [c10]; decide) (by decide) ?_
    refine lv_iconst (v := 0) hx hb dX9_character_130 (by decide) ?_
    exact K _ _ _ _ _ _ dX9_character_131 rfl (Option.some.inj h).symm hP hD hS
  have h := nd_neg h c10
  by_cases c11 : y0 = 92
  · have h := nd_pos h c11
    refine lv_lookup (off := 68) (tgt := 132) hx hb dX9_character_64 (by decide) (by rw [c11]; decide) (by decide) ?_
    exact (db_X9_character_132 C K) (y0) s0 _ _ _ h hP hD hS (lv_sub hl [0] rfl)
  have h := nd_neg h c11
  by_cases c12 : y0 = 110
  · have h := nd_pos h c12
    refine lv_lookup (off := 60) (tgt := 124) hx hb dX9_character_64 (by decide) (by rw [c12]; decide) (by decide) ?_
    refine lv_bipush (v := 10) hx hb dX9_character_124 (by decide) ?_
    exact K _ _ _ _ _ _ dX9_character_126 rfl (Option.some.inj h).symm hP hD hS
  have h := nd_neg h c12
  by_cases c13 : y0 = 116
  · have h := nd_pos h c13
    refine lv_lookup (off := 63) (tgt := 127) hx hb dX9_character_64 (by decide) (by rw [c13]; decide) (by decide) ?_
    refine lv_bipush (v := 9) hx hb dX9_character_127 (by decide) ?_
    exact K _ _ _ _ _ _ dX9_character_129 rfl (Option.some.inj h).symm hP hD hS
  have h := nd_neg h c13
  refine lv_lookup (off := 71) (tgt := 135) hx hb dX9_character_64 (by decide) (show Op.lookupswitch.offset [(34, 68), (39, 68), (48, 66), (92, 68), (110, 60), (116, 63)] 71 (y0 : Int32).toInt = 71 by rw [lv_osw c8 (by decide), lv_osw c9 (by decide), lv_osw c10 (by decide), lv_osw c11 (by decide), lv_osw c12 (by decide), lv_osw c13 (by decide)] <;> rfl) (by decide) ?_
  refine lv_iconst (v := (-1)) hx hb dX9_character_135 (by decide) ?_
  exact K _ _ _ _ _ _ dX9_character_136 rfl (Option.some.inj h).symm hP hD hS
set_option maxHeartbeats 40000000 in
set_option maxRecDepth 100000 in
theorem db_X9_character_37 {p : Program} {l : Launch} {e : Env} {s : State} {m : MethodId} {args : Array Value} {below : List Frame} {meth : Method} {c : Code} {Q : State → Prop} {A : Nat → Prop} {dC : Nat → ClassId} {dI : Nat → Nat → Nat} {a : Nat → Nat} {ac : Nat → ClassId} {n : Nat} {r : Int32 × (St)} (C : nd_C p l s m args c A (dC, dI) cX9_character 5 RX9 ow_dm_X9_character (dk_X9 ac)) (K : nd_Ki p l e (headSpec ow_dm_X9_character ({ frames := 0, cells := 0, slots := 0, locals := 0 })).room s m args below meth c Q A (dC, dI) cX9_character .int (St) (dw_X9 a ac) r) : dj_X9_character_37 p l e s m args below meth c Q A dC dI a ac (df_X9_character_37 n) r := by
  obtain ⟨hlt, hx, hb, hml, hown, hts, hN, hA, hK⟩ := id C
  intro y0 s0 H locs ls h hP hD hS hl
  unfold df_X9_character_37 at h
  exact K _ _ _ _ _ _ dX9_character_37 rfl (Option.some.inj h).symm hP hD hS
set_option maxHeartbeats 40000000 in
set_option maxRecDepth 100000 in
theorem db_X9_character_0 {p : Program} {l : Launch} {e : Env} {s : State} {m : MethodId} {args : Array Value} {below : List Frame} {meth : Method} {c : Code} {Q : State → Prop} {A : Nat → Prop} {dC : Nat → ClassId} {dI : Nat → Nat → Nat} {a : Nat → Nat} {ac : Nat → ClassId} {n : Nat} {r : Int32 × (St)} (C : nd_C p l s m args c A (dC, dI) cX9_character 5 RX9 ow_dm_X9_character (dk_X9 ac)) (K : nd_Ki p l e (headSpec ow_dm_X9_character ({ frames := 0, cells := 0, slots := 0, locals := 0 })).room s m args below meth c Q A (dC, dI) cX9_character .int (St) (dw_X9 a ac) r) : dj_X9_character_0 p l e s m args below meth c Q A dC dI a ac (df_X9_character_0 n) r := by
  obtain ⟨hlt, hx, hb, hml, hown, hts, hN, hA, hK⟩ := id C
  intro v0 v1 s0 H locs ls h hP hD hS hl
  unfold df_X9_character_0 at h
  refine lv_iload_n hx hb dX9_character_0 rfl (lv_at hl 1 rfl) ?_
  refine lv_if_lt (tgt := 12) hx hb dX9_character_1 (by decide) (fun c1 => ?_) (fun c1 => ?_)
  · have h := nd_pos h c1
    exact (db_X9_character_12 C K)  s0 _ _ _ h hP hD hS (lv_sub hl [] rfl)
  · have h := nd_neg h c1
    refine lv_iload_n hx hb dX9_character_4 rfl (lv_at hl 1 rfl) ?_
    refine lv_aload_n hx hb dX9_character_5 rfl (lv_at hl 0 rfl) ?_
    refine va_get (D := (dC, dI)) (ci := 10) (v := .int (sI s0 1)) (C := RX9) (T := TX9) (N := 20) hx hb hts hi_dm_X9_character_X9 hown hK hP 0 rfl rfl 2 (by decide) (hts (.fieldLink RX9 64 "TimeMachine$Reader" "stop" "I") (List.mem_of_getElem? (i := 1) rfl)) (fun _ h9 => h9) rfl dX9_character_6 ?_
    refine lv_icmp_lt (tgt := 14) hx hb dX9_character_9 (by decide) (fun c2 => ?_) (fun c2 => ?_)
    · have h := nd_pos h c2
      refine lv_aload_n hx hb dX9_character_14 rfl (lv_at hl 0 rfl) ?_
      obtain ⟨o3, h⟩ := nd_o_e h
      refine va_get (D := (dC, dI)) (ci := 10) (v := .ref (a 8)) (C := RX9) (T := TX9) (N := 20) hx hb hts hi_dm_X9_character_X9 hown hK hP 0 rfl rfl 0 (by decide) (hts (.fieldLink RX9 9 "TimeMachine$Reader" "source" "[B") (List.mem_of_getElem? (i := 2) rfl)) (fun _ h9 => h9) (congrArg (fun z => some (va_rf (Option.map a z))) o3) dX9_character_15 ?_
      refine lv_iload_n hx hb dX9_character_18 rfl (lv_at hl 1 rfl) ?_
      obtain ⟨i4, h⟩ := nd_ck_e h
      refine va_bald (i := v0) hx hb hK hP 8 7 rfl rfl i4 dX9_character_19 ?_
      refine lv_topi (fun z5 ez5 => ?_)
      have h := nd_at h ez5
      refine lv_istore_n (lv' := [(3, .int z5), (0, .ref (a 0)), (1, .int v0), (2, .int v1)]) hx hb dX9_character_20 rfl hl (by decide) rfl (fun ls hl => ?_)
      refine lv_iload_n hx hb dX9_character_21 rfl (lv_at hl 0 rfl) ?_
      refine lv_bipush (v := 92) hx hb dX9_character_22 (by decide) ?_
      refine lv_icmp_eq (tgt := 38) hx hb dX9_character_24 (by decide) (fun c6 => ?_) (fun c6 => ?_)
      · have h := nd_pos h c6
        refine lv_iload_n hx hb dX9_character_38 rfl (lv_at hl 2 rfl) ?_
        refine lv_iconst (v := 1) hx hb dX9_character_39 (by decide) ?_
        refine lv_iadd hx hb dX9_character_40 ?_
        refine lv_aload_n hx hb dX9_character_41 rfl (lv_at hl 1 rfl) ?_
        refine va_get (D := (dC, dI)) (ci := 10) (v := .int (sI s0 1)) (C := RX9) (T := TX9) (N := 20) hx hb hts hi_dm_X9_character_X9 hown hK hP 0 rfl rfl 2 (by decide) (hts (.fieldLink RX9 64 "TimeMachine$Reader" "stop" "I") (List.mem_of_getElem? (i := 1) rfl)) (fun _ h9 => h9) rfl dX9_character_42 ?_
        refine lv_icmp_ge (tgt := 59) hx hb dX9_character_45 (by decide) (fun c7 => ?_) (fun c7 => ?_)
        · have h := nd_pos h c7
          refine lv_iconst (v := 0) hx hb dX9_character_59 (by decide) ?_
          exact (db_X9_character_60 C K) (0) s0 _ _ _ h hP hD hS (lv_sub hl [] rfl)
        · have h := nd_neg h c7
          refine lv_aload_n hx hb dX9_character_48 rfl (lv_at hl 1 rfl) ?_
          obtain ⟨o14, h⟩ := nd_o_e h
          refine va_get (D := (dC, dI)) (ci := 10) (v := .ref (a 8)) (C := RX9) (T := TX9) (N := 20) hx hb hts hi_dm_X9_character_X9 hown hK hP 0 rfl rfl 0 (by decide) (hts (.fieldLink RX9 9 "TimeMachine$Reader" "source" "[B") (List.mem_of_getElem? (i := 2) rfl)) (fun _ h9 => h9) (congrArg (fun z => some (va_rf (Option.map a z))) o14) dX9_character_49 ?_
          refine lv_iload_n hx hb dX9_character_52 rfl (lv_at hl 2 rfl) ?_
          refine lv_iconst (v := 1) hx hb dX9_character_53 (by decide) ?_
          refine lv_iadd hx hb dX9_character_54 ?_
          obtain ⟨i15, h⟩ := nd_ck_e h
          refine va_bald (i := (v0 + 1)) hx hb hK hP 8 7 rfl rfl i15 dX9_character_55 ?_
          refine lv_goto (tgt := 60) hx hb dX9_character_56 (by decide) ?_
          exact (db_X9_character_60 C K) ((sR s0 7 (Int32.toNatClampNeg (v0 + 1)))) s0 _ _ _ h hP hD hS (lv_sub hl [] rfl)
      · have h := nd_neg h c6
        refine lv_iload_n hx hb dX9_character_27 rfl (lv_at hl 0 rfl) ?_
        refine lv_iload_n hx hb dX9_character_28 rfl (lv_at hl 3 rfl) ?_
        refine lv_icmp_ne (tgt := 36) hx hb dX9_character_29 (by decide) (fun c16 => ?_) (fun c16 => ?_)
        · have h := nd_neg h c16
          refine lv_iload_n hx hb dX9_character_36 rfl (lv_at hl 0 rfl) ?_
          exact (db_X9_character_37 C K) (z5) s0 _ _ _ h hP hD hS (lv_sub hl [] rfl)
        · have h := nd_pos h c16
          refine lv_iconst (v := (-1)) hx hb dX9_character_32 (by decide) ?_
          refine lv_goto (tgt := 37) hx hb dX9_character_33 (by decide) ?_
          exact (db_X9_character_37 C K) ((-1)) s0 _ _ _ h hP hD hS (lv_sub hl [] rfl)
    · have h := nd_neg h c2
      exact (db_X9_character_12 C K)  s0 _ _ _ h hP hD hS (lv_sub hl [] rfl)
set_option maxHeartbeats 40000000 in
set_option maxRecDepth 100000 in
theorem dm_X9_character (l : Launch) (hlt : l.stackTraces = false) (dC : Nat → ClassId) (dI : Nat → Nat → Nat) (a : Nat → Nat) (ac : Nat → ClassId) (n : Nat) (v0 : Int32) (v1 : Int32) (s0 : St) {r : Int32 × (St)} (h : df_X9_character n v0 v1 s0 = some r) (sz : Nat) : Met l yX9_character ow_dm_X9_character ({ frames := 0, cells := 0, slots := 0, locals := 0 }) (va_Pc [.ref (a 0), .int v0, .int v1] (fun U => U.heap.size = sz ∧ va_P (dC, dI) vwCl (dw_X9 a ac s0) U.heap ∧ va_K (dC, dI) vwCl (dk_X9 ac) U ∧ va_D (fun _ => True) (dw_X9 a ac s0) ∧ nv_E (va_A (dw_X9 a ac s0) sz) U)) (va_Qi (fun x _ => x = r.1) (fun (_ : Unit) t => va_P (dC, dI) vwCl (dw_X9 a ac r.2) t.heap ∧ va_K (dC, dI) vwCl (dk_X9 ac) t ∧ va_D (va_A (dw_X9 a ac s0) sz) (dw_X9 a ac r.2)) (va_A (dw_X9 a ac s0) sz)) 0 0 (va_A (dw_X9 a ac s0) sz) := by
  refine Met.ofW (cc := cX9_character) (maxL := 5) (ret := (some .int)) (by decide) rfl ?_
  intro p e s m args below meth c s₁ B hml hv
  obtain ⟨rfl, hsz, hP, hK, hD0, hN⟩ := hv
  have hx := B.exec
  have hb := B.bytes
  have hr := B.returns
  have hts := atoms_spec (ws := ow_dm_X9_character) B.pre
  have hown : s.vm.findClass RX9 = some m.cls := findClass_of_methodNamed B.named
  have hlocks := B.notSynchronized
  subst hsz
  have hD := hD0.self (sz := s.heap.size)
  generalize hAe : va_A (dw_X9 a ac s0) s.heap.size = A at hD hN ⊢
  have hA : ∀ q : Nat, s.heap.size ≤ q → A q := fun q h => by rw [← hAe]; exact Or.inr h
  have hl := lv_entry ([.ref (a 0), .int v0, .int v1]) (n := 5) (Nat.le_of_ble_eq_true rfl)
  rw [lg_entry_eq]
  generalize (lg_sl ([.ref (a 0), .int v0, .int v1]) ++ List.replicate (5 - (lg_sl ([.ref (a 0), .int v0, .int v1])).length) Slot.unset).toArray = ls at hl ⊢
  have hl : lv_has ls 5 [(0, .ref (a 0)), (1, .int v0), (2, .int v1)] := hl
  exact db_X9_character_0 (dC := dC) (dI := dI) (a := a) (ac := ac) (n := n) (r := r) ⟨hlt, hx, hb, hml, hown, hts, hN, hA, hK⟩ (fun pc v τ H locs ls d z er hP hD hS => by subst er; exact W.zret (v := v) hx hb hr z (fun t ht hW => ⟨⟨v, (), rfl, rfl, by rw [ht]; exact hP, va_K.moved hW.alike hK, hD⟩, hS.F ht⟩) hS.2.2 d) v0 v1 s0 _ _ _ h hP hD va_S.rf (lv_sub hl [0, 1, 2] rfl)
def ow_dm_X1_keepLetter : List Cond := .code yX1_keepLetter cX1_keepLetter 2 none :: ([.fieldLink RX1 68 "TimeMachine$Assembler" "lettersUsed" "I", .fieldLink RX1 24 "TimeMachine$Assembler" "letters" "[B"] ++ (u_ws RX1 TX1 13 ++ []))
theorem gd_dm_X1_keepLetter : ∀ w ∈ ow_dm_X1_keepLetter, (w.onTables && w.keeps) = true ∨ ∃ ty, w = Cond.arrayClass ty := List.forall_mem_cons.mpr ⟨good_of_word rfl, List.forall_mem_append.mpr ⟨fun w h => good_of_word (List.all_eq_true.mp (by decide +kernel) w h), List.forall_mem_append.mpr ⟨gu_X1, fun _ h => nomatch h⟩⟩⟩
theorem hi_dm_X1_keepLetter_X1 : ∀ w ∈ u_ws RX1 TX1 13, w ∈ ow_dm_X1_keepLetter := fun w h => List.mem_cons_of_mem _ (List.mem_append_right _ (List.mem_append_left _ h))
def dj_X1_keepLetter_33 (p : Program) (l : Launch) (e : Env) (s : State) (m : MethodId) (args : Array Value) (below : List Frame) (meth : Method) (c : Code) (Q : State → Prop) (A : Nat → Prop) (dC : Nat → ClassId) (dI : Nat → Nat → Nat) (a : Nat → Nat) (ac : Nat → ClassId) (g : (St × (St)) → Option (St × (St))) (r : St × (St)) : Prop := ∀ (s0 : St × (St)) (H : Heap) (locs : List Loc) (ls : Array Slot), g s0 = some r → va_P (dC, dI) vwCl (dw_X1 a ac s0) H → va_D A (dw_X1 a ac s0) → va_S A s.heap H locs → lv_has ls 2 [] → W p l e (headSpec ow_dm_X1_keepLetter ({ frames := 0, cells := 0, slots := 0, locals := 0 })).room s m args below meth c H locs 0 0 Q (F0 m 33 ls [])
def dj_X1_keepLetter_0 (p : Program) (l : Launch) (e : Env) (s : State) (m : MethodId) (args : Array Value) (below : List Frame) (meth : Method) (c : Code) (Q : State → Prop) (A : Nat → Prop) (dC : Nat → ClassId) (dI : Nat → Nat → Nat) (a : Nat → Nat) (ac : Nat → ClassId) (g : Int32 → (St × (St)) → Option (St × (St))) (r : St × (St)) : Prop := ∀ (v0 : Int32) (s0 : St × (St)) (H : Heap) (locs : List Loc) (ls : Array Slot), g v0 s0 = some r → va_P (dC, dI) vwCl (dw_X1 a ac s0) H → va_D A (dw_X1 a ac s0) → va_S A s.heap H locs → lv_has ls 2 [(0, .ref (a 0)), (1, .int v0)] → W p l e (headSpec ow_dm_X1_keepLetter ({ frames := 0, cells := 0, slots := 0, locals := 0 })).room s m args below meth c H locs 0 0 Q (F0 m 0 ls [])
set_option maxHeartbeats 40000000 in
set_option maxRecDepth 100000 in
theorem db_X1_keepLetter_33 {p : Program} {l : Launch} {e : Env} {s : State} {m : MethodId} {args : Array Value} {below : List Frame} {meth : Method} {c : Code} {Q : State → Prop} {A : Nat → Prop} {dC : Nat → ClassId} {dI : Nat → Nat → Nat} {a : Nat → Nat} {ac : Nat → ClassId} {n : Nat} {r : St × (St)} (C : nd_C p l s m args c A (dC, dI) cX1_keepLetter 2 RX1 ow_dm_X1_keepLetter (dk_X1 ac)) (K : nd_Kv p l e (headSpec ow_dm_X1_keepLetter ({ frames := 0, cells := 0, slots := 0, locals := 0 })).room s m args below meth c Q A (dC, dI) cX1_keepLetter (St × (St)) (dw_X1 a ac) r) : dj_X1_keepLetter_33 p l e s m args below meth c Q A dC dI a ac (df_X1_keepLetter_33 n) r := by
  obtain ⟨hlt, hx, hb, hml, hown, hts, hN, hA, hK⟩ := id C
  intro s0 H locs ls h hP hD hS hl
  unfold df_X1_keepLetter_33 at h
  exact K _ _ _ _ _ dX1_keepLetter_33 (Option.some.inj h).symm hP hD hS
set_option maxHeartbeats 40000000 in
set_option maxRecDepth 100000 in
theorem db_X1_keepLetter_0 {p : Program} {l : Launch} {e : Env} {s : State} {m : MethodId} {args : Array Value} {below : List Frame} {meth : Method} {c : Code} {Q : State → Prop} {A : Nat → Prop} {dC : Nat → ClassId} {dI : Nat → Nat → Nat} {a : Nat → Nat} {ac : Nat → ClassId} {n : Nat} {r : St × (St)} (C : nd_C p l s m args c A (dC, dI) cX1_keepLetter 2 RX1 ow_dm_X1_keepLetter (dk_X1 ac)) (K : nd_Kv p l e (headSpec ow_dm_X1_keepLetter ({ frames := 0, cells := 0, slots := 0, locals := 0 })).room s m args below meth c Q A (dC, dI) cX1_keepLetter (St × (St)) (dw_X1 a ac) r) : dj_X1_keepLetter_0 p l e s m args below meth c Q A dC dI a ac (df_X1_keepLetter_0 n) r := by
  obtain ⟨hlt, hx, hb, hml, hown, hts, hN, hA, hK⟩ := id C
  intro v0 s0 H locs ls h hP hD hS hl
  unfold df_X1_keepLetter_0 at h
  refine lv_aload_n hx hb dX1_keepLetter_0 rfl (lv_at hl 0 rfl) ?_
  refine va_get (D := (dC, dI)) (ci := 2) (v := .int (sI s0.1 1)) (C := RX1) (T := TX1) (N := 13) hx hb hts hi_dm_X1_keepLetter_X1 hown hK hP 0 rfl rfl 4 (by decide) (hts (.fieldLink RX1 68 "TimeMachine$Assembler" "lettersUsed" "I") (List.mem_of_getElem? (i := 1) rfl)) (fun _ h9 => h9) rfl dX1_keepLetter_1 ?_
  refine lv_aload_n hx hb dX1_keepLetter_4 rfl (lv_at hl 0 rfl) ?_
  refine va_get (D := (dC, dI)) (ci := 2) (v := .ref (a 2)) (C := RX1) (T := TX1) (N := 13) hx hb hts hi_dm_X1_keepLetter_X1 hown hK hP 0 rfl rfl 3 (by decide) (hts (.fieldLink RX1 24 "TimeMachine$Assembler" "letters" "[B") (List.mem_of_getElem? (i := 2) rfl)) (fun _ h9 => h9) rfl dX1_keepLetter_5 ?_
  refine va_alen (v := 32832) hx hb hK hP 2 1 rfl rfl (show Int32.ofNat 32832 = 32832 by decide) dX1_keepLetter_8 ?_
  refine lv_icmp_ge (tgt := 33) hx hb dX1_keepLetter_9 (by decide) (fun c1 => ?_) (fun c1 => ?_)
  · have h := nd_pos h c1
    exact (db_X1_keepLetter_33 C K)  s0 _ _ _ h hP hD hS (lv_sub hl [] rfl)
  · have h := nd_neg h c1
    refine lv_aload_n hx hb dX1_keepLetter_12 rfl (lv_at hl 0 rfl) ?_
    refine va_get (D := (dC, dI)) (ci := 2) (v := .ref (a 2)) (C := RX1) (T := TX1) (N := 13) hx hb hts hi_dm_X1_keepLetter_X1 hown hK hP 0 rfl rfl 3 (by decide) (hts (.fieldLink RX1 24 "TimeMachine$Assembler" "letters" "[B") (List.mem_of_getElem? (i := 2) rfl)) (fun _ h9 => h9) rfl dX1_keepLetter_13 ?_
    refine lv_aload_n hx hb dX1_keepLetter_16 rfl (lv_at hl 0 rfl) ?_
    refine va_get (D := (dC, dI)) (ci := 2) (v := .int (sI s0.1 1)) (C := RX1) (T := TX1) (N := 13) hx hb hts hi_dm_X1_keepLetter_X1 hown hK hP 0 rfl rfl 4 (by decide) (hts (.fieldLink RX1 68 "TimeMachine$Assembler" "lettersUsed" "I") (List.mem_of_getElem? (i := 1) rfl)) (fun _ h9 => h9) rfl dX1_keepLetter_17 ?_
    refine lv_iload_n hx hb dX1_keepLetter_20 rfl (lv_at hl 1 rfl) ?_
    refine lv_i2b hx hb dX1_keepLetter_21 rfl ?_
    obtain ⟨i2, h⟩ := nd_ck_e h
    refine va_bast (i := (sI s0.1 1)) (x := (v0.toInt8.toInt32)) hx hb hK hP hD hS 2 1 rfl rfl i2 dX1_keepLetter_22 (fun H locs hP hD hS => ?_)
    obtain ⟨s3, es3, h⟩ := nd_let_e h
    have hP : va_P (dC, dI) vwCl (dw_X1 a ac s3) H := by rw [es3]; exact hP
    have hD : va_D A (dw_X1 a ac s3) := by rw [es3]; exact hD
    refine lv_aload_n hx hb dX1_keepLetter_23 rfl (lv_at hl 0 rfl) ?_
    refine lv_dup hx hb dX1_keepLetter_24 rfl ?_
    refine va_get (D := (dC, dI)) (ci := 2) (v := .int (sI s3.1 1)) (C := RX1) (T := TX1) (N := 13) hx hb hts hi_dm_X1_keepLetter_X1 hown hK hP 0 rfl rfl 4 (by decide) (hts (.fieldLink RX1 68 "TimeMachine$Assembler" "lettersUsed" "I") (List.mem_of_getElem? (i := 1) rfl)) (fun _ h9 => h9) rfl dX1_keepLetter_25 ?_
    refine lv_iconst (v := 1) hx hb dX1_keepLetter_28 (by decide) ?_
    refine lv_iadd hx hb dX1_keepLetter_29 ?_
    refine va_put (D := (dC, dI)) (ci := 2) (v := .int ((sI s3.1 1) + 1)) (ty := .int) (C := RX1) (T := TX1) (N := 13) hx hb hts hi_dm_X1_keepLetter_X1 tyX1 tyX1_ok nmX1 hown hK hP hD hS 0 rfl rfl 4 (by decide) (hts (.fieldLink RX1 68 "TimeMachine$Assembler" "lettersUsed" "I") (List.mem_of_getElem? (i := 1) rfl)) (fun _ h9 => h9) rfl (by decide +kernel) rfl rfl (Nat.le_of_ble_eq_true rfl) dX1_keepLetter_30 (fun H locs hP hD hS => ?_)
    obtain ⟨s4, es4, h⟩ := nd_let_e h
    have hP : va_P (dC, dI) vwCl (dw_X1 a ac s4) H := by rw [es4]; exact hP
    have hD : va_D A (dw_X1 a ac s4) := by rw [es4]; exact hD
    exact (db_X1_keepLetter_33 C K)  s4 _ _ _ h hP hD hS (lv_sub hl [] rfl)
set_option maxHeartbeats 40000000 in
set_option maxRecDepth 100000 in
theorem dm_X1_keepLetter (l : Launch) (hlt : l.stackTraces = false) (dC : Nat → ClassId) (dI : Nat → Nat → Nat) (a : Nat → Nat) (ac : Nat → ClassId) (n : Nat) (v0 : Int32) (s0 : St × (St)) {r : St × (St)} (h : df_X1_keepLetter n v0 s0 = some r) (sz : Nat) : Met l yX1_keepLetter ow_dm_X1_keepLetter ({ frames := 0, cells := 0, slots := 0, locals := 0 }) (va_Pc [.ref (a 0), .int v0] (fun U => U.heap.size = sz ∧ va_P (dC, dI) vwCl (dw_X1 a ac s0) U.heap ∧ va_K (dC, dI) vwCl (dk_X1 ac) U ∧ va_D (fun _ => True) (dw_X1 a ac s0) ∧ nv_E (va_A (dw_X1 a ac s0) sz) U)) (va_Qv (fun _ => True) (fun (_ : Unit) t => va_P (dC, dI) vwCl (dw_X1 a ac r) t.heap ∧ va_K (dC, dI) vwCl (dk_X1 ac) t ∧ va_D (va_A (dw_X1 a ac s0) sz) (dw_X1 a ac r)) (va_A (dw_X1 a ac s0) sz)) 0 0 (va_A (dw_X1 a ac s0) sz) := by
  refine Met.ofW (cc := cX1_keepLetter) (maxL := 2) (ret := none) (by decide) rfl ?_
  intro p e s m args below meth c s₁ B hml hv
  obtain ⟨rfl, hsz, hP, hK, hD0, hN⟩ := hv
  have hx := B.exec
  have hb := B.bytes
  have hr := B.returns
  have hts := atoms_spec (ws := ow_dm_X1_keepLetter) B.pre
  have hown : s.vm.findClass RX1 = some m.cls := findClass_of_methodNamed B.named
  have hlocks := B.notSynchronized
  subst hsz
  have hD := hD0.self (sz := s.heap.size)
  generalize hAe : va_A (dw_X1 a ac s0) s.heap.size = A at hD hN ⊢
  have hA : ∀ q : Nat, s.heap.size ≤ q → A q := fun q h => by rw [← hAe]; exact Or.inr h
  have hl := lv_entry ([.ref (a 0), .int v0]) (n := 2) (Nat.le_of_ble_eq_true rfl)
  rw [lg_entry_eq]
  generalize (lg_sl ([.ref (a 0), .int v0]) ++ List.replicate (2 - (lg_sl ([.ref (a 0), .int v0])).length) Slot.unset).toArray = ls at hl ⊢
  have hl : lv_has ls 2 [(0, .ref (a 0)), (1, .int v0)] := hl
  exact db_X1_keepLetter_0 (dC := dC) (dI := dI) (a := a) (ac := ac) (n := n) (r := r) ⟨hlt, hx, hb, hml, hown, hts, hN, hA, hK⟩ (fun pc τ H locs ls d er hP hD hS => by subst er; exact W.vret hx hb hr (fun t ht hW => ⟨⟨(), rfl, trivial, by rw [ht]; exact hP, va_K.moved hW.alike hK, hD⟩, hS.F ht⟩) hS.2.2 d) v0 s0 _ _ _ h hP hD va_S.rf (lv_sub hl [0, 1] rfl)
def ow_dm_X9_width : List Cond := .code yX9_width cX9_width 2 (some .int) :: ([.fieldLink RX9 64 "TimeMachine$Reader" "stop" "I", .fieldLink RX9 9 "TimeMachine$Reader" "source" "[B"] ++ (u_ws RX9 TX9 20 ++ []))
theorem gd_dm_X9_width : ∀ w ∈ ow_dm_X9_width, (w.onTables && w.keeps) = true ∨ ∃ ty, w = Cond.arrayClass ty := List.forall_mem_cons.mpr ⟨good_of_word rfl, List.forall_mem_append.mpr ⟨fun w h => good_of_word (List.all_eq_true.mp (by decide +kernel) w h), List.forall_mem_append.mpr ⟨gu_X9, fun _ h => nomatch h⟩⟩⟩
theorem hi_dm_X9_width_X9 : ∀ w ∈ u_ws RX9 TX9 20, w ∈ ow_dm_X9_width := fun w h => List.mem_cons_of_mem _ (List.mem_append_right _ (List.mem_append_left _ h))
def dj_X9_width_28 (p : Program) (l : Launch) (e : Env) (s : State) (m : MethodId) (args : Array Value) (below : List Frame) (meth : Method) (c : Code) (Q : State → Prop) (A : Nat → Prop) (dC : Nat → ClassId) (dI : Nat → Nat → Nat) (a : Nat → Nat) (ac : Nat → ClassId) (g : Int32 → (St) → Option (Int32 × (St))) (r : Int32 × (St)) : Prop := ∀ (y0 : Int32) (s0 : St) (H : Heap) (locs : List Loc) (ls : Array Slot), g y0 s0 = some r → va_P (dC, dI) vwCl (dw_X9 a ac s0) H → va_D A (dw_X9 a ac s0) → va_S A s.heap H locs → lv_has ls 2 [] → W p l e (headSpec ow_dm_X9_width ({ frames := 0, cells := 0, slots := 0, locals := 0 })).room s m args below meth c H locs 0 0 Q (F0 m 28 ls [.int y0])
def dj_X9_width_27 (p : Program) (l : Launch) (e : Env) (s : State) (m : MethodId) (args : Array Value) (below : List Frame) (meth : Method) (c : Code) (Q : State → Prop) (A : Nat → Prop) (dC : Nat → ClassId) (dI : Nat → Nat → Nat) (a : Nat → Nat) (ac : Nat → ClassId) (g : (St) → Option (Int32 × (St))) (r : Int32 × (St)) : Prop := ∀ (s0 : St) (H : Heap) (locs : List Loc) (ls : Array Slot), g s0 = some r → va_P (dC, dI) vwCl (dw_X9 a ac s0) H → va_D A (dw_X9 a ac s0) → va_S A s.heap H locs → lv_has ls 2 [] → W p l e (headSpec ow_dm_X9_width ({ frames := 0, cells := 0, slots := 0, locals := 0 })).room s m args below meth c H locs 0 0 Q (F0 m 27 ls [])
def dj_X9_width_0 (p : Program) (l : Launch) (e : Env) (s : State) (m : MethodId) (args : Array Value) (below : List Frame) (meth : Method) (c : Code) (Q : State → Prop) (A : Nat → Prop) (dC : Nat → ClassId) (dI : Nat → Nat → Nat) (a : Nat → Nat) (ac : Nat → ClassId) (g : Int32 → (St) → Option (Int32 × (St))) (r : Int32 × (St)) : Prop := ∀ (v0 : Int32) (s0 : St) (H : Heap) (locs : List Loc) (ls : Array Slot), g v0 s0 = some r → va_P (dC, dI) vwCl (dw_X9 a ac s0) H → va_D A (dw_X9 a ac s0) → va_S A s.heap H locs → lv_has ls 2 [(0, .ref (a 0)), (1, .int v0)] → W p l e (headSpec ow_dm_X9_width ({ frames := 0, cells := 0, slots := 0, locals := 0 })).room s m args below meth c H locs 0 0 Q (F0 m 0 ls [])
set_option maxHeartbeats 40000000 in
set_option maxRecDepth 100000 in
theorem db_X9_width_28 {p : Program} {l : Launch} {e : Env} {s : State} {m : MethodId} {args : Array Value} {below : List Frame} {meth : Method} {c : Code} {Q : State → Prop} {A : Nat → Prop} {dC : Nat → ClassId} {dI : Nat → Nat → Nat} {a : Nat → Nat} {ac : Nat → ClassId} {n : Nat} {r : Int32 × (St)} (C : nd_C p l s m args c A (dC, dI) cX9_width 2 RX9 ow_dm_X9_width (dk_X9 ac)) (K : nd_Ki p l e (headSpec ow_dm_X9_width ({ frames := 0, cells := 0, slots := 0, locals := 0 })).room s m args below meth c Q A (dC, dI) cX9_width .int (St) (dw_X9 a ac) r) : dj_X9_width_28 p l e s m args below meth c Q A dC dI a ac (df_X9_width_28 n) r := by
  obtain ⟨hlt, hx, hb, hml, hown, hts, hN, hA, hK⟩ := id C
  intro y0 s0 H locs ls h hP hD hS hl
  unfold df_X9_width_28 at h
  exact K _ _ _ _ _ _ dX9_width_28 rfl (Option.some.inj h).symm hP hD hS
set_option maxHeartbeats 40000000 in
set_option maxRecDepth 100000 in
theorem db_X9_width_27 {p : Program} {l : Launch} {e : Env} {s : State} {m : MethodId} {args : Array Value} {below : List Frame} {meth : Method} {c : Code} {Q : State → Prop} {A : Nat → Prop} {dC : Nat → ClassId} {dI : Nat → Nat → Nat} {a : Nat → Nat} {ac : Nat → ClassId} {n : Nat} {r : Int32 × (St)} (C : nd_C p l s m args c A (dC, dI) cX9_width 2 RX9 ow_dm_X9_width (dk_X9 ac)) (K : nd_Ki p l e (headSpec ow_dm_X9_width ({ frames := 0, cells := 0, slots := 0, locals := 0 })).room s m args below meth c Q A (dC, dI) cX9_width .int (St) (dw_X9 a ac) r) : dj_X9_width_27 p l e s m args below meth c Q A dC dI a ac (df_X9_width_27 n) r := by
  obtain ⟨hlt, hx, hb, hml, hown, hts, hN, hA, hK⟩ := id C
  intro s0 H locs ls h hP hD hS hl
  unfold df_X9_width_27 at h
  refine lv_iconst (v := 1) hx hb dX9_width_27 (by decide) ?_
  exact (db_X9_width_28 C K) (1) s0 _ _ _ h hP hD hS (lv_sub hl [] rfl)
set_option maxHeartbeats 40000000 in
set_option maxRecDepth 100000 in
theorem db_X9_width_0 {p : Program} {l : Launch} {e : Env} {s : State} {m : MethodId} {args : Array Value} {below : List Frame} {meth : Method} {c : Code} {Q : State → Prop} {A : Nat → Prop} {dC : Nat → ClassId} {dI : Nat → Nat → Nat} {a : Nat → Nat} {ac : Nat → ClassId} {n : Nat} {r : Int32 × (St)} (C : nd_C p l s m args c A (dC, dI) cX9_width 2 RX9 ow_dm_X9_width (dk_X9 ac)) (K : nd_Ki p l e (headSpec ow_dm_X9_width ({ frames := 0, cells := 0, slots := 0, locals := 0 })).room s m args below meth c Q A (dC, dI) cX9_width .int (St) (dw_X9 a ac) r) : dj_X9_width_0 p l e s m args below meth c Q A dC dI a ac (df_X9_width_0 n) r := by
  obtain ⟨hlt, hx, hb, hml, hown, hts, hN, hA, hK⟩ := id C
  intro v0 s0 H locs ls h hP hD hS hl
  unfold df_X9_width_0 at h
  refine lv_iload_n hx hb dX9_width_0 rfl (lv_at hl 1 rfl) ?_
  refine lv_if_lt (tgt := 27) hx hb dX9_width_1 (by decide) (fun c1 => ?_) (fun c1 => ?_)
  · have h := nd_pos h c1
    exact (db_X9_width_27 C K)  s0 _ _ _ h hP hD hS (lv_sub hl [] rfl)
  · have h := nd_neg h c1
    refine lv_iload_n hx hb dX9_width_4 rfl (lv_at hl 1 rfl) ?_
    refine lv_aload_n hx hb dX9_width_5 rfl (lv_at hl 0 rfl) ?_
    refine va_get (D := (dC, dI)) (ci := 10) (v := .int (sI s0 1)) (C := RX9) (T := TX9) (N := 20) hx hb hts hi_dm_X9_width_X9 hown hK hP 0 rfl rfl 2 (by decide) (hts (.fieldLink RX9 64 "TimeMachine$Reader" "stop" "I") (List.mem_of_getElem? (i := 1) rfl)) (fun _ h9 => h9) rfl dX9_width_6 ?_
    refine lv_icmp_ge (tgt := 27) hx hb dX9_width_9 (by decide) (fun c2 => ?_) (fun c2 => ?_)
    · have h := nd_pos h c2
      exact (db_X9_width_27 C K)  s0 _ _ _ h hP hD hS (lv_sub hl [] rfl)
    · have h := nd_neg h c2
      refine lv_aload_n hx hb dX9_width_12 rfl (lv_at hl 0 rfl) ?_
      obtain ⟨o3, h⟩ := nd_o_e h
      refine va_get (D := (dC, dI)) (ci := 10) (v := .ref (a 8)) (C := RX9) (T := TX9) (N := 20) hx hb hts hi_dm_X9_width_X9 hown hK hP 0 rfl rfl 0 (by decide) (hts (.fieldLink RX9 9 "TimeMachine$Reader" "source" "[B") (List.mem_of_getElem? (i := 2) rfl)) (fun _ h9 => h9) (congrArg (fun z => some (va_rf (Option.map a z))) o3) dX9_width_13 ?_
      refine lv_iload_n hx hb dX9_width_16 rfl (lv_at hl 1 rfl) ?_
      obtain ⟨i4, h⟩ := nd_ck_e h
      refine va_bald (i := v0) hx hb hK hP 8 7 rfl rfl i4 dX9_width_17 ?_
      refine lv_bipush (v := 92) hx hb dX9_width_18 (by decide) ?_
      refine lv_icmp_ne (tgt := 27) hx hb dX9_width_20 (by decide) (fun c5 => ?_) (fun c5 => ?_)
      · have h := nd_neg h c5
        exact (db_X9_width_27 C K)  s0 _ _ _ h hP hD hS (lv_sub hl [] rfl)
      · have h := nd_pos h c5
        refine lv_iconst (v := 2) hx hb dX9_width_23 (by decide) ?_
        refine lv_goto (tgt := 28) hx hb dX9_width_24 (by decide) ?_
        exact (db_X9_width_28 C K) (2) s0 _ _ _ h hP hD hS (lv_sub hl [] rfl)
set_option maxHeartbeats 40000000 in
set_option maxRecDepth 100000 in
theorem dm_X9_width (l : Launch) (hlt : l.stackTraces = false) (dC : Nat → ClassId) (dI : Nat → Nat → Nat) (a : Nat → Nat) (ac : Nat → ClassId) (n : Nat) (v0 : Int32) (s0 : St) {r : Int32 × (St)} (h : df_X9_width n v0 s0 = some r) (sz : Nat) : Met l yX9_width ow_dm_X9_width ({ frames := 0, cells := 0, slots := 0, locals := 0 }) (va_Pc [.ref (a 0), .int v0] (fun U => U.heap.size = sz ∧ va_P (dC, dI) vwCl (dw_X9 a ac s0) U.heap ∧ va_K (dC, dI) vwCl (dk_X9 ac) U ∧ va_D (fun _ => True) (dw_X9 a ac s0) ∧ nv_E (va_A (dw_X9 a ac s0) sz) U)) (va_Qi (fun x _ => x = r.1) (fun (_ : Unit) t => va_P (dC, dI) vwCl (dw_X9 a ac r.2) t.heap ∧ va_K (dC, dI) vwCl (dk_X9 ac) t ∧ va_D (va_A (dw_X9 a ac s0) sz) (dw_X9 a ac r.2)) (va_A (dw_X9 a ac s0) sz)) 0 0 (va_A (dw_X9 a ac s0) sz) := by
  refine Met.ofW (cc := cX9_width) (maxL := 2) (ret := (some .int)) (by decide) rfl ?_
  intro p e s m args below meth c s₁ B hml hv
  obtain ⟨rfl, hsz, hP, hK, hD0, hN⟩ := hv
  have hx := B.exec
  have hb := B.bytes
  have hr := B.returns
  have hts := atoms_spec (ws := ow_dm_X9_width) B.pre
  have hown : s.vm.findClass RX9 = some m.cls := findClass_of_methodNamed B.named
  have hlocks := B.notSynchronized
  subst hsz
  have hD := hD0.self (sz := s.heap.size)
  generalize hAe : va_A (dw_X9 a ac s0) s.heap.size = A at hD hN ⊢
  have hA : ∀ q : Nat, s.heap.size ≤ q → A q := fun q h => by rw [← hAe]; exact Or.inr h
  have hl := lv_entry ([.ref (a 0), .int v0]) (n := 2) (Nat.le_of_ble_eq_true rfl)
  rw [lg_entry_eq]
  generalize (lg_sl ([.ref (a 0), .int v0]) ++ List.replicate (2 - (lg_sl ([.ref (a 0), .int v0])).length) Slot.unset).toArray = ls at hl ⊢
  have hl : lv_has ls 2 [(0, .ref (a 0)), (1, .int v0)] := hl
  exact db_X9_width_0 (dC := dC) (dI := dI) (a := a) (ac := ac) (n := n) (r := r) ⟨hlt, hx, hb, hml, hown, hts, hN, hA, hK⟩ (fun pc v τ H locs ls d z er hP hD hS => by subst er; exact W.zret (v := v) hx hb hr z (fun t ht hW => ⟨⟨v, (), rfl, rfl, by rw [ht]; exact hP, va_K.moved hW.alike hK, hD⟩, hS.F ht⟩) hS.2.2 d) v0 s0 _ _ _ h hP hD va_S.rf (lv_sub hl [0, 1] rfl)
def ow_dm_X1_keepText : List Cond := .code yX1_keepText cX1_keepText 2 none :: ([.fieldLink RX1 12 "TimeMachine$Assembler" "reader" "LTimeMachine$Reader;", .fieldLink RX1 88 "TimeMachine$Reader" "from" "I", .fieldLink RX1 91 "TimeMachine$Reader" "at" "I", .methodLink RX1 210 yX9_character, .instanceMethod yX9_character, .selects RX9 yX9_character yX9_character, .initialized RX9, .methodLink RX1 207 yX1_keepLetter, .instanceMethod yX1_keepLetter, .selects RX1 yX1_keepLetter yX1_keepLetter, .initialized RX1, .methodLink RX1 213 yX9_width, .instanceMethod yX9_width, .selects RX9 yX9_width yX9_width] ++ (u_ws RX1 TX1 13 ++ (u_ws RX9 TX9 20 ++ (ow_dm_X9_character ++ (ow_dm_X1_keepLetter ++ (ow_dm_X9_width ++ []))))))
theorem gd_dm_X1_keepText : ∀ w ∈ ow_dm_X1_keepText, (w.onTables && w.keeps) = true ∨ ∃ ty, w = Cond.arrayClass ty := List.forall_mem_cons.mpr ⟨good_of_word rfl, List.forall_mem_append.mpr ⟨fun w h => good_of_word (List.all_eq_true.mp (by decide +kernel) w h), List.forall_mem_append.mpr ⟨gu_X1, List.forall_mem_append.mpr ⟨gu_X9, List.forall_mem_append.mpr ⟨gd_dm_X9_character, List.forall_mem_append.mpr ⟨gd_dm_X1_keepLetter, List.forall_mem_append.mpr ⟨gd_dm_X9_width, fun _ h => nomatch h⟩⟩⟩⟩⟩⟩⟩
theorem hi_dm_X1_keepText_X1 : ∀ w ∈ u_ws RX1 TX1 13, w ∈ ow_dm_X1_keepText := fun w h => List.mem_cons_of_mem _ (List.mem_append_right _ (List.mem_append_left _ h))
theorem hi_dm_X1_keepText_X9 : ∀ w ∈ u_ws RX9 TX9 20, w ∈ ow_dm_X1_keepText := fun w h => List.mem_cons_of_mem _ (List.mem_append_right _ (List.mem_append_right _ (List.mem_append_left _ h)))
theorem gi_dm_X1_keepText_0 : GoodIn ow_dm_X1_keepText (wsV RX1 210 RX9 yX9_character ow_dm_X9_character) := goodIn_app (goodIn_of _ (by decide +kernel)) (fun w h => ⟨List.mem_cons_of_mem _ (List.mem_append_right _ (List.mem_append_right _ (List.mem_append_right _ (List.mem_append_left _ h)))), gd_dm_X9_character w h⟩)
theorem gi_dm_X1_keepText_1 : GoodIn ow_dm_X1_keepText (wsV RX1 207 RX1 yX1_keepLetter ow_dm_X1_keepLetter) := goodIn_app (goodIn_of _ (by decide +kernel)) (fun w h => ⟨List.mem_cons_of_mem _ (List.mem_append_right _ (List.mem_append_right _ (List.mem_append_right _ (List.mem_append_right _ (List.mem_append_left _ h))))), gd_dm_X1_keepLetter w h⟩)
theorem gi_dm_X1_keepText_2 : GoodIn ow_dm_X1_keepText (wsV RX1 213 RX9 yX9_width ow_dm_X9_width) := goodIn_app (goodIn_of _ (by decide +kernel)) (fun w h => ⟨List.mem_cons_of_mem _ (List.mem_append_right _ (List.mem_append_right _ (List.mem_append_right _ (List.mem_append_right _ (List.mem_append_right _ (List.mem_append_left _ h)))))), gd_dm_X9_width w h⟩)
def dj_X1_keepText_10 (p : Program) (l : Launch) (e : Env) (s : State) (m : MethodId) (args : Array Value) (below : List Frame) (meth : Method) (c : Code) (Q : State → Prop) (A : Nat → Prop) (dC : Nat → ClassId) (dI : Nat → Nat → Nat) (a : Nat → Nat) (ac : Nat → ClassId) (g : Int32 → (St × (St)) → Option (St × (St))) (r : St × (St)) : Prop := ∀ (x1 : Int32) (s0 : St × (St)) (H : Heap) (locs : List Loc) (ls : Array Slot), g x1 s0 = some r → va_P (dC, dI) vwCl (dw_X1 a ac s0) H → va_D A (dw_X1 a ac s0) → va_S A s.heap H locs → lv_has ls 2 [(0, .ref (a 0)), (1, .int x1)] → W p l e (headSpec ow_dm_X1_keepText ({ frames := 1, cells := 0, slots := 0, locals := 24 })).room s m args below meth c H locs 0 0 Q (F0 m 10 ls [])
def dj_X1_keepText_0 (p : Program) (l : Launch) (e : Env) (s : State) (m : MethodId) (args : Array Value) (below : List Frame) (meth : Method) (c : Code) (Q : State → Prop) (A : Nat → Prop) (dC : Nat → ClassId) (dI : Nat → Nat → Nat) (a : Nat → Nat) (ac : Nat → ClassId) (g : (St × (St)) → Option (St × (St))) (r : St × (St)) : Prop := ∀ (s0 : St × (St)) (H : Heap) (locs : List Loc) (ls : Array Slot), g s0 = some r → va_P (dC, dI) vwCl (dw_X1 a ac s0) H → va_D A (dw_X1 a ac s0) → va_S A s.heap H locs → lv_has ls 2 [(0, .ref (a 0))] → W p l e (headSpec ow_dm_X1_keepText ({ frames := 1, cells := 0, slots := 0, locals := 24 })).room s m args below meth c H locs 0 0 Q (F0 m 0 ls [])
set_option maxHeartbeats 40000000 in
set_option maxRecDepth 100000 in
theorem dB_X1_keepText_10 {p : Program} {l : Launch} {e : Env} {s : State} {m : MethodId} {args : Array Value} {below : List Frame} {meth : Method} {c : Code} {Q : State → Prop} {A : Nat → Prop} {dC : Nat → ClassId} {dI : Nat → Nat → Nat} {a : Nat → Nat} {ac : Nat → ClassId} {n : Nat} {r : St × (St)} (C : nd_C p l s m args c A (dC, dI) cX1_keepText 2 RX1 ow_dm_X1_keepText (dk_X1 ac)) (K : nd_Kv p l e (headSpec ow_dm_X1_keepText ({ frames := 1, cells := 0, slots := 0, locals := 24 })).room s m args below meth c Q A (dC, dI) cX1_keepText (St × (St)) (dw_X1 a ac) r) {g10 : Int32 → (St × (St)) → Option (St × (St))} (J10 : dj_X1_keepText_10 p l e s m args below meth c Q A dC dI a ac g10 r) : dj_X1_keepText_10 p l e s m args below meth c Q A dC dI a ac (dF_X1_keepText_10 n g10) r := by
  obtain ⟨hlt, hx, hb, hml, hown, hts, hN, hA, hK⟩ := id C
  intro x1 s0 H locs ls h hP hD hS hl
  unfold dF_X1_keepText_10 at h
  refine lv_iload_n hx hb dX1_keepText_10 rfl (lv_at hl 1 rfl) ?_
  refine lv_aload_n hx hb dX1_keepText_11 rfl (lv_at hl 0 rfl) ?_
  refine va_get (D := (dC, dI)) (ci := 2) (v := .ref (a 3)) (C := RX1) (T := TX1) (N := 13) hx hb hts hi_dm_X1_keepText_X1 hown hK hP 0 rfl rfl 0 (by decide) (hts (.fieldLink RX1 12 "TimeMachine$Assembler" "reader" "LTimeMachine$Reader;") (List.mem_of_getElem? (i := 1) rfl)) (fun _ h9 => h9) rfl dX1_keepText_12 ?_
  refine va_get (D := (dC, dI)) (ci := 10) (v := .int (sI s0.2 0)) (C := RX9) (T := TX9) (N := 20) hx hb hts hi_dm_X1_keepText_X9 hown hK hP 3 rfl rfl 1 (by decide) (hts (.fieldLink RX1 91 "TimeMachine$Reader" "at" "I") (List.mem_of_getElem? (i := 3) rfl)) (fun _ h9 => h9) rfl dX1_keepText_15 ?_
  refine lv_iconst (v := 1) hx hb dX1_keepText_18 (by decide) ?_
  refine lv_isub hx hb dX1_keepText_19 ?_
  refine lv_icmp_ge (tgt := 51) hx hb dX1_keepText_20 (by decide) (fun c2 => ?_) (fun c2 => ?_)
  · have h := nd_pos h c2
    exact K _ _ _ _ _ dX1_keepText_51 (Option.some.inj h).symm hP hD hS
  · have h := nd_neg h c2
    refine lv_aload_n hx hb dX1_keepText_23 rfl (lv_at hl 0 rfl) ?_
    refine lv_aload_n hx hb dX1_keepText_24 rfl (lv_at hl 0 rfl) ?_
    refine va_get (D := (dC, dI)) (ci := 2) (v := .ref (a 3)) (C := RX1) (T := TX1) (N := 13) hx hb hts hi_dm_X1_keepText_X1 hown hK hP 0 rfl rfl 0 (by decide) (hts (.fieldLink RX1 12 "TimeMachine$Assembler" "reader" "LTimeMachine$Reader;") (List.mem_of_getElem? (i := 1) rfl)) (fun _ h9 => h9) rfl dX1_keepText_25 ?_
    refine lv_iload_n hx hb dX1_keepText_28 rfl (lv_at hl 1 rfl) ?_
    refine lv_bipush (v := 34) hx hb dX1_keepText_29 (by decide) ?_
    obtain ⟨q3, s4, hq, h⟩ := nd_b2_e h
    have hPc := dp_X1_3 hP
    have hDc := dd_X1_3 hD
    have hKc := dy_X1_3 hK
    have hFc := nd_rs hDc hS hA
    have hzA : ∀ q : Nat, H.size ≤ q → A q := fun q h => hA q (Nat.le_trans hS.1 h)
    refine nd_cVi (As := [.int x1, .int 34]) (rest := [.ref (a 0)]) (q := q3) (w' := dw_X9 (fun k => a (k + 3)) (fun k => ac (k + 3)) s4) ⟨hx, hb, hml, hown, hts⟩ (fun sz => dm_X9_character l hlt dC dI (fun k => a (k + 3)) (fun k => ac (k + 3)) n (x1) (34) s0.2 hq sz) (cwV 2 hts gi_dm_X1_keepText_0 rfl rfl rfl (by decide +kernel) ⟨Nat.le_of_ble_eq_true rfl, Nat.le_of_ble_eq_true rfl⟩) hPc hDc hKc hS hA hN (va_recv hKc hPc (ci := 10) (q0 := 0) rfl rfl) rfl hl.1 rfl (Nat.le_of_ble_eq_true rfl) dX1_keepText_31 (fun H locs hP1 hD1 hk1 hS => ?_)
    obtain ⟨hP, hD⟩ := dn_X1_3 hP hD hzA hk1 hP1 hD1
    obtain ⟨s6, es6, h⟩ := nd_let_e h
    have hP : va_P (dC, dI) vwCl (dw_X1 a ac s6) H := by rw [es6]; exact hP
    have hD : va_D A (dw_X1 a ac s6) := by rw [es6]; exact hD
    obtain ⟨s8, hq, h⟩ := nd_b1_e h
    have hPc := hP
    have hDc := hD
    have hKc := hK
    have hFc := nd_rs hD hS hA
    refine nd_cVv (As := [.int q3]) (rest := []) (w' := dw_X1 a ac s8) ⟨hx, hb, hml, hown, hts⟩ (fun sz => dm_X1_keepLetter l hlt dC dI a ac n (q3) s6 hq sz) (cwV 1 hts gi_dm_X1_keepText_1 rfl rfl rfl (by decide +kernel) ⟨Nat.le_of_ble_eq_true rfl, Nat.le_of_ble_eq_true rfl⟩) hPc hDc hKc hS hA hN (va_recv hKc hPc (ci := 2) (q0 := 0) rfl rfl) rfl hl.1 rfl (Nat.le_of_ble_eq_true rfl) dX1_keepText_34 (fun H locs hP1 hD1 hk1 hS => ?_)
    have hP := hP1
    have hD := hD1.weaken (fun k q _ h => hFc q.1 h)
    refine lv_iload_n hx hb dX1_keepText_37 rfl (lv_at hl 1 rfl) ?_
    refine lv_aload_n hx hb dX1_keepText_38 rfl (lv_at hl 0 rfl) ?_
    refine va_get (D := (dC, dI)) (ci := 2) (v := .ref (a 3)) (C := RX1) (T := TX1) (N := 13) hx hb hts hi_dm_X1_keepText_X1 hown hK hP 0 rfl rfl 0 (by decide) (hts (.fieldLink RX1 12 "TimeMachine$Assembler" "reader" "LTimeMachine$Reader;") (List.mem_of_getElem? (i := 1) rfl)) (fun _ h9 => h9) rfl dX1_keepText_39 ?_
    refine lv_iload_n hx hb dX1_keepText_42 rfl (lv_at hl 1 rfl) ?_
    obtain ⟨q10, s11, hq, h⟩ := nd_b2_e h
    have hPc := dp_X1_3 hP
    have hDc := dd_X1_3 hD
    have hKc := dy_X1_3 hK
    have hFc := nd_rs hDc hS hA
    have hzA : ∀ q : Nat, H.size ≤ q → A q := fun q h => hA q (Nat.le_trans hS.1 h)
    refine nd_cVi (As := [.int x1]) (rest := [.int x1]) (q := q10) (w' := dw_X9 (fun k => a (k + 3)) (fun k => ac (k + 3)) s11) ⟨hx, hb, hml, hown, hts⟩ (fun sz => dm_X9_width l hlt dC dI (fun k => a (k + 3)) (fun k => ac (k + 3)) n (x1) s8.2 hq sz) (cwV 1 hts gi_dm_X1_keepText_2 rfl rfl rfl (by decide +kernel) ⟨Nat.le_of_ble_eq_true rfl, Nat.le_of_ble_eq_true rfl⟩) hPc hDc hKc hS hA hN (va_recv hKc hPc (ci := 10) (q0 := 0) rfl rfl) rfl hl.1 rfl (Nat.le_of_ble_eq_true rfl) dX1_keepText_43 (fun H locs hP1 hD1 hk1 hS => ?_)
    obtain ⟨hP, hD⟩ := dn_X1_3 hP hD hzA hk1 hP1 hD1
    obtain ⟨s13, es13, h⟩ := nd_let_e h
    have hP : va_P (dC, dI) vwCl (dw_X1 a ac s13) H := by rw [es13]; exact hP
    have hD : va_D A (dw_X1 a ac s13) := by rw [es13]; exact hD
    refine lv_iadd hx hb dX1_keepText_46 ?_
    refine lv_topi (fun z14 ez14 => ?_)
    have h := nd_at h ez14
    refine lv_istore_n (lv' := [(1, .int z14), (0, .ref (a 0))]) hx hb dX1_keepText_47 rfl hl (by decide) rfl (fun ls hl => ?_)
    refine lv_goto (tgt := 10) hx hb dX1_keepText_48 (by decide) ?_
    exact (J10) (z14) s13 _ _ _ h hP hD hS (lv_sub hl [1, 0] rfl)
set_option maxHeartbeats 40000000 in
set_option maxRecDepth 100000 in
theorem db_X1_keepText_10 {p : Program} {l : Launch} {e : Env} {s : State} {m : MethodId} {args : Array Value} {below : List Frame} {meth : Method} {c : Code} {Q : State → Prop} {A : Nat → Prop} {dC : Nat → ClassId} {dI : Nat → Nat → Nat} {a : Nat → Nat} {ac : Nat → ClassId} {n : Nat} {r : St × (St)} (C : nd_C p l s m args c A (dC, dI) cX1_keepText 2 RX1 ow_dm_X1_keepText (dk_X1 ac)) (K : nd_Kv p l e (headSpec ow_dm_X1_keepText ({ frames := 1, cells := 0, slots := 0, locals := 24 })).room s m args below meth c Q A (dC, dI) cX1_keepText (St × (St)) (dw_X1 a ac) r) (k : Nat) : dj_X1_keepText_10 p l e s m args below meth c Q A dC dI a ac (df_X1_keepText_10 n k) r := by
  induction k with
  | zero => intro x1 s0 H locs ls h; exact nomatch (show (none : Option (St × (St))) = some r from h)
  | succ k ih => exact dB_X1_keepText_10 C K ih
set_option maxHeartbeats 40000000 in
set_option maxRecDepth 100000 in
theorem db_X1_keepText_0 {p : Program} {l : Launch} {e : Env} {s : State} {m : MethodId} {args : Array Value} {below : List Frame} {meth : Method} {c : Code} {Q : State → Prop} {A : Nat → Prop} {dC : Nat → ClassId} {dI : Nat → Nat → Nat} {a : Nat → Nat} {ac : Nat → ClassId} {n : Nat} {r : St × (St)} (C : nd_C p l s m args c A (dC, dI) cX1_keepText 2 RX1 ow_dm_X1_keepText (dk_X1 ac)) (K : nd_Kv p l e (headSpec ow_dm_X1_keepText ({ frames := 1, cells := 0, slots := 0, locals := 24 })).room s m args below meth c Q A (dC, dI) cX1_keepText (St × (St)) (dw_X1 a ac) r) : dj_X1_keepText_0 p l e s m args below meth c Q A dC dI a ac (df_X1_keepText_0 n) r := by
  obtain ⟨hlt, hx, hb, hml, hown, hts, hN, hA, hK⟩ := id C
  intro s0 H locs ls h hP hD hS hl
  unfold df_X1_keepText_0 at h
  refine lv_aload_n hx hb dX1_keepText_0 rfl (lv_at hl 0 rfl) ?_
  refine va_get (D := (dC, dI)) (ci := 2) (v := .ref (a 3)) (C := RX1) (T := TX1) (N := 13) hx hb hts hi_dm_X1_keepText_X1 hown hK hP 0 rfl rfl 0 (by decide) (hts (.fieldLink RX1 12 "TimeMachine$Assembler" "reader" "LTimeMachine$Reader;") (List.mem_of_getElem? (i := 1) rfl)) (fun _ h9 => h9) rfl dX1_keepText_1 ?_
  refine va_get (D := (dC, dI)) (ci := 10) (v := .int (sI s0.2 3)) (C := RX9) (T := TX9) (N := 20) hx hb hts hi_dm_X1_keepText_X9 hown hK hP 3 rfl rfl 4 (by decide) (hts (.fieldLink RX1 88 "TimeMachine$Reader" "from" "I") (List.mem_of_getElem? (i := 2) rfl)) (fun _ h9 => h9) rfl dX1_keepText_4 ?_
  refine lv_iconst (v := 1) hx hb dX1_keepText_7 (by decide) ?_
  refine lv_iadd hx hb dX1_keepText_8 ?_
  refine lv_topi (fun z1 ez1 => ?_)
  have h := nd_at h ez1
  refine lv_istore_n (lv' := [(1, .int z1), (0, .ref (a 0))]) hx hb dX1_keepText_9 rfl hl (by decide) rfl (fun ls hl => ?_)
  exact (db_X1_keepText_10 C K n) (z1) s0 _ _ _ h hP hD hS (lv_sub hl [1, 0] rfl)
set_option maxHeartbeats 40000000 in
set_option maxRecDepth 100000 in
theorem dm_X1_keepText (l : Launch) (hlt : l.stackTraces = false) (dC : Nat → ClassId) (dI : Nat → Nat → Nat) (a : Nat → Nat) (ac : Nat → ClassId) (n : Nat) (s0 : St × (St)) {r : St × (St)} (h : df_X1_keepText n s0 = some r) (sz : Nat) : Met l yX1_keepText ow_dm_X1_keepText ({ frames := 1, cells := 0, slots := 0, locals := 24 }) (va_Pc [.ref (a 0)] (fun U => U.heap.size = sz ∧ va_P (dC, dI) vwCl (dw_X1 a ac s0) U.heap ∧ va_K (dC, dI) vwCl (dk_X1 ac) U ∧ va_D (fun _ => True) (dw_X1 a ac s0) ∧ nv_E (va_A (dw_X1 a ac s0) sz) U)) (va_Qv (fun _ => True) (fun (_ : Unit) t => va_P (dC, dI) vwCl (dw_X1 a ac r) t.heap ∧ va_K (dC, dI) vwCl (dk_X1 ac) t ∧ va_D (va_A (dw_X1 a ac s0) sz) (dw_X1 a ac r)) (va_A (dw_X1 a ac s0) sz)) 0 0 (va_A (dw_X1 a ac s0) sz) := by
  refine Met.ofW (cc := cX1_keepText) (maxL := 2) (ret := none) (by decide) rfl ?_
  intro p e s m args below meth c s₁ B hml hv
  obtain ⟨rfl, hsz, hP, hK, hD0, hN⟩ := hv
  have hx := B.exec
  have hb := B.bytes
  have hr := B.returns
  have hts := atoms_spec (ws := ow_dm_X1_keepText) B.pre
  have hown : s.vm.findClass RX1 = some m.cls := findClass_of_methodNamed B.named
  have hlocks := B.notSynchronized
  subst hsz
  have hD := hD0.self (sz := s.heap.size)
  generalize hAe : va_A (dw_X1 a ac s0) s.heap.size = A at hD hN ⊢
  have hA : ∀ q : Nat, s.heap.size ≤ q → A q := fun q h => by rw [← hAe]; exact Or.inr h
  have hl := lv_entry ([.ref (a 0)]) (n := 2) (Nat.le_of_ble_eq_true rfl)
  rw [lg_entry_eq]
  generalize (lg_sl ([.ref (a 0)]) ++ List.replicate (2 - (lg_sl ([.ref (a 0)])).length) Slot.unset).toArray = ls at hl ⊢
  have hl : lv_has ls 2 [(0, .ref (a 0))] := hl
  exact db_X1_keepText_0 (dC := dC) (dI := dI) (a := a) (ac := ac) (n := n) (r := r) ⟨hlt, hx, hb, hml, hown, hts, hN, hA, hK⟩ (fun pc τ H locs ls d er hP hD hS => by subst er; exact W.vret hx hb hr (fun t ht hW => ⟨⟨(), rfl, trivial, by rw [ht]; exact hP, va_K.moved hW.alike hK, hD⟩, hS.F ht⟩) hS.2.2 d) s0 _ _ _ h hP hD va_S.rf (lv_sub hl [0] rfl)
def ow_dm_X1_fixed : List Cond := .code yX1_fixed cX1_fixed 5 (some .int) :: ([.fieldLink RX1 32 "TimeMachine$Assembler" "fault" "I", .methodLink RX1 77 yX1_blame, .instanceMethod yX1_blame, .selects RX1 yX1_blame yX1_blame, .initialized RX1, .fieldLink RX1 12 "TimeMachine$Assembler" "reader" "LTimeMachine$Reader;", .fieldLink RX1 217 "TimeMachine$Reader" "fixed" "Z", .methodLink RX1 220 yX9_evaluate, .instanceMethod yX9_evaluate, .selects RX9 yX9_evaluate yX9_evaluate, .initialized RX9, .fieldLink RX1 223 "TimeMachine$Reader" "trouble" "I"] ++ (u_ws RX1 TX1 13 ++ (u_ws RX9 TX9 20 ++ (ow_dm_X1_blame ++ (ow_dm_X9_evaluate ++ [])))))
theorem gd_dm_X1_fixed : ∀ w ∈ ow_dm_X1_fixed, (w.onTables && w.keeps) = true ∨ ∃ ty, w = Cond.arrayClass ty := List.forall_mem_cons.mpr ⟨good_of_word rfl, List.forall_mem_append.mpr ⟨fun w h => good_of_word (List.all_eq_true.mp (by decide +kernel) w h), List.forall_mem_append.mpr ⟨gu_X1, List.forall_mem_append.mpr ⟨gu_X9, List.forall_mem_append.mpr ⟨gd_dm_X1_blame, List.forall_mem_append.mpr ⟨gd_dm_X9_evaluate, fun _ h => nomatch h⟩⟩⟩⟩⟩⟩
theorem hi_dm_X1_fixed_X1 : ∀ w ∈ u_ws RX1 TX1 13, w ∈ ow_dm_X1_fixed := fun w h => List.mem_cons_of_mem _ (List.mem_append_right _ (List.mem_append_left _ h))
theorem hi_dm_X1_fixed_X9 : ∀ w ∈ u_ws RX9 TX9 20, w ∈ ow_dm_X1_fixed := fun w h => List.mem_cons_of_mem _ (List.mem_append_right _ (List.mem_append_right _ (List.mem_append_left _ h)))
theorem gi_dm_X1_fixed_0 : GoodIn ow_dm_X1_fixed (wsV RX1 77 RX1 yX1_blame ow_dm_X1_blame) := goodIn_app (goodIn_of _ (by decide +kernel)) (fun w h => ⟨List.mem_cons_of_mem _ (List.mem_append_right _ (List.mem_append_right _ (List.mem_append_right _ (List.mem_append_left _ h)))), gd_dm_X1_blame w h⟩)
theorem gi_dm_X1_fixed_1 : GoodIn ow_dm_X1_fixed (wsV RX1 220 RX9 yX9_evaluate ow_dm_X9_evaluate) := goodIn_app (goodIn_of _ (by decide +kernel)) (fun w h => ⟨List.mem_cons_of_mem _ (List.mem_append_right _ (List.mem_append_right _ (List.mem_append_right _ (List.mem_append_right _ (List.mem_append_left _ h))))), gd_dm_X9_evaluate w h⟩)
def dj_X1_fixed_33 (p : Program) (l : Launch) (e : Env) (s : State) (m : MethodId) (args : Array Value) (below : List Frame) (meth : Method) (c : Code) (Q : State → Prop) (A : Nat → Prop) (dC : Nat → ClassId) (dI : Nat → Nat → Nat) (a : Nat → Nat) (ac : Nat → ClassId) (g : Int32 → (St × (St)) → Option (Int32 × (St × (St)))) (r : Int32 × (St × (St))) : Prop := ∀ (y1 : Int32) (s0 : St × (St)) (H : Heap) (locs : List Loc) (ls : Array Slot), g y1 s0 = some r → va_P (dC, dI) vwCl (dw_X1 a ac s0) H → va_D A (dw_X1 a ac s0) → va_S A s.heap H locs → lv_has ls 5 [] → W p l e (headSpec ow_dm_X1_fixed ({ frames := 3, cells := 0, slots := 0, locals := 64 })).room s m args below meth c H locs 0 0 Q (F0 m 33 ls [.int y1, .ref (a 0)])
def dj_X1_fixed_23 (p : Program) (l : Launch) (e : Env) (s : State) (m : MethodId) (args : Array Value) (below : List Frame) (meth : Method) (c : Code) (Q : State → Prop) (A : Nat → Prop) (dC : Nat → ClassId) (dI : Nat → Nat → Nat) (a : Nat → Nat) (ac : Nat → ClassId) (g : Int32 → (St × (St)) → Option (Int32 × (St × (St)))) (r : Int32 × (St × (St))) : Prop := ∀ (x1 : Int32) (s0 : St × (St)) (H : Heap) (locs : List Loc) (ls : Array Slot), g x1 s0 = some r → va_P (dC, dI) vwCl (dw_X1 a ac s0) H → va_D A (dw_X1 a ac s0) → va_S A s.heap H locs → lv_has ls 5 [(0, .ref (a 0)), (1, .int x1)] → W p l e (headSpec ow_dm_X1_fixed ({ frames := 3, cells := 0, slots := 0, locals := 64 })).room s m args below meth c H locs 0 0 Q (F0 m 23 ls [])
def dj_X1_fixed_94 (p : Program) (l : Launch) (e : Env) (s : State) (m : MethodId) (args : Array Value) (below : List Frame) (meth : Method) (c : Code) (Q : State → Prop) (A : Nat → Prop) (dC : Nat → ClassId) (dI : Nat → Nat → Nat) (a : Nat → Nat) (ac : Nat → ClassId) (g : Int32 → (St × (St)) → Option (Int32 × (St × (St)))) (r : Int32 × (St × (St))) : Prop := ∀ (y1 : Int32) (s0 : St × (St)) (H : Heap) (locs : List Loc) (ls : Array Slot), g y1 s0 = some r → va_P (dC, dI) vwCl (dw_X1 a ac s0) H → va_D A (dw_X1 a ac s0) → va_S A s.heap H locs → lv_has ls 5 [] → W p l e (headSpec ow_dm_X1_fixed ({ frames := 3, cells := 0, slots := 0, locals := 64 })).room s m args below meth c H locs 0 0 Q (F0 m 94 ls [.int y1, .ref (a 0)])
def dj_X1_fixed_71 (p : Program) (l : Launch) (e : Env) (s : State) (m : MethodId) (args : Array Value) (below : List Frame) (meth : Method) (c : Code) (Q : State → Prop) (A : Nat → Prop) (dC : Nat → ClassId) (dI : Nat → Nat → Nat) (a : Nat → Nat) (ac : Nat → ClassId) (g : (St × (St)) → Option (Int32 × (St × (St)))) (r : Int32 × (St × (St))) : Prop := ∀ (s0 : St × (St)) (H : Heap) (locs : List Loc) (ls : Array Slot), g s0 = some r → va_P (dC, dI) vwCl (dw_X1 a ac s0) H → va_D A (dw_X1 a ac s0) → va_S A s.heap H locs → lv_has ls 5 [(0, .ref (a 0))] → W p l e (headSpec ow_dm_X1_fixed ({ frames := 3, cells := 0, slots := 0, locals := 64 })).room s m args below meth c H locs 0 0 Q (F0 m 71 ls [])
def dj_X1_fixed_0 (p : Program) (l : Launch) (e : Env) (s : State) (m : MethodId) (args : Array Value) (below : List Frame) (meth : Method) (c : Code) (Q : State → Prop) (A : Nat → Prop) (dC : Nat → ClassId) (dI : Nat → Nat → Nat) (a : Nat → Nat) (ac : Nat → ClassId) (g : Int32 → Int32 → Int32 → (St × (St)) → Option (Int32 × (St × (St)))) (r : Int32 × (St × (St))) : Prop := ∀ (v0 : Int32) (v1 : Int32) (v2 : Int32) (s0 : St × (St)) (H : Heap) (locs : List Loc) (ls : Array Slot), g v0 v1 v2 s0 = some r → va_P (dC, dI) vwCl (dw_X1 a ac s0) H → va_D A (dw_X1 a ac s0) → va_S A s.heap H locs → lv_has ls 5 [(0, .ref (a 0)), (1, .int v0), (2, .int v1), (3, .int v2)] → W p l e (headSpec ow_dm_X1_fixed ({ frames := 3, cells := 0, slots := 0, locals := 64 })).room s m args below meth c H locs 0 0 Q (F0 m 0 ls [])
set_option maxHeartbeats 40000000 in
set_option maxRecDepth 100000 in
theorem db_X1_fixed_33 {p : Program} {l : Launch} {e : Env} {s : State} {m : MethodId} {args : Array Value} {below : List Frame} {meth : Method} {c : Code} {Q : State → Prop} {A : Nat → Prop} {dC : Nat → ClassId} {dI : Nat → Nat → Nat} {a : Nat → Nat} {ac : Nat → ClassId} {n : Nat} {r : Int32 × (St × (St))} (C : nd_C p l s m args c A (dC, dI) cX1_fixed 5 RX1 ow_dm_X1_fixed (dk_X1 ac)) (K : nd_Ki p l e (headSpec ow_dm_X1_fixed ({ frames := 3, cells := 0, slots := 0, locals := 64 })).room s m args below meth c Q A (dC, dI) cX1_fixed .int (St × (St)) (dw_X1 a ac) r) : dj_X1_fixed_33 p l e s m args below meth c Q A dC dI a ac (df_X1_fixed_33 n) r := by
  obtain ⟨hlt, hx, hb, hml, hown, hts, hN, hA, hK⟩ := id C
  intro y1 s0 H locs ls h hP hD hS hl
  unfold df_X1_fixed_33 at h
  obtain ⟨s5, hq, h⟩ := nd_b1_e h
  have hPc := hP
  have hDc := hD
  have hKc := hK
  have hFc := nd_rs hD hS hA
  refine nd_cVv (As := [.int y1]) (rest := []) (w' := dw_X1 a ac s5) ⟨hx, hb, hml, hown, hts⟩ (fun sz => dm_X1_blame l hlt dC dI a ac n (y1) s0 hq sz) (cwV 1 hts gi_dm_X1_fixed_0 rfl rfl rfl (by decide +kernel) ⟨Nat.le_of_ble_eq_true rfl, Nat.le_of_ble_eq_true rfl⟩) hPc hDc hKc hS hA hN (va_recv hKc hPc (ci := 2) (q0 := 0) rfl rfl) rfl hl.1 rfl (Nat.le_of_ble_eq_true rfl) dX1_fixed_33 (fun H locs hP1 hD1 hk1 hS => ?_)
  have hP := hP1
  have hD := hD1.weaken (fun k q _ h => hFc q.1 h)
  refine lv_iconst (v := 0) hx hb dX1_fixed_36 (by decide) ?_
  exact K _ _ _ _ _ _ dX1_fixed_37 rfl (Option.some.inj h).symm hP hD hS
set_option maxHeartbeats 40000000 in
set_option maxRecDepth 100000 in
theorem db_X1_fixed_23 {p : Program} {l : Launch} {e : Env} {s : State} {m : MethodId} {args : Array Value} {below : List Frame} {meth : Method} {c : Code} {Q : State → Prop} {A : Nat → Prop} {dC : Nat → ClassId} {dI : Nat → Nat → Nat} {a : Nat → Nat} {ac : Nat → ClassId} {n : Nat} {r : Int32 × (St × (St))} (C : nd_C p l s m args c A (dC, dI) cX1_fixed 5 RX1 ow_dm_X1_fixed (dk_X1 ac)) (K : nd_Ki p l e (headSpec ow_dm_X1_fixed ({ frames := 3, cells := 0, slots := 0, locals := 64 })).room s m args below meth c Q A (dC, dI) cX1_fixed .int (St × (St)) (dw_X1 a ac) r) : dj_X1_fixed_23 p l e s m args below meth c Q A dC dI a ac (df_X1_fixed_23 n) r := by
  obtain ⟨hlt, hx, hb, hml, hown, hts, hN, hA, hK⟩ := id C
  intro x1 s0 H locs ls h hP hD hS hl
  unfold df_X1_fixed_23 at h
  refine lv_aload_n hx hb dX1_fixed_23 rfl (lv_at hl 0 rfl) ?_
  refine lv_iload_n hx hb dX1_fixed_24 rfl (lv_at hl 1 rfl) ?_
  refine lv_if_ge (tgt := 32) hx hb dX1_fixed_25 (by decide) (fun c3 => ?_) (fun c3 => ?_)
  · have h := nd_pos h c3
    refine lv_iconst (v := 5) hx hb dX1_fixed_32 (by decide) ?_
    exact (db_X1_fixed_33 C K) (5) s0 _ _ _ h hP hD hS (lv_sub hl [] rfl)
  · have h := nd_neg h c3
    refine lv_iconst (v := 1) hx hb dX1_fixed_28 (by decide) ?_
    refine lv_goto (tgt := 33) hx hb dX1_fixed_29 (by decide) ?_
    exact (db_X1_fixed_33 C K) (1) s0 _ _ _ h hP hD hS (lv_sub hl [] rfl)
set_option maxHeartbeats 40000000 in
set_option maxRecDepth 100000 in
theorem db_X1_fixed_94 {p : Program} {l : Launch} {e : Env} {s : State} {m : MethodId} {args : Array Value} {below : List Frame} {meth : Method} {c : Code} {Q : State → Prop} {A : Nat → Prop} {dC : Nat → ClassId} {dI : Nat → Nat → Nat} {a : Nat → Nat} {ac : Nat → ClassId} {n : Nat} {r : Int32 × (St × (St))} (C : nd_C p l s m args c A (dC, dI) cX1_fixed 5 RX1 ow_dm_X1_fixed (dk_X1 ac)) (K : nd_Ki p l e (headSpec ow_dm_X1_fixed ({ frames := 3, cells := 0, slots := 0, locals := 64 })).room s m args below meth c Q A (dC, dI) cX1_fixed .int (St × (St)) (dw_X1 a ac) r) : dj_X1_fixed_94 p l e s m args below meth c Q A dC dI a ac (df_X1_fixed_94 n) r := by
  obtain ⟨hlt, hx, hb, hml, hown, hts, hN, hA, hK⟩ := id C
  intro y1 s0 H locs ls h hP hD hS hl
  unfold df_X1_fixed_94 at h
  obtain ⟨s15, hq, h⟩ := nd_b1_e h
  have hPc := hP
  have hDc := hD
  have hKc := hK
  have hFc := nd_rs hD hS hA
  refine nd_cVv (As := [.int y1]) (rest := []) (w' := dw_X1 a ac s15) ⟨hx, hb, hml, hown, hts⟩ (fun sz => dm_X1_blame l hlt dC dI a ac n (y1) s0 hq sz) (cwV 1 hts gi_dm_X1_fixed_0 rfl rfl rfl (by decide +kernel) ⟨Nat.le_of_ble_eq_true rfl, Nat.le_of_ble_eq_true rfl⟩) hPc hDc hKc hS hA hN (va_recv hKc hPc (ci := 2) (q0 := 0) rfl rfl) rfl hl.1 rfl (Nat.le_of_ble_eq_true rfl) dX1_fixed_94 (fun H locs hP1 hD1 hk1 hS => ?_)
  have hP := hP1
  have hD := hD1.weaken (fun k q _ h => hFc q.1 h)
  refine lv_iconst (v := 0) hx hb dX1_fixed_97 (by decide) ?_
  exact K _ _ _ _ _ _ dX1_fixed_98 rfl (Option.some.inj h).symm hP hD hS
set_option maxHeartbeats 40000000 in
set_option maxRecDepth 100000 in
theorem db_X1_fixed_71 {p : Program} {l : Launch} {e : Env} {s : State} {m : MethodId} {args : Array Value} {below : List Frame} {meth : Method} {c : Code} {Q : State → Prop} {A : Nat → Prop} {dC : Nat → ClassId} {dI : Nat → Nat → Nat} {a : Nat → Nat} {ac : Nat → ClassId} {n : Nat} {r : Int32 × (St × (St))} (C : nd_C p l s m args c A (dC, dI) cX1_fixed 5 RX1 ow_dm_X1_fixed (dk_X1 ac)) (K : nd_Ki p l e (headSpec ow_dm_X1_fixed ({ frames := 3, cells := 0, slots := 0, locals := 64 })).room s m args below meth c Q A (dC, dI) cX1_fixed .int (St × (St)) (dw_X1 a ac) r) : dj_X1_fixed_71 p l e s m args below meth c Q A dC dI a ac (df_X1_fixed_71 n) r := by
  obtain ⟨hlt, hx, hb, hml, hown, hts, hN, hA, hK⟩ := id C
  intro s0 H locs ls h hP hD hS hl
  unfold df_X1_fixed_71 at h
  refine lv_aload_n hx hb dX1_fixed_71 rfl (lv_at hl 0 rfl) ?_
  refine lv_aload_n hx hb dX1_fixed_72 rfl (lv_at hl 0 rfl) ?_
  refine va_get (D := (dC, dI)) (ci := 2) (v := .ref (a 3)) (C := RX1) (T := TX1) (N := 13) hx hb hts hi_dm_X1_fixed_X1 hown hK hP 0 rfl rfl 0 (by decide) (hts (.fieldLink RX1 12 "TimeMachine$Assembler" "reader" "LTimeMachine$Reader;") (List.mem_of_getElem? (i := 6) rfl)) (fun _ h9 => h9) rfl dX1_fixed_73 ?_
  refine va_get (D := (dC, dI)) (ci := 10) (v := .int (sI s0.2 11)) (C := RX9) (T := TX9) (N := 20) hx hb hts hi_dm_X1_fixed_X9 hown hK hP 3 rfl rfl 19 (by decide) (hts (.fieldLink RX1 223 "TimeMachine$Reader" "trouble" "I") (List.mem_of_getElem? (i := 12) rfl)) (fun _ h9 => h9) rfl dX1_fixed_76 ?_
  refine lv_if_eq (tgt := 92) hx hb dX1_fixed_79 (by decide) (fun c13 => ?_) (fun c13 => ?_)
  · have h := nd_pos h c13
    refine lv_bipush (v := 6) hx hb dX1_fixed_92 (by decide) ?_
    exact (db_X1_fixed_94 C K) (6) s0 _ _ _ h hP hD hS (lv_sub hl [] rfl)
  · have h := nd_neg h c13
    refine lv_aload_n hx hb dX1_fixed_82 rfl (lv_at hl 0 rfl) ?_
    refine va_get (D := (dC, dI)) (ci := 2) (v := .ref (a 3)) (C := RX1) (T := TX1) (N := 13) hx hb hts hi_dm_X1_fixed_X1 hown hK hP 0 rfl rfl 0 (by decide) (hts (.fieldLink RX1 12 "TimeMachine$Assembler" "reader" "LTimeMachine$Reader;") (List.mem_of_getElem? (i := 6) rfl)) (fun _ h9 => h9) rfl dX1_fixed_83 ?_
    refine va_get (D := (dC, dI)) (ci := 10) (v := .int (sI s0.2 11)) (C := RX9) (T := TX9) (N := 20) hx hb hts hi_dm_X1_fixed_X9 hown hK hP 3 rfl rfl 19 (by decide) (hts (.fieldLink RX1 223 "TimeMachine$Reader" "trouble" "I") (List.mem_of_getElem? (i := 12) rfl)) (fun _ h9 => h9) rfl dX1_fixed_86 ?_
    refine lv_goto (tgt := 94) hx hb dX1_fixed_89 (by decide) ?_
    exact (db_X1_fixed_94 C K) ((sI s0.2 11)) s0 _ _ _ h hP hD hS (lv_sub hl [] rfl)
set_option maxHeartbeats 40000000 in
set_option maxRecDepth 100000 in
theorem db_X1_fixed_0 {p : Program} {l : Launch} {e : Env} {s : State} {m : MethodId} {args : Array Value} {below : List Frame} {meth : Method} {c : Code} {Q : State → Prop} {A : Nat → Prop} {dC : Nat → ClassId} {dI : Nat → Nat → Nat} {a : Nat → Nat} {ac : Nat → ClassId} {n : Nat} {r : Int32 × (St × (St))} (C : nd_C p l s m args c A (dC, dI) cX1_fixed 5 RX1 ow_dm_X1_fixed (dk_X1 ac)) (K : nd_Ki p l e (headSpec ow_dm_X1_fixed ({ frames := 3, cells := 0, slots := 0, locals := 64 })).room s m args below meth c Q A (dC, dI) cX1_fixed .int (St × (St)) (dw_X1 a ac) r) : dj_X1_fixed_0 p l e s m args below meth c Q A dC dI a ac (df_X1_fixed_0 n) r := by
  obtain ⟨hlt, hx, hb, hml, hown, hts, hN, hA, hK⟩ := id C
  intro v0 v1 v2 s0 H locs ls h hP hD hS hl
  unfold df_X1_fixed_0 at h
  refine lv_aload_n hx hb dX1_fixed_0 rfl (lv_at hl 0 rfl) ?_
  refine va_get (D := (dC, dI)) (ci := 2) (v := .int (sI s0.1 2)) (C := RX1) (T := TX1) (N := 13) hx hb hts hi_dm_X1_fixed_X1 hown hK hP 0 rfl rfl 5 (by decide) (hts (.fieldLink RX1 32 "TimeMachine$Assembler" "fault" "I") (List.mem_of_getElem? (i := 1) rfl)) (fun _ h9 => h9) rfl dX1_fixed_1 ?_
  refine lv_if_eq (tgt := 9) hx hb dX1_fixed_4 (by decide) (fun c1 => ?_) (fun c1 => ?_)
  · have h := nd_pos h c1
    refine lv_iload_n hx hb dX1_fixed_9 rfl (lv_at hl 1 rfl) ?_
    refine lv_if_lt (tgt := 23) hx hb dX1_fixed_10 (by decide) (fun c2 => ?_) (fun c2 => ?_)
    · have h := nd_pos h c2
      exact (db_X1_fixed_23 C K) (v0) s0 _ _ _ h hP hD hS (lv_sub hl [0, 1] rfl)
    · have h := nd_neg h c2
      refine lv_aload_n hx hb dX1_fixed_13 rfl (lv_at hl 0 rfl) ?_
      refine va_get (D := (dC, dI)) (ci := 2) (v := .ref (a 3)) (C := RX1) (T := TX1) (N := 13) hx hb hts hi_dm_X1_fixed_X1 hown hK hP 0 rfl rfl 0 (by decide) (hts (.fieldLink RX1 12 "TimeMachine$Assembler" "reader" "LTimeMachine$Reader;") (List.mem_of_getElem? (i := 6) rfl)) (fun _ h9 => h9) rfl dX1_fixed_14 ?_
      refine va_get (D := (dC, dI)) (ci := 10) (v := .int (sI s0.2 10)) (C := RX9) (T := TX9) (N := 20) hx hb hts hi_dm_X1_fixed_X9 hown hK hP 3 rfl rfl 18 (by decide) (hts (.fieldLink RX1 217 "TimeMachine$Reader" "fixed" "Z") (List.mem_of_getElem? (i := 7) rfl)) (fun _ h9 => h9) rfl dX1_fixed_17 ?_
      refine lv_if_ne (tgt := 38) hx hb dX1_fixed_20 (by decide) (fun c7 => ?_) (fun c7 => ?_)
      · have h := nd_neg h c7
        refine lv_aload_n hx hb dX1_fixed_38 rfl (lv_at hl 0 rfl) ?_
        refine va_get (D := (dC, dI)) (ci := 2) (v := .ref (a 3)) (C := RX1) (T := TX1) (N := 13) hx hb hts hi_dm_X1_fixed_X1 hown hK hP 0 rfl rfl 0 (by decide) (hts (.fieldLink RX1 12 "TimeMachine$Assembler" "reader" "LTimeMachine$Reader;") (List.mem_of_getElem? (i := 6) rfl)) (fun _ h9 => h9) rfl dX1_fixed_39 ?_
        refine lv_iload_n hx hb dX1_fixed_42 rfl (lv_at hl 1 rfl) ?_
        refine lv_iconst (v := 0) hx hb dX1_fixed_43 (by decide) ?_
        obtain ⟨q8, s9, hq, h⟩ := nd_b2_e h
        have hPc := dp_X1_3 hP
        have hDc := dd_X1_3 hD
        have hKc := dy_X1_3 hK
        have hFc := nd_rs hDc hS hA
        have hzA : ∀ q : Nat, H.size ≤ q → A q := fun q h => hA q (Nat.le_trans hS.1 h)
        refine nd_cVi (As := [.int v0, .int 0]) (rest := []) (q := q8) (w' := dw_X9 (fun k => a (k + 3)) (fun k => ac (k + 3)) s9) ⟨hx, hb, hml, hown, hts⟩ (fun sz => dm_X9_evaluate l hlt dC dI (fun k => a (k + 3)) (fun k => ac (k + 3)) n (v0) (0) s0.2 hq sz) (cwV 2 hts gi_dm_X1_fixed_1 rfl rfl rfl (by decide +kernel) ⟨Nat.le_of_ble_eq_true rfl, Nat.le_of_ble_eq_true rfl⟩) hPc hDc hKc hS hA hN (va_recv hKc hPc (ci := 10) (q0 := 0) rfl rfl) rfl hl.1 rfl (Nat.le_of_ble_eq_true rfl) dX1_fixed_44 (fun H locs hP1 hD1 hk1 hS => ?_)
        obtain ⟨hP, hD⟩ := dn_X1_3 hP hD hzA hk1 hP1 hD1
        obtain ⟨s11, es11, h⟩ := nd_let_e h
        have hP : va_P (dC, dI) vwCl (dw_X1 a ac s11) H := by rw [es11]; exact hP
        have hD : va_D A (dw_X1 a ac s11) := by rw [es11]; exact hD
        refine lv_istore (lv' := [(4, .int q8), (0, .ref (a 0)), (1, .int v0), (2, .int v1), (3, .int v2)]) hx hb dX1_fixed_47 hl (by decide) rfl (fun ls hl => ?_)
        refine lv_aload_n hx hb dX1_fixed_49 rfl (lv_at hl 1 rfl) ?_
        refine va_get (D := (dC, dI)) (ci := 2) (v := .ref (a 3)) (C := RX1) (T := TX1) (N := 13) hx hb hts hi_dm_X1_fixed_X1 hown hK hP 0 rfl rfl 0 (by decide) (hts (.fieldLink RX1 12 "TimeMachine$Assembler" "reader" "LTimeMachine$Reader;") (List.mem_of_getElem? (i := 6) rfl)) (fun _ h9 => h9) rfl dX1_fixed_50 ?_
        refine va_get (D := (dC, dI)) (ci := 10) (v := .int (sI s11.2 11)) (C := RX9) (T := TX9) (N := 20) hx hb hts hi_dm_X1_fixed_X9 hown hK hP 3 rfl rfl 19 (by decide) (hts (.fieldLink RX1 223 "TimeMachine$Reader" "trouble" "I") (List.mem_of_getElem? (i := 12) rfl)) (fun _ h9 => h9) rfl dX1_fixed_53 ?_
        refine lv_if_ne (tgt := 71) hx hb dX1_fixed_56 (by decide) (fun c12 => ?_) (fun c12 => ?_)
        · have h := nd_neg h c12
          exact (db_X1_fixed_71 C K)  s11 _ _ _ h hP hD hS (lv_sub hl [1] rfl)
        · have h := nd_pos h c12
          refine lv_iload hx hb dX1_fixed_59 (lv_at hl 0 rfl) ?_
          refine lv_iload_n hx hb dX1_fixed_61 rfl (lv_at hl 3 rfl) ?_
          refine lv_icmp_lt (tgt := 71) hx hb dX1_fixed_62 (by decide) (fun c17 => ?_) (fun c17 => ?_)
          · have h := nd_pos h c17
            exact (db_X1_fixed_71 C K)  s11 _ _ _ h hP hD hS (lv_sub hl [1] rfl)
          · have h := nd_neg h c17
            refine lv_iload hx hb dX1_fixed_65 (lv_at hl 0 rfl) ?_
            refine lv_iload_n hx hb dX1_fixed_67 rfl (lv_at hl 4 rfl) ?_
            refine lv_icmp_le (tgt := 99) hx hb dX1_fixed_68 (by decide) (fun c18 => ?_) (fun c18 => ?_)
            · have h := nd_pos h c18
              refine lv_iload hx hb dX1_fixed_99 (lv_at hl 0 rfl) ?_
              exact K _ _ _ _ _ _ dX1_fixed_101 rfl (Option.some.inj h).symm hP hD hS
            · have h := nd_neg h c18
              exact (db_X1_fixed_71 C K)  s11 _ _ _ h hP hD hS (lv_sub hl [1] rfl)
      · have h := nd_pos h c7
        exact (db_X1_fixed_23 C K) (v0) s0 _ _ _ h hP hD hS (lv_sub hl [0, 1] rfl)
  · have h := nd_neg h c1
    refine lv_iconst (v := 0) hx hb dX1_fixed_7 (by decide) ?_
    exact K _ _ _ _ _ _ dX1_fixed_8 rfl (Option.some.inj h).symm hP hD hS
set_option maxHeartbeats 40000000 in
set_option maxRecDepth 100000 in
theorem dm_X1_fixed (l : Launch) (hlt : l.stackTraces = false) (dC : Nat → ClassId) (dI : Nat → Nat → Nat) (a : Nat → Nat) (ac : Nat → ClassId) (n : Nat) (v0 : Int32) (v1 : Int32) (v2 : Int32) (s0 : St × (St)) {r : Int32 × (St × (St))} (h : df_X1_fixed n v0 v1 v2 s0 = some r) (sz : Nat) : Met l yX1_fixed ow_dm_X1_fixed ({ frames := 3, cells := 0, slots := 0, locals := 64 }) (va_Pc [.ref (a 0), .int v0, .int v1, .int v2] (fun U => U.heap.size = sz ∧ va_P (dC, dI) vwCl (dw_X1 a ac s0) U.heap ∧ va_K (dC, dI) vwCl (dk_X1 ac) U ∧ va_D (fun _ => True) (dw_X1 a ac s0) ∧ nv_E (va_A (dw_X1 a ac s0) sz) U)) (va_Qi (fun x _ => x = r.1) (fun (_ : Unit) t => va_P (dC, dI) vwCl (dw_X1 a ac r.2) t.heap ∧ va_K (dC, dI) vwCl (dk_X1 ac) t ∧ va_D (va_A (dw_X1 a ac s0) sz) (dw_X1 a ac r.2)) (va_A (dw_X1 a ac s0) sz)) 0 0 (va_A (dw_X1 a ac s0) sz) := by
  refine Met.ofW (cc := cX1_fixed) (maxL := 5) (ret := (some .int)) (by decide) rfl ?_
  intro p e s m args below meth c s₁ B hml hv
  obtain ⟨rfl, hsz, hP, hK, hD0, hN⟩ := hv
  have hx := B.exec
  have hb := B.bytes
  have hr := B.returns
  have hts := atoms_spec (ws := ow_dm_X1_fixed) B.pre
  have hown : s.vm.findClass RX1 = some m.cls := findClass_of_methodNamed B.named
  have hlocks := B.notSynchronized
  subst hsz
  have hD := hD0.self (sz := s.heap.size)
  generalize hAe : va_A (dw_X1 a ac s0) s.heap.size = A at hD hN ⊢
  have hA : ∀ q : Nat, s.heap.size ≤ q → A q := fun q h => by rw [← hAe]; exact Or.inr h
  have hl := lv_entry ([.ref (a 0), .int v0, .int v1, .int v2]) (n := 5) (Nat.le_of_ble_eq_true rfl)
  rw [lg_entry_eq]
  generalize (lg_sl ([.ref (a 0), .int v0, .int v1, .int v2]) ++ List.replicate (5 - (lg_sl ([.ref (a 0), .int v0, .int v1, .int v2])).length) Slot.unset).toArray = ls at hl ⊢
  have hl : lv_has ls 5 [(0, .ref (a 0)), (1, .int v0), (2, .int v1), (3, .int v2)] := hl
  exact db_X1_fixed_0 (dC := dC) (dI := dI) (a := a) (ac := ac) (n := n) (r := r) ⟨hlt, hx, hb, hml, hown, hts, hN, hA, hK⟩ (fun pc v τ H locs ls d z er hP hD hS => by subst er; exact W.zret (v := v) hx hb hr z (fun t ht hW => ⟨⟨v, (), rfl, rfl, by rw [ht]; exact hP, va_K.moved hW.alike hK, hD⟩, hS.F ht⟩) hS.2.2 d) v0 v1 v2 s0 _ _ _ h hP hD va_S.rf (lv_sub hl [0, 1, 2, 3] rfl)
