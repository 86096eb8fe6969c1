set_option maxHeartbeats 40000000 in
set_option maxRecDepth 100000 in
theorem db_X13_digits_105 {p : Program} {l : Launch} {e : Env} {s : State} {m : MethodId} {args : Array Value} {below : List Frame} {meth : Method} {c : Code} {Q : State → Prop} {A : Nat → Prop} {dC : Nat → ClassId} {dI : Nat → Nat → Nat} {a : Nat → Nat} {ac : Nat → ClassId} {n : Nat} {r : St} (C : nd_C p l s m args c A (dC, dI) cX13_digits 6 RX13 ow_dm_X13_digits (dk_X13 ac)) (K : nd_Kv p l e (headSpec ow_dm_X13_digits ({ frames := 3, cells := 0, slots := 0, locals := 67 })).room s m args below meth c Q A (dC, dI) cX13_digits (St) (dw_X13 a ac) r) : dj_X13_digits_105 p l e s m args below meth c Q A dC dI a ac (df_X13_digits_105 n) r := by
  obtain ⟨hlt, hx, hb, hml, hown, hts, hN, hA, hK⟩ := id C
  intro x1 y0 s0 H locs ls h hP hD hS hl
  unfold df_X13_digits_105 at h
  refine lv_istore_n (lv' := [(3, .int y0), (0, .ref (a 0)), (1, .int x1)]) hx hb dX13_digits_105 rfl hl (by decide) rfl (fun ls hl => ?_)
  refine lv_iload_n hx hb dX13_digits_106 rfl (lv_at hl 0 rfl) ?_
  refine lv_if_eq (tgt := 135) hx hb dX13_digits_107 (by decide) (fun c6 => ?_) (fun c6 => ?_)
  · have h := nd_pos h c6
    exact (db_X13_digits_135 C K) (x1) (y0) s0 _ _ _ h hP hD hS (lv_sub hl [1, 2, 0] rfl)
  · have h := nd_neg h c6
    refine lv_iload_n hx hb dX13_digits_110 rfl (lv_at hl 2 rfl) ?_
    refine lv_bipush (v := 120) hx hb dX13_digits_111 (by decide) ?_
    refine lv_icmp_ne (tgt := 135) hx hb dX13_digits_113 (by decide) (fun c21 => ?_) (fun c21 => ?_)
    · have h := nd_neg h c21
      exact (db_X13_digits_135 C K) (x1) (y0) s0 _ _ _ h hP hD hS (lv_sub hl [1, 2, 0] rfl)
    · have h := nd_pos h c21
      refine lv_aload_n hx hb dX13_digits_116 rfl (lv_at hl 1 rfl) ?_
      refine lv_aload_n hx hb dX13_digits_117 rfl (lv_at hl 1 rfl) ?_
      refine va_get (D := (dC, dI)) (ci := 14) (v := .int (sI s0 9)) (C := RX13) (T := TX13) (N := 37) hx hb hts hi_dm_X13_digits_X13 hown hK hP 0 rfl rfl 18 (by decide) (hts (.fieldLink RX13 368 "TimeMachineModel$Assembler" "from" "I") (List.mem_of_getElem? (i := 2) rfl)) (fun _ h9 => h9) rfl dX13_digits_118 ?_
      refine lv_iconst (v := 2) hx hb dX13_digits_121 (by decide) ?_
      refine lv_iadd hx hb dX13_digits_122 ?_
      refine lv_aload_n hx hb dX13_digits_123 rfl (lv_at hl 1 rfl) ?_
      refine va_get (D := (dC, dI)) (ci := 14) (v := .int (sI s0 10)) (C := RX13) (T := TX13) (N := 37) hx hb hts hi_dm_X13_digits_X13 hown hK hP 0 rfl rfl 19 (by decide) (hts (.fieldLink RX13 371 "TimeMachineModel$Assembler" "to" "I") (List.mem_of_getElem? (i := 1) rfl)) (fun _ h9 => h9) rfl dX13_digits_124 ?_
      refine lv_bipush (v := 16) hx hb dX13_digits_127 (by decide) ?_
      obtain ⟨q22, s23, hq, h⟩ := nd_b2_e h
      have hPc := hP
      have hDc := hD
      have hKc := hK
      have hFc := nd_rs hD hS hA
      refine nd_cVl (As := [.int ((sI s0 9) + 2), .int (sI s0 10), .int 16]) (rest := []) (q := q22) (w' := dw_X13 a ac s23) ⟨hx, hb, hml, hown, hts⟩ (fun sz => dm_X13_numeral l hlt dC dI a ac n (((sI s0 9) + 2)) ((sI s0 10)) (16) s0 hq sz) (cwV 3 hts gi_dm_X13_digits_0 rfl rfl rfl (by decide +kernel) ⟨Nat.le_of_ble_eq_true rfl, Nat.le_of_ble_eq_true rfl⟩) hPc hDc hKc hS hA hN (va_recv hKc hPc (ci := 14) (q0 := 0) rfl rfl) rfl hl.1 rfl (Nat.le_of_ble_eq_true rfl) dX13_digits_129 (fun H locs hP1 hD1 hk1 hS => ?_)
      have hP := hP1
      have hD := hD1.weaken (fun k q _ h => hFc q.1 h)
      refine lv_goto (tgt := 177) hx hb dX13_digits_132 (by decide) ?_
      exact (db_X13_digits_177 C K) (q22) s23 _ _ _ h hP hD hS (lv_sub hl [1] rfl)
set_option maxHeartbeats 40000000 in
set_option maxRecDepth 100000 in
theorem db_X13_digits_59 {p : Program} {l : Launch} {e : Env} {s : State} {m : MethodId} {args : Array Value} {below : List Frame} {meth : Method} {c : Code} {Q : State → Prop} {A : Nat → Prop} {dC : Nat → ClassId} {dI : Nat → Nat → Nat} {a : Nat → Nat} {ac : Nat → ClassId} {n : Nat} {r : St} (C : nd_C p l s m args c A (dC, dI) cX13_digits 6 RX13 ow_dm_X13_digits (dk_X13 ac)) (K : nd_Kv p l e (headSpec ow_dm_X13_digits ({ frames := 3, cells := 0, slots := 0, locals := 67 })).room s m args below meth c Q A (dC, dI) cX13_digits (St) (dw_X13 a ac) r) : dj_X13_digits_59 p l e s m args below meth c Q A dC dI a ac (df_X13_digits_59 n) r := by
  obtain ⟨hlt, hx, hb, hml, hown, hts, hN, hA, hK⟩ := id C
  intro x1 y0 s0 H locs ls h hP hD hS hl
  unfold df_X13_digits_59 at h
  refine lv_istore_n (lv' := [(2, .int y0), (0, .ref (a 0)), (1, .int x1)]) hx hb dX13_digits_59 rfl hl (by decide) rfl (fun ls hl => ?_)
  refine lv_iload_n hx hb dX13_digits_60 rfl (lv_at hl 0 rfl) ?_
  refine lv_if_eq (tgt := 86) hx hb dX13_digits_61 (by decide) (fun c3 => ?_) (fun c3 => ?_)
  · have h := nd_pos h c3
    refine lv_aload_n hx hb dX13_digits_86 rfl (lv_at hl 1 rfl) ?_
    refine va_get (D := (dC, dI)) (ci := 14) (v := .ref (a 4)) (C := RX13) (T := TX13) (N := 37) hx hb hts hi_dm_X13_digits_X13 hown hK hP 0 rfl rfl 3 (by decide) (hts (.fieldLink RX13 324 "TimeMachineModel$Assembler" "text" "[C") (List.mem_of_getElem? (i := 3) rfl)) (fun _ h9 => h9) rfl dX13_digits_87 ?_
    refine lv_aload_n hx hb dX13_digits_90 rfl (lv_at hl 1 rfl) ?_
    refine va_get (D := (dC, dI)) (ci := 14) (v := .int (sI s0 9)) (C := RX13) (T := TX13) (N := 37) hx hb hts hi_dm_X13_digits_X13 hown hK hP 0 rfl rfl 18 (by decide) (hts (.fieldLink RX13 368 "TimeMachineModel$Assembler" "from" "I") (List.mem_of_getElem? (i := 2) rfl)) (fun _ h9 => h9) rfl dX13_digits_91 ?_
    obtain ⟨i4, h⟩ := nd_ck_e h
    refine va_cald (i := (sI s0 9)) hx hb hK hP 4 3 rfl rfl i4 dX13_digits_94 ?_
    refine lv_bipush (v := 48) hx hb dX13_digits_95 (by decide) ?_
    refine lv_icmp_ne (tgt := 104) hx hb dX13_digits_97 (by decide) (fun c5 => ?_) (fun c5 => ?_)
    · have h := nd_neg h c5
      refine lv_iconst (v := 0) hx hb dX13_digits_104 (by decide) ?_
      exact (db_X13_digits_105 C K) (x1) (0) s0 _ _ _ h hP hD hS (lv_sub hl [1, 2] rfl)
    · have h := nd_pos h c5
      refine lv_iconst (v := 1) hx hb dX13_digits_100 (by decide) ?_
      refine lv_goto (tgt := 105) hx hb dX13_digits_101 (by decide) ?_
      exact (db_X13_digits_105 C K) (x1) (1) s0 _ _ _ h hP hD hS (lv_sub hl [1, 2] rfl)
  · have h := nd_neg h c3
    refine lv_aload_n hx hb dX13_digits_64 rfl (lv_at hl 1 rfl) ?_
    refine lv_iconst (v := 3) hx hb dX13_digits_65 (by decide) ?_
    refine va_put (D := (dC, dI)) (ci := 14) (v := .int 3) (ty := .int) (C := RX13) (T := TX13) (N := 37) hx hb hts hi_dm_X13_digits_X13 tyX13 tyX13_ok nmX13 hown hK hP hD hS 0 rfl rfl 17 (by decide) (hts (.fieldLink RX13 365 "TimeMachineModel$Assembler" "token" "I") (List.mem_of_getElem? (i := 8) rfl)) (fun _ h9 => h9) rfl (by decide +kernel) rfl rfl (Nat.le_of_ble_eq_true rfl) dX13_digits_66 (fun H locs hP hD hS => ?_)
    obtain ⟨s25, es25, h⟩ := nd_let_e h
    have hP : va_P (dC, dI) vwCl (dw_X13 a ac s25) H := by rw [es25]; exact hP
    have hD : va_D A (dw_X13 a ac s25) := by rw [es25]; exact hD
    refine lv_aload_n hx hb dX13_digits_69 rfl (lv_at hl 1 rfl) ?_
    refine lv_aload_n hx hb dX13_digits_70 rfl (lv_at hl 1 rfl) ?_
    refine va_get (D := (dC, dI)) (ci := 14) (v := .ref (a 4)) (C := RX13) (T := TX13) (N := 37) hx hb hts hi_dm_X13_digits_X13 hown hK hP 0 rfl rfl 3 (by decide) (hts (.fieldLink RX13 324 "TimeMachineModel$Assembler" "text" "[C") (List.mem_of_getElem? (i := 3) rfl)) (fun _ h9 => h9) rfl dX13_digits_71 ?_
    refine lv_aload_n hx hb dX13_digits_74 rfl (lv_at hl 1 rfl) ?_
    refine va_get (D := (dC, dI)) (ci := 14) (v := .int (sI s25 9)) (C := RX13) (T := TX13) (N := 37) hx hb hts hi_dm_X13_digits_X13 hown hK hP 0 rfl rfl 18 (by decide) (hts (.fieldLink RX13 368 "TimeMachineModel$Assembler" "from" "I") (List.mem_of_getElem? (i := 2) rfl)) (fun _ h9 => h9) rfl dX13_digits_75 ?_
    obtain ⟨i26, h⟩ := nd_ck_e h
    refine va_cald (i := (sI s25 9)) hx hb hK hP 4 3 rfl rfl i26 dX13_digits_78 ?_
    refine lv_bipush (v := 48) hx hb dX13_digits_79 (by decide) ?_
    refine lv_isub hx hb dX13_digits_81 ?_
    refine va_put (D := (dC, dI)) (ci := 14) (v := .int ((sR s25 2 (Int32.toNatClampNeg (sI s25 9))) - 48)) (ty := .int) (C := RX13) (T := TX13) (N := 37) hx hb hts hi_dm_X13_digits_X13 tyX13 tyX13_ok nmX13 hown hK hP hD hS 0 rfl rfl 20 (by decide) (hts (.fieldLink RX13 399 "TimeMachineModel$Assembler" "number" "I") (List.mem_of_getElem? (i := 9) rfl)) (fun _ h9 => h9) rfl (by decide +kernel) rfl rfl (Nat.le_of_ble_eq_true rfl) dX13_digits_82 (fun H locs hP hD hS => ?_)
    obtain ⟨s27, es27, h⟩ := nd_let_e h
    have hP : va_P (dC, dI) vwCl (dw_X13 a ac s27) H := by rw [es27]; exact hP
    have hD : va_D A (dw_X13 a ac s27) := by rw [es27]; exact hD
    exact K _ _ _ _ _ dX13_digits_85 (Option.some.inj h).symm hP hD hS
set_option maxHeartbeats 40000000 in
set_option maxRecDepth 100000 in
theorem db_X13_digits_58 {p : Program} {l : Launch} {e : Env} {s : State} {m : MethodId} {args : Array Value} {below : List Frame} {meth : Method} {c : Code} {Q : State → Prop} {A : Nat → Prop} {dC : Nat → ClassId} {dI : Nat → Nat → Nat} {a : Nat → Nat} {ac : Nat → ClassId} {n : Nat} {r : St} (C : nd_C p l s m args c A (dC, dI) cX13_digits 6 RX13 ow_dm_X13_digits (dk_X13 ac)) (K : nd_Kv p l e (headSpec ow_dm_X13_digits ({ frames := 3, cells := 0, slots := 0, locals := 67 })).room s m args below meth c Q A (dC, dI) cX13_digits (St) (dw_X13 a ac) r) : dj_X13_digits_58 p l e s m args below meth c Q A dC dI a ac (df_X13_digits_58 n) r := by
  obtain ⟨hlt, hx, hb, hml, hown, hts, hN, hA, hK⟩ := id C
  intro x1 s0 H locs ls h hP hD hS hl
  unfold df_X13_digits_58 at h
  refine lv_iconst (v := 0) hx hb dX13_digits_58 (by decide) ?_
  exact (db_X13_digits_59 C K) (x1) (0) s0 _ _ _ h hP hD hS (lv_sub hl [0, 1] rfl)
set_option maxHeartbeats 40000000 in
set_option maxRecDepth 100000 in
theorem db_X13_digits_54 {p : Program} {l : Launch} {e : Env} {s : State} {m : MethodId} {args : Array Value} {below : List Frame} {meth : Method} {c : Code} {Q : State → Prop} {A : Nat → Prop} {dC : Nat → ClassId} {dI : Nat → Nat → Nat} {a : Nat → Nat} {ac : Nat → ClassId} {n : Nat} {r : St} (C : nd_C p l s m args c A (dC, dI) cX13_digits 6 RX13 ow_dm_X13_digits (dk_X13 ac)) (K : nd_Kv p l e (headSpec ow_dm_X13_digits ({ frames := 3, cells := 0, slots := 0, locals := 67 })).room s m args below meth c Q A (dC, dI) cX13_digits (St) (dw_X13 a ac) r) : dj_X13_digits_54 p l e s m args below meth c Q A dC dI a ac (df_X13_digits_54 n) r := by
  obtain ⟨hlt, hx, hb, hml, hown, hts, hN, hA, hK⟩ := id C
  intro x1 s0 H locs ls h hP hD hS hl
  unfold df_X13_digits_54 at h
  refine lv_iconst (v := 1) hx hb dX13_digits_54 (by decide) ?_
  refine lv_goto (tgt := 59) hx hb dX13_digits_55 (by decide) ?_
  exact (db_X13_digits_59 C K) (x1) (1) s0 _ _ _ h hP hD hS (lv_sub hl [0, 1] rfl)
set_option maxHeartbeats 40000000 in
set_option maxRecDepth 100000 in
theorem db_X13_digits_28 {p : Program} {l : Launch} {e : Env} {s : State} {m : MethodId} {args : Array Value} {below : List Frame} {meth : Method} {c : Code} {Q : State → Prop} {A : Nat → Prop} {dC : Nat → ClassId} {dI : Nat → Nat → Nat} {a : Nat → Nat} {ac : Nat → ClassId} {n : Nat} {r : St} (C : nd_C p l s m args c A (dC, dI) cX13_digits 6 RX13 ow_dm_X13_digits (dk_X13 ac)) (K : nd_Kv p l e (headSpec ow_dm_X13_digits ({ frames := 3, cells := 0, slots := 0, locals := 67 })).room s m args below meth c Q A (dC, dI) cX13_digits (St) (dw_X13 a ac) r) : dj_X13_digits_28 p l e s m args below meth c Q A dC dI a ac (df_X13_digits_28 n) r := by
  obtain ⟨hlt, hx, hb, hml, hown, hts, hN, hA, hK⟩ := id C
  intro y0 s0 H locs ls h hP hD hS hl
  unfold df_X13_digits_28 at h
  refine lv_istore_n (lv' := [(1, .int y0), (0, .ref (a 0))]) hx hb dX13_digits_28 rfl hl (by decide) rfl (fun ls hl => ?_)
  refine lv_aload_n hx hb dX13_digits_29 rfl (lv_at hl 1 rfl) ?_
  refine va_get (D := (dC, dI)) (ci := 14) (v := .int (sI s0 10)) (C := RX13) (T := TX13) (N := 37) hx hb hts hi_dm_X13_digits_X13 hown hK hP 0 rfl rfl 19 (by decide) (hts (.fieldLink RX13 371 "TimeMachineModel$Assembler" "to" "I") (List.mem_of_getElem? (i := 1) rfl)) (fun _ h9 => h9) rfl dX13_digits_30 ?_
  refine lv_aload_n hx hb dX13_digits_33 rfl (lv_at hl 1 rfl) ?_
  refine va_get (D := (dC, dI)) (ci := 14) (v := .int (sI s0 9)) (C := RX13) (T := TX13) (N := 37) hx hb hts hi_dm_X13_digits_X13 hown hK hP 0 rfl rfl 18 (by decide) (hts (.fieldLink RX13 368 "TimeMachineModel$Assembler" "from" "I") (List.mem_of_getElem? (i := 2) rfl)) (fun _ h9 => h9) rfl dX13_digits_34 ?_
  refine lv_isub hx hb dX13_digits_37 ?_
  refine lv_iconst (v := 2) hx hb dX13_digits_38 (by decide) ?_
  refine lv_icmp_ne (tgt := 58) hx hb dX13_digits_39 (by decide) (fun c2 => ?_) (fun c2 => ?_)
  · have h := nd_neg h c2
    exact (db_X13_digits_58 C K) (y0) s0 _ _ _ h hP hD hS (lv_sub hl [1, 0] rfl)
  · have h := nd_pos h c2
    refine lv_iload_n hx hb dX13_digits_42 rfl (lv_at hl 0 rfl) ?_
    refine lv_bipush (v := 102) hx hb dX13_digits_43 (by decide) ?_
    refine lv_icmp_eq (tgt := 54) hx hb dX13_digits_45 (by decide) (fun c28 => ?_) (fun c28 => ?_)
    · have h := nd_pos h c28
      exact (db_X13_digits_54 C K) (y0) s0 _ _ _ h hP hD hS (lv_sub hl [1, 0] rfl)
    · have h := nd_neg h c28
      refine lv_iload_n hx hb dX13_digits_48 rfl (lv_at hl 0 rfl) ?_
      refine lv_bipush (v := 98) hx hb dX13_digits_49 (by decide) ?_
      refine lv_icmp_ne (tgt := 58) hx hb dX13_digits_51 (by decide) (fun c29 => ?_) (fun c29 => ?_)
      · have h := nd_neg h c29
        exact (db_X13_digits_58 C K) (y0) s0 _ _ _ h hP hD hS (lv_sub hl [1, 0] rfl)
      · have h := nd_pos h c29
        exact (db_X13_digits_54 C K) (y0) s0 _ _ _ h hP hD hS (lv_sub hl [1, 0] rfl)
set_option maxHeartbeats 40000000 in
set_option maxRecDepth 100000 in
theorem db_X13_digits_0 {p : Program} {l : Launch} {e : Env} {s : State} {m : MethodId} {args : Array Value} {below : List Frame} {meth : Method} {c : Code} {Q : State → Prop} {A : Nat → Prop} {dC : Nat → ClassId} {dI : Nat → Nat → Nat} {a : Nat → Nat} {ac : Nat → ClassId} {n : Nat} {r : St} (C : nd_C p l s m args c A (dC, dI) cX13_digits 6 RX13 ow_dm_X13_digits (dk_X13 ac)) (K : nd_Kv p l e (headSpec ow_dm_X13_digits ({ frames := 3, cells := 0, slots := 0, locals := 67 })).room s m args below meth c Q A (dC, dI) cX13_digits (St) (dw_X13 a ac) r) : dj_X13_digits_0 p l e s m args below meth c Q A dC dI a ac (df_X13_digits_0 n) r := by
  obtain ⟨hlt, hx, hb, hml, hown, hts, hN, hA, hK⟩ := id C
  intro s0 H locs ls h hP hD hS hl
  unfold df_X13_digits_0 at h
  refine lv_aload_n hx hb dX13_digits_0 rfl (lv_at hl 0 rfl) ?_
  refine va_get (D := (dC, dI)) (ci := 14) (v := .int (sI s0 10)) (C := RX13) (T := TX13) (N := 37) hx hb hts hi_dm_X13_digits_X13 hown hK hP 0 rfl rfl 19 (by decide) (hts (.fieldLink RX13 371 "TimeMachineModel$Assembler" "to" "I") (List.mem_of_getElem? (i := 1) rfl)) (fun _ h9 => h9) rfl dX13_digits_1 ?_
  refine lv_aload_n hx hb dX13_digits_4 rfl (lv_at hl 0 rfl) ?_
  refine va_get (D := (dC, dI)) (ci := 14) (v := .int (sI s0 9)) (C := RX13) (T := TX13) (N := 37) hx hb hts hi_dm_X13_digits_X13 hown hK hP 0 rfl rfl 18 (by decide) (hts (.fieldLink RX13 368 "TimeMachineModel$Assembler" "from" "I") (List.mem_of_getElem? (i := 2) rfl)) (fun _ h9 => h9) rfl dX13_digits_5 ?_
  refine lv_isub hx hb dX13_digits_8 ?_
  refine lv_iconst (v := 1) hx hb dX13_digits_9 (by decide) ?_
  refine lv_icmp_le (tgt := 27) hx hb dX13_digits_10 (by decide) (fun c1 => ?_) (fun c1 => ?_)
  · have h := nd_pos h c1
    refine lv_iconst (v := 0) hx hb dX13_digits_27 (by decide) ?_
    exact (db_X13_digits_28 C K) (0) s0 _ _ _ h hP hD hS (lv_sub hl [0] rfl)
  · have h := nd_neg h c1
    refine lv_aload_n hx hb dX13_digits_13 rfl (lv_at hl 0 rfl) ?_
    refine va_get (D := (dC, dI)) (ci := 14) (v := .ref (a 4)) (C := RX13) (T := TX13) (N := 37) hx hb hts hi_dm_X13_digits_X13 hown hK hP 0 rfl rfl 3 (by decide) (hts (.fieldLink RX13 324 "TimeMachineModel$Assembler" "text" "[C") (List.mem_of_getElem? (i := 3) rfl)) (fun _ h9 => h9) rfl dX13_digits_14 ?_
    refine lv_aload_n hx hb dX13_digits_17 rfl (lv_at hl 0 rfl) ?_
    refine va_get (D := (dC, dI)) (ci := 14) (v := .int (sI s0 9)) (C := RX13) (T := TX13) (N := 37) hx hb hts hi_dm_X13_digits_X13 hown hK hP 0 rfl rfl 18 (by decide) (hts (.fieldLink RX13 368 "TimeMachineModel$Assembler" "from" "I") (List.mem_of_getElem? (i := 2) rfl)) (fun _ h9 => h9) rfl dX13_digits_18 ?_
    refine lv_iconst (v := 1) hx hb dX13_digits_21 (by decide) ?_
    refine lv_iadd hx hb dX13_digits_22 ?_
    obtain ⟨i30, h⟩ := nd_ck_e h
    refine va_cald (i := ((sI s0 9) + 1)) hx hb hK hP 4 3 rfl rfl i30 dX13_digits_23 ?_
    refine lv_goto (tgt := 28) hx hb dX13_digits_24 (by decide) ?_
    exact (db_X13_digits_28 C K) ((sR s0 2 (Int32.toNatClampNeg ((sI s0 9) + 1)))) s0 _ _ _ h hP hD hS (lv_sub hl [0] rfl)
set_option maxHeartbeats 40000000 in
set_option maxRecDepth 100000 in
theorem dm_X13_digits (l : Launch) (hlt : l.stackTraces = false) (dC : Nat → ClassId) (dI : Nat → Nat → Nat) (a : Nat → Nat) (ac : Nat → ClassId) (n : Nat) (s0 : St) {r : St} (h : df_X13_digits n s0 = some r) (sz : Nat) : Met l yX13_digits ow_dm_X13_digits ({ frames := 3, cells := 0, slots := 0, locals := 67 }) (va_Pc [.ref (a 0)] (fun U => U.heap.size = sz ∧ va_P (dC, dI) vwCl (dw_X13 a ac s0) U.heap ∧ va_K (dC, dI) vwCl (dk_X13 ac) U ∧ va_D (fun _ => True) (dw_X13 a ac s0) ∧ nv_E (va_A (dw_X13 a ac s0) sz) U)) (va_Qv (fun _ => True) (fun (_ : Unit) t => va_P (dC, dI) vwCl (dw_X13 a ac r) t.heap ∧ va_K (dC, dI) vwCl (dk_X13 ac) t ∧ va_D (va_A (dw_X13 a ac s0) sz) (dw_X13 a ac r)) (va_A (dw_X13 a ac s0) sz)) 0 0 (va_A (dw_X13 a ac s0) sz) := by
  refine Met.ofW (cc := cX13_digits) (maxL := 6) (ret := none) (by decide) rfl ?_
  intro p e s m args below meth c s₁ B hml hv
  obtain ⟨rfl, hsz, hP, hK, hD0, hN⟩ := hv
  have hx := B.exec
  have hb := B.bytes
  have hr := B.returns
  have hts := atoms_spec (ws := ow_dm_X13_digits) B.pre
  have hown : s.vm.findClass RX13 = some m.cls := findClass_of_methodNamed B.named
  have hlocks := B.notSynchronized
  subst hsz
  have hD := hD0.self (sz := s.heap.size)
  generalize hAe : va_A (dw_X13 a ac s0) s.heap.size = A at hD hN ⊢
  have hA : ∀ q : Nat, s.heap.size ≤ q → A q := fun q h => by rw [← hAe]; exact Or.inr h
  have hl := lv_entry ([.ref (a 0)]) (n := 6) (Nat.le_of_ble_eq_true rfl)
  rw [lg_entry_eq]
  generalize (lg_sl ([.ref (a 0)]) ++ List.replicate (6 - (lg_sl ([.ref (a 0)])).length) Slot.unset).toArray = ls at hl ⊢
  have hl : lv_has ls 6 [(0, .ref (a 0))] := hl
  exact db_X13_digits_0 (dC := dC) (dI := dI) (a := a) (ac := ac) (n := n) (r := r) ⟨hlt, hx, hb, hml, hown, hts, hN, hA, hK⟩ (fun pc τ H locs ls d er hP hD hS => by subst er; exact W.vret hx hb hr (fun t ht hW => ⟨⟨(), rfl, trivial, by rw [ht]; exact hP, va_K.moved hW.alike hK, hD⟩, hS.F ht⟩) hS.2.2 d) s0 _ _ _ h hP hD va_S.rf (lv_sub hl [0] rfl)
def ow_dm_X13_scan : List Cond := .code yX13_scan cX13_scan 3 none :: ([.fieldLink RX13 374 "TimeMachineModel$Assembler" "at" "I", .methodLink RX13 358 yX13_charAt, .instanceMethod yX13_charAt, .selects RX13 yX13_charAt yX13_charAt, .initialized RX13, .fieldLink RX13 368 "TimeMachineModel$Assembler" "from" "I", .fieldLink RX13 371 "TimeMachineModel$Assembler" "to" "I", .fieldLink RX13 365 "TimeMachineModel$Assembler" "token" "I", .methodLink RX13 351 yX13_isDigit, .static yX13_isDigit, .methodLink RX13 362 yX13_isPlain, .static yX13_isPlain, .methodLink RX13 383 yX13_bad, .instanceMethod yX13_bad, .selects RX13 yX13_bad yX13_bad, .methodLink RX13 389 yX13_quote, .instanceMethod yX13_quote, .selects RX13 yX13_quote yX13_quote, .methodLink RX13 386 yX13_character, .instanceMethod yX13_character, .selects RX13 yX13_character yX13_character, .methodLink RX13 377 yX13_plain, .instanceMethod yX13_plain, .selects RX13 yX13_plain yX13_plain, .methodLink RX13 380 yX13_digits, .instanceMethod yX13_digits, .selects RX13 yX13_digits yX13_digits] ++ (u_ws RX13 TX13 37 ++ (ow_dm_X13_charAt ++ (ow_dm_X13_isDigit ++ (ow_dm_X13_isPlain ++ (ow_dm_X13_bad ++ (ow_dm_X13_quote ++ (ow_dm_X13_character ++ (ow_dm_X13_plain ++ (ow_dm_X13_digits ++ []))))))))))
theorem gd_dm_X13_scan : ∀ w ∈ ow_dm_X13_scan, (w.onTables && w.keeps) = true ∨ ∃ ty, w = Cond.arrayClass ty := List.forall_mem_cons.mpr ⟨good_of_word rfl, List.forall_mem_append.mpr ⟨fun w h => good_of_word (List.all_eq_true.mp (by decide +kernel) w h), List.forall_mem_append.mpr ⟨gu_X13, List.forall_mem_append.mpr ⟨gd_dm_X13_charAt, List.forall_mem_append.mpr ⟨gd_dm_X13_isDigit, List.forall_mem_append.mpr ⟨gd_dm_X13_isPlain, List.forall_mem_append.mpr ⟨gd_dm_X13_bad, List.forall_mem_append.mpr ⟨gd_dm_X13_quote, List.forall_mem_append.mpr ⟨gd_dm_X13_character, List.forall_mem_append.mpr ⟨gd_dm_X13_plain, List.forall_mem_append.mpr ⟨gd_dm_X13_digits, fun _ h => nomatch h⟩⟩⟩⟩⟩⟩⟩⟩⟩⟩⟩
theorem hi_dm_X13_scan_X13 : ∀ w ∈ u_ws RX13 TX13 37, w ∈ ow_dm_X13_scan := fun w h => List.mem_cons_of_mem _ (List.mem_append_right _ (List.mem_append_left _ h))
theorem gi_dm_X13_scan_0 : GoodIn ow_dm_X13_scan (wsV RX13 358 RX13 yX13_charAt ow_dm_X13_charAt) := goodIn_app (goodIn_of _ (by decide +kernel)) (fun w h => ⟨List.mem_cons_of_mem _ (List.mem_append_right _ (List.mem_append_right _ (List.mem_append_left _ h))), gd_dm_X13_charAt w h⟩)
theorem gi_dm_X13_scan_1 : GoodIn ow_dm_X13_scan (wsS RX13 351 yX13_isDigit ow_dm_X13_isDigit) := goodIn_app (goodIn_of _ (by decide +kernel)) (fun w h => ⟨List.mem_cons_of_mem _ (List.mem_append_right _ (List.mem_append_right _ (List.mem_append_right _ (List.mem_append_left _ h)))), gd_dm_X13_isDigit w h⟩)
theorem gi_dm_X13_scan_2 : GoodIn ow_dm_X13_scan (wsS RX13 362 yX13_isPlain ow_dm_X13_isPlain) := goodIn_app (goodIn_of _ (by decide +kernel)) (fun w h => ⟨List.mem_cons_of_mem _ (List.mem_append_right _ (List.mem_append_right _ (List.mem_append_right _ (List.mem_append_right _ (List.mem_append_left _ h))))), gd_dm_X13_isPlain w h⟩)
theorem gi_dm_X13_scan_3 : GoodIn ow_dm_X13_scan (wsV RX13 383 RX13 yX13_bad ow_dm_X13_bad) := goodIn_app (goodIn_of _ (by decide +kernel)) (fun w h => ⟨List.mem_cons_of_mem _ (List.mem_append_right _ (List.mem_append_right _ (List.mem_append_right _ (List.mem_append_right _ (List.mem_append_right _ (List.mem_append_left _ h)))))), gd_dm_X13_bad w h⟩)
theorem gi_dm_X13_scan_4 : GoodIn ow_dm_X13_scan (wsV RX13 389 RX13 yX13_quote ow_dm_X13_quote) := goodIn_app (goodIn_of _ (by decide +kernel)) (fun w h => ⟨List.mem_cons_of_mem _ (List.mem_append_right _ (List.mem_append_right _ (List.mem_append_right _ (List.mem_append_right _ (List.mem_append_right _ (List.mem_append_right _ (List.mem_append_left _ h))))))), gd_dm_X13_quote w h⟩)
theorem gi_dm_X13_scan_5 : GoodIn ow_dm_X13_scan (wsV RX13 386 RX13 yX13_character ow_dm_X13_character) := goodIn_app (goodIn_of _ (by decide +kernel)) (fun w h => ⟨List.mem_cons_of_mem _ (List.mem_append_right _ (List.mem_append_right _ (List.mem_append_right _ (List.mem_append_right _ (List.mem_append_right _ (List.mem_append_right _ (List.mem_append_right _ (List.mem_append_left _ h)))))))), gd_dm_X13_character w h⟩)
theorem gi_dm_X13_scan_6 : GoodIn ow_dm_X13_scan (wsV RX13 377 RX13 yX13_plain ow_dm_X13_plain) := goodIn_app (goodIn_of _ (by decide +kernel)) (fun w h => ⟨List.mem_cons_of_mem _ (List.mem_append_right _ (List.mem_append_right _ (List.mem_append_right _ (List.mem_append_right _ (List.mem_append_right _ (List.mem_append_right _ (List.mem_append_right _ (List.mem_append_right _ (List.mem_append_left _ h))))))))), gd_dm_X13_plain w h⟩)
theorem gi_dm_X13_scan_7 : GoodIn ow_dm_X13_scan (wsV RX13 380 RX13 yX13_digits ow_dm_X13_digits) := goodIn_app (goodIn_of _ (by decide +kernel)) (fun w h => ⟨List.mem_cons_of_mem _ (List.mem_append_right _ (List.mem_append_right _ (List.mem_append_right _ (List.mem_append_right _ (List.mem_append_right _ (List.mem_append_right _ (List.mem_append_right _ (List.mem_append_right _ (List.mem_append_right _ (List.mem_append_left _ h)))))))))), gd_dm_X13_digits w h⟩)
def dj_X13_scan_26 (p : Program) (l : Launch) (e : Env) (s : State) (m : MethodId) (args : Array Value) (below : List Frame) (meth : Method) (c : Code) (Q : State → Prop) (A : Nat → Prop) (dC : Nat → ClassId) (dI : Nat → Nat → Nat) (a : Nat → Nat) (ac : Nat → ClassId) (g : (St) → Option (St)) (r : St) : Prop := ∀ (s0 : St) (H : Heap) (locs : List Loc) (ls : Array Slot), g s0 = some r → va_P (dC, dI) vwCl (dw_X13 a ac s0) H → va_D A (dw_X13 a ac s0) → va_S A s.heap H locs → lv_has ls 3 [(0, .ref (a 0))] → W p l e (headSpec ow_dm_X13_scan ({ frames := 4, cells := 0, slots := 0, locals := 92 })).room s m args below meth c H locs 0 0 Q (F0 m 26 ls [])
def dj_X13_scan_348 (p : Program) (l : Launch) (e : Env) (s : State) (m : MethodId) (args : Array Value) (below : List Frame) (meth : Method) (c : Code) (Q : State → Prop) (A : Nat → Prop) (dC : Nat → ClassId) (dI : Nat → Nat → Nat) (a : Nat → Nat) (ac : Nat → ClassId) (g : (St) → Option (St)) (r : St) : Prop := ∀ (s0 : St) (H : Heap) (locs : List Loc) (ls : Array Slot), g s0 = some r → va_P (dC, dI) vwCl (dw_X13 a ac s0) H → va_D A (dw_X13 a ac s0) → va_S A s.heap H locs → lv_has ls 3 [(0, .ref (a 0))] → W p l e (headSpec ow_dm_X13_scan ({ frames := 4, cells := 0, slots := 0, locals := 92 })).room s m args below meth c H locs 0 0 Q (F0 m 348 ls [])
def dj_X13_scan_78 (p : Program) (l : Launch) (e : Env) (s : State) (m : MethodId) (args : Array Value) (below : List Frame) (meth : Method) (c : Code) (Q : State → Prop) (A : Nat → Prop) (dC : Nat → ClassId) (dI : Nat → Nat → Nat) (a : Nat → Nat) (ac : Nat → ClassId) (g : (St) → Option (St)) (r : St) : Prop := ∀ (s0 : St) (H : Heap) (locs : List Loc) (ls : Array Slot), g s0 = some r → va_P (dC, dI) vwCl (dw_X13 a ac s0) H → va_D A (dw_X13 a ac s0) → va_S A s.heap H locs → lv_has ls 3 [(0, .ref (a 0))] → W p l e (headSpec ow_dm_X13_scan ({ frames := 4, cells := 0, slots := 0, locals := 92 })).room s m args below meth c H locs 0 0 Q (F0 m 78 ls [])
def dj_X13_scan_217 (p : Program) (l : Launch) (e : Env) (s : State) (m : MethodId) (args : Array Value) (below : List Frame) (meth : Method) (c : Code) (Q : State → Prop) (A : Nat → Prop) (dC : Nat → ClassId) (dI : Nat → Nat → Nat) (a : Nat → Nat) (ac : Nat → ClassId) (g : Int32 → Int32 → (St) → Option (St)) (r : St) : Prop := ∀ (x1 : Int32) (y1 : Int32) (s0 : St) (H : Heap) (locs : List Loc) (ls : Array Slot), g x1 y1 s0 = some r → va_P (dC, dI) vwCl (dw_X13 a ac s0) H → va_D A (dw_X13 a ac s0) → va_S A s.heap H locs → lv_has ls 3 [(0, .ref (a 0)), (1, .int x1)] → W p l e (headSpec ow_dm_X13_scan ({ frames := 4, cells := 0, slots := 0, locals := 92 })).room s m args below meth c H locs 0 0 Q (F0 m 217 ls [.int y1, .ref (a 0)])
def dj_X13_scan_203 (p : Program) (l : Launch) (e : Env) (s : State) (m : MethodId) (args : Array Value) (below : List Frame) (meth : Method) (c : Code) (Q : State → Prop) (A : Nat → Prop) (dC : Nat → ClassId) (dI : Nat → Nat → Nat) (a : Nat → Nat) (ac : Nat → ClassId) (g : Int32 → (St) → Option (St)) (r : St) : Prop := ∀ (x1 : Int32) (s0 : St) (H : Heap) (locs : List Loc) (ls : Array Slot), g x1 s0 = some r → va_P (dC, dI) vwCl (dw_X13 a ac s0) H → va_D A (dw_X13 a ac s0) → va_S A s.heap H locs → lv_has ls 3 [(0, .ref (a 0)), (1, .int x1)] → W p l e (headSpec ow_dm_X13_scan ({ frames := 4, cells := 0, slots := 0, locals := 92 })).room s m args below meth c H locs 0 0 Q (F0 m 203 ls [])
def dj_X13_scan_334 (p : Program) (l : Launch) (e : Env) (s : State) (m : MethodId) (args : Array Value) (below : List Frame) (meth : Method) (c : Code) (Q : State → Prop) (A : Nat → Prop) (dC : Nat → ClassId) (dI : Nat → Nat → Nat) (a : Nat → Nat) (ac : Nat → ClassId) (g : Int32 → Int32 → (St) → Option (St)) (r : St) : Prop := ∀ (x1 : Int32) (y0 : Int32) (s0 : St) (H : Heap) (locs : List Loc) (ls : Array Slot), g x1 y0 s0 = some r → va_P (dC, dI) vwCl (dw_X13 a ac s0) H → va_D A (dw_X13 a ac s0) → va_S A s.heap H locs → lv_has ls 3 [(0, .ref (a 0)), (1, .int x1)] → W p l e (headSpec ow_dm_X13_scan ({ frames := 4, cells := 0, slots := 0, locals := 92 })).room s m args below meth c H locs 0 0 Q (F0 m 334 ls [.int y0])
def dj_X13_scan_329 (p : Program) (l : Launch) (e : Env) (s : State) (m : MethodId) (args : Array Value) (below : List Frame) (meth : Method) (c : Code) (Q : State → Prop) (A : Nat → Prop) (dC : Nat → ClassId) (dI : Nat → Nat → Nat) (a : Nat → Nat) (ac : Nat → ClassId) (g : Int32 → (St) → Option (St)) (r : St) : Prop := ∀ (x1 : Int32) (s0 : St) (H : Heap) (locs : List Loc) (ls : Array Slot), g x1 s0 = some r → va_P (dC, dI) vwCl (dw_X13 a ac s0) H → va_D A (dw_X13 a ac s0) → va_S A s.heap H locs → lv_has ls 3 [(0, .ref (a 0)), (1, .int x1)] → W p l e (headSpec ow_dm_X13_scan ({ frames := 4, cells := 0, slots := 0, locals := 92 })).room s m args below meth c H locs 0 0 Q (F0 m 329 ls [])
def dj_X13_scan_0 (p : Program) (l : Launch) (e : Env) (s : State) (m : MethodId) (args : Array Value) (below : List Frame) (meth : Method) (c : Code) (Q : State → Prop) (A : Nat → Prop) (dC : Nat → ClassId) (dI : Nat → Nat → Nat) (a : Nat → Nat) (ac : Nat → ClassId) (g : (St) → Option (St)) (r : St) : Prop := ∀ (s0 : St) (H : Heap) (locs : List Loc) (ls : Array Slot), g s0 = some r → va_P (dC, dI) vwCl (dw_X13 a ac s0) H → va_D A (dw_X13 a ac s0) → va_S A s.heap H locs → lv_has ls 3 [(0, .ref (a 0))] → W p l e (headSpec ow_dm_X13_scan ({ frames := 4, cells := 0, slots := 0, locals := 92 })).room s m args below meth c H locs 0 0 Q (F0 m 0 ls [])
set_option maxHeartbeats 40000000 in
set_option maxRecDepth 100000 in
theorem db_X13_scan_26 {p : Program} {l : Launch} {e : Env} {s : State} {m : MethodId} {args : Array Value} {below : List Frame} {meth : Method} {c : Code} {Q : State → Prop} {A : Nat → Prop} {dC : Nat → ClassId} {dI : Nat → Nat → Nat} {a : Nat → Nat} {ac : Nat → ClassId} {n : Nat} {r : St} (C : nd_C p l s m args c A (dC, dI) cX13_scan 3 RX13 ow_dm_X13_scan (dk_X13 ac)) (K : nd_Kv p l e (headSpec ow_dm_X13_scan ({ frames := 4, cells := 0, slots := 0, locals := 92 })).room s m args below meth c Q A (dC, dI) cX13_scan (St) (dw_X13 a ac) r) {g0 : (St) → Option (St)} (J0 : dj_X13_scan_0 p l e s m args below meth c Q A dC dI a ac g0 r) : dj_X13_scan_26 p l e s m args below meth c Q A dC dI a ac (df_X13_scan_26 n g0) r := by
  obtain ⟨hlt, hx, hb, hml, hown, hts, hN, hA, hK⟩ := id C
  intro s0 H locs ls h hP hD hS hl
  unfold df_X13_scan_26 at h
  refine lv_aload_n hx hb dX13_scan_26 rfl (lv_at hl 0 rfl) ?_
  refine lv_dup hx hb dX13_scan_27 rfl ?_
  refine va_get (D := (dC, dI)) (ci := 14) (v := .int (sI s0 7)) (C := RX13) (T := TX13) (N := 37) hx hb hts hi_dm_X13_scan_X13 hown hK hP 0 rfl rfl 16 (by decide) (hts (.fieldLink RX13 374 "TimeMachineModel$Assembler" "at" "I") (List.mem_of_getElem? (i := 1) rfl)) (fun _ h9 => h9) rfl dX13_scan_28 ?_
  refine lv_iconst (v := 1) hx hb dX13_scan_31 (by decide) ?_
  refine lv_iadd hx hb dX13_scan_32 ?_
  refine va_put (D := (dC, dI)) (ci := 14) (v := .int ((sI s0 7) + 1)) (ty := .int) (C := RX13) (T := TX13) (N := 37) hx hb hts hi_dm_X13_scan_X13 tyX13 tyX13_ok nmX13 hown hK hP hD hS 0 rfl rfl 16 (by decide) (hts (.fieldLink RX13 374 "TimeMachineModel$Assembler" "at" "I") (List.mem_of_getElem? (i := 1) rfl)) (fun _ h9 => h9) rfl (by decide +kernel) rfl rfl (Nat.le_of_ble_eq_true rfl) dX13_scan_33 (fun H locs hP hD hS => ?_)
  obtain ⟨s5, es5, h⟩ := nd_let_e h
  have hP : va_P (dC, dI) vwCl (dw_X13 a ac s5) H := by rw [es5]; exact hP
  have hD : va_D A (dw_X13 a ac s5) := by rw [es5]; exact hD
  refine lv_goto (tgt := 0) hx hb dX13_scan_36 (by decide) ?_
  exact (J0)  s5 _ _ _ h hP hD hS (lv_sub hl [0] rfl)
set_option maxHeartbeats 40000000 in
set_option maxRecDepth 100000 in
theorem db_X13_scan_348 {p : Program} {l : Launch} {e : Env} {s : State} {m : MethodId} {args : Array Value} {below : List Frame} {meth : Method} {c : Code} {Q : State → Prop} {A : Nat → Prop} {dC : Nat → ClassId} {dI : Nat → Nat → Nat} {a : Nat → Nat} {ac : Nat → ClassId} {n : Nat} {r : St} (C : nd_C p l s m args c A (dC, dI) cX13_scan 3 RX13 ow_dm_X13_scan (dk_X13 ac)) (K : nd_Kv p l e (headSpec ow_dm_X13_scan ({ frames := 4, cells := 0, slots := 0, locals := 92 })).room s m args below meth c Q A (dC, dI) cX13_scan (St) (dw_X13 a ac) r) : dj_X13_scan_348 p l e s m args below meth c Q A dC dI a ac (df_X13_scan_348 n) r := by
  obtain ⟨hlt, hx, hb, hml, hown, hts, hN, hA, hK⟩ := id C
  intro s0 H locs ls h hP hD hS hl
  unfold df_X13_scan_348 at h
  refine lv_aload_n hx hb dX13_scan_348 rfl (lv_at hl 0 rfl) ?_
  refine lv_aload_n hx hb dX13_scan_349 rfl (lv_at hl 0 rfl) ?_
  refine va_get (D := (dC, dI)) (ci := 14) (v := .int (sI s0 10)) (C := RX13) (T := TX13) (N := 37) hx hb hts hi_dm_X13_scan_X13 hown hK hP 0 rfl rfl 19 (by decide) (hts (.fieldLink RX13 371 "TimeMachineModel$Assembler" "to" "I") (List.mem_of_getElem? (i := 7) rfl)) (fun _ h9 => h9) rfl dX13_scan_350 ?_
  refine va_put (D := (dC, dI)) (ci := 14) (v := .int (sI s0 10)) (ty := .int) (C := RX13) (T := TX13) (N := 37) hx hb hts hi_dm_X13_scan_X13 tyX13 tyX13_ok nmX13 hown hK hP hD hS 0 rfl rfl 16 (by decide) (hts (.fieldLink RX13 374 "TimeMachineModel$Assembler" "at" "I") (List.mem_of_getElem? (i := 1) rfl)) (fun _ h9 => h9) rfl (by decide +kernel) rfl rfl (Nat.le_of_ble_eq_true rfl) dX13_scan_353 (fun H locs hP hD hS => ?_)
  obtain ⟨s18, es18, h⟩ := nd_let_e h
  have hP : va_P (dC, dI) vwCl (dw_X13 a ac s18) H := by rw [es18]; exact hP
  have hD : va_D A (dw_X13 a ac s18) := by rw [es18]; exact hD
  exact K _ _ _ _ _ dX13_scan_356 (Option.some.inj h).symm hP hD hS
set_option maxHeartbeats 40000000 in
set_option maxRecDepth 100000 in
theorem db_X13_scan_78 {p : Program} {l : Launch} {e : Env} {s : State} {m : MethodId} {args : Array Value} {below : List Frame} {meth : Method} {c : Code} {Q : State → Prop} {A : Nat → Prop} {dC : Nat → ClassId} {dI : Nat → Nat → Nat} {a : Nat → Nat} {ac : Nat → ClassId} {n : Nat} {r : St} (C : nd_C p l s m args c A (dC, dI) cX13_scan 3 RX13 ow_dm_X13_scan (dk_X13 ac)) (K : nd_Kv p l e (headSpec ow_dm_X13_scan ({ frames := 4, cells := 0, slots := 0, locals := 92 })).room s m args below meth c Q A (dC, dI) cX13_scan (St) (dw_X13 a ac) r) : dj_X13_scan_78 p l e s m args below meth c Q A dC dI a ac (df_X13_scan_78 n) r := by
  obtain ⟨hlt, hx, hb, hml, hown, hts, hN, hA, hK⟩ := id C
  intro s0 H locs ls h hP hD hS hl
  unfold df_X13_scan_78 at h
  refine lv_aload_n hx hb dX13_scan_78 rfl (lv_at hl 0 rfl) ?_
  refine lv_iconst (v := 0) hx hb dX13_scan_79 (by decide) ?_
  refine va_put (D := (dC, dI)) (ci := 14) (v := .int 0) (ty := .int) (C := RX13) (T := TX13) (N := 37) hx hb hts hi_dm_X13_scan_X13 tyX13 tyX13_ok nmX13 hown hK hP hD hS 0 rfl rfl 17 (by decide) (hts (.fieldLink RX13 365 "TimeMachineModel$Assembler" "token" "I") (List.mem_of_getElem? (i := 8) rfl)) (fun _ h9 => h9) rfl (by decide +kernel) rfl rfl (Nat.le_of_ble_eq_true rfl) dX13_scan_80 (fun H locs hP hD hS => ?_)
  obtain ⟨s16, es16, h⟩ := nd_let_e h
  have hP : va_P (dC, dI) vwCl (dw_X13 a ac s16) H := by rw [es16]; exact hP
  have hD : va_D A (dw_X13 a ac s16) := by rw [es16]; exact hD
  refine lv_aload_n hx hb dX13_scan_83 rfl (lv_at hl 0 rfl) ?_
  refine lv_aload_n hx hb dX13_scan_84 rfl (lv_at hl 0 rfl) ?_
  refine va_get (D := (dC, dI)) (ci := 14) (v := .int (sI s16 7)) (C := RX13) (T := TX13) (N := 37) hx hb hts hi_dm_X13_scan_X13 hown hK hP 0 rfl rfl 16 (by decide) (hts (.fieldLink RX13 374 "TimeMachineModel$Assembler" "at" "I") (List.mem_of_getElem? (i := 1) rfl)) (fun _ h9 => h9) rfl dX13_scan_85 ?_
  refine va_put (D := (dC, dI)) (ci := 14) (v := .int (sI s16 7)) (ty := .int) (C := RX13) (T := TX13) (N := 37) hx hb hts hi_dm_X13_scan_X13 tyX13 tyX13_ok nmX13 hown hK hP hD hS 0 rfl rfl 19 (by decide) (hts (.fieldLink RX13 371 "TimeMachineModel$Assembler" "to" "I") (List.mem_of_getElem? (i := 7) rfl)) (fun _ h9 => h9) rfl (by decide +kernel) rfl rfl (Nat.le_of_ble_eq_true rfl) dX13_scan_88 (fun H locs hP hD hS => ?_)
  obtain ⟨s17, es17, h⟩ := nd_let_e h
  have hP : va_P (dC, dI) vwCl (dw_X13 a ac s17) H := by rw [es17]; exact hP
  have hD : va_D A (dw_X13 a ac s17) := by rw [es17]; exact hD
  refine lv_goto (tgt := 348) hx hb dX13_scan_91 (by decide) ?_
  exact (db_X13_scan_348 C K)  s17 _ _ _ h hP hD hS (lv_sub hl [0] rfl)
set_option maxHeartbeats 40000000 in
set_option maxRecDepth 100000 in
theorem db_X13_scan_217 {p : Program} {l : Launch} {e : Env} {s : State} {m : MethodId} {args : Array Value} {below : List Frame} {meth : Method} {c : Code} {Q : State → Prop} {A : Nat → Prop} {dC : Nat → ClassId} {dI : Nat → Nat → Nat} {a : Nat → Nat} {ac : Nat → ClassId} {n : Nat} {r : St} (C : nd_C p l s m args c A (dC, dI) cX13_scan 3 RX13 ow_dm_X13_scan (dk_X13 ac)) (K : nd_Kv p l e (headSpec ow_dm_X13_scan ({ frames := 4, cells := 0, slots := 0, locals := 92 })).room s m args below meth c Q A (dC, dI) cX13_scan (St) (dw_X13 a ac) r) : dj_X13_scan_217 p l e s m args below meth c Q A dC dI a ac (df_X13_scan_217 n) r := by
  obtain ⟨hlt, hx, hb, hml, hown, hts, hN, hA, hK⟩ := id C
  intro x1 y1 s0 H locs ls h hP hD hS hl
  unfold df_X13_scan_217 at h
  refine va_put (D := (dC, dI)) (ci := 14) (v := .int y1) (ty := .int) (C := RX13) (T := TX13) (N := 37) hx hb hts hi_dm_X13_scan_X13 tyX13 tyX13_ok nmX13 hown hK hP hD hS 0 rfl rfl 17 (by decide) (hts (.fieldLink RX13 365 "TimeMachineModel$Assembler" "token" "I") (List.mem_of_getElem? (i := 8) rfl)) (fun _ h9 => h9) rfl (by decide +kernel) rfl rfl (Nat.le_of_ble_eq_true rfl) dX13_scan_217 (fun H locs hP hD hS => ?_)
  obtain ⟨s32, es32, h⟩ := nd_let_e h
  have hP : va_P (dC, dI) vwCl (dw_X13 a ac s32) H := by rw [es32]; exact hP
  have hD : va_D A (dw_X13 a ac s32) := by rw [es32]; exact hD
  refine lv_aload_n hx hb dX13_scan_220 rfl (lv_at hl 0 rfl) ?_
  refine lv_aload_n hx hb dX13_scan_221 rfl (lv_at hl 0 rfl) ?_
  refine va_get (D := (dC, dI)) (ci := 14) (v := .int (sI s32 7)) (C := RX13) (T := TX13) (N := 37) hx hb hts hi_dm_X13_scan_X13 hown hK hP 0 rfl rfl 16 (by decide) (hts (.fieldLink RX13 374 "TimeMachineModel$Assembler" "at" "I") (List.mem_of_getElem? (i := 1) rfl)) (fun _ h9 => h9) rfl dX13_scan_222 ?_
  refine lv_iconst (v := 2) hx hb dX13_scan_225 (by decide) ?_
  refine lv_iadd hx hb dX13_scan_226 ?_
  refine va_put (D := (dC, dI)) (ci := 14) (v := .int ((sI s32 7) + 2)) (ty := .int) (C := RX13) (T := TX13) (N := 37) hx hb hts hi_dm_X13_scan_X13 tyX13 tyX13_ok nmX13 hown hK hP hD hS 0 rfl rfl 19 (by decide) (hts (.fieldLink RX13 371 "TimeMachineModel$Assembler" "to" "I") (List.mem_of_getElem? (i := 7) rfl)) (fun _ h9 => h9) rfl (by decide +kernel) rfl rfl (Nat.le_of_ble_eq_true rfl) dX13_scan_227 (fun H locs hP hD hS => ?_)
  obtain ⟨s33, es33, h⟩ := nd_let_e h
  have hP : va_P (dC, dI) vwCl (dw_X13 a ac s33) H := by rw [es33]; exact hP
  have hD : va_D A (dw_X13 a ac s33) := by rw [es33]; exact hD
  refine lv_aload_n hx hb dX13_scan_230 rfl (lv_at hl 0 rfl) ?_
  refine lv_aload_n hx hb dX13_scan_231 rfl (lv_at hl 0 rfl) ?_
  refine va_get (D := (dC, dI)) (ci := 14) (v := .int (sI s33 7)) (C := RX13) (T := TX13) (N := 37) hx hb hts hi_dm_X13_scan_X13 hown hK hP 0 rfl rfl 16 (by decide) (hts (.fieldLink RX13 374 "TimeMachineModel$Assembler" "at" "I") (List.mem_of_getElem? (i := 1) rfl)) (fun _ h9 => h9) rfl dX13_scan_232 ?_
  refine lv_iconst (v := 1) hx hb dX13_scan_235 (by decide) ?_
  refine lv_iadd hx hb dX13_scan_236 ?_
  obtain ⟨q34, s35, hq, h⟩ := nd_b2_e h
  have hPc := hP
  have hDc := hD
  have hKc := hK
  have hFc := nd_rs hD hS hA
  refine nd_cVi (As := [.int ((sI s33 7) + 1)]) (rest := []) (q := q34) (w' := dw_X13 a ac s35) ⟨hx, hb, hml, hown, hts⟩ (fun sz => dm_X13_charAt l hlt dC dI a ac n (((sI s33 7) + 1)) s33 hq sz) (cwV 1 hts gi_dm_X13_scan_0 rfl rfl rfl (by decide +kernel) ⟨Nat.le_of_ble_eq_true rfl, Nat.le_of_ble_eq_true rfl⟩) hPc hDc hKc hS hA hN (va_recv hKc hPc (ci := 14) (q0 := 0) rfl rfl) rfl hl.1 rfl (Nat.le_of_ble_eq_true rfl) dX13_scan_237 (fun H locs hP1 hD1 hk1 hS => ?_)
  have hP := hP1
  have hD := hD1.weaken (fun k q _ h => hFc q.1 h)
  refine lv_iload_n hx hb dX13_scan_240 rfl (lv_at hl 1 rfl) ?_
  refine lv_icmp_eq (tgt := 348) hx hb dX13_scan_241 (by decide) (fun c37 => ?_) (fun c37 => ?_)
  · have h := nd_pos h c37
    exact (db_X13_scan_348 C K)  s35 _ _ _ h hP hD hS (lv_sub hl [0] rfl)
  · have h := nd_neg h c37
    refine lv_aload_n hx hb dX13_scan_244 rfl (lv_at hl 0 rfl) ?_
    obtain ⟨s39, hq, h⟩ := nd_b1_e h
    have hPc := hP
    have hDc := hD
    have hKc := hK
    have hFc := nd_rs hD hS hA
    refine nd_cVv (As := []) (rest := []) (w' := dw_X13 a ac s39) ⟨hx, hb, hml, hown, hts⟩ (fun sz => dm_X13_bad l hlt dC dI a ac n  s35 hq sz) (cwV 0 hts gi_dm_X13_scan_3 rfl rfl rfl (by decide +kernel) ⟨Nat.le_of_ble_eq_true rfl, Nat.le_of_ble_eq_true rfl⟩) hPc hDc hKc hS hA hN (va_recv hKc hPc (ci := 14) (q0 := 0) rfl rfl) rfl hl.1 rfl (Nat.le_of_ble_eq_true rfl) dX13_scan_245 (fun H locs hP1 hD1 hk1 hS => ?_)
    have hP := hP1
    have hD := hD1.weaken (fun k q _ h => hFc q.1 h)
    refine lv_goto (tgt := 348) hx hb dX13_scan_248 (by decide) ?_
    exact (db_X13_scan_348 C K)  s39 _ _ _ h hP hD hS (lv_sub hl [0] rfl)
set_option maxHeartbeats 40000000 in
set_option maxRecDepth 100000 in
theorem db_X13_scan_203 {p : Program} {l : Launch} {e : Env} {s : State} {m : MethodId} {args : Array Value} {below : List Frame} {meth : Method} {c : Code} {Q : State → Prop} {A : Nat → Prop} {dC : Nat → ClassId} {dI : Nat → Nat → Nat} {a : Nat → Nat} {ac : Nat → ClassId} {n : Nat} {r : St} (C : nd_C p l s m args c A (dC, dI) cX13_scan 3 RX13 ow_dm_X13_scan (dk_X13 ac)) (K : nd_Kv p l e (headSpec ow_dm_X13_scan ({ frames := 4, cells := 0, slots := 0, locals := 92 })).room s m args below meth c Q A (dC, dI) cX13_scan (St) (dw_X13 a ac) r) : dj_X13_scan_203 p l e s m args below meth c Q A dC dI a ac (df_X13_scan_203 n) r := by
  obtain ⟨hlt, hx, hb, hml, hown, hts, hN, hA, hK⟩ := id C
  intro x1 s0 H locs ls h hP hD hS hl
  unfold df_X13_scan_203 at h
  refine lv_aload_n hx hb dX13_scan_203 rfl (lv_at hl 0 rfl) ?_
  refine lv_iload_n hx hb dX13_scan_204 rfl (lv_at hl 1 rfl) ?_
  refine lv_bipush (v := 60) hx hb dX13_scan_205 (by decide) ?_
  refine lv_icmp_ne (tgt := 215) hx hb dX13_scan_207 (by decide) (fun c31 => ?_) (fun c31 => ?_)
  · have h := nd_neg h c31
    refine lv_bipush (v := 7) hx hb dX13_scan_215 (by decide) ?_
    exact (db_X13_scan_217 C K) (x1) (7) s0 _ _ _ h hP hD hS (lv_sub hl [0, 1] rfl)
  · have h := nd_pos h c31
    refine lv_bipush (v := 6) hx hb dX13_scan_210 (by decide) ?_
    refine lv_goto (tgt := 217) hx hb dX13_scan_212 (by decide) ?_
    exact (db_X13_scan_217 C K) (x1) (6) s0 _ _ _ h hP hD hS (lv_sub hl [0, 1] rfl)
set_option maxHeartbeats 40000000 in
set_option maxRecDepth 100000 in
theorem db_X13_scan_334 {p : Program} {l : Launch} {e : Env} {s : State} {m : MethodId} {args : Array Value} {below : List Frame} {meth : Method} {c : Code} {Q : State → Prop} {A : Nat → Prop} {dC : Nat → ClassId} {dI : Nat → Nat → Nat} {a : Nat → Nat} {ac : Nat → ClassId} {n : Nat} {r : St} (C : nd_C p l s m args c A (dC, dI) cX13_scan 3 RX13 ow_dm_X13_scan (dk_X13 ac)) (K : nd_Kv p l e (headSpec ow_dm_X13_scan ({ frames := 4, cells := 0, slots := 0, locals := 92 })).room s m args below meth c Q A (dC, dI) cX13_scan (St) (dw_X13 a ac) r) : dj_X13_scan_334 p l e s m args below meth c Q A dC dI a ac (df_X13_scan_334 n) r := by
  obtain ⟨hlt, hx, hb, hml, hown, hts, hN, hA, hK⟩ := id C
  intro x1 y0 s0 H locs ls h hP hD hS hl
  unfold df_X13_scan_334 at h
  refine lv_istore_n (lv' := [(2, .int y0), (0, .ref (a 0)), (1, .int x1)]) hx hb dX13_scan_334 rfl hl (by decide) rfl (fun ls hl => ?_)
  refine lv_aload_n hx hb dX13_scan_335 rfl (lv_at hl 1 rfl) ?_
  refine lv_iload_n hx hb dX13_scan_336 rfl (lv_at hl 2 rfl) ?_
  refine va_put (D := (dC, dI)) (ci := 14) (v := .int x1) (ty := .int) (C := RX13) (T := TX13) (N := 37) hx hb hts hi_dm_X13_scan_X13 tyX13 tyX13_ok nmX13 hown hK hP hD hS 0 rfl rfl 17 (by decide) (hts (.fieldLink RX13 365 "TimeMachineModel$Assembler" "token" "I") (List.mem_of_getElem? (i := 8) rfl)) (fun _ h9 => h9) rfl (by decide +kernel) rfl rfl (Nat.le_of_ble_eq_true rfl) dX13_scan_337 (fun H locs hP hD hS => ?_)
  obtain ⟨s43, es43, h⟩ := nd_let_e h
  have hP : va_P (dC, dI) vwCl (dw_X13 a ac s43) H := by rw [es43]; exact hP
  have hD : va_D A (dw_X13 a ac s43) := by rw [es43]; exact hD
  refine lv_iload_n hx hb dX13_scan_340 rfl (lv_at hl 0 rfl) ?_
  refine lv_if_ne (tgt := 348) hx hb dX13_scan_341 (by decide) (fun c44 => ?_) (fun c44 => ?_)
  · have h := nd_neg h c44
    exact (db_X13_scan_348 C K)  s43 _ _ _ h hP hD hS (lv_sub hl [1] rfl)
  · have h := nd_pos h c44
    refine lv_aload_n hx hb dX13_scan_344 rfl (lv_at hl 1 rfl) ?_
    obtain ⟨s46, hq, h⟩ := nd_b1_e h
    have hPc := hP
    have hDc := hD
    have hKc := hK
    have hFc := nd_rs hD hS hA
    refine nd_cVv (As := []) (rest := []) (w' := dw_X13 a ac s46) ⟨hx, hb, hml, hown, hts⟩ (fun sz => dm_X13_bad l hlt dC dI a ac n  s43 hq sz) (cwV 0 hts gi_dm_X13_scan_3 rfl rfl rfl (by decide +kernel) ⟨Nat.le_of_ble_eq_true rfl, Nat.le_of_ble_eq_true rfl⟩) hPc hDc hKc hS hA hN (va_recv hKc hPc (ci := 14) (q0 := 0) rfl rfl) rfl hl.1 rfl (Nat.le_of_ble_eq_true rfl) dX13_scan_345 (fun H locs hP1 hD1 hk1 hS => ?_)
    have hP := hP1
    have hD := hD1.weaken (fun k q _ h => hFc q.1 h)
    exact (db_X13_scan_348 C K)  s46 _ _ _ h hP hD hS (lv_sub hl [1] rfl)
set_option maxHeartbeats 40000000 in
set_option maxRecDepth 100000 in
theorem db_X13_scan_329 {p : Program} {l : Launch} {e : Env} {s : State} {m : MethodId} {args : Array Value} {below : List Frame} {meth : Method} {c : Code} {Q : State → Prop} {A : Nat → Prop} {dC : Nat → ClassId} {dI : Nat → Nat → Nat} {a : Nat → Nat} {ac : Nat → ClassId} {n : Nat} {r : St} (C : nd_C p l s m args c A (dC, dI) cX13_scan 3 RX13 ow_dm_X13_scan (dk_X13 ac)) (K : nd_Kv p l e (headSpec ow_dm_X13_scan ({ frames := 4, cells := 0, slots := 0, locals := 92 })).room s m args below meth c Q A (dC, dI) cX13_scan (St) (dw_X13 a ac) r) : dj_X13_scan_329 p l e s m args below meth c Q A dC dI a ac (df_X13_scan_329 n) r := by
  obtain ⟨hlt, hx, hb, hml, hown, hts, hN, hA, hK⟩ := id C
  intro x1 s0 H locs ls h hP hD hS hl
  unfold df_X13_scan_329 at h
  refine lv_iconst (v := 1) hx hb dX13_scan_329 (by decide) ?_
  refine lv_goto (tgt := 334) hx hb dX13_scan_330 (by decide) ?_
  exact (db_X13_scan_334 C K) (x1) (1) s0 _ _ _ h hP hD hS (lv_sub hl [0, 1] rfl)
set_option maxHeartbeats 40000000 in
set_option maxRecDepth 100000 in
theorem dB_X13_scan_0 {p : Program} {l : Launch} {e : Env} {s : State} {m : MethodId} {args : Array Value} {below : List Frame} {meth : Method} {c : Code} {Q : State → Prop} {A : Nat → Prop} {dC : Nat → ClassId} {dI : Nat → Nat → Nat} {a : Nat → Nat} {ac : Nat → ClassId} {n : Nat} {r : St} (C : nd_C p l s m args c A (dC, dI) cX13_scan 3 RX13 ow_dm_X13_scan (dk_X13 ac)) (K : nd_Kv p l e (headSpec ow_dm_X13_scan ({ frames := 4, cells := 0, slots := 0, locals := 92 })).room s m args below meth c Q A (dC, dI) cX13_scan (St) (dw_X13 a ac) r) {g0 : (St) → Option (St)} (J0 : dj_X13_scan_0 p l e s m args below meth c Q A dC dI a ac g0 r) : dj_X13_scan_0 p l e s m args below meth c Q A dC dI a ac (dF_X13_scan_0 n g0) r := by
  obtain ⟨hlt, hx, hb, hml, hown, hts, hN, hA, hK⟩ := id C
  intro s0 H locs ls h hP hD hS hl
  unfold dF_X13_scan_0 at h
  refine lv_aload_n hx hb dX13_scan_0 rfl (lv_at hl 0 rfl) ?_
  refine lv_aload_n hx hb dX13_scan_1 rfl (lv_at hl 0 rfl) ?_
  refine va_get (D := (dC, dI)) (ci := 14) (v := .int (sI s0 7)) (C := RX13) (T := TX13) (N := 37) hx hb hts hi_dm_X13_scan_X13 hown hK hP 0 rfl rfl 16 (by decide) (hts (.fieldLink RX13 374 "TimeMachineModel$Assembler" "at" "I") (List.mem_of_getElem? (i := 1) rfl)) (fun _ h9 => h9) rfl dX13_scan_2 ?_
  obtain ⟨q1, s2, hq, h⟩ := nd_b2_e h
  have hPc := hP
  have hDc := hD
  have hKc := hK
  have hFc := nd_rs hD hS hA
  refine nd_cVi (As := [.int (sI s0 7)]) (rest := []) (q := q1) (w' := dw_X13 a ac s2) ⟨hx, hb, hml, hown, hts⟩ (fun sz => dm_X13_charAt l hlt dC dI a ac n ((sI s0 7)) s0 hq sz) (cwV 1 hts gi_dm_X13_scan_0 rfl rfl rfl (by decide +kernel) ⟨Nat.le_of_ble_eq_true rfl, Nat.le_of_ble_eq_true rfl⟩) hPc hDc hKc hS hA hN (va_recv hKc hPc (ci := 14) (q0 := 0) rfl rfl) rfl hl.1 rfl (Nat.le_of_ble_eq_true rfl) dX13_scan_5 (fun H locs hP1 hD1 hk1 hS => ?_)
  have hP := hP1
  have hD := hD1.weaken (fun k q _ h => hFc q.1 h)
  refine lv_bipush (v := 9) hx hb dX13_scan_8 (by decide) ?_
  refine lv_icmp_eq (tgt := 26) hx hb dX13_scan_10 (by decide) (fun c4 => ?_) (fun c4 => ?_)
  · have h := nd_pos h c4
    exact (db_X13_scan_26 C K J0)  s2 _ _ _ h hP hD hS (lv_sub hl [0] rfl)
  · have h := nd_neg h c4
    refine lv_aload_n hx hb dX13_scan_13 rfl (lv_at hl 0 rfl) ?_
    refine lv_aload_n hx hb dX13_scan_14 rfl (lv_at hl 0 rfl) ?_
    refine va_get (D := (dC, dI)) (ci := 14) (v := .int (sI s2 7)) (C := RX13) (T := TX13) (N := 37) hx hb hts hi_dm_X13_scan_X13 hown hK hP 0 rfl rfl 16 (by decide) (hts (.fieldLink RX13 374 "TimeMachineModel$Assembler" "at" "I") (List.mem_of_getElem? (i := 1) rfl)) (fun _ h9 => h9) rfl dX13_scan_15 ?_
    obtain ⟨q6, s7, hq, h⟩ := nd_b2_e h
    have hPc := hP
    have hDc := hD
    have hKc := hK
    have hFc := nd_rs hD hS hA
    refine nd_cVi (As := [.int (sI s2 7)]) (rest := []) (q := q6) (w' := dw_X13 a ac s7) ⟨hx, hb, hml, hown, hts⟩ (fun sz => dm_X13_charAt l hlt dC dI a ac n ((sI s2 7)) s2 hq sz) (cwV 1 hts gi_dm_X13_scan_0 rfl rfl rfl (by decide +kernel) ⟨Nat.le_of_ble_eq_true rfl, Nat.le_of_ble_eq_true rfl⟩) hPc hDc hKc hS hA hN (va_recv hKc hPc (ci := 14) (q0 := 0) rfl rfl) rfl hl.1 rfl (Nat.le_of_ble_eq_true rfl) dX13_scan_18 (fun H locs hP1 hD1 hk1 hS => ?_)
    have hP := hP1
    have hD := hD1.weaken (fun k q _ h => hFc q.1 h)
    refine lv_bipush (v := 32) hx hb dX13_scan_21 (by decide) ?_
    refine lv_icmp_ne (tgt := 39) hx hb dX13_scan_23 (by decide) (fun c9 => ?_) (fun c9 => ?_)
    · have h := nd_neg h c9
      refine lv_aload_n hx hb dX13_scan_39 rfl (lv_at hl 0 rfl) ?_
      refine lv_aload_n hx hb dX13_scan_40 rfl (lv_at hl 0 rfl) ?_
      refine va_get (D := (dC, dI)) (ci := 14) (v := .int (sI s7 7)) (C := RX13) (T := TX13) (N := 37) hx hb hts hi_dm_X13_scan_X13 hown hK hP 0 rfl rfl 16 (by decide) (hts (.fieldLink RX13 374 "TimeMachineModel$Assembler" "at" "I") (List.mem_of_getElem? (i := 1) rfl)) (fun _ h9 => h9) rfl dX13_scan_41 ?_
      refine va_put (D := (dC, dI)) (ci := 14) (v := .int (sI s7 7)) (ty := .int) (C := RX13) (T := TX13) (N := 37) hx hb hts hi_dm_X13_scan_X13 tyX13 tyX13_ok nmX13 hown hK hP hD hS 0 rfl rfl 18 (by decide) (hts (.fieldLink RX13 368 "TimeMachineModel$Assembler" "from" "I") (List.mem_of_getElem? (i := 6) rfl)) (fun _ h9 => h9) rfl (by decide +kernel) rfl rfl (Nat.le_of_ble_eq_true rfl) dX13_scan_44 (fun H locs hP hD hS => ?_)
      obtain ⟨s10, es10, h⟩ := nd_let_e h
      have hP : va_P (dC, dI) vwCl (dw_X13 a ac s10) H := by rw [es10]; exact hP
      have hD : va_D A (dw_X13 a ac s10) := by rw [es10]; exact hD
      refine lv_aload_n hx hb dX13_scan_47 rfl (lv_at hl 0 rfl) ?_
      refine lv_aload_n hx hb dX13_scan_48 rfl (lv_at hl 0 rfl) ?_
      refine va_get (D := (dC, dI)) (ci := 14) (v := .int (sI s10 7)) (C := RX13) (T := TX13) (N := 37) hx hb hts hi_dm_X13_scan_X13 hown hK hP 0 rfl rfl 16 (by decide) (hts (.fieldLink RX13 374 "TimeMachineModel$Assembler" "at" "I") (List.mem_of_getElem? (i := 1) rfl)) (fun _ h9 => h9) rfl dX13_scan_49 ?_
      obtain ⟨q11, s12, hq, h⟩ := nd_b2_e h
      have hPc := hP
      have hDc := hD
      have hKc := hK
      have hFc := nd_rs hD hS hA
      refine nd_cVi (As := [.int (sI s10 7)]) (rest := []) (q := q11) (w' := dw_X13 a ac s12) ⟨hx, hb, hml, hown, hts⟩ (fun sz => dm_X13_charAt l hlt dC dI a ac n ((sI s10 7)) s10 hq sz) (cwV 1 hts gi_dm_X13_scan_0 rfl rfl rfl (by decide +kernel) ⟨Nat.le_of_ble_eq_true rfl, Nat.le_of_ble_eq_true rfl⟩) hPc hDc hKc hS hA hN (va_recv hKc hPc (ci := 14) (q0 := 0) rfl rfl) rfl hl.1 rfl (Nat.le_of_ble_eq_true rfl) dX13_scan_52 (fun H locs hP1 hD1 hk1 hS => ?_)
      have hP := hP1
      have hD := hD1.weaken (fun k q _ h => hFc q.1 h)
      refine lv_istore_n (lv' := [(1, .int q11), (0, .ref (a 0))]) hx hb dX13_scan_55 rfl hl (by decide) rfl (fun ls hl => ?_)
      refine lv_aload_n hx hb dX13_scan_56 rfl (lv_at hl 1 rfl) ?_
      refine lv_aload_n hx hb dX13_scan_57 rfl (lv_at hl 1 rfl) ?_
      refine va_get (D := (dC, dI)) (ci := 14) (v := .int (sI s12 7)) (C := RX13) (T := TX13) (N := 37) hx hb hts hi_dm_X13_scan_X13 hown hK hP 0 rfl rfl 16 (by decide) (hts (.fieldLink RX13 374 "TimeMachineModel$Assembler" "at" "I") (List.mem_of_getElem? (i := 1) rfl)) (fun _ h9 => h9) rfl dX13_scan_58 ?_
      refine lv_iconst (v := 1) hx hb dX13_scan_61 (by decide) ?_
      refine lv_iadd hx hb dX13_scan_62 ?_
      refine va_put (D := (dC, dI)) (ci := 14) (v := .int ((sI s12 7) + 1)) (ty := .int) (C := RX13) (T := TX13) (N := 37) hx hb hts hi_dm_X13_scan_X13 tyX13 tyX13_ok nmX13 hown hK hP hD hS 0 rfl rfl 19 (by decide) (hts (.fieldLink RX13 371 "TimeMachineModel$Assembler" "to" "I") (List.mem_of_getElem? (i := 7) rfl)) (fun _ h9 => h9) rfl (by decide +kernel) rfl rfl (Nat.le_of_ble_eq_true rfl) dX13_scan_63 (fun H locs hP hD hS => ?_)
      obtain ⟨s14, es14, h⟩ := nd_let_e h
      have hP : va_P (dC, dI) vwCl (dw_X13 a ac s14) H := by rw [es14]; exact hP
      have hD : va_D A (dw_X13 a ac s14) := by rw [es14]; exact hD
      refine lv_iload_n hx hb dX13_scan_66 rfl (lv_at hl 0 rfl) ?_
      refine lv_bipush (v := 10) hx hb dX13_scan_67 (by decide) ?_
      refine lv_icmp_eq (tgt := 78) hx hb dX13_scan_69 (by decide) (fun c15 => ?_) (fun c15 => ?_)
      · have h := nd_pos h c15
        exact (db_X13_scan_78 C K)  s14 _ _ _ h hP hD hS (lv_sub hl [1] rfl)
      · have h := nd_neg h c15
        refine lv_iload_n hx hb dX13_scan_72 rfl (lv_at hl 0 rfl) ?_
        refine lv_bipush (v := 35) hx hb dX13_scan_73 (by decide) ?_
        refine lv_icmp_ne (tgt := 94) hx hb dX13_scan_75 (by decide) (fun c19 => ?_) (fun c19 => ?_)
        · have h := nd_neg h c19
          refine lv_iload_n hx hb dX13_scan_94 rfl (lv_at hl 0 rfl) ?_
          obtain ⟨q20, s21, hq, h⟩ := nd_b2_e h
          have hPc : va_P (dC, dI) vwCl (dw_P a ac ()) H := nd_p0
          have hDc : va_D A (dw_P a ac ()) := nd_d0
          have hKc : va_K (dC, dI) vwCl (dk_P ac) s := nd_y0 hK
          have hFc : ∀ q, va_A (dw_P a ac ()) H.size q → A q := nd_r0 hS hA
          refine nd_cSi (As := [.int q11]) (rest := []) (q := q20) (w' := dw_P a ac s21) ⟨hx, hb, hml, hown, hts⟩ (fun sz => dm_X13_isDigit l hlt dC dI a ac n (q11) () hq sz) (cwS 1 hts gi_dm_X13_scan_1 rfl rfl rfl (by decide +kernel) ⟨Nat.le_of_ble_eq_true rfl, Nat.le_of_ble_eq_true rfl⟩) hPc hDc hKc hS hA hN rfl hl.1 rfl (Nat.le_of_ble_eq_true rfl) dX13_scan_95 (fun H locs hP1 hD1 hk1 hS => ?_)
          have hP := nd_n0 hP hk1
          refine lv_if_eq (tgt := 120) hx hb dX13_scan_98 (by decide) (fun c23 => ?_) (fun c23 => ?_)
          · have h := nd_pos h c23
            refine lv_iload_n hx hb dX13_scan_120 rfl (lv_at hl 0 rfl) ?_
            obtain ⟨q24, s25, hq, h⟩ := nd_b2_e h
            have hPc : va_P (dC, dI) vwCl (dw_P a ac ()) H := nd_p0
            have hDc : va_D A (dw_P a ac ()) := nd_d0
            have hKc : va_K (dC, dI) vwCl (dk_P ac) s := nd_y0 hK
            have hFc : ∀ q, va_A (dw_P a ac ()) H.size q → A q := nd_r0 hS hA
            refine nd_cSi (As := [.int q11]) (rest := []) (q := q24) (w' := dw_P a ac s25) ⟨hx, hb, hml, hown, hts⟩ (fun sz => dm_X13_isPlain l hlt dC dI a ac n (q11) () hq sz) (cwS 1 hts gi_dm_X13_scan_2 rfl rfl rfl (by decide +kernel) ⟨Nat.le_of_ble_eq_true rfl, Nat.le_of_ble_eq_true rfl⟩) hPc hDc hKc hS hA hN rfl hl.1 rfl (Nat.le_of_ble_eq_true rfl) dX13_scan_121 (fun H locs hP1 hD1 hk1 hS => ?_)
            have hP := nd_n0 hP hk1
            refine lv_if_eq (tgt := 165) hx hb dX13_scan_124 (by decide) (fun c27 => ?_) (fun c27 => ?_)
            · have h := nd_pos h c27
              refine lv_iload_n hx hb dX13_scan_165 rfl (lv_at hl 0 rfl) ?_
              refine lv_bipush (v := 39) hx hb dX13_scan_166 (by decide) ?_
              refine lv_icmp_ne (tgt := 178) hx hb dX13_scan_168 (by decide) (fun c28 => ?_) (fun c28 => ?_)
              · have h := nd_neg h c28
                refine lv_iload_n hx hb dX13_scan_178 rfl (lv_at hl 0 rfl) ?_
                refine lv_bipush (v := 34) hx hb dX13_scan_179 (by decide) ?_
                refine lv_icmp_ne (tgt := 191) hx hb dX13_scan_181 (by decide) (fun c29 => ?_) (fun c29 => ?_)
                · have h := nd_neg h c29
                  refine lv_iload_n hx hb dX13_scan_191 rfl (lv_at hl 0 rfl) ?_
                  refine lv_bipush (v := 60) hx hb dX13_scan_192 (by decide) ?_
                  refine lv_icmp_eq (tgt := 203) hx hb dX13_scan_194 (by decide) (fun c30 => ?_) (fun c30 => ?_)
                  · have h := nd_pos h c30
                    exact (db_X13_scan_203 C K) (q11) s14 _ _ _ h hP hD hS (lv_sub hl [1, 0] rfl)
                  · have h := nd_neg h c30
                    refine lv_iload_n hx hb dX13_scan_197 rfl (lv_at hl 0 rfl) ?_
                    refine lv_bipush (v := 62) hx hb dX13_scan_198 (by decide) ?_
                    refine lv_icmp_ne (tgt := 251) hx hb dX13_scan_200 (by decide) (fun c41 => ?_) (fun c41 => ?_)
                    · have h := nd_neg h c41
                      refine lv_iload_n hx hb dX13_scan_251 rfl (lv_at hl 0 rfl) ?_
                      refine lv_bipush (v := 58) hx hb dX13_scan_252 (by decide) ?_
                      refine lv_icmp_eq (tgt := 329) hx hb dX13_scan_254 (by decide) (fun c42 => ?_) (fun c42 => ?_)
                      · have h := nd_pos h c42
                        exact (db_X13_scan_329 C K) (q11) s14 _ _ _ h hP hD hS (lv_sub hl [1, 0] rfl)
                      · have h := nd_neg h c42
                        refine lv_iload_n hx hb dX13_scan_257 rfl (lv_at hl 0 rfl) ?_
                        refine lv_bipush (v := 44) hx hb dX13_scan_258 (by decide) ?_
                        refine lv_icmp_eq (tgt := 329) hx hb dX13_scan_260 (by decide) (fun c48 => ?_) (fun c48 => ?_)
                        · have h := nd_pos h c48
                          exact (db_X13_scan_329 C K) (q11) s14 _ _ _ h hP hD hS (lv_sub hl [1, 0] rfl)
                        · have h := nd_neg h c48
                          refine lv_iload_n hx hb dX13_scan_263 rfl (lv_at hl 0 rfl) ?_
                          refine lv_bipush (v := 40) hx hb dX13_scan_264 (by decide) ?_
                          refine lv_icmp_eq (tgt := 329) hx hb dX13_scan_266 (by decide) (fun c49 => ?_) (fun c49 => ?_)
                          · have h := nd_pos h c49
                            exact (db_X13_scan_329 C K) (q11) s14 _ _ _ h hP hD hS (lv_sub hl [1, 0] rfl)
                          · have h := nd_neg h c49
                            refine lv_iload_n hx hb dX13_scan_269 rfl (lv_at hl 0 rfl) ?_
                            refine lv_bipush (v := 41) hx hb dX13_scan_270 (by decide) ?_
                            refine lv_icmp_eq (tgt := 329) hx hb dX13_scan_272 (by decide) (fun c50 => ?_) (fun c50 => ?_)
                            · have h := nd_pos h c50
                              exact (db_X13_scan_329 C K) (q11) s14 _ _ _ h hP hD hS (lv_sub hl [1, 0] rfl)
                            · have h := nd_neg h c50
                              refine lv_iload_n hx hb dX13_scan_275 rfl (lv_at hl 0 rfl) ?_
                              refine lv_bipush (v := 43) hx hb dX13_scan_276 (by decide) ?_
                              refine lv_icmp_eq (tgt := 329) hx hb dX13_scan_278 (by decide) (fun c51 => ?_) (fun c51 => ?_)
                              · have h := nd_pos h c51
                                exact (db_X13_scan_329 C K) (q11) s14 _ _ _ h hP hD hS (lv_sub hl [1, 0] rfl)
                              · have h := nd_neg h c51
                                refine lv_iload_n hx hb dX13_scan_281 rfl (lv_at hl 0 rfl) ?_
                                refine lv_bipush (v := 45) hx hb dX13_scan_282 (by decide) ?_
                                refine lv_icmp_eq (tgt := 329) hx hb dX13_scan_284 (by decide) (fun c52 => ?_) (fun c52 => ?_)
                                · have h := nd_pos h c52
                                  exact (db_X13_scan_329 C K) (q11) s14 _ _ _ h hP hD hS (lv_sub hl [1, 0] rfl)
                                · have h := nd_neg h c52
                                  refine lv_iload_n hx hb dX13_scan_287 rfl (lv_at hl 0 rfl) ?_
                                  refine lv_bipush (v := 42) hx hb dX13_scan_288 (by decide) ?_
                                  refine lv_icmp_eq (tgt := 329) hx hb dX13_scan_290 (by decide) (fun c53 => ?_) (fun c53 => ?_)
                                  · have h := nd_pos h c53
                                    exact (db_X13_scan_329 C K) (q11) s14 _ _ _ h hP hD hS (lv_sub hl [1, 0] rfl)
                                  · have h := nd_neg h c53
                                    refine lv_iload_n hx hb dX13_scan_293 rfl (lv_at hl 0 rfl) ?_
                                    refine lv_bipush (v := 47) hx hb dX13_scan_294 (by decide) ?_
                                    refine lv_icmp_eq (tgt := 329) hx hb dX13_scan_296 (by decide) (fun c54 => ?_) (fun c54 => ?_)
                                    · have h := nd_pos h c54
                                      exact (db_X13_scan_329 C K) (q11) s14 _ _ _ h hP hD hS (lv_sub hl [1, 0] rfl)
                                    · have h := nd_neg h c54
                                      refine lv_iload_n hx hb dX13_scan_299 rfl (lv_at hl 0 rfl) ?_
                                      refine lv_bipush (v := 37) hx hb dX13_scan_300 (by decide) ?_
                                      refine lv_icmp_eq (tgt := 329) hx hb dX13_scan_302 (by decide) (fun c55 => ?_) (fun c55 => ?_)
                                      · have h := nd_pos h c55
                                        exact (db_X13_scan_329 C K) (q11) s14 _ _ _ h hP hD hS (lv_sub hl [1, 0] rfl)
                                      · have h := nd_neg h c55
                                        refine lv_iload_n hx hb dX13_scan_305 rfl (lv_at hl 0 rfl) ?_
                                        refine lv_bipush (v := 38) hx hb dX13_scan_306 (by decide) ?_
                                        refine lv_icmp_eq (tgt := 329) hx hb dX13_scan_308 (by decide) (fun c56 => ?_) (fun c56 => ?_)
                                        · have h := nd_pos h c56
                                          exact (db_X13_scan_329 C K) (q11) s14 _ _ _ h hP hD hS (lv_sub hl [1, 0] rfl)
                                        · have h := nd_neg h c56
                                          refine lv_iload_n hx hb dX13_scan_311 rfl (lv_at hl 0 rfl) ?_
                                          refine lv_bipush (v := 124) hx hb dX13_scan_312 (by decide) ?_
                                          refine lv_icmp_eq (tgt := 329) hx hb dX13_scan_314 (by decide) (fun c57 => ?_) (fun c57 => ?_)
                                          · have h := nd_pos h c57
                                            exact (db_X13_scan_329 C K) (q11) s14 _ _ _ h hP hD hS (lv_sub hl [1, 0] rfl)
                                          · have h := nd_neg h c57
                                            refine lv_iload_n hx hb dX13_scan_317 rfl (lv_at hl 0 rfl) ?_
                                            refine lv_bipush (v := 94) hx hb dX13_scan_318 (by decide) ?_
                                            refine lv_icmp_eq (tgt := 329) hx hb dX13_scan_320 (by decide) (fun c58 => ?_) (fun c58 => ?_)
                                            · have h := nd_pos h c58
                                              exact (db_X13_scan_329 C K) (q11) s14 _ _ _ h hP hD hS (lv_sub hl [1, 0] rfl)
                                            · have h := nd_neg h c58
                                              refine lv_iload_n hx hb dX13_scan_323 rfl (lv_at hl 0 rfl) ?_
                                              refine lv_bipush (v := 126) hx hb dX13_scan_324 (by decide) ?_
                                              refine lv_icmp_ne (tgt := 333) hx hb dX13_scan_326 (by decide) (fun c59 => ?_) (fun c59 => ?_)
                                              · have h := nd_neg h c59
                                                refine lv_iconst (v := 0) hx hb dX13_scan_333 (by decide) ?_
                                                exact (db_X13_scan_334 C K) (q11) (0) s14 _ _ _ h hP hD hS (lv_sub hl [1, 0] rfl)
                                              · have h := nd_pos h c59
                                                exact (db_X13_scan_329 C K) (q11) s14 _ _ _ h hP hD hS (lv_sub hl [1, 0] rfl)
                    · have h := nd_pos h c41
                      exact (db_X13_scan_203 C K) (q11) s14 _ _ _ h hP hD hS (lv_sub hl [1, 0] rfl)
                · have h := nd_pos h c29
                  refine lv_aload_n hx hb dX13_scan_184 rfl (lv_at hl 1 rfl) ?_
                  obtain ⟨s61, hq, h⟩ := nd_b1_e h
                  have hPc := hP
                  have hDc := hD
                  have hKc := hK
                  have hFc := nd_rs hD hS hA
                  refine nd_cVv (As := []) (rest := []) (w' := dw_X13 a ac s61) ⟨hx, hb, hml, hown, hts⟩ (fun sz => dm_X13_quote l hlt dC dI a ac n  s14 hq sz) (cwV 0 hts gi_dm_X13_scan_4 rfl rfl rfl (by decide +kernel) ⟨Nat.le_of_ble_eq_true rfl, Nat.le_of_ble_eq_true rfl⟩) hPc hDc hKc hS hA hN (va_recv hKc hPc (ci := 14) (q0 := 0) rfl rfl) rfl hl.1 rfl (Nat.le_of_ble_eq_true rfl) dX13_scan_185 (fun H locs hP1 hD1 hk1 hS => ?_)
                  have hP := hP1
                  have hD := hD1.weaken (fun k q _ h => hFc q.1 h)
                  refine lv_goto (tgt := 348) hx hb dX13_scan_188 (by decide) ?_
                  exact (db_X13_scan_348 C K)  s61 _ _ _ h hP hD hS (lv_sub hl [1] rfl)
              · have h := nd_pos h c28
                refine lv_aload_n hx hb dX13_scan_171 rfl (lv_at hl 1 rfl) ?_
                obtain ⟨s64, hq, h⟩ := nd_b1_e h
                have hPc := hP
                have hDc := hD
                have hKc := hK
                have hFc := nd_rs hD hS hA
                refine nd_cVv (As := []) (rest := []) (w' := dw_X13 a ac s64) ⟨hx, hb, hml, hown, hts⟩ (fun sz => dm_X13_character l hlt dC dI a ac n  s14 hq sz) (cwV 0 hts gi_dm_X13_scan_5 rfl rfl rfl (by decide +kernel) ⟨Nat.le_of_ble_eq_true rfl, Nat.le_of_ble_eq_true rfl⟩) hPc hDc hKc hS hA hN (va_recv hKc hPc (ci := 14) (q0 := 0) rfl rfl) rfl hl.1 rfl (Nat.le_of_ble_eq_true rfl) dX13_scan_172 (fun H locs hP1 hD1 hk1 hS => ?_)
                have hP := hP1
                have hD := hD1.weaken (fun k q _ h => hFc q.1 h)
                refine lv_goto (tgt := 348) hx hb dX13_scan_175 (by decide) ?_
                exact (db_X13_scan_348 C K)  s64 _ _ _ h hP hD hS (lv_sub hl [1] rfl)
            · have h := nd_neg h c27
              refine lv_aload_n hx hb dX13_scan_127 rfl (lv_at hl 1 rfl) ?_
              refine lv_aload_n hx hb dX13_scan_128 rfl (lv_at hl 1 rfl) ?_
              refine lv_aload_n hx hb dX13_scan_129 rfl (lv_at hl 1 rfl) ?_
              refine va_get (D := (dC, dI)) (ci := 14) (v := .int (sI s14 7)) (C := RX13) (T := TX13) (N := 37) hx hb hts hi_dm_X13_scan_X13 hown hK hP 0 rfl rfl 16 (by decide) (hts (.fieldLink RX13 374 "TimeMachineModel$Assembler" "at" "I") (List.mem_of_getElem? (i := 1) rfl)) (fun _ h9 => h9) rfl dX13_scan_130 ?_
              obtain ⟨q66, s67, hq, h⟩ := nd_b2_e h
              have hPc := hP
              have hDc := hD
              have hKc := hK
              have hFc := nd_rs hD hS hA
              refine nd_cVi (As := [.int (sI s14 7)]) (rest := [.ref (a 0)]) (q := q66) (w' := dw_X13 a ac s67) ⟨hx, hb, hml, hown, hts⟩ (fun sz => dm_X13_plain l hlt dC dI a ac n ((sI s14 7)) s14 hq sz) (cwV 1 hts gi_dm_X13_scan_6 rfl rfl rfl (by decide +kernel) ⟨Nat.le_of_ble_eq_true rfl, Nat.le_of_ble_eq_true rfl⟩) hPc hDc hKc hS hA hN (va_recv hKc hPc (ci := 14) (q0 := 0) rfl rfl) rfl hl.1 rfl (Nat.le_of_ble_eq_true rfl) dX13_scan_133 (fun H locs hP1 hD1 hk1 hS => ?_)
              have hP := hP1
              have hD := hD1.weaken (fun k q _ h => hFc q.1 h)
              refine va_put (D := (dC, dI)) (ci := 14) (v := .int q66) (ty := .int) (C := RX13) (T := TX13) (N := 37) hx hb hts hi_dm_X13_scan_X13 tyX13 tyX13_ok nmX13 hown hK hP hD hS 0 rfl rfl 19 (by decide) (hts (.fieldLink RX13 371 "TimeMachineModel$Assembler" "to" "I") (List.mem_of_getElem? (i := 7) rfl)) (fun _ h9 => h9) rfl (by decide +kernel) rfl rfl (Nat.le_of_ble_eq_true rfl) dX13_scan_136 (fun H locs hP hD hS => ?_)
              obtain ⟨s69, es69, h⟩ := nd_let_e h
              have hP : va_P (dC, dI) vwCl (dw_X13 a ac s69) H := by rw [es69]; exact hP
              have hD : va_D A (dw_X13 a ac s69) := by rw [es69]; exact hD
              refine lv_aload_n hx hb dX13_scan_139 rfl (lv_at hl 1 rfl) ?_
              refine lv_iconst (v := 1) hx hb dX13_scan_140 (by decide) ?_
              refine va_put (D := (dC, dI)) (ci := 14) (v := .int 1) (ty := .int) (C := RX13) (T := TX13) (N := 37) hx hb hts hi_dm_X13_scan_X13 tyX13 tyX13_ok nmX13 hown hK hP hD hS 0 rfl rfl 17 (by decide) (hts (.fieldLink RX13 365 "TimeMachineModel$Assembler" "token" "I") (List.mem_of_getElem? (i := 8) rfl)) (fun _ h9 => h9) rfl (by decide +kernel) rfl rfl (Nat.le_of_ble_eq_true rfl) dX13_scan_141 (fun H locs hP hD hS => ?_)
              obtain ⟨s70, es70, h⟩ := nd_let_e h
              have hP : va_P (dC, dI) vwCl (dw_X13 a ac s70) H := by rw [es70]; exact hP
              have hD : va_D A (dw_X13 a ac s70) := by rw [es70]; exact hD
              refine lv_aload_n hx hb dX13_scan_144 rfl (lv_at hl 1 rfl) ?_
              refine va_get (D := (dC, dI)) (ci := 14) (v := .int (sI s70 10)) (C := RX13) (T := TX13) (N := 37) hx hb hts hi_dm_X13_scan_X13 hown hK hP 0 rfl rfl 19 (by decide) (hts (.fieldLink RX13 371 "TimeMachineModel$Assembler" "to" "I") (List.mem_of_getElem? (i := 7) rfl)) (fun _ h9 => h9) rfl dX13_scan_145 ?_
              refine lv_aload_n hx hb dX13_scan_148 rfl (lv_at hl 1 rfl) ?_
              refine va_get (D := (dC, dI)) (ci := 14) (v := .int (sI s70 9)) (C := RX13) (T := TX13) (N := 37) hx hb hts hi_dm_X13_scan_X13 hown hK hP 0 rfl rfl 18 (by decide) (hts (.fieldLink RX13 368 "TimeMachineModel$Assembler" "from" "I") (List.mem_of_getElem? (i := 6) rfl)) (fun _ h9 => h9) rfl dX13_scan_149 ?_
              refine lv_isub hx hb dX13_scan_152 ?_
              refine lv_bipush (v := 31) hx hb dX13_scan_153 (by decide) ?_
              refine lv_icmp_le (tgt := 348) hx hb dX13_scan_155 (by decide) (fun c71 => ?_) (fun c71 => ?_)
              · have h := nd_pos h c71
                exact (db_X13_scan_348 C K)  s70 _ _ _ h hP hD hS (lv_sub hl [1] rfl)
              · have h := nd_neg h c71
                refine lv_aload_n hx hb dX13_scan_158 rfl (lv_at hl 1 rfl) ?_
                obtain ⟨s73, hq, h⟩ := nd_b1_e h
                have hPc := hP
                have hDc := hD
                have hKc := hK
                have hFc := nd_rs hD hS hA
                refine nd_cVv (As := []) (rest := []) (w' := dw_X13 a ac s73) ⟨hx, hb, hml, hown, hts⟩ (fun sz => dm_X13_bad l hlt dC dI a ac n  s70 hq sz) (cwV 0 hts gi_dm_X13_scan_3 rfl rfl rfl (by decide +kernel) ⟨Nat.le_of_ble_eq_true rfl, Nat.le_of_ble_eq_true rfl⟩) hPc hDc hKc hS hA hN (va_recv hKc hPc (ci := 14) (q0 := 0) rfl rfl) rfl hl.1 rfl (Nat.le_of_ble_eq_true rfl) dX13_scan_159 (fun H locs hP1 hD1 hk1 hS => ?_)
                have hP := hP1
                have hD := hD1.weaken (fun k q _ h => hFc q.1 h)
                refine lv_goto (tgt := 348) hx hb dX13_scan_162 (by decide) ?_
                exact (db_X13_scan_348 C K)  s73 _ _ _ h hP hD hS (lv_sub hl [1] rfl)
          · have h := nd_neg h c23
            refine lv_aload_n hx hb dX13_scan_101 rfl (lv_at hl 1 rfl) ?_
            refine lv_aload_n hx hb dX13_scan_102 rfl (lv_at hl 1 rfl) ?_
            refine lv_aload_n hx hb dX13_scan_103 rfl (lv_at hl 1 rfl) ?_
            refine va_get (D := (dC, dI)) (ci := 14) (v := .int (sI s14 7)) (C := RX13) (T := TX13) (N := 37) hx hb hts hi_dm_X13_scan_X13 hown hK hP 0 rfl rfl 16 (by decide) (hts (.fieldLink RX13 374 "TimeMachineModel$Assembler" "at" "I") (List.mem_of_getElem? (i := 1) rfl)) (fun _ h9 => h9) rfl dX13_scan_104 ?_
            obtain ⟨q75, s76, hq, h⟩ := nd_b2_e h
            have hPc := hP
            have hDc := hD
            have hKc := hK
            have hFc := nd_rs hD hS hA
            refine nd_cVi (As := [.int (sI s14 7)]) (rest := [.ref (a 0)]) (q := q75) (w' := dw_X13 a ac s76) ⟨hx, hb, hml, hown, hts⟩ (fun sz => dm_X13_plain l hlt dC dI a ac n ((sI s14 7)) s14 hq sz) (cwV 1 hts gi_dm_X13_scan_6 rfl rfl rfl (by decide +kernel) ⟨Nat.le_of_ble_eq_true rfl, Nat.le_of_ble_eq_true rfl⟩) hPc hDc hKc hS hA hN (va_recv hKc hPc (ci := 14) (q0 := 0) rfl rfl) rfl hl.1 rfl (Nat.le_of_ble_eq_true rfl) dX13_scan_107 (fun H locs hP1 hD1 hk1 hS => ?_)
            have hP := hP1
            have hD := hD1.weaken (fun k q _ h => hFc q.1 h)
            refine va_put (D := (dC, dI)) (ci := 14) (v := .int q75) (ty := .int) (C := RX13) (T := TX13) (N := 37) hx hb hts hi_dm_X13_scan_X13 tyX13 tyX13_ok nmX13 hown hK hP hD hS 0 rfl rfl 19 (by decide) (hts (.fieldLink RX13 371 "TimeMachineModel$Assembler" "to" "I") (List.mem_of_getElem? (i := 7) rfl)) (fun _ h9 => h9) rfl (by decide +kernel) rfl rfl (Nat.le_of_ble_eq_true rfl) dX13_scan_110 (fun H locs hP hD hS => ?_)
            obtain ⟨s78, es78, h⟩ := nd_let_e h
            have hP : va_P (dC, dI) vwCl (dw_X13 a ac s78) H := by rw [es78]; exact hP
            have hD : va_D A (dw_X13 a ac s78) := by rw [es78]; exact hD
            refine lv_aload_n hx hb dX13_scan_113 rfl (lv_at hl 1 rfl) ?_
            obtain ⟨s80, hq, h⟩ := nd_b1_e h
            have hPc := hP
            have hDc := hD
            have hKc := hK
            have hFc := nd_rs hD hS hA
            refine nd_cVv (As := []) (rest := []) (w' := dw_X13 a ac s80) ⟨hx, hb, hml, hown, hts⟩ (fun sz => dm_X13_digits l hlt dC dI a ac n  s78 hq sz) (cwV 0 hts gi_dm_X13_scan_7 rfl rfl rfl (by decide +kernel) ⟨Nat.le_of_ble_eq_true rfl, Nat.le_of_ble_eq_true rfl⟩) hPc hDc hKc hS hA hN (va_recv hKc hPc (ci := 14) (q0 := 0) rfl rfl) rfl hl.1 rfl (Nat.le_of_ble_eq_true rfl) dX13_scan_114 (fun H locs hP1 hD1 hk1 hS => ?_)
            have hP := hP1
            have hD := hD1.weaken (fun k q _ h => hFc q.1 h)
            refine lv_goto (tgt := 348) hx hb dX13_scan_117 (by decide) ?_
            exact (db_X13_scan_348 C K)  s80 _ _ _ h hP hD hS (lv_sub hl [1] rfl)
        · have h := nd_pos h c19
          exact (db_X13_scan_78 C K)  s14 _ _ _ h hP hD hS (lv_sub hl [1] rfl)
    · have h := nd_pos h c9
      exact (db_X13_scan_26 C K J0)  s7 _ _ _ h hP hD hS (lv_sub hl [0] rfl)
set_option maxHeartbeats 40000000 in
set_option maxRecDepth 100000 in
theorem db_X13_scan_0 {p : Program} {l : Launch} {e : Env} {s : State} {m : MethodId} {args : Array Value} {below : List Frame} {meth : Method} {c : Code} {Q : State → Prop} {A : Nat → Prop} {dC : Nat → ClassId} {dI : Nat → Nat → Nat} {a : Nat → Nat} {ac : Nat → ClassId} {n : Nat} {r : St} (C : nd_C p l s m args c A (dC, dI) cX13_scan 3 RX13 ow_dm_X13_scan (dk_X13 ac)) (K : nd_Kv p l e (headSpec ow_dm_X13_scan ({ frames := 4, cells := 0, slots := 0, locals := 92 })).room s m args below meth c Q A (dC, dI) cX13_scan (St) (dw_X13 a ac) r) (k : Nat) : dj_X13_scan_0 p l e s m args below meth c Q A dC dI a ac (df_X13_scan_0 n k) r := by
  induction k with
  | zero => intro s0 H locs ls h; exact nomatch (show (none : Option (St)) = some r from h)
  | succ k ih => exact dB_X13_scan_0 C K ih
set_option maxHeartbeats 40000000 in
set_option maxRecDepth 100000 in
theorem dm_X13_scan (l : Launch) (hlt : l.stackTraces = false) (dC : Nat → ClassId) (dI : Nat → Nat → Nat) (a : Nat → Nat) (ac : Nat → ClassId) (n : Nat) (s0 : St) {r : St} (h : df_X13_scan n s0 = some r) (sz : Nat) : Met l yX13_scan ow_dm_X13_scan ({ frames := 4, cells := 0, slots := 0, locals := 92 }) (va_Pc [.ref (a 0)] (fun U => U.heap.size = sz ∧ va_P (dC, dI) vwCl (dw_X13 a ac s0) U.heap ∧ va_K (dC, dI) vwCl (dk_X13 ac) U ∧ va_D (fun _ => True) (dw_X13 a ac s0) ∧ nv_E (va_A (dw_X13 a ac s0) sz) U)) (va_Qv (fun _ => True) (fun (_ : Unit) t => va_P (dC, dI) vwCl (dw_X13 a ac r) t.heap ∧ va_K (dC, dI) vwCl (dk_X13 ac) t ∧ va_D (va_A (dw_X13 a ac s0) sz) (dw_X13 a ac r)) (va_A (dw_X13 a ac s0) sz)) 0 0 (va_A (dw_X13 a ac s0) sz) := by
  refine Met.ofW (cc := cX13_scan) (maxL := 3) (ret := none) (by decide) rfl ?_
  intro p e s m args below meth c s₁ B hml hv
  obtain ⟨rfl, hsz, hP, hK, hD0, hN⟩ := hv
  have hx := B.exec
  have hb := B.bytes
  have hr := B.returns
  have hts := atoms_spec (ws := ow_dm_X13_scan) B.pre
  have hown : s.vm.findClass RX13 = some m.cls := findClass_of_methodNamed B.named
  have hlocks := B.notSynchronized
  subst hsz
  have hD := hD0.self (sz := s.heap.size)
  generalize hAe : va_A (dw_X13 a ac s0) s.heap.size = A at hD hN ⊢
  have hA : ∀ q : Nat, s.heap.size ≤ q → A q := fun q h => by rw [← hAe]; exact Or.inr h
  have hl := lv_entry ([.ref (a 0)]) (n := 3) (Nat.le_of_ble_eq_true rfl)
  rw [lg_entry_eq]
  generalize (lg_sl ([.ref (a 0)]) ++ List.replicate (3 - (lg_sl ([.ref (a 0)])).length) Slot.unset).toArray = ls at hl ⊢
  have hl : lv_has ls 3 [(0, .ref (a 0))] := hl
  exact db_X13_scan_0 (dC := dC) (dI := dI) (a := a) (ac := ac) (n := n) (r := r) ⟨hlt, hx, hb, hml, hown, hts, hN, hA, hK⟩ (fun pc τ H locs ls d er hP hD hS => by subst er; exact W.vret hx hb hr (fun t ht hW => ⟨⟨(), rfl, trivial, by rw [ht]; exact hP, va_K.moved hW.alike hK, hD⟩, hS.F ht⟩) hS.2.2 d) n s0 _ _ _ h hP hD va_S.rf (lv_sub hl [0] rfl)
def ow_dm_X13_blame : List Cond := .code yX13_blame cX13_blame 2 none :: ([.fieldLink RX13 410 "TimeMachineModel$Assembler" "fault" "I", .fieldLink RX13 413 "TimeMachineModel$Assembler" "line" "I"] ++ (u_ws RX13 TX13 37 ++ []))
theorem gd_dm_X13_blame : ∀ w ∈ ow_dm_X13_blame, (w.onTables && w.keeps) = true ∨ ∃ ty, w = Cond.arrayClass ty := List.forall_mem_cons.mpr ⟨good_of_word rfl, List.forall_mem_append.mpr ⟨fun w h => good_of_word (List.all_eq_true.mp (by decide +kernel) w h), List.forall_mem_append.mpr ⟨gu_X13, fun _ h => nomatch h⟩⟩⟩
theorem hi_dm_X13_blame_X13 : ∀ w ∈ u_ws RX13 TX13 37, w ∈ ow_dm_X13_blame := fun w h => List.mem_cons_of_mem _ (List.mem_append_right _ (List.mem_append_left _ h))
def dj_X13_blame_20 (p : Program) (l : Launch) (e : Env) (s : State) (m : MethodId) (args : Array Value) (below : List Frame) (meth : Method) (c : Code) (Q : State → Prop) (A : Nat → Prop) (dC : Nat → ClassId) (dI : Nat → Nat → Nat) (a : Nat → Nat) (ac : Nat → ClassId) (g : (St) → Option (St)) (r : St) : Prop := ∀ (s0 : St) (H : Heap) (locs : List Loc) (ls : Array Slot), g s0 = some r → va_P (dC, dI) vwCl (dw_X13 a ac s0) H → va_D A (dw_X13 a ac s0) → va_S A s.heap H locs → lv_has ls 2 [] → W p l e (headSpec ow_dm_X13_blame ({ frames := 0, cells := 0, slots := 0, locals := 0 })).room s m args below meth c H locs 0 0 Q (F0 m 20 ls [])
def dj_X13_blame_0 (p : Program) (l : Launch) (e : Env) (s : State) (m : MethodId) (args : Array Value) (below : List Frame) (meth : Method) (c : Code) (Q : State → Prop) (A : Nat → Prop) (dC : Nat → ClassId) (dI : Nat → Nat → Nat) (a : Nat → Nat) (ac : Nat → ClassId) (g : Int32 → (St) → Option (St)) (r : St) : Prop := ∀ (v0 : Int32) (s0 : St) (H : Heap) (locs : List Loc) (ls : Array Slot), g v0 s0 = some r → va_P (dC, dI) vwCl (dw_X13 a ac s0) H → va_D A (dw_X13 a ac s0) → va_S A s.heap H locs → lv_has ls 2 [(0, .ref (a 0)), (1, .int v0)] → W p l e (headSpec ow_dm_X13_blame ({ frames := 0, cells := 0, slots := 0, locals := 0 })).room s m args below meth c H locs 0 0 Q (F0 m 0 ls [])
set_option maxHeartbeats 40000000 in
set_option maxRecDepth 100000 in
theorem db_X13_blame_20 {p : Program} {l : Launch} {e : Env} {s : State} {m : MethodId} {args : Array Value} {below : List Frame} {meth : Method} {c : Code} {Q : State → Prop} {A : Nat → Prop} {dC : Nat → ClassId} {dI : Nat → Nat → Nat} {a : Nat → Nat} {ac : Nat → ClassId} {n : Nat} {r : St} (C : nd_C p l s m args c A (dC, dI) cX13_blame 2 RX13 ow_dm_X13_blame (dk_X13 ac)) (K : nd_Kv p l e (headSpec ow_dm_X13_blame ({ frames := 0, cells := 0, slots := 0, locals := 0 })).room s m args below meth c Q A (dC, dI) cX13_blame (St) (dw_X13 a ac) r) : dj_X13_blame_20 p l e s m args below meth c Q A dC dI a ac (df_X13_blame_20 n) r := by
  obtain ⟨hlt, hx, hb, hml, hown, hts, hN, hA, hK⟩ := id C
  intro s0 H locs ls h hP hD hS hl
  unfold df_X13_blame_20 at h
  exact K _ _ _ _ _ dX13_blame_20 (Option.some.inj h).symm hP hD hS
set_option maxHeartbeats 40000000 in
set_option maxRecDepth 100000 in
theorem db_X13_blame_0 {p : Program} {l : Launch} {e : Env} {s : State} {m : MethodId} {args : Array Value} {below : List Frame} {meth : Method} {c : Code} {Q : State → Prop} {A : Nat → Prop} {dC : Nat → ClassId} {dI : Nat → Nat → Nat} {a : Nat → Nat} {ac : Nat → ClassId} {n : Nat} {r : St} (C : nd_C p l s m args c A (dC, dI) cX13_blame 2 RX13 ow_dm_X13_blame (dk_X13 ac)) (K : nd_Kv p l e (headSpec ow_dm_X13_blame ({ frames := 0, cells := 0, slots := 0, locals := 0 })).room s m args below meth c Q A (dC, dI) cX13_blame (St) (dw_X13 a ac) r) : dj_X13_blame_0 p l e s m args below meth c Q A dC dI a ac (df_X13_blame_0 n) r := by
  obtain ⟨hlt, hx, hb, hml, hown, hts, hN, hA, hK⟩ := id C
  intro v0 s0 H locs ls h hP hD hS hl
  unfold df_X13_blame_0 at h
  refine lv_aload_n hx hb dX13_blame_0 rfl (lv_at hl 0 rfl) ?_
  refine va_get (D := (dC, dI)) (ci := 14) (v := .int (sI s0 12)) (C := RX13) (T := TX13) (N := 37) hx hb hts hi_dm_X13_blame_X13 hown hK hP 0 rfl rfl 21 (by decide) (hts (.fieldLink RX13 410 "TimeMachineModel$Assembler" "fault" "I") (List.mem_of_getElem? (i := 1) rfl)) (fun _ h9 => h9) rfl dX13_blame_1 ?_
  refine lv_if_ne (tgt := 20) hx hb dX13_blame_4 (by decide) (fun c1 => ?_) (fun c1 => ?_)
  · have h := nd_neg h c1
    exact (db_X13_blame_20 C K)  s0 _ _ _ h hP hD hS (lv_sub hl [] rfl)
  · have h := nd_pos h c1
    refine lv_aload_n hx hb dX13_blame_7 rfl (lv_at hl 0 rfl) ?_
    refine lv_iload_n hx hb dX13_blame_8 rfl (lv_at hl 1 rfl) ?_
    refine lv_bipush (v := 16) hx hb dX13_blame_9 (by decide) ?_
    refine lv_aload_n hx hb dX13_blame_11 rfl (lv_at hl 0 rfl) ?_
    refine va_get (D := (dC, dI)) (ci := 14) (v := .int (sI s0 13)) (C := RX13) (T := TX13) (N := 37) hx hb hts hi_dm_X13_blame_X13 hown hK hP 0 rfl rfl 22 (by decide) (hts (.fieldLink RX13 413 "TimeMachineModel$Assembler" "line" "I") (List.mem_of_getElem? (i := 2) rfl)) (fun _ h9 => h9) rfl dX13_blame_12 ?_
    refine lv_imul hx hb dX13_blame_15 ?_
    refine lv_iadd hx hb dX13_blame_16 ?_
    refine va_put (D := (dC, dI)) (ci := 14) (v := .int (v0 + (16 * (sI s0 13)))) (ty := .int) (C := RX13) (T := TX13) (N := 37) hx hb hts hi_dm_X13_blame_X13 tyX13 tyX13_ok nmX13 hown hK hP hD hS 0 rfl rfl 21 (by decide) (hts (.fieldLink RX13 410 "TimeMachineModel$Assembler" "fault" "I") (List.mem_of_getElem? (i := 1) rfl)) (fun _ h9 => h9) rfl (by decide +kernel) rfl rfl (Nat.le_of_ble_eq_true rfl) dX13_blame_17 (fun H locs hP hD hS => ?_)
    obtain ⟨s2, es2, h⟩ := nd_let_e h
    have hP : va_P (dC, dI) vwCl (dw_X13 a ac s2) H := by rw [es2]; exact hP
    have hD : va_D A (dw_X13 a ac s2) := by rw [es2]; exact hD
    exact (db_X13_blame_20 C K)  s2 _ _ _ h hP hD hS (lv_sub hl [] rfl)
set_option maxHeartbeats 40000000 in
set_option maxRecDepth 100000 in
theorem dm_X13_blame (l : Launch) (hlt : l.stackTraces = false) (dC : Nat → ClassId) (dI : Nat → Nat → Nat) (a : Nat → Nat) (ac : Nat → ClassId) (n : Nat) (v0 : Int32) (s0 : St) {r : St} (h : df_X13_blame n v0 s0 = some r) (sz : Nat) : Met l yX13_blame ow_dm_X13_blame ({ frames := 0, cells := 0, slots := 0, locals := 0 }) (va_Pc [.ref (a 0), .int v0] (fun U => U.heap.size = sz ∧ va_P (dC, dI) vwCl (dw_X13 a ac s0) U.heap ∧ va_K (dC, dI) vwCl (dk_X13 ac) U ∧ va_D (fun _ => True) (dw_X13 a ac s0) ∧ nv_E (va_A (dw_X13 a ac s0) sz) U)) (va_Qv (fun _ => True) (fun (_ : Unit) t => va_P (dC, dI) vwCl (dw_X13 a ac r) t.heap ∧ va_K (dC, dI) vwCl (dk_X13 ac) t ∧ va_D (va_A (dw_X13 a ac s0) sz) (dw_X13 a ac r)) (va_A (dw_X13 a ac s0) sz)) 0 0 (va_A (dw_X13 a ac s0) sz) := by
  refine Met.ofW (cc := cX13_blame) (maxL := 2) (ret := none) (by decide) rfl ?_
  intro p e s m args below meth c s₁ B hml hv
  obtain ⟨rfl, hsz, hP, hK, hD0, hN⟩ := hv
  have hx := B.exec
  have hb := B.bytes
  have hr := B.returns
  have hts := atoms_spec (ws := ow_dm_X13_blame) B.pre
  have hown : s.vm.findClass RX13 = some m.cls := findClass_of_methodNamed B.named
  have hlocks := B.notSynchronized
  subst hsz
  have hD := hD0.self (sz := s.heap.size)
  generalize hAe : va_A (dw_X13 a ac s0) s.heap.size = A at hD hN ⊢
  have hA : ∀ q : Nat, s.heap.size ≤ q → A q := fun q h => by rw [← hAe]; exact Or.inr h
  have hl := lv_entry ([.ref (a 0), .int v0]) (n := 2) (Nat.le_of_ble_eq_true rfl)
  rw [lg_entry_eq]
  generalize (lg_sl ([.ref (a 0), .int v0]) ++ List.replicate (2 - (lg_sl ([.ref (a 0), .int v0])).length) Slot.unset).toArray = ls at hl ⊢
  have hl : lv_has ls 2 [(0, .ref (a 0)), (1, .int v0)] := hl
  exact db_X13_blame_0 (dC := dC) (dI := dI) (a := a) (ac := ac) (n := n) (r := r) ⟨hlt, hx, hb, hml, hown, hts, hN, hA, hK⟩ (fun pc τ H locs ls d er hP hD hS => by subst er; exact W.vret hx hb hr (fun t ht hW => ⟨⟨(), rfl, trivial, by rw [ht]; exact hP, va_K.moved hW.alike hK, hD⟩, hS.F ht⟩) hS.2.2 d) v0 s0 _ _ _ h hP hD va_S.rf (lv_sub hl [0, 1] rfl)
def ow_dm_X13_needs : List Cond := .code yX13_needs cX13_needs 2 (some .boolean) :: ([.methodLink RX13 416 yX13_scan, .instanceMethod yX13_scan, .selects RX13 yX13_scan yX13_scan, .initialized RX13, .fieldLink RX13 365 "TimeMachineModel$Assembler" "token" "I", .methodLink RX13 419 yX13_blame, .instanceMethod yX13_blame, .selects RX13 yX13_blame yX13_blame] ++ (u_ws RX13 TX13 37 ++ (ow_dm_X13_scan ++ (ow_dm_X13_blame ++ []))))
theorem gd_dm_X13_needs : ∀ w ∈ ow_dm_X13_needs, (w.onTables && w.keeps) = true ∨ ∃ ty, w = Cond.arrayClass ty := List.forall_mem_cons.mpr ⟨good_of_word rfl, List.forall_mem_append.mpr ⟨fun w h => good_of_word (List.all_eq_true.mp (by decide +kernel) w h), List.forall_mem_append.mpr ⟨gu_X13, List.forall_mem_append.mpr ⟨gd_dm_X13_scan, List.forall_mem_append.mpr ⟨gd_dm_X13_blame, fun _ h => nomatch h⟩⟩⟩⟩⟩
theorem hi_dm_X13_needs_X13 : ∀ w ∈ u_ws RX13 TX13 37, w ∈ ow_dm_X13_needs := fun w h => List.mem_cons_of_mem _ (List.mem_append_right _ (List.mem_append_left _ h))
theorem gi_dm_X13_needs_0 : GoodIn ow_dm_X13_needs (wsV RX13 416 RX13 yX13_scan ow_dm_X13_scan) := goodIn_app (goodIn_of _ (by decide +kernel)) (fun w h => ⟨List.mem_cons_of_mem _ (List.mem_append_right _ (List.mem_append_right _ (List.mem_append_left _ h))), gd_dm_X13_scan w h⟩)
theorem gi_dm_X13_needs_1 : GoodIn ow_dm_X13_needs (wsV RX13 419 RX13 yX13_blame ow_dm_X13_blame) := goodIn_app (goodIn_of _ (by decide +kernel)) (fun w h => ⟨List.mem_cons_of_mem _ (List.mem_append_right _ (List.mem_append_right _ (List.mem_append_right _ (List.mem_append_left _ h)))), gd_dm_X13_blame w h⟩)
def dj_X13_needs_30 (p : Program) (l : Launch) (e : Env) (s : State) (m : MethodId) (args : Array Value) (below : List Frame) (meth : Method) (c : Code) (Q : State → Prop) (A : Nat → Prop) (dC : Nat → ClassId) (dI : Nat → Nat → Nat) (a : Nat → Nat) (ac : Nat → ClassId) (g : Int32 → (St) → Option (Int32 × (St))) (r : Int32 × (St)) : Prop := ∀ (y0 : Int32) (s0 : St) (H : Heap) (locs : List Loc) (ls : Array Slot), g y0 s0 = some r → va_P (dC, dI) vwCl (dw_X13 a ac s0) H → va_D A (dw_X13 a ac s0) → va_S A s.heap H locs → lv_has ls 2 [] → W p l e (headSpec ow_dm_X13_needs ({ frames := 5, cells := 0, slots := 0, locals := 114 })).room s m args below meth c H locs 0 0 Q (F0 m 30 ls [.int y0])
def dj_X13_needs_17 (p : Program) (l : Launch) (e : Env) (s : State) (m : MethodId) (args : Array Value) (below : List Frame) (meth : Method) (c : Code) (Q : State → Prop) (A : Nat → Prop) (dC : Nat → ClassId) (dI : Nat → Nat → Nat) (a : Nat → Nat) (ac : Nat → ClassId) (g : Int32 → (St) → Option (Int32 × (St))) (r : Int32 × (St)) : Prop := ∀ (x1 : Int32) (s0 : St) (H : Heap) (locs : List Loc) (ls : Array Slot), g x1 s0 = some r → va_P (dC, dI) vwCl (dw_X13 a ac s0) H → va_D A (dw_X13 a ac s0) → va_S A s.heap H locs → lv_has ls 2 [(0, .ref (a 0)), (1, .int x1)] → W p l e (headSpec ow_dm_X13_needs ({ frames := 5, cells := 0, slots := 0, locals := 114 })).room s m args below meth c H locs 0 0 Q (F0 m 17 ls [])
def dj_X13_needs_0 (p : Program) (l : Launch) (e : Env) (s : State) (m : MethodId) (args : Array Value) (below : List Frame) (meth : Method) (c : Code) (Q : State → Prop) (A : Nat → Prop) (dC : Nat → ClassId) (dI : Nat → Nat → Nat) (a : Nat → Nat) (ac : Nat → ClassId) (g : Int32 → (St) → Option (Int32 × (St))) (r : Int32 × (St)) : Prop := ∀ (v0 : Int32) (s0 : St) (H : Heap) (locs : List Loc) (ls : Array Slot), g v0 s0 = some r → va_P (dC, dI) vwCl (dw_X13 a ac s0) H → va_D A (dw_X13 a ac s0) → va_S A s.heap H locs → lv_has ls 2 [(0, .ref (a 0)), (1, .int v0)] → W p l e (headSpec ow_dm_X13_needs ({ frames := 5, cells := 0, slots := 0, locals := 114 })).room s m args below meth c H locs 0 0 Q (F0 m 0 ls [])
set_option maxHeartbeats 40000000 in
set_option maxRecDepth 100000 in
theorem db_X13_needs_30 {p : Program} {l : Launch} {e : Env} {s : State} {m : MethodId} {args : Array Value} {below : List Frame} {meth : Method} {c : Code} {Q : State → Prop} {A : Nat → Prop} {dC : Nat → ClassId} {dI : Nat → Nat → Nat} {a : Nat → Nat} {ac : Nat → ClassId} {n : Nat} {r : Int32 × (St)} (C : nd_C p l s m args c A (dC, dI) cX13_needs 2 RX13 ow_dm_X13_needs (dk_X13 ac)) (K : nd_Ki p l e (headSpec ow_dm_X13_needs ({ frames := 5, cells := 0, slots := 0, locals := 114 })).room s m args below meth c Q A (dC, dI) cX13_needs .boolean (St) (dw_X13 a ac) r) : dj_X13_needs_30 p l e s m args below meth c Q A dC dI a ac (df_X13_needs_30 n) r := by
  obtain ⟨hlt, hx, hb, hml, hown, hts, hN, hA, hK⟩ := id C
  intro y0 s0 H locs ls h hP hD hS hl
  unfold df_X13_needs_30 at h
  obtain ⟨n6, h⟩ := nd_z_e ⟨_, rfl⟩ h
  exact K _ _ _ _ _ _ dX13_needs_30 n6 (Option.some.inj h).symm hP hD hS
set_option maxHeartbeats 40000000 in
set_option maxRecDepth 100000 in
theorem db_X13_needs_17 {p : Program} {l : Launch} {e : Env} {s : State} {m : MethodId} {args : Array Value} {below : List Frame} {meth : Method} {c : Code} {Q : State → Prop} {A : Nat → Prop} {dC : Nat → ClassId} {dI : Nat → Nat → Nat} {a : Nat → Nat} {ac : Nat → ClassId} {n : Nat} {r : Int32 × (St)} (C : nd_C p l s m args c A (dC, dI) cX13_needs 2 RX13 ow_dm_X13_needs (dk_X13 ac)) (K : nd_Ki p l e (headSpec ow_dm_X13_needs ({ frames := 5, cells := 0, slots := 0, locals := 114 })).room s m args below meth c Q A (dC, dI) cX13_needs .boolean (St) (dw_X13 a ac) r) : dj_X13_needs_17 p l e s m args below meth c Q A dC dI a ac (df_X13_needs_17 n) r := by
  obtain ⟨hlt, hx, hb, hml, hown, hts, hN, hA, hK⟩ := id C
  intro x1 s0 H locs ls h hP hD hS hl
  unfold df_X13_needs_17 at h
  refine lv_aload_n hx hb dX13_needs_17 rfl (lv_at hl 0 rfl) ?_
  refine va_get (D := (dC, dI)) (ci := 14) (v := .int (sI s0 8)) (C := RX13) (T := TX13) (N := 37) hx hb hts hi_dm_X13_needs_X13 hown hK hP 0 rfl rfl 17 (by decide) (hts (.fieldLink RX13 365 "TimeMachineModel$Assembler" "token" "I") (List.mem_of_getElem? (i := 5) rfl)) (fun _ h9 => h9) rfl dX13_needs_18 ?_
  refine lv_iload_n hx hb dX13_needs_21 rfl (lv_at hl 1 rfl) ?_
  refine lv_icmp_ne (tgt := 29) hx hb dX13_needs_22 (by decide) (fun c5 => ?_) (fun c5 => ?_)
  · have h := nd_neg h c5
    refine lv_iconst (v := 0) hx hb dX13_needs_29 (by decide) ?_
    exact (db_X13_needs_30 C K) (0) s0 _ _ _ h hP hD hS (lv_sub hl [] rfl)
  · have h := nd_pos h c5
    refine lv_iconst (v := 1) hx hb dX13_needs_25 (by decide) ?_
    refine lv_goto (tgt := 30) hx hb dX13_needs_26 (by decide) ?_
    exact (db_X13_needs_30 C K) (1) s0 _ _ _ h hP hD hS (lv_sub hl [] rfl)
set_option maxHeartbeats 40000000 in
set_option maxRecDepth 100000 in
theorem db_X13_needs_0 {p : Program} {l : Launch} {e : Env} {s : State} {m : MethodId} {args : Array Value} {below : List Frame} {meth : Method} {c : Code} {Q : State → Prop} {A : Nat → Prop} {dC : Nat → ClassId} {dI : Nat → Nat → Nat} {a : Nat → Nat} {ac : Nat → ClassId} {n : Nat} {r : Int32 × (St)} (C : nd_C p l s m args c A (dC, dI) cX13_needs 2 RX13 ow_dm_X13_needs (dk_X13 ac)) (K : nd_Ki p l e (headSpec ow_dm_X13_needs ({ frames := 5, cells := 0, slots := 0, locals := 114 })).room s m args below meth c Q A (dC, dI) cX13_needs .boolean (St) (dw_X13 a ac) r) : dj_X13_needs_0 p l e s m args below meth c Q A dC dI a ac (df_X13_needs_0 n) r := by
  obtain ⟨hlt, hx, hb, hml, hown, hts, hN, hA, hK⟩ := id C
  intro v0 s0 H locs ls h hP hD hS hl
  unfold df_X13_needs_0 at h
  refine lv_aload_n hx hb dX13_needs_0 rfl (lv_at hl 0 rfl) ?_
  obtain ⟨s2, hq, h⟩ := nd_b1_e h
  have hPc := hP
  have hDc := hD
  have hKc := hK
  have hFc := nd_rs hD hS hA
  refine nd_cVv (As := []) (rest := []) (w' := dw_X13 a ac s2) ⟨hx, hb, hml, hown, hts⟩ (fun sz => dm_X13_scan l hlt dC dI a ac n  s0 hq sz) (cwV 0 hts gi_dm_X13_needs_0 rfl rfl rfl (by decide +kernel) ⟨Nat.le_of_ble_eq_true rfl, Nat.le_of_ble_eq_true rfl⟩) hPc hDc hKc hS hA hN (va_recv hKc hPc (ci := 14) (q0 := 0) rfl rfl) rfl hl.1 rfl (Nat.le_of_ble_eq_true rfl) dX13_needs_1 (fun H locs hP1 hD1 hk1 hS => ?_)
  have hP := hP1
  have hD := hD1.weaken (fun k q _ h => hFc q.1 h)
  refine lv_aload_n hx hb dX13_needs_4 rfl (lv_at hl 0 rfl) ?_
  refine va_get (D := (dC, dI)) (ci := 14) (v := .int (sI s2 8)) (C := RX13) (T := TX13) (N := 37) hx hb hts hi_dm_X13_needs_X13 hown hK hP 0 rfl rfl 17 (by decide) (hts (.fieldLink RX13 365 "TimeMachineModel$Assembler" "token" "I") (List.mem_of_getElem? (i := 5) rfl)) (fun _ h9 => h9) rfl dX13_needs_5 ?_
  refine lv_iload_n hx hb dX13_needs_8 rfl (lv_at hl 1 rfl) ?_
  refine lv_icmp_eq (tgt := 17) hx hb dX13_needs_9 (by decide) (fun c4 => ?_) (fun c4 => ?_)
  · have h := nd_pos h c4
    exact (db_X13_needs_17 C K) (v0) s2 _ _ _ h hP hD hS (lv_sub hl [0, 1] rfl)
  · have h := nd_neg h c4
    refine lv_aload_n hx hb dX13_needs_12 rfl (lv_at hl 0 rfl) ?_
    refine lv_iconst (v := 1) hx hb dX13_needs_13 (by decide) ?_
    obtain ⟨s8, hq, h⟩ := nd_b1_e h
    have hPc := hP
    have hDc := hD
    have hKc := hK
    have hFc := nd_rs hD hS hA
    refine nd_cVv (As := [.int 1]) (rest := []) (w' := dw_X13 a ac s8) ⟨hx, hb, hml, hown, hts⟩ (fun sz => dm_X13_blame l hlt dC dI a ac n (1) s2 hq sz) (cwV 1 hts gi_dm_X13_needs_1 rfl rfl rfl (by decide +kernel) ⟨Nat.le_of_ble_eq_true rfl, Nat.le_of_ble_eq_true rfl⟩) hPc hDc hKc hS hA hN (va_recv hKc hPc (ci := 14) (q0 := 0) rfl rfl) rfl hl.1 rfl (Nat.le_of_ble_eq_true rfl) dX13_needs_14 (fun H locs hP1 hD1 hk1 hS => ?_)
    have hP := hP1
    have hD := hD1.weaken (fun k q _ h => hFc q.1 h)
    exact (db_X13_needs_17 C K) (v0) s8 _ _ _ h hP hD hS (lv_sub hl [0, 1] rfl)
set_option maxHeartbeats 40000000 in
set_option maxRecDepth 100000 in
theorem dm_X13_needs (l : Launch) (hlt : l.stackTraces = false) (dC : Nat → ClassId) (dI : Nat → Nat → Nat) (a : Nat → Nat) (ac : Nat → ClassId) (n : Nat) (v0 : Int32) (s0 : St) {r : Int32 × (St)} (h : df_X13_needs n v0 s0 = some r) (sz : Nat) : Met l yX13_needs ow_dm_X13_needs ({ frames := 5, cells := 0, slots := 0, locals := 114 }) (va_Pc [.ref (a 0), .int v0] (fun U => U.heap.size = sz ∧ va_P (dC, dI) vwCl (dw_X13 a ac s0) U.heap ∧ va_K (dC, dI) vwCl (dk_X13 ac) U ∧ va_D (fun _ => True) (dw_X13 a ac s0) ∧ nv_E (va_A (dw_X13 a ac s0) sz) U)) (va_Qi (fun x _ => x = r.1) (fun (_ : Unit) t => va_P (dC, dI) vwCl (dw_X13 a ac r.2) t.heap ∧ va_K (dC, dI) vwCl (dk_X13 ac) t ∧ va_D (va_A (dw_X13 a ac s0) sz) (dw_X13 a ac r.2)) (va_A (dw_X13 a ac s0) sz)) 0 0 (va_A (dw_X13 a ac s0) sz) := by
  refine Met.ofW (cc := cX13_needs) (maxL := 2) (ret := (some .boolean)) (by decide) rfl ?_
  intro p e s m args below meth c s₁ B hml hv
  obtain ⟨rfl, hsz, hP, hK, hD0, hN⟩ := hv
  have hx := B.exec
  have hb := B.bytes
  have hr := B.returns
  have hts := atoms_spec (ws := ow_dm_X13_needs) B.pre
  have hown : s.vm.findClass RX13 = some m.cls := findClass_of_methodNamed B.named
  have hlocks := B.notSynchronized
  subst hsz
  have hD := hD0.self (sz := s.heap.size)
  generalize hAe : va_A (dw_X13 a ac s0) s.heap.size = A at hD hN ⊢
  have hA : ∀ q : Nat, s.heap.size ≤ q → A q := fun q h => by rw [← hAe]; exact Or.inr h
  have hl := lv_entry ([.ref (a 0), .int v0]) (n := 2) (Nat.le_of_ble_eq_true rfl)
  rw [lg_entry_eq]
  generalize (lg_sl ([.ref (a 0), .int v0]) ++ List.replicate (2 - (lg_sl ([.ref (a 0), .int v0])).length) Slot.unset).toArray = ls at hl ⊢
  have hl : lv_has ls 2 [(0, .ref (a 0)), (1, .int v0)] := hl
  exact db_X13_needs_0 (dC := dC) (dI := dI) (a := a) (ac := ac) (n := n) (r := r) ⟨hlt, hx, hb, hml, hown, hts, hN, hA, hK⟩ (fun pc v τ H locs ls d z er hP hD hS => by subst er; exact W.zret (v := v) hx hb hr z (fun t ht hW => ⟨⟨v, (), rfl, rfl, by rw [ht]; exact hP, va_K.moved hW.alike hK, hD⟩, hS.F ht⟩) hS.2.2 d) v0 s0 _ _ _ h hP hD va_S.rf (lv_sub hl [0, 1] rfl)
def ow_dm_X13_packed : List Cond := .code yX13_packed cX13_packed 7 (some .long) :: ([.fieldLink RX13 324 "TimeMachineModel$Assembler" "text" "[C", .methodLink RX13 351 yX13_isDigit, .static yX13_isDigit, .initialized RX13] ++ (u_ws RX13 TX13 37 ++ (ow_dm_X13_isDigit ++ [])))
theorem gd_dm_X13_packed : ∀ w ∈ ow_dm_X13_packed, (w.onTables && w.keeps) = true ∨ ∃ ty, w = Cond.arrayClass ty := List.forall_mem_cons.mpr ⟨good_of_word rfl, List.forall_mem_append.mpr ⟨fun w h => good_of_word (List.all_eq_true.mp (by decide +kernel) w h), List.forall_mem_append.mpr ⟨gu_X13, List.forall_mem_append.mpr ⟨gd_dm_X13_isDigit, fun _ h => nomatch h⟩⟩⟩⟩
theorem hi_dm_X13_packed_X13 : ∀ w ∈ u_ws RX13 TX13 37, w ∈ ow_dm_X13_packed := fun w h => List.mem_cons_of_mem _ (List.mem_append_right _ (List.mem_append_left _ h))
theorem gi_dm_X13_packed_0 : GoodIn ow_dm_X13_packed (wsS RX13 351 yX13_isDigit ow_dm_X13_isDigit) := goodIn_app (goodIn_of _ (by decide +kernel)) (fun w h => ⟨List.mem_cons_of_mem _ (List.mem_append_right _ (List.mem_append_right _ (List.mem_append_left _ h))), gd_dm_X13_isDigit w h⟩)
def dj_X13_packed_60 (p : Program) (l : Launch) (e : Env) (s : State) (m : MethodId) (args : Array Value) (below : List Frame) (meth : Method) (c : Code) (Q : State → Prop) (A : Nat → Prop) (dC : Nat → ClassId) (dI : Nat → Nat → Nat) (a : Nat → Nat) (ac : Nat → ClassId) (g : (St) → Option (Int64 × (St))) (r : Int64 × (St)) : Prop := ∀ (s0 : St) (H : Heap) (locs : List Loc) (ls : Array Slot), g s0 = some r → va_P (dC, dI) vwCl (dw_X13 a ac s0) H → va_D A (dw_X13 a ac s0) → va_S A s.heap H locs → lv_has ls 7 [] → W p l e (headSpec ow_dm_X13_packed ({ frames := 1, cells := 0, slots := 0, locals := 20 })).room s m args below meth c H locs 0 0 Q (F0 m 60 ls [])
def dj_X13_packed_102 (p : Program) (l : Launch) (e : Env) (s : State) (m : MethodId) (args : Array Value) (below : List Frame) (meth : Method) (c : Code) (Q : State → Prop) (A : Nat → Prop) (dC : Nat → ClassId) (dI : Nat → Nat → Nat) (a : Nat → Nat) (ac : Nat → ClassId) (g : Int32 → Int32 → Int64 → Int32 → (St) → Option (Int64 × (St))) (r : Int64 × (St)) : Prop := ∀ (x1 : Int32) (x5 : Int32) (y0 : Int64) (y1 : Int32) (s0 : St) (H : Heap) (locs : List Loc) (ls : Array Slot), g x1 x5 y0 y1 s0 = some r → va_P (dC, dI) vwCl (dw_X13 a ac s0) H → va_D A (dw_X13 a ac s0) → va_S A s.heap H locs → lv_has ls 7 [(0, .ref (a 0)), (1, .int x1), (5, .int x5)] → W p l e (headSpec ow_dm_X13_packed ({ frames := 1, cells := 0, slots := 0, locals := 20 })).room s m args below meth c H locs 0 0 Q (F0 m 102 ls [.int y1, .long y0])
def dj_X13_packed_46 (p : Program) (l : Launch) (e : Env) (s : State) (m : MethodId) (args : Array Value) (below : List Frame) (meth : Method) (c : Code) (Q : State → Prop) (A : Nat → Prop) (dC : Nat → ClassId) (dI : Nat → Nat → Nat) (a : Nat → Nat) (ac : Nat → ClassId) (g : Int32 → Int64 → Int32 → Int32 → (St) → Option (Int64 × (St))) (r : Int64 × (St)) : Prop := ∀ (x1 : Int32) (x3 : Int64) (x5 : Int32) (x6 : Int32) (s0 : St) (H : Heap) (locs : List Loc) (ls : Array Slot), g x1 x3 x5 x6 s0 = some r → va_P (dC, dI) vwCl (dw_X13 a ac s0) H → va_D A (dw_X13 a ac s0) → va_S A s.heap H locs → lv_has ls 7 [(0, .ref (a 0)), (1, .int x1), (3, .long x3), (5, .int x5), (6, .int x6)] → W p l e (headSpec ow_dm_X13_packed ({ frames := 1, cells := 0, slots := 0, locals := 20 })).room s m args below meth c H locs 0 0 Q (F0 m 46 ls [])
def dj_X13_packed_17 (p : Program) (l : Launch) (e : Env) (s : State) (m : MethodId) (args : Array Value) (below : List Frame) (meth : Method) (c : Code) (Q : State → Prop) (A : Nat → Prop) (dC : Nat → ClassId) (dI : Nat → Nat → Nat) (a : Nat → Nat) (ac : Nat → ClassId) (g : Int32 → Int64 → Int32 → (St) → Option (Int64 × (St))) (r : Int64 × (St)) : Prop := ∀ (x1 : Int32) (x3 : Int64) (x5 : Int32) (s0 : St) (H : Heap) (locs : List Loc) (ls : Array Slot), g x1 x3 x5 s0 = some r → va_P (dC, dI) vwCl (dw_X13 a ac s0) H → va_D A (dw_X13 a ac s0) → va_S A s.heap H locs → lv_has ls 7 [(0, .ref (a 0)), (1, .int x1), (3, .long x3), (5, .int x5)] → W p l e (headSpec ow_dm_X13_packed ({ frames := 1, cells := 0, slots := 0, locals := 20 })).room s m args below meth c H locs 0 0 Q (F0 m 17 ls [])
def dj_X13_packed_0 (p : Program) (l : Launch) (e : Env) (s : State) (m : MethodId) (args : Array Value) (below : List Frame) (meth : Method) (c : Code) (Q : State → Prop) (A : Nat → Prop) (dC : Nat → ClassId) (dI : Nat → Nat → Nat) (a : Nat → Nat) (ac : Nat → ClassId) (g : Int32 → Int32 → (St) → Option (Int64 × (St))) (r : Int64 × (St)) : Prop := ∀ (v0 : Int32) (v1 : Int32) (s0 : St) (H : Heap) (locs : List Loc) (ls : Array Slot), g v0 v1 s0 = some r → va_P (dC, dI) vwCl (dw_X13 a ac s0) H → va_D A (dw_X13 a ac s0) → va_S A s.heap H locs → lv_has ls 7 [(0, .ref (a 0)), (1, .int v0), (2, .int v1)] → W p l e (headSpec ow_dm_X13_packed ({ frames := 1, cells := 0, slots := 0, locals := 20 })).room s m args below meth c H locs 0 0 Q (F0 m 0 ls [])
set_option maxHeartbeats 40000000 in
set_option maxRecDepth 100000 in
theorem db_X13_packed_60 {p : Program} {l : Launch} {e : Env} {s : State} {m : MethodId} {args : Array Value} {below : List Frame} {meth : Method} {c : Code} {Q : State → Prop} {A : Nat → Prop} {dC : Nat → ClassId} {dI : Nat → Nat → Nat} {a : Nat → Nat} {ac : Nat → ClassId} {n : Nat} {r : Int64 × (St)} (C : nd_C p l s m args c A (dC, dI) cX13_packed 7 RX13 ow_dm_X13_packed (dk_X13 ac)) (K : nd_Kl p l e (headSpec ow_dm_X13_packed ({ frames := 1, cells := 0, slots := 0, locals := 20 })).room s m args below meth c Q A (dC, dI) cX13_packed (St) (dw_X13 a ac) r) : dj_X13_packed_60 p l e s m args below meth c Q A dC dI a ac (df_X13_packed_60 n) r := by
  obtain ⟨hlt, hx, hb, hml, hown, hts, hN, hA, hK⟩ := id C
  intro s0 H locs ls h hP hD hS hl
  unfold df_X13_packed_60 at h
  refine lv_lconst (v := 0) hx hb dX13_packed_60 (by decide) ?_
  exact K _ _ _ _ _ _ dX13_packed_61 (Option.some.inj h).symm hP hD hS
set_option maxHeartbeats 40000000 in
set_option maxRecDepth 100000 in
theorem db_X13_packed_102 {p : Program} {l : Launch} {e : Env} {s : State} {m : MethodId} {args : Array Value} {below : List Frame} {meth : Method} {c : Code} {Q : State → Prop} {A : Nat → Prop} {dC : Nat → ClassId} {dI : Nat → Nat → Nat} {a : Nat → Nat} {ac : Nat → ClassId} {n : Nat} {r : Int64 × (St)} (C : nd_C p l s m args c A (dC, dI) cX13_packed 7 RX13 ow_dm_X13_packed (dk_X13 ac)) (K : nd_Kl p l e (headSpec ow_dm_X13_packed ({ frames := 1, cells := 0, slots := 0, locals := 20 })).room s m args below meth c Q A (dC, dI) cX13_packed (St) (dw_X13 a ac) r) {g17 : Int32 → Int64 → Int32 → (St) → Option (Int64 × (St))} (J17 : dj_X13_packed_17 p l e s m args below meth c Q A dC dI a ac g17 r) : dj_X13_packed_102 p l e s m args below meth c Q A dC dI a ac (df_X13_packed_102 n g17) r := by
  obtain ⟨hlt, hx, hb, hml, hown, hts, hN, hA, hK⟩ := id C
  intro x1 x5 y0 y1 s0 H locs ls h hP hD hS hl
  unfold df_X13_packed_102 at h
  refine lv_i2l hx hb dX13_packed_102 rfl ?_
  refine lv_lor hx hb dX13_packed_103 ?_
  refine lv_topl (fun z14 ez14 => ?_)
  have h := nd_at h ez14
  refine lv_lstore_n (lv' := [(3, .long z14), (0, .ref (a 0)), (1, .int x1), (5, .int x5)]) hx hb dX13_packed_104 rfl hl (by decide) rfl (fun ls hl => ?_)
  obtain ⟨z15, ez15, h⟩ := nd_let_e h
  refine lv_iinc (v := z15) (lv' := [(5, .int z15), (3, .long z14), (0, .ref (a 0)), (1, .int x1)]) hx hb dX13_packed_105 hl (k := 3) rfl (by rw [ez15]) (by decide) rfl (fun ls hl => ?_)
  refine lv_goto (tgt := 17) hx hb dX13_packed_108 (by decide) ?_
  exact (J17) (x1) (z14) (z15) s0 _ _ _ h hP hD hS (lv_sub hl [2, 3, 1, 0] rfl)
set_option maxHeartbeats 40000000 in
set_option maxRecDepth 100000 in
theorem db_X13_packed_46 {p : Program} {l : Launch} {e : Env} {s : State} {m : MethodId} {args : Array Value} {below : List Frame} {meth : Method} {c : Code} {Q : State → Prop} {A : Nat → Prop} {dC : Nat → ClassId} {dI : Nat → Nat → Nat} {a : Nat → Nat} {ac : Nat → ClassId} {n : Nat} {r : Int64 × (St)} (C : nd_C p l s m args c A (dC, dI) cX13_packed 7 RX13 ow_dm_X13_packed (dk_X13 ac)) (K : nd_Kl p l e (headSpec ow_dm_X13_packed ({ frames := 1, cells := 0, slots := 0, locals := 20 })).room s m args below meth c Q A (dC, dI) cX13_packed (St) (dw_X13 a ac) r) {g17 : Int32 → Int64 → Int32 → (St) → Option (Int64 × (St))} (J17 : dj_X13_packed_17 p l e s m args below meth c Q A dC dI a ac g17 r) : dj_X13_packed_46 p l e s m args below meth c Q A dC dI a ac (df_X13_packed_46 n g17) r := by
  obtain ⟨hlt, hx, hb, hml, hown, hts, hN, hA, hK⟩ := id C
  intro x1 x3 x5 x6 s0 H locs ls h hP hD hS hl
  unfold df_X13_packed_46 at h
  refine lv_iload hx hb dX13_packed_46 (lv_at hl 4 rfl) ?_
  refine lv_bipush (v := 95) hx hb dX13_packed_48 (by decide) ?_
  refine lv_icmp_eq (tgt := 60) hx hb dX13_packed_50 (by decide) (fun c7 => ?_) (fun c7 => ?_)
  · have h := nd_pos h c7
    exact (db_X13_packed_60 C K)  s0 _ _ _ h hP hD hS (lv_sub hl [] rfl)
  · have h := nd_neg h c7
    refine lv_iload hx hb dX13_packed_53 (lv_at hl 4 rfl) ?_
    refine lv_bipush (v := 36) hx hb dX13_packed_55 (by decide) ?_
    refine lv_icmp_ne (tgt := 62) hx hb dX13_packed_57 (by decide) (fun c8 => ?_) (fun c8 => ?_)
    · have h := nd_neg h c8
      refine lv_lload_n hx hb dX13_packed_62 rfl (lv_at hl 2 rfl) ?_
      refine lv_bipush (v := 6) hx hb dX13_packed_63 (by decide) ?_
      refine lv_lshl hx hb dX13_packed_65 rfl ?_
      refine lv_iload hx hb dX13_packed_66 (lv_at hl 4 rfl) ?_
      refine lv_bipush (v := 46) hx hb dX13_packed_68 (by decide) ?_
      refine lv_icmp_ne (tgt := 78) hx hb dX13_packed_70 (by decide) (fun c9 => ?_) (fun c9 => ?_)
      · have h := nd_neg h c9
        refine lv_iload hx hb dX13_packed_78 (lv_at hl 4 rfl) ?_
        obtain ⟨q10, s11, hq, h⟩ := nd_b2_e h
        have hPc : va_P (dC, dI) vwCl (dw_P a ac ()) H := nd_p0
        have hDc : va_D A (dw_P a ac ()) := nd_d0
        have hKc : va_K (dC, dI) vwCl (dk_P ac) s := nd_y0 hK
        have hFc : ∀ q, va_A (dw_P a ac ()) H.size q → A q := nd_r0 hS hA
        refine nd_cSi (As := [.int x6]) (rest := [.long ((x3 : Int64) <<< ((6 : Int32).toInt64 &&& 63))]) (q := q10) (w' := dw_P a ac s11) ⟨hx, hb, hml, hown, hts⟩ (fun sz => dm_X13_isDigit l hlt dC dI a ac n (x6) () hq sz) (cwS 1 hts gi_dm_X13_packed_0 rfl rfl rfl (by decide +kernel) ⟨Nat.le_of_ble_eq_true rfl, Nat.le_of_ble_eq_true rfl⟩) hPc hDc hKc hS hA hN rfl hl.1 rfl (Nat.le_of_ble_eq_true rfl) dX13_packed_80 (fun H locs hP1 hD1 hk1 hS => ?_)
        have hP := nd_n0 hP hk1
        refine lv_if_eq (tgt := 97) hx hb dX13_packed_83 (by decide) (fun c13 => ?_) (fun c13 => ?_)
        · have h := nd_pos h c13
          refine lv_iload hx hb dX13_packed_97 (lv_at hl 4 rfl) ?_
          refine lv_bipush (v := 96) hx hb dX13_packed_99 (by decide) ?_
          refine lv_isub hx hb dX13_packed_101 ?_
          exact (db_X13_packed_102 C K J17) (x1) (x5) (((x3 : Int64) <<< ((6 : Int32).toInt64 &&& 63))) ((x6 - 96)) s0 _ _ _ h hP hD hS (lv_sub hl [0, 1, 3] rfl)
        · have h := nd_neg h c13
          refine lv_bipush (v := 27) hx hb dX13_packed_86 (by decide) ?_
          refine lv_iload hx hb dX13_packed_88 (lv_at hl 4 rfl) ?_
          refine lv_iadd hx hb dX13_packed_90 ?_
          refine lv_bipush (v := 48) hx hb dX13_packed_91 (by decide) ?_
          refine lv_isub hx hb dX13_packed_93 ?_
          refine lv_goto (tgt := 102) hx hb dX13_packed_94 (by decide) ?_
          exact (db_X13_packed_102 C K J17) (x1) (x5) (((x3 : Int64) <<< ((6 : Int32).toInt64 &&& 63))) (((27 + x6) - 48)) s0 _ _ _ h hP hD hS (lv_sub hl [0, 1, 3] rfl)
      · have h := nd_pos h c9
        refine lv_bipush (v := 37) hx hb dX13_packed_73 (by decide) ?_
        refine lv_goto (tgt := 102) hx hb dX13_packed_75 (by decide) ?_
        exact (db_X13_packed_102 C K J17) (x1) (x5) (((x3 : Int64) <<< ((6 : Int32).toInt64 &&& 63))) (37) s0 _ _ _ h hP hD hS (lv_sub hl [0, 1, 3] rfl)
    · have h := nd_pos h c8
      exact (db_X13_packed_60 C K)  s0 _ _ _ h hP hD hS (lv_sub hl [] rfl)
set_option maxHeartbeats 40000000 in
set_option maxRecDepth 100000 in
theorem dB_X13_packed_17 {p : Program} {l : Launch} {e : Env} {s : State} {m : MethodId} {args : Array Value} {below : List Frame} {meth : Method} {c : Code} {Q : State → Prop} {A : Nat → Prop} {dC : Nat → ClassId} {dI : Nat → Nat → Nat} {a : Nat → Nat} {ac : Nat → ClassId} {n : Nat} {r : Int64 × (St)} (C : nd_C p l s m args c A (dC, dI) cX13_packed 7 RX13 ow_dm_X13_packed (dk_X13 ac)) (K : nd_Kl p l e (headSpec ow_dm_X13_packed ({ frames := 1, cells := 0, slots := 0, locals := 20 })).room s m args below meth c Q A (dC, dI) cX13_packed (St) (dw_X13 a ac) r) {g17 : Int32 → Int64 → Int32 → (St) → Option (Int64 × (St))} (J17 : dj_X13_packed_17 p l e s m args below meth c Q A dC dI a ac g17 r) : dj_X13_packed_17 p l e s m args below meth c Q A dC dI a ac (dF_X13_packed_17 n g17) r := by
  obtain ⟨hlt, hx, hb, hml, hown, hts, hN, hA, hK⟩ := id C
  intro x1 x3 x5 s0 H locs ls h hP hD hS hl
  unfold dF_X13_packed_17 at h
  refine lv_iload hx hb dX13_packed_17 (lv_at hl 3 rfl) ?_
  refine lv_iload_n hx hb dX13_packed_19 rfl (lv_at hl 1 rfl) ?_
  refine lv_icmp_lt (tgt := 111) hx hb dX13_packed_20 (by decide) (fun c3 => ?_) (fun c3 => ?_)
  · have h := nd_pos h c3
    refine lv_lload_n hx hb dX13_packed_111 rfl (lv_at hl 2 rfl) ?_
    exact K _ _ _ _ _ _ dX13_packed_112 (Option.some.inj h).symm hP hD hS
  · have h := nd_neg h c3
    refine lv_aload_n hx hb dX13_packed_23 rfl (lv_at hl 0 rfl) ?_
    refine va_get (D := (dC, dI)) (ci := 14) (v := .ref (a 4)) (C := RX13) (T := TX13) (N := 37) hx hb hts hi_dm_X13_packed_X13 hown hK hP 0 rfl rfl 3 (by decide) (hts (.fieldLink RX13 324 "TimeMachineModel$Assembler" "text" "[C") (List.mem_of_getElem? (i := 1) rfl)) (fun _ h9 => h9) rfl dX13_packed_24 ?_
    refine lv_iload hx hb dX13_packed_27 (lv_at hl 3 rfl) ?_
    obtain ⟨i4, h⟩ := nd_ck_e h
    refine va_cald (i := x5) hx hb hK hP 4 3 rfl rfl i4 dX13_packed_29 ?_
    refine lv_topi (fun z5 ez5 => ?_)
    have h := nd_at h ez5
    refine lv_istore (lv' := [(6, .int z5), (0, .ref (a 0)), (1, .int x1), (3, .long x3), (5, .int x5)]) hx hb dX13_packed_30 hl (by decide) rfl (fun ls hl => ?_)
    refine lv_iload hx hb dX13_packed_32 (lv_at hl 0 rfl) ?_
    refine lv_bipush (v := 65) hx hb dX13_packed_34 (by decide) ?_
    refine lv_icmp_lt (tgt := 46) hx hb dX13_packed_36 (by decide) (fun c6 => ?_) (fun c6 => ?_)
    · have h := nd_pos h c6
      exact (db_X13_packed_46 C K J17) (x1) (x3) (x5) (z5) s0 _ _ _ h hP hD hS (lv_sub hl [1, 2, 3, 4, 0] rfl)
    · have h := nd_neg h c6
      refine lv_iload hx hb dX13_packed_39 (lv_at hl 0 rfl) ?_
      refine lv_bipush (v := 90) hx hb dX13_packed_41 (by decide) ?_
      refine lv_icmp_le (tgt := 60) hx hb dX13_packed_43 (by decide) (fun c16 => ?_) (fun c16 => ?_)
      · have h := nd_pos h c16
        exact (db_X13_packed_60 C K)  s0 _ _ _ h hP hD hS (lv_sub hl [] rfl)
      · have h := nd_neg h c16
        exact (db_X13_packed_46 C K J17) (x1) (x3) (x5) (z5) s0 _ _ _ h hP hD hS (lv_sub hl [1, 2, 3, 4, 0] rfl)
set_option maxHeartbeats 40000000 in
set_option maxRecDepth 100000 in
theorem db_X13_packed_17 {p : Program} {l : Launch} {e : Env} {s : State} {m : MethodId} {args : Array Value} {below : List Frame} {meth : Method} {c : Code} {Q : State → Prop} {A : Nat → Prop} {dC : Nat → ClassId} {dI : Nat → Nat → Nat} {a : Nat → Nat} {ac : Nat → ClassId} {n : Nat} {r : Int64 × (St)} (C : nd_C p l s m args c A (dC, dI) cX13_packed 7 RX13 ow_dm_X13_packed (dk_X13 ac)) (K : nd_Kl p l e (headSpec ow_dm_X13_packed ({ frames := 1, cells := 0, slots := 0, locals := 20 })).room s m args below meth c Q A (dC, dI) cX13_packed (St) (dw_X13 a ac) r) (k : Nat) : dj_X13_packed_17 p l e s m args below meth c Q A dC dI a ac (df_X13_packed_17 n k) r := by
  induction k with
  | zero => intro x1 x3 x5 s0 H locs ls h; exact nomatch (show (none : Option (Int64 × (St))) = some r from h)
  | succ k ih => exact dB_X13_packed_17 C K ih
set_option maxHeartbeats 40000000 in
set_option maxRecDepth 100000 in
theorem db_X13_packed_0 {p : Program} {l : Launch} {e : Env} {s : State} {m : MethodId} {args : Array Value} {below : List Frame} {meth : Method} {c : Code} {Q : State → Prop} {A : Nat → Prop} {dC : Nat → ClassId} {dI : Nat → Nat → Nat} {a : Nat → Nat} {ac : Nat → ClassId} {n : Nat} {r : Int64 × (St)} (C : nd_C p l s m args c A (dC, dI) cX13_packed 7 RX13 ow_dm_X13_packed (dk_X13 ac)) (K : nd_Kl p l e (headSpec ow_dm_X13_packed ({ frames := 1, cells := 0, slots := 0, locals := 20 })).room s m args below meth c Q A (dC, dI) cX13_packed (St) (dw_X13 a ac) r) : dj_X13_packed_0 p l e s m args below meth c Q A dC dI a ac (df_X13_packed_0 n) r := by
  obtain ⟨hlt, hx, hb, hml, hown, hts, hN, hA, hK⟩ := id C
  intro v0 v1 s0 H locs ls h hP hD hS hl
  unfold df_X13_packed_0 at h
  refine lv_iload_n hx hb dX13_packed_0 rfl (lv_at hl 2 rfl) ?_
  refine lv_iload_n hx hb dX13_packed_1 rfl (lv_at hl 1 rfl) ?_
  refine lv_isub hx hb dX13_packed_2 ?_
  refine lv_bipush (v := 10) hx hb dX13_packed_3 (by decide) ?_
  refine lv_icmp_le (tgt := 10) hx hb dX13_packed_5 (by decide) (fun c1 => ?_) (fun c1 => ?_)
  · have h := nd_pos h c1
    refine lv_lconst (v := 0) hx hb dX13_packed_10 (by decide) ?_
    refine lv_lstore_n (lv' := [(3, .long 0), (0, .ref (a 0)), (1, .int v0), (2, .int v1)]) hx hb dX13_packed_11 rfl hl (by decide) rfl (fun ls hl => ?_)
    refine lv_iload_n hx hb dX13_packed_12 rfl (lv_at hl 3 rfl) ?_
    refine lv_iconst (v := 1) hx hb dX13_packed_13 (by decide) ?_
    refine lv_isub hx hb dX13_packed_14 ?_
    refine lv_topi (fun z2 ez2 => ?_)
    have h := nd_at h ez2
    refine lv_istore (lv' := [(5, .int z2), (3, .long 0), (0, .ref (a 0)), (1, .int v0), (2, .int v1)]) hx hb dX13_packed_15 hl (by decide) rfl (fun ls hl => ?_)
    exact (db_X13_packed_17 C K n) (v0) (0) (z2) s0 _ _ _ h hP hD hS (lv_sub hl [2, 3, 1, 0] rfl)
  · have h := nd_neg h c1
    refine lv_lconst (v := 0) hx hb dX13_packed_8 (by decide) ?_
    exact K _ _ _ _ _ _ dX13_packed_9 (Option.some.inj h).symm hP hD hS
set_option maxHeartbeats 40000000 in
set_option maxRecDepth 100000 in
theorem dm_X13_packed (l : Launch) (hlt : l.stackTraces = false) (dC : Nat → ClassId) (dI : Nat → Nat → Nat) (a : Nat → Nat) (ac : Nat → ClassId) (n : Nat) (v0 : Int32) (v1 : Int32) (s0 : St) {r : Int64 × (St)} (h : df_X13_packed n v0 v1 s0 = some r) (sz : Nat) : Met l yX13_packed ow_dm_X13_packed ({ frames := 1, cells := 0, slots := 0, locals := 20 }) (va_Pc [.ref (a 0), .int v0, .int v1] (fun U => U.heap.size = sz ∧ va_P (dC, dI) vwCl (dw_X13 a ac s0) U.heap ∧ va_K (dC, dI) vwCl (dk_X13 ac) U ∧ va_D (fun _ => True) (dw_X13 a ac s0) ∧ nv_E (va_A (dw_X13 a ac s0) sz) U)) (va_Ql (fun x _ => x = r.1) (fun (_ : Unit) t => va_P (dC, dI) vwCl (dw_X13 a ac r.2) t.heap ∧ va_K (dC, dI) vwCl (dk_X13 ac) t ∧ va_D (va_A (dw_X13 a ac s0) sz) (dw_X13 a ac r.2)) (va_A (dw_X13 a ac s0) sz)) 0 0 (va_A (dw_X13 a ac s0) sz) := by
  refine Met.ofW (cc := cX13_packed) (maxL := 7) (ret := (some .long)) (by decide) rfl ?_
  intro p e s m args below meth c s₁ B hml hv
  obtain ⟨rfl, hsz, hP, hK, hD0, hN⟩ := hv
  have hx := B.exec
  have hb := B.bytes
  have hr := B.returns
  have hts := atoms_spec (ws := ow_dm_X13_packed) B.pre
  have hown : s.vm.findClass RX13 = some m.cls := findClass_of_methodNamed B.named
  have hlocks := B.notSynchronized
  subst hsz
  have hD := hD0.self (sz := s.heap.size)
  generalize hAe : va_A (dw_X13 a ac s0) s.heap.size = A at hD hN ⊢
  have hA : ∀ q : Nat, s.heap.size ≤ q → A q := fun q h => by rw [← hAe]; exact Or.inr h
  have hl := lv_entry ([.ref (a 0), .int v0, .int v1]) (n := 7) (Nat.le_of_ble_eq_true rfl)
  rw [lg_entry_eq]
  generalize (lg_sl ([.ref (a 0), .int v0, .int v1]) ++ List.replicate (7 - (lg_sl ([.ref (a 0), .int v0, .int v1])).length) Slot.unset).toArray = ls at hl ⊢
  have hl : lv_has ls 7 [(0, .ref (a 0)), (1, .int v0), (2, .int v1)] := hl
  exact db_X13_packed_0 (dC := dC) (dI := dI) (a := a) (ac := ac) (n := n) (r := r) ⟨hlt, hx, hb, hml, hown, hts, hN, hA, hK⟩ (fun pc v τ H locs ls d er hP hD hS => by subst er; exact W.lret (v := v) hx hb hr (fun t ht hW => ⟨⟨v, (), rfl, rfl, by rw [ht]; exact hP, va_K.moved hW.alike hK, hD⟩, hS.F ht⟩) hS.2.2 d) v0 v1 s0 _ _ _ h hP hD va_S.rf (lv_sub hl [0, 1, 2] rfl)
def ow_dm_X13_register : List Cond := .code yX13_register cX13_register 7 (some .int) :: ([.methodLink RX13 423 yX13_packed, .instanceMethod yX13_packed, .selects RX13 yX13_packed yX13_packed, .initialized RX13, .constantLong RX13 427 (4006234), .constantLong RX13 429 (82), .constantLong RX13 431 (1043), .constantLong RX13 433 (1031), .constantLong RX13 435 (1044), .constantLong RX13 437 (1030), .fieldLink RX13 324 "TimeMachineModel$Assembler" "text" "[C", .methodLink RX13 351 yX13_isDigit, .static yX13_isDigit] ++ (u_ws RX13 TX13 37 ++ (ow_dm_X13_packed ++ (ow_dm_X13_isDigit ++ []))))
theorem gd_dm_X13_register : ∀ w ∈ ow_dm_X13_register, (w.onTables && w.keeps) = true ∨ ∃ ty, w = Cond.arrayClass ty := List.forall_mem_cons.mpr ⟨good_of_word rfl, List.forall_mem_append.mpr ⟨fun w h => good_of_word (List.all_eq_true.mp (by decide +kernel) w h), List.forall_mem_append.mpr ⟨gu_X13, List.forall_mem_append.mpr ⟨gd_dm_X13_packed, List.forall_mem_append.mpr ⟨gd_dm_X13_isDigit, fun _ h => nomatch h⟩⟩⟩⟩⟩
theorem hi_dm_X13_register_X13 : ∀ w ∈ u_ws RX13 TX13 37, w ∈ ow_dm_X13_register := fun w h => List.mem_cons_of_mem _ (List.mem_append_right _ (List.mem_append_left _ h))
theorem gi_dm_X13_register_0 : GoodIn ow_dm_X13_register (wsV RX13 423 RX13 yX13_packed ow_dm_X13_packed) := goodIn_app (goodIn_of _ (by decide +kernel)) (fun w h => ⟨List.mem_cons_of_mem _ (List.mem_append_right _ (List.mem_append_right _ (List.mem_append_left _ h))), gd_dm_X13_packed w h⟩)
theorem gi_dm_X13_register_1 : GoodIn ow_dm_X13_register (wsS RX13 351 yX13_isDigit ow_dm_X13_isDigit) := goodIn_app (goodIn_of _ (by decide +kernel)) (fun w h => ⟨List.mem_cons_of_mem _ (List.mem_append_right _ (List.mem_append_right _ (List.mem_append_right _ (List.mem_append_left _ h)))), gd_dm_X13_isDigit w h⟩)
def dj_X13_register_96 (p : Program) (l : Launch) (e : Env) (s : State) (m : MethodId) (args : Array Value) (below : List Frame) (meth : Method) (c : Code) (Q : State → Prop) (A : Nat → Prop) (dC : Nat → ClassId) (dI : Nat → Nat → Nat) (a : Nat → Nat) (ac : Nat → ClassId) (g : (St) → Option (Int32 × (St))) (r : Int32 × (St)) : Prop := ∀ (s0 : St) (H : Heap) (locs : List Loc) (ls : Array Slot), g s0 = some r → va_P (dC, dI) vwCl (dw_X13 a ac s0) H → va_D A (dw_X13 a ac s0) → va_S A s.heap H locs → lv_has ls 7 [] → W p l e (headSpec ow_dm_X13_register ({ frames := 2, cells := 0, slots := 0, locals := 46 })).room s m args below meth c H locs 0 0 Q (F0 m 96 ls [])
def dj_X13_register_292 (p : Program) (l : Launch) (e : Env) (s : State) (m : MethodId) (args : Array Value) (below : List Frame) (meth : Method) (c : Code) (Q : State → Prop) (A : Nat → Prop) (dC : Nat → ClassId) (dI : Nat → Nat → Nat) (a : Nat → Nat) (ac : Nat → ClassId) (g : Int32 → (St) → Option (Int32 × (St))) (r : Int32 × (St)) : Prop := ∀ (y0 : Int32) (s0 : St) (H : Heap) (locs : List Loc) (ls : Array Slot), g y0 s0 = some r → va_P (dC, dI) vwCl (dw_X13 a ac s0) H → va_D A (dw_X13 a ac s0) → va_S A s.heap H locs → lv_has ls 7 [] → W p l e (headSpec ow_dm_X13_register ({ frames := 2, cells := 0, slots := 0, locals := 46 })).room s m args below meth c H locs 0 0 Q (F0 m 292 ls [.int y0])
def dj_X13_register_250 (p : Program) (l : Launch) (e : Env) (s : State) (m : MethodId) (args : Array Value) (below : List Frame) (meth : Method) (c : Code) (Q : State → Prop) (A : Nat → Prop) (dC : Nat → ClassId) (dI : Nat → Nat → Nat) (a : Nat → Nat) (ac : Nat → ClassId) (g : Int32 → (St) → Option (Int32 × (St))) (r : Int32 × (St)) : Prop := ∀ (y0 : Int32) (s0 : St) (H : Heap) (locs : List Loc) (ls : Array Slot), g y0 s0 = some r → va_P (dC, dI) vwCl (dw_X13 a ac s0) H → va_D A (dw_X13 a ac s0) → va_S A s.heap H locs → lv_has ls 7 [] → W p l e (headSpec ow_dm_X13_register ({ frames := 2, cells := 0, slots := 0, locals := 46 })).room s m args below meth c H locs 0 0 Q (F0 m 250 ls [.int y0])
def dj_X13_register_213 (p : Program) (l : Launch) (e : Env) (s : State) (m : MethodId) (args : Array Value) (below : List Frame) (meth : Method) (c : Code) (Q : State → Prop) (A : Nat → Prop) (dC : Nat → ClassId) (dI : Nat → Nat → Nat) (a : Nat → Nat) (ac : Nat → ClassId) (g : Int32 → (St) → Option (Int32 × (St))) (r : Int32 × (St)) : Prop := ∀ (y0 : Int32) (s0 : St) (H : Heap) (locs : List Loc) (ls : Array Slot), g y0 s0 = some r → va_P (dC, dI) vwCl (dw_X13 a ac s0) H → va_D A (dw_X13 a ac s0) → va_S A s.heap H locs → lv_has ls 7 [] → W p l e (headSpec ow_dm_X13_register ({ frames := 2, cells := 0, slots := 0, locals := 46 })).room s m args below meth c H locs 0 0 Q (F0 m 213 ls [.int y0])
def dj_X13_register_189 (p : Program) (l : Launch) (e : Env) (s : State) (m : MethodId) (args : Array Value) (below : List Frame) (meth : Method) (c : Code) (Q : State → Prop) (A : Nat → Prop) (dC : Nat → ClassId) (dI : Nat → Nat → Nat) (a : Nat → Nat) (ac : Nat → ClassId) (g : Int32 → (St) → Option (Int32 × (St))) (r : Int32 × (St)) : Prop := ∀ (y0 : Int32) (s0 : St) (H : Heap) (locs : List Loc) (ls : Array Slot), g y0 s0 = some r → va_P (dC, dI) vwCl (dw_X13 a ac s0) H → va_D A (dw_X13 a ac s0) → va_S A s.heap H locs → lv_has ls 7 [] → W p l e (headSpec ow_dm_X13_register ({ frames := 2, cells := 0, slots := 0, locals := 46 })).room s m args below meth c H locs 0 0 Q (F0 m 189 ls [.int y0])
def dj_X13_register_161 (p : Program) (l : Launch) (e : Env) (s : State) (m : MethodId) (args : Array Value) (below : List Frame) (meth : Method) (c : Code) (Q : State → Prop) (A : Nat → Prop) (dC : Nat → ClassId) (dI : Nat → Nat → Nat) (a : Nat → Nat) (ac : Nat → ClassId) (g : Int32 → Int32 → (St) → Option (Int32 × (St))) (r : Int32 × (St)) : Prop := ∀ (x1 : Int32) (x5 : Int32) (s0 : St) (H : Heap) (locs : List Loc) (ls : Array Slot), g x1 x5 s0 = some r → va_P (dC, dI) vwCl (dw_X13 a ac s0) H → va_D A (dw_X13 a ac s0) → va_S A s.heap H locs → lv_has ls 7 [(0, .ref (a 0)), (1, .int x1), (5, .int x5)] → W p l e (headSpec ow_dm_X13_register ({ frames := 2, cells := 0, slots := 0, locals := 46 })).room s m args below meth c H locs 0 0 Q (F0 m 161 ls [])
def dj_X13_register_159 (p : Program) (l : Launch) (e : Env) (s : State) (m : MethodId) (args : Array Value) (below : List Frame) (meth : Method) (c : Code) (Q : State → Prop) (A : Nat → Prop) (dC : Nat → ClassId) (dI : Nat → Nat → Nat) (a : Nat → Nat) (ac : Nat → ClassId) (g : Int32 → Int32 → (St) → Option (Int32 × (St))) (r : Int32 × (St)) : Prop := ∀ (x1 : Int32) (y0 : Int32) (s0 : St) (H : Heap) (locs : List Loc) (ls : Array Slot), g x1 y0 s0 = some r → va_P (dC, dI) vwCl (dw_X13 a ac s0) H → va_D A (dw_X13 a ac s0) → va_S A s.heap H locs → lv_has ls 7 [(0, .ref (a 0)), (1, .int x1)] → W p l e (headSpec ow_dm_X13_register ({ frames := 2, cells := 0, slots := 0, locals := 46 })).room s m args below meth c H locs 0 0 Q (F0 m 159 ls [.int y0])
def dj_X13_register_137 (p : Program) (l : Launch) (e : Env) (s : State) (m : MethodId) (args : Array Value) (below : List Frame) (meth : Method) (c : Code) (Q : State → Prop) (A : Nat → Prop) (dC : Nat → ClassId) (dI : Nat → Nat → Nat) (a : Nat → Nat) (ac : Nat → ClassId) (g : Int32 → (St) → Option (Int32 × (St))) (r : Int32 × (St)) : Prop := ∀ (x1 : Int32) (s0 : St) (H : Heap) (locs : List Loc) (ls : Array Slot), g x1 s0 = some r → va_P (dC, dI) vwCl (dw_X13 a ac s0) H → va_D A (dw_X13 a ac s0) → va_S A s.heap H locs → lv_has ls 7 [(0, .ref (a 0)), (1, .int x1)] → W p l e (headSpec ow_dm_X13_register ({ frames := 2, cells := 0, slots := 0, locals := 46 })).room s m args below meth c H locs 0 0 Q (F0 m 137 ls [])
def dj_X13_register_0 (p : Program) (l : Launch) (e : Env) (s : State) (m : MethodId) (args : Array Value) (below : List Frame) (meth : Method) (c : Code) (Q : State → Prop) (A : Nat → Prop) (dC : Nat → ClassId) (dI : Nat → Nat → Nat) (a : Nat → Nat) (ac : Nat → ClassId) (g : Int32 → Int32 → (St) → Option (Int32 × (St))) (r : Int32 × (St)) : Prop := ∀ (v0 : Int32) (v1 : Int32) (s0 : St) (H : Heap) (locs : List Loc) (ls : Array Slot), g v0 v1 s0 = some r → va_P (dC, dI) vwCl (dw_X13 a ac s0) H → va_D A (dw_X13 a ac s0) → va_S A s.heap H locs → lv_has ls 7 [(0, .ref (a 0)), (1, .int v0), (2, .int v1)] → W p l e (headSpec ow_dm_X13_register ({ frames := 2, cells := 0, slots := 0, locals := 46 })).room s m args below meth c H locs 0 0 Q (F0 m 0 ls [])
set_option maxHeartbeats 40000000 in
set_option maxRecDepth 100000 in
theorem db_X13_register_96 {p : Program} {l : Launch} {e : Env} {s : State} {m : MethodId} {args : Array Value} {below : List Frame} {meth : Method} {c : Code} {Q : State → Prop} {A : Nat → Prop} {dC : Nat → ClassId} {dI : Nat → Nat → Nat} {a : Nat → Nat} {ac : Nat → ClassId} {n : Nat} {r : Int32 × (St)} (C : nd_C p l s m args c A (dC, dI) cX13_register 7 RX13 ow_dm_X13_register (dk_X13 ac)) (K : nd_Ki p l e (headSpec ow_dm_X13_register ({ frames := 2, cells := 0, slots := 0, locals := 46 })).room s m args below meth c Q A (dC, dI) cX13_register .int (St) (dw_X13 a ac) r) : dj_X13_register_96 p l e s m args below meth c Q A dC dI a ac (df_X13_register_96 n) r := by
  obtain ⟨hlt, hx, hb, hml, hown, hts, hN, hA, hK⟩ := id C
  intro s0 H locs ls h hP hD hS hl
  unfold df_X13_register_96 at h
  refine lv_iconst (v := (-1)) hx hb dX13_register_96 (by decide) ?_
  exact K _ _ _ _ _ _ dX13_register_97 rfl (Option.some.inj h).symm hP hD hS
set_option maxHeartbeats 40000000 in
set_option maxRecDepth 100000 in
theorem db_X13_register_292 {p : Program} {l : Launch} {e : Env} {s : State} {m : MethodId} {args : Array Value} {below : List Frame} {meth : Method} {c : Code} {Q : State → Prop} {A : Nat → Prop} {dC : Nat → ClassId} {dI : Nat → Nat → Nat} {a : Nat → Nat} {ac : Nat → ClassId} {n : Nat} {r : Int32 × (St)} (C : nd_C p l s m args c A (dC, dI) cX13_register 7 RX13 ow_dm_X13_register (dk_X13 ac)) (K : nd_Ki p l e (headSpec ow_dm_X13_register ({ frames := 2, cells := 0, slots := 0, locals := 46 })).room s m args below meth c Q A (dC, dI) cX13_register .int (St) (dw_X13 a ac) r) : dj_X13_register_292 p l e s m args below meth c Q A dC dI a ac (df_X13_register_292 n) r := by
  obtain ⟨hlt, hx, hb, hml, hown, hts, hN, hA, hK⟩ := id C
  intro y0 s0 H locs ls h hP hD hS hl
  unfold df_X13_register_292 at h
  exact K _ _ _ _ _ _ dX13_register_292 rfl (Option.some.inj h).symm hP hD hS
set_option maxHeartbeats 40000000 in
set_option maxRecDepth 100000 in
theorem db_X13_register_250 {p : Program} {l : Launch} {e : Env} {s : State} {m : MethodId} {args : Array Value} {below : List Frame} {meth : Method} {c : Code} {Q : State → Prop} {A : Nat → Prop} {dC : Nat → ClassId} {dI : Nat → Nat → Nat} {a : Nat → Nat} {ac : Nat → ClassId} {n : Nat} {r : Int32 × (St)} (C : nd_C p l s m args c A (dC, dI) cX13_register 7 RX13 ow_dm_X13_register (dk_X13 ac)) (K : nd_Ki p l e (headSpec ow_dm_X13_register ({ frames := 2, cells := 0, slots := 0, locals := 46 })).room s m args below meth c Q A (dC, dI) cX13_register .int (St) (dw_X13 a ac) r) : dj_X13_register_250 p l e s m args below meth c Q A dC dI a ac (df_X13_register_250 n) r := by
  obtain ⟨hlt, hx, hb, hml, hown, hts, hN, hA, hK⟩ := id C
  intro y0 s0 H locs ls h hP hD hS hl
  unfold df_X13_register_250 at h
  exact K _ _ _ _ _ _ dX13_register_250 rfl (Option.some.inj h).symm hP hD hS
set_option maxHeartbeats 40000000 in
set_option maxRecDepth 100000 in
theorem db_X13_register_213 {p : Program} {l : Launch} {e : Env} {s : State} {m : MethodId} {args : Array Value} {below : List Frame} {meth : Method} {c : Code} {Q : State → Prop} {A : Nat → Prop} {dC : Nat → ClassId} {dI : Nat → Nat → Nat} {a : Nat → Nat} {ac : Nat → ClassId} {n : Nat} {r : Int32 × (St)} (C : nd_C p l s m args c A (dC, dI) cX13_register 7 RX13 ow_dm_X13_register (dk_X13 ac)) (K : nd_Ki p l e (headSpec ow_dm_X13_register ({ frames := 2, cells := 0, slots := 0, locals := 46 })).room s m args below meth c Q A (dC, dI) cX13_register .int (St) (dw_X13 a ac) r) : dj_X13_register_213 p l e s m args below meth c Q A dC dI a ac (df_X13_register_213 n) r := by
  obtain ⟨hlt, hx, hb, hml, hown, hts, hN, hA, hK⟩ := id C
  intro y0 s0 H locs ls h hP hD hS hl
  unfold df_X13_register_213 at h
  exact K _ _ _ _ _ _ dX13_register_213 rfl (Option.some.inj h).symm hP hD hS
set_option maxHeartbeats 40000000 in
set_option maxRecDepth 100000 in
theorem db_X13_register_189 {p : Program} {l : Launch} {e : Env} {s : State} {m : MethodId} {args : Array Value} {below : List Frame} {meth : Method} {c : Code} {Q : State → Prop} {A : Nat → Prop} {dC : Nat → ClassId} {dI : Nat → Nat → Nat} {a : Nat → Nat} {ac : Nat → ClassId} {n : Nat} {r : Int32 × (St)} (C : nd_C p l s m args c A (dC, dI) cX13_register 7 RX13 ow_dm_X13_register (dk_X13 ac)) (K : nd_Ki p l e (headSpec ow_dm_X13_register ({ frames := 2, cells := 0, slots := 0, locals := 46 })).room s m args below meth c Q A (dC, dI) cX13_register .int (St) (dw_X13 a ac) r) : dj_X13_register_189 p l e s m args below meth c Q A dC dI a ac (df_X13_register_189 n) r := by
  obtain ⟨hlt, hx, hb, hml, hown, hts, hN, hA, hK⟩ := id C
  intro y0 s0 H locs ls h hP hD hS hl
  unfold df_X13_register_189 at h
  exact K _ _ _ _ _ _ dX13_register_189 rfl (Option.some.inj h).symm hP hD hS
set_option maxHeartbeats 40000000 in
set_option maxRecDepth 100000 in
theorem db_X13_register_161 {p : Program} {l : Launch} {e : Env} {s : State} {m : MethodId} {args : Array Value} {below : List Frame} {meth : Method} {c : Code} {Q : State → Prop} {A : Nat → Prop} {dC : Nat → ClassId} {dI : Nat → Nat → Nat} {a : Nat → Nat} {ac : Nat → ClassId} {n : Nat} {r : Int32 × (St)} (C : nd_C p l s m args c A (dC, dI) cX13_register 7 RX13 ow_dm_X13_register (dk_X13 ac)) (K : nd_Ki p l e (headSpec ow_dm_X13_register ({ frames := 2, cells := 0, slots := 0, locals := 46 })).room s m args below meth c Q A (dC, dI) cX13_register .int (St) (dw_X13 a ac) r) : dj_X13_register_161 p l e s m args below meth c Q A dC dI a ac (df_X13_register_161 n) r := by
  obtain ⟨hlt, hx, hb, hml, hown, hts, hN, hA, hK⟩ := id C
  intro x1 x5 s0 H locs ls h hP hD hS hl
  unfold df_X13_register_161 at h
  refine lv_aload_n hx hb dX13_register_161 rfl (lv_at hl 0 rfl) ?_
  refine va_get (D := (dC, dI)) (ci := 14) (v := .ref (a 4)) (C := RX13) (T := TX13) (N := 37) hx hb hts hi_dm_X13_register_X13 hown hK hP 0 rfl rfl 3 (by decide) (hts (.fieldLink RX13 324 "TimeMachineModel$Assembler" "text" "[C") (List.mem_of_getElem? (i := 11) rfl)) (fun _ h9 => h9) rfl dX13_register_162 ?_
  refine lv_iload_n hx hb dX13_register_165 rfl (lv_at hl 1 rfl) ?_
  obtain ⟨i20, h⟩ := nd_ck_e h
  refine va_cald (i := x1) hx hb hK hP 4 3 rfl rfl i20 dX13_register_166 ?_
  refine lv_topi (fun z21 ez21 => ?_)
  have h := nd_at h ez21
  refine lv_istore (lv' := [(6, .int z21), (0, .ref (a 0)), (1, .int x1), (5, .int x5)]) hx hb dX13_register_167 hl (by decide) rfl (fun ls hl => ?_)
  refine lv_iload hx hb dX13_register_169 (lv_at hl 0 rfl) ?_
  refine lv_bipush (v := 120) hx hb dX13_register_171 (by decide) ?_
  refine lv_icmp_ne (tgt := 190) hx hb dX13_register_173 (by decide) (fun c22 => ?_) (fun c22 => ?_)
  · have h := nd_neg h c22
    refine lv_iload hx hb dX13_register_190 (lv_at hl 0 rfl) ?_
    refine lv_bipush (v := 97) hx hb dX13_register_192 (by decide) ?_
    refine lv_icmp_ne (tgt := 214) hx hb dX13_register_194 (by decide) (fun c23 => ?_) (fun c23 => ?_)
    · have h := nd_neg h c23
      refine lv_iload hx hb dX13_register_214 (lv_at hl 0 rfl) ?_
      refine lv_bipush (v := 116) hx hb dX13_register_216 (by decide) ?_
      refine lv_icmp_ne (tgt := 251) hx hb dX13_register_218 (by decide) (fun c24 => ?_) (fun c24 => ?_)
      · have h := nd_neg h c24
        refine lv_iload hx hb dX13_register_251 (lv_at hl 0 rfl) ?_
        refine lv_bipush (v := 115) hx hb dX13_register_253 (by decide) ?_
        refine lv_icmp_eq (tgt := 262) hx hb dX13_register_255 (by decide) (fun c25 => ?_) (fun c25 => ?_)
        · have h := nd_pos h c25
          refine lv_iload hx hb dX13_register_262 (lv_at hl 3 rfl) ?_
          refine lv_iconst (v := 2) hx hb dX13_register_264 (by decide) ?_
          refine lv_icmp_ge (tgt := 276) hx hb dX13_register_265 (by decide) (fun c26 => ?_) (fun c26 => ?_)
          · have h := nd_pos h c26
            refine lv_iload hx hb dX13_register_276 (lv_at hl 3 rfl) ?_
            refine lv_bipush (v := 12) hx hb dX13_register_278 (by decide) ?_
            refine lv_icmp_ge (tgt := 291) hx hb dX13_register_280 (by decide) (fun c27 => ?_) (fun c27 => ?_)
            · have h := nd_pos h c27
              refine lv_iconst (v := (-1)) hx hb dX13_register_291 (by decide) ?_
              exact (db_X13_register_292 C K) ((-1)) s0 _ _ _ h hP hD hS (lv_sub hl [] rfl)
            · have h := nd_neg h c27
              refine lv_bipush (v := 16) hx hb dX13_register_283 (by decide) ?_
              refine lv_iload hx hb dX13_register_285 (lv_at hl 3 rfl) ?_
              refine lv_iadd hx hb dX13_register_287 ?_
              refine lv_goto (tgt := 292) hx hb dX13_register_288 (by decide) ?_
              exact (db_X13_register_292 C K) ((16 + x5)) s0 _ _ _ h hP hD hS (lv_sub hl [] rfl)
          · have h := nd_neg h c26
            refine lv_bipush (v := 8) hx hb dX13_register_268 (by decide) ?_
            refine lv_iload hx hb dX13_register_270 (lv_at hl 3 rfl) ?_
            refine lv_iadd hx hb dX13_register_272 ?_
            refine lv_goto (tgt := 292) hx hb dX13_register_273 (by decide) ?_
            exact (db_X13_register_292 C K) ((8 + x5)) s0 _ _ _ h hP hD hS (lv_sub hl [] rfl)
        · have h := nd_neg h c25
          refine lv_iconst (v := (-1)) hx hb dX13_register_258 (by decide) ?_
          refine lv_goto (tgt := 292) hx hb dX13_register_259 (by decide) ?_
          exact (db_X13_register_292 C K) ((-1)) s0 _ _ _ h hP hD hS (lv_sub hl [] rfl)
      · have h := nd_pos h c24
        refine lv_iload hx hb dX13_register_221 (lv_at hl 3 rfl) ?_
        refine lv_iconst (v := 3) hx hb dX13_register_223 (by decide) ?_
        refine lv_icmp_ge (tgt := 234) hx hb dX13_register_224 (by decide) (fun c28 => ?_) (fun c28 => ?_)
        · have h := nd_pos h c28
          refine lv_iload hx hb dX13_register_234 (lv_at hl 3 rfl) ?_
          refine lv_bipush (v := 7) hx hb dX13_register_236 (by decide) ?_
          refine lv_icmp_ge (tgt := 249) hx hb dX13_register_238 (by decide) (fun c29 => ?_) (fun c29 => ?_)
          · have h := nd_pos h c29
            refine lv_iconst (v := (-1)) hx hb dX13_register_249 (by decide) ?_
            exact (db_X13_register_250 C K) ((-1)) s0 _ _ _ h hP hD hS (lv_sub hl [] rfl)
          · have h := nd_neg h c29
            refine lv_bipush (v := 25) hx hb dX13_register_241 (by decide) ?_
            refine lv_iload hx hb dX13_register_243 (lv_at hl 3 rfl) ?_
            refine lv_iadd hx hb dX13_register_245 ?_
            refine lv_goto (tgt := 250) hx hb dX13_register_246 (by decide) ?_
            exact (db_X13_register_250 C K) ((25 + x5)) s0 _ _ _ h hP hD hS (lv_sub hl [] rfl)
        · have h := nd_neg h c28
          refine lv_iconst (v := 5) hx hb dX13_register_227 (by decide) ?_
          refine lv_iload hx hb dX13_register_228 (lv_at hl 3 rfl) ?_
          refine lv_iadd hx hb dX13_register_230 ?_
          refine lv_goto (tgt := 250) hx hb dX13_register_231 (by decide) ?_
          exact (db_X13_register_250 C K) ((5 + x5)) s0 _ _ _ h hP hD hS (lv_sub hl [] rfl)
    · have h := nd_pos h c23
      refine lv_iload hx hb dX13_register_197 (lv_at hl 3 rfl) ?_
      refine lv_bipush (v := 8) hx hb dX13_register_199 (by decide) ?_
      refine lv_icmp_ge (tgt := 212) hx hb dX13_register_201 (by decide) (fun c30 => ?_) (fun c30 => ?_)
      · have h := nd_pos h c30
        refine lv_iconst (v := (-1)) hx hb dX13_register_212 (by decide) ?_
        exact (db_X13_register_213 C K) ((-1)) s0 _ _ _ h hP hD hS (lv_sub hl [] rfl)
      · have h := nd_neg h c30
        refine lv_bipush (v := 10) hx hb dX13_register_204 (by decide) ?_
        refine lv_iload hx hb dX13_register_206 (lv_at hl 3 rfl) ?_
        refine lv_iadd hx hb dX13_register_208 ?_
        refine lv_goto (tgt := 213) hx hb dX13_register_209 (by decide) ?_
        exact (db_X13_register_213 C K) ((10 + x5)) s0 _ _ _ h hP hD hS (lv_sub hl [] rfl)
  · have h := nd_pos h c22
    refine lv_iload hx hb dX13_register_176 (lv_at hl 3 rfl) ?_
    refine lv_bipush (v := 32) hx hb dX13_register_178 (by decide) ?_
    refine lv_icmp_ge (tgt := 188) hx hb dX13_register_180 (by decide) (fun c31 => ?_) (fun c31 => ?_)
    · have h := nd_pos h c31
      refine lv_iconst (v := (-1)) hx hb dX13_register_188 (by decide) ?_
      exact (db_X13_register_189 C K) ((-1)) s0 _ _ _ h hP hD hS (lv_sub hl [] rfl)
    · have h := nd_neg h c31
      refine lv_iload hx hb dX13_register_183 (lv_at hl 3 rfl) ?_
      refine lv_goto (tgt := 189) hx hb dX13_register_185 (by decide) ?_
      exact (db_X13_register_189 C K) (x5) s0 _ _ _ h hP hD hS (lv_sub hl [] rfl)
set_option maxHeartbeats 40000000 in
set_option maxRecDepth 100000 in
theorem db_X13_register_159 {p : Program} {l : Launch} {e : Env} {s : State} {m : MethodId} {args : Array Value} {below : List Frame} {meth : Method} {c : Code} {Q : State → Prop} {A : Nat → Prop} {dC : Nat → ClassId} {dI : Nat → Nat → Nat} {a : Nat → Nat} {ac : Nat → ClassId} {n : Nat} {r : Int32 × (St)} (C : nd_C p l s m args c A (dC, dI) cX13_register 7 RX13 ow_dm_X13_register (dk_X13 ac)) (K : nd_Ki p l e (headSpec ow_dm_X13_register ({ frames := 2, cells := 0, slots := 0, locals := 46 })).room s m args below meth c Q A (dC, dI) cX13_register .int (St) (dw_X13 a ac) r) : dj_X13_register_159 p l e s m args below meth c Q A dC dI a ac (df_X13_register_159 n) r := by
  obtain ⟨hlt, hx, hb, hml, hown, hts, hN, hA, hK⟩ := id C
  intro x1 y0 s0 H locs ls h hP hD hS hl
  unfold df_X13_register_159 at h
  refine lv_istore (lv' := [(5, .int y0), (0, .ref (a 0)), (1, .int x1)]) hx hb dX13_register_159 hl (by decide) rfl (fun ls hl => ?_)
  exact (db_X13_register_161 C K) (x1) (y0) s0 _ _ _ h hP hD hS (lv_sub hl [1, 2, 0] rfl)
set_option maxHeartbeats 40000000 in
set_option maxRecDepth 100000 in
theorem db_X13_register_137 {p : Program} {l : Launch} {e : Env} {s : State} {m : MethodId} {args : Array Value} {below : List Frame} {meth : Method} {c : Code} {Q : State → Prop} {A : Nat → Prop} {dC : Nat → ClassId} {dI : Nat → Nat → Nat} {a : Nat → Nat} {ac : Nat → ClassId} {n : Nat} {r : Int32 × (St)} (C : nd_C p l s m args c A (dC, dI) cX13_register 7 RX13 ow_dm_X13_register (dk_X13 ac)) (K : nd_Ki p l e (headSpec ow_dm_X13_register ({ frames := 2, cells := 0, slots := 0, locals := 46 })).room s m args below meth c Q A (dC, dI) cX13_register .int (St) (dw_X13 a ac) r) : dj_X13_register_137 p l e s m args below meth c Q A dC dI a ac (df_X13_register_137 n) r := by
  obtain ⟨hlt, hx, hb, hml, hown, hts, hN, hA, hK⟩ := id C
  intro x1 s0 H locs ls h hP hD hS hl
  unfold df_X13_register_137 at h
  refine lv_bipush (v := 99) hx hb dX13_register_137 (by decide) ?_
  refine lv_goto (tgt := 159) hx hb dX13_register_139 (by decide) ?_
  exact (db_X13_register_159 C K) (x1) (99) s0 _ _ _ h hP hD hS (lv_sub hl [0, 1] rfl)
set_option maxHeartbeats 40000000 in
set_option maxRecDepth 100000 in
theorem db_X13_register_0 {p : Program} {l : Launch} {e : Env} {s : State} {m : MethodId} {args : Array Value} {below : List Frame} {meth : Method} {c : Code} {Q : State → Prop} {A : Nat → Prop} {dC : Nat → ClassId} {dI : Nat → Nat → Nat} {a : Nat → Nat} {ac : Nat → ClassId} {n : Nat} {r : Int32 × (St)} (C : nd_C p l s m args c A (dC, dI) cX13_register 7 RX13 ow_dm_X13_register (dk_X13 ac)) (K : nd_Ki p l e (headSpec ow_dm_X13_register ({ frames := 2, cells := 0, slots := 0, locals := 46 })).room s m args below meth c Q A (dC, dI) cX13_register .int (St) (dw_X13 a ac) r) : dj_X13_register_0 p l e s m args below meth c Q A dC dI a ac (df_X13_register_0 n) r := by
  obtain ⟨hlt, hx, hb, hml, hown, hts, hN, hA, hK⟩ := id C
  intro v0 v1 s0 H locs ls h hP hD hS hl
  unfold df_X13_register_0 at h
  refine lv_aload_n hx hb dX13_register_0 rfl (lv_at hl 0 rfl) ?_
  refine lv_iload_n hx hb dX13_register_1 rfl (lv_at hl 1 rfl) ?_
  refine lv_iload_n hx hb dX13_register_2 rfl (lv_at hl 2 rfl) ?_
  obtain ⟨q1, s2, hq, h⟩ := nd_b2_e h
  have hPc := hP
  have hDc := hD
  have hKc := hK
  have hFc := nd_rs hD hS hA
  refine nd_cVl (As := [.int v0, .int v1]) (rest := []) (q := q1) (w' := dw_X13 a ac s2) ⟨hx, hb, hml, hown, hts⟩ (fun sz => dm_X13_packed l hlt dC dI a ac n (v0) (v1) s0 hq sz) (cwV 2 hts gi_dm_X13_register_0 rfl rfl rfl (by decide +kernel) ⟨Nat.le_of_ble_eq_true rfl, Nat.le_of_ble_eq_true rfl⟩) hPc hDc hKc hS hA hN (va_recv hKc hPc (ci := 14) (q0 := 0) rfl rfl) rfl hl.1 rfl (Nat.le_of_ble_eq_true rfl) dX13_register_3 (fun H locs hP1 hD1 hk1 hS => ?_)
  have hP := hP1
  have hD := hD1.weaken (fun k q _ h => hFc q.1 h)
  refine lv_lstore_n (lv' := [(3, .long q1), (0, .ref (a 0)), (1, .int v0), (2, .int v1)]) hx hb dX13_register_6 rfl hl (by decide) rfl (fun ls hl => ?_)
  refine lv_lload_n hx hb dX13_register_7 rfl (lv_at hl 0 rfl) ?_
  refine lv_ldc2 hx hb hown (hts (.constantLong RX13 427 (4006234)) (List.mem_of_getElem? (i := 5) rfl)) dX13_register_8 ?_
  refine W.lcmp hx hb dX13_register_11 ?_
  refine lv_if_ne (tgt := 17) hx hb dX13_register_12 (by decide) (fun c4 => ?_) (fun c4 => ?_)
  · have h := nd_neg h c4
    refine lv_lload_n hx hb dX13_register_17 rfl (lv_at hl 0 rfl) ?_
    refine lv_ldc2 hx hb hown (hts (.constantLong RX13 429 (82)) (List.mem_of_getElem? (i := 6) rfl)) dX13_register_18 ?_
    refine W.lcmp hx hb dX13_register_21 ?_
    refine lv_if_ne (tgt := 27) hx hb dX13_register_22 (by decide) (fun c5 => ?_) (fun c5 => ?_)
    · have h := nd_neg h c5
      refine lv_lload_n hx hb dX13_register_27 rfl (lv_at hl 0 rfl) ?_
      refine lv_ldc2 hx hb hown (hts (.constantLong RX13 431 (1043)) (List.mem_of_getElem? (i := 7) rfl)) dX13_register_28 ?_
      refine W.lcmp hx hb dX13_register_31 ?_
      refine lv_if_ne (tgt := 37) hx hb dX13_register_32 (by decide) (fun c6 => ?_) (fun c6 => ?_)
      · have h := nd_neg h c6
        refine lv_lload_n hx hb dX13_register_37 rfl (lv_at hl 0 rfl) ?_
        refine lv_ldc2 hx hb hown (hts (.constantLong RX13 433 (1031)) (List.mem_of_getElem? (i := 8) rfl)) dX13_register_38 ?_
        refine W.lcmp hx hb dX13_register_41 ?_
        refine lv_if_ne (tgt := 47) hx hb dX13_register_42 (by decide) (fun c7 => ?_) (fun c7 => ?_)
        · have h := nd_neg h c7
          refine lv_lload_n hx hb dX13_register_47 rfl (lv_at hl 0 rfl) ?_
          refine lv_ldc2 hx hb hown (hts (.constantLong RX13 435 (1044)) (List.mem_of_getElem? (i := 9) rfl)) dX13_register_48 ?_
          refine W.lcmp hx hb dX13_register_51 ?_
          refine lv_if_ne (tgt := 57) hx hb dX13_register_52 (by decide) (fun c8 => ?_) (fun c8 => ?_)
          · have h := nd_neg h c8
            refine lv_lload_n hx hb dX13_register_57 rfl (lv_at hl 0 rfl) ?_
            refine lv_ldc2 hx hb hown (hts (.constantLong RX13 437 (1030)) (List.mem_of_getElem? (i := 10) rfl)) dX13_register_58 ?_
            refine W.lcmp hx hb dX13_register_61 ?_
            refine lv_if_ne (tgt := 68) hx hb dX13_register_62 (by decide) (fun c9 => ?_) (fun c9 => ?_)
            · have h := nd_neg h c9
              refine lv_iload_n hx hb dX13_register_68 rfl (lv_at hl 3 rfl) ?_
              refine lv_iload_n hx hb dX13_register_69 rfl (lv_at hl 2 rfl) ?_
              refine lv_isub hx hb dX13_register_70 ?_
              refine lv_iconst (v := 2) hx hb dX13_register_71 (by decide) ?_
              refine lv_icmp_lt (tgt := 96) hx hb dX13_register_72 (by decide) (fun c10 => ?_) (fun c10 => ?_)
              · have h := nd_pos h c10
                exact (db_X13_register_96 C K)  s2 _ _ _ h hP hD hS (lv_sub hl [] rfl)
              · have h := nd_neg h c10
                refine lv_iload_n hx hb dX13_register_75 rfl (lv_at hl 3 rfl) ?_
                refine lv_iload_n hx hb dX13_register_76 rfl (lv_at hl 2 rfl) ?_
                refine lv_isub hx hb dX13_register_77 ?_
                refine lv_iconst (v := 3) hx hb dX13_register_78 (by decide) ?_
                refine lv_icmp_gt (tgt := 96) hx hb dX13_register_79 (by decide) (fun c11 => ?_) (fun c11 => ?_)
                · have h := nd_pos h c11
                  exact (db_X13_register_96 C K)  s2 _ _ _ h hP hD hS (lv_sub hl [] rfl)
                · have h := nd_neg h c11
                  refine lv_aload_n hx hb dX13_register_82 rfl (lv_at hl 1 rfl) ?_
                  refine va_get (D := (dC, dI)) (ci := 14) (v := .ref (a 4)) (C := RX13) (T := TX13) (N := 37) hx hb hts hi_dm_X13_register_X13 hown hK hP 0 rfl rfl 3 (by decide) (hts (.fieldLink RX13 324 "TimeMachineModel$Assembler" "text" "[C") (List.mem_of_getElem? (i := 11) rfl)) (fun _ h9 => h9) rfl dX13_register_83 ?_
                  refine lv_iload_n hx hb dX13_register_86 rfl (lv_at hl 2 rfl) ?_
                  refine lv_iconst (v := 1) hx hb dX13_register_87 (by decide) ?_
                  refine lv_iadd hx hb dX13_register_88 ?_
                  obtain ⟨i12, h⟩ := nd_ck_e h
                  refine va_cald (i := (v0 + 1)) hx hb hK hP 4 3 rfl rfl i12 dX13_register_89 ?_
                  obtain ⟨q13, s14, hq, h⟩ := nd_b2_e h
                  have hPc : va_P (dC, dI) vwCl (dw_P a ac ()) H := nd_p0
                  have hDc : va_D A (dw_P a ac ()) := nd_d0
                  have hKc : va_K (dC, dI) vwCl (dk_P ac) s := nd_y0 hK
                  have hFc : ∀ q, va_A (dw_P a ac ()) H.size q → A q := nd_r0 hS hA
                  refine nd_cSi (As := [.int (sR s2 2 (Int32.toNatClampNeg (v0 + 1)))]) (rest := []) (q := q13) (w' := dw_P a ac s14) ⟨hx, hb, hml, hown, hts⟩ (fun sz => dm_X13_isDigit l hlt dC dI a ac n ((sR s2 2 (Int32.toNatClampNeg (v0 + 1)))) () hq sz) (cwS 1 hts gi_dm_X13_register_1 rfl rfl rfl (by decide +kernel) ⟨Nat.le_of_ble_eq_true rfl, Nat.le_of_ble_eq_true rfl⟩) hPc hDc hKc hS hA hN rfl hl.1 rfl (Nat.le_of_ble_eq_true rfl) dX13_register_90 (fun H locs hP1 hD1 hk1 hS => ?_)
                  have hP := nd_n0 hP hk1
                  refine lv_if_ne (tgt := 98) hx hb dX13_register_93 (by decide) (fun c16 => ?_) (fun c16 => ?_)
                  · have h := nd_neg h c16
                    refine lv_aload_n hx hb dX13_register_98 rfl (lv_at hl 1 rfl) ?_
                    refine va_get (D := (dC, dI)) (ci := 14) (v := .ref (a 4)) (C := RX13) (T := TX13) (N := 37) hx hb hts hi_dm_X13_register_X13 hown hK hP 0 rfl rfl 3 (by decide) (hts (.fieldLink RX13 324 "TimeMachineModel$Assembler" "text" "[C") (List.mem_of_getElem? (i := 11) rfl)) (fun _ h9 => h9) rfl dX13_register_99 ?_
                    refine lv_iload_n hx hb dX13_register_102 rfl (lv_at hl 2 rfl) ?_
                    refine lv_iconst (v := 1) hx hb dX13_register_103 (by decide) ?_
                    refine lv_iadd hx hb dX13_register_104 ?_
                    obtain ⟨i17, h⟩ := nd_ck_e h
                    refine va_cald (i := (v0 + 1)) hx hb hK hP 4 3 rfl rfl i17 dX13_register_105 ?_
                    refine lv_bipush (v := 48) hx hb dX13_register_106 (by decide) ?_
                    refine lv_isub hx hb dX13_register_108 ?_
                    refine lv_topi (fun z18 ez18 => ?_)
                    have h := nd_at h ez18
                    refine lv_istore (lv' := [(5, .int z18), (3, .long q1), (0, .ref (a 0)), (1, .int v0), (2, .int v1)]) hx hb dX13_register_109 hl (by decide) rfl (fun ls hl => ?_)
                    refine lv_iload_n hx hb dX13_register_111 rfl (lv_at hl 4 rfl) ?_
                    refine lv_iload_n hx hb dX13_register_112 rfl (lv_at hl 3 rfl) ?_
                    refine lv_isub hx hb dX13_register_113 ?_
                    refine lv_iconst (v := 3) hx hb dX13_register_114 (by decide) ?_
                    refine lv_icmp_ne (tgt := 161) hx hb dX13_register_115 (by decide) (fun c19 => ?_) (fun c19 => ?_)
                    · have h := nd_neg h c19
                      exact (db_X13_register_161 C K) (v0) (z18) s2 _ _ _ h hP hD hS (lv_sub hl [2, 3, 0] rfl)
                    · have h := nd_pos h c19
                      refine lv_iload hx hb dX13_register_118 (lv_at hl 0 rfl) ?_
                      refine lv_if_eq (tgt := 137) hx hb dX13_register_120 (by decide) (fun c32 => ?_) (fun c32 => ?_)
                      · have h := nd_pos h c32
                        exact (db_X13_register_137 C K) (v0) s2 _ _ _ h hP hD hS (lv_sub hl [2, 3] rfl)
                      · have h := nd_neg h c32
                        refine lv_aload_n hx hb dX13_register_123 rfl (lv_at hl 2 rfl) ?_
                        refine va_get (D := (dC, dI)) (ci := 14) (v := .ref (a 4)) (C := RX13) (T := TX13) (N := 37) hx hb hts hi_dm_X13_register_X13 hown hK hP 0 rfl rfl 3 (by decide) (hts (.fieldLink RX13 324 "TimeMachineModel$Assembler" "text" "[C") (List.mem_of_getElem? (i := 11) rfl)) (fun _ h9 => h9) rfl dX13_register_124 ?_
                        refine lv_iload_n hx hb dX13_register_127 rfl (lv_at hl 3 rfl) ?_
                        refine lv_iconst (v := 2) hx hb dX13_register_128 (by decide) ?_
                        refine lv_iadd hx hb dX13_register_129 ?_
                        obtain ⟨i33, h⟩ := nd_ck_e h
                        refine va_cald (i := (v0 + 2)) hx hb hK hP 4 3 rfl rfl i33 dX13_register_130 ?_
                        obtain ⟨q34, s35, hq, h⟩ := nd_b2_e h
                        have hPc : va_P (dC, dI) vwCl (dw_P a ac ()) H := nd_p0
                        have hDc : va_D A (dw_P a ac ()) := nd_d0
                        have hKc : va_K (dC, dI) vwCl (dk_P ac) s := nd_y0 hK
                        have hFc : ∀ q, va_A (dw_P a ac ()) H.size q → A q := nd_r0 hS hA
                        refine nd_cSi (As := [.int (sR s2 2 (Int32.toNatClampNeg (v0 + 2)))]) (rest := []) (q := q34) (w' := dw_P a ac s35) ⟨hx, hb, hml, hown, hts⟩ (fun sz => dm_X13_isDigit l hlt dC dI a ac n ((sR s2 2 (Int32.toNatClampNeg (v0 + 2)))) () hq sz) (cwS 1 hts gi_dm_X13_register_1 rfl rfl rfl (by decide +kernel) ⟨Nat.le_of_ble_eq_true rfl, Nat.le_of_ble_eq_true rfl⟩) hPc hDc hKc hS hA hN rfl hl.1 rfl (Nat.le_of_ble_eq_true rfl) dX13_register_131 (fun H locs hP1 hD1 hk1 hS => ?_)
                        have hP := nd_n0 hP hk1
                        refine lv_if_ne (tgt := 142) hx hb dX13_register_134 (by decide) (fun c37 => ?_) (fun c37 => ?_)
                        · have h := nd_neg h c37
                          refine lv_bipush (v := 10) hx hb dX13_register_142 (by decide) ?_
                          refine lv_iload hx hb dX13_register_144 (lv_at hl 0 rfl) ?_
                          refine lv_imul hx hb dX13_register_146 ?_
                          refine lv_aload_n hx hb dX13_register_147 rfl (lv_at hl 2 rfl) ?_
                          refine va_get (D := (dC, dI)) (ci := 14) (v := .ref (a 4)) (C := RX13) (T := TX13) (N := 37) hx hb hts hi_dm_X13_register_X13 hown hK hP 0 rfl rfl 3 (by decide) (hts (.fieldLink RX13 324 "TimeMachineModel$Assembler" "text" "[C") (List.mem_of_getElem? (i := 11) rfl)) (fun _ h9 => h9) rfl dX13_register_148 ?_
                          refine lv_iload_n hx hb dX13_register_151 rfl (lv_at hl 3 rfl) ?_
                          refine lv_iconst (v := 2) hx hb dX13_register_152 (by decide) ?_
                          refine lv_iadd hx hb dX13_register_153 ?_
                          obtain ⟨i38, h⟩ := nd_ck_e h
                          refine va_cald (i := (v0 + 2)) hx hb hK hP 4 3 rfl rfl i38 dX13_register_154 ?_
                          refine lv_iadd hx hb dX13_register_155 ?_
                          refine lv_bipush (v := 48) hx hb dX13_register_156 (by decide) ?_
                          refine lv_isub hx hb dX13_register_158 ?_
                          exact (db_X13_register_159 C K) (v0) ((((10 * z18) + (sR s2 2 (Int32.toNatClampNeg (v0 + 2)))) - 48)) s2 _ _ _ h hP hD hS (lv_sub hl [2, 3] rfl)
                        · have h := nd_pos h c37
                          exact (db_X13_register_137 C K) (v0) s2 _ _ _ h hP hD hS (lv_sub hl [2, 3] rfl)
                  · have h := nd_pos h c16
                    exact (db_X13_register_96 C K)  s2 _ _ _ h hP hD hS (lv_sub hl [] rfl)
            · have h := nd_pos h c9
              refine lv_bipush (v := 8) hx hb dX13_register_65 (by decide) ?_
              exact K _ _ _ _ _ _ dX13_register_67 rfl (Option.some.inj h).symm hP hD hS
          · have h := nd_pos h c8
            refine lv_iconst (v := 4) hx hb dX13_register_55 (by decide) ?_
            exact K _ _ _ _ _ _ dX13_register_56 rfl (Option.some.inj h).symm hP hD hS
        · have h := nd_pos h c7
          refine lv_iconst (v := 3) hx hb dX13_register_45 (by decide) ?_
          exact K _ _ _ _ _ _ dX13_register_46 rfl (Option.some.inj h).symm hP hD hS
      · have h := nd_pos h c6
        refine lv_iconst (v := 2) hx hb dX13_register_35 (by decide) ?_
        exact K _ _ _ _ _ _ dX13_register_36 rfl (Option.some.inj h).symm hP hD hS
    · have h := nd_pos h c5
      refine lv_iconst (v := 1) hx hb dX13_register_25 (by decide) ?_
      exact K _ _ _ _ _ _ dX13_register_26 rfl (Option.some.inj h).symm hP hD hS
  · have h := nd_pos h c4
    refine lv_iconst (v := 0) hx hb dX13_register_15 (by decide) ?_
    exact K _ _ _ _ _ _ dX13_register_16 rfl (Option.some.inj h).symm hP hD hS
set_option maxHeartbeats 40000000 in
set_option maxRecDepth 100000 in
theorem dm_X13_register (l : Launch) (hlt : l.stackTraces = false) (dC : Nat → ClassId) (dI : Nat → Nat → Nat) (a : Nat → Nat) (ac : Nat → ClassId) (n : Nat) (v0 : Int32) (v1 : Int32) (s0 : St) {r : Int32 × (St)} (h : df_X13_register n v0 v1 s0 = some r) (sz : Nat) : Met l yX13_register ow_dm_X13_register ({ frames := 2, cells := 0, slots := 0, locals := 46 }) (va_Pc [.ref (a 0), .int v0, .int v1] (fun U => U.heap.size = sz ∧ va_P (dC, dI) vwCl (dw_X13 a ac s0) U.heap ∧ va_K (dC, dI) vwCl (dk_X13 ac) U ∧ va_D (fun _ => True) (dw_X13 a ac s0) ∧ nv_E (va_A (dw_X13 a ac s0) sz) U)) (va_Qi (fun x _ => x = r.1) (fun (_ : Unit) t => va_P (dC, dI) vwCl (dw_X13 a ac r.2) t.heap ∧ va_K (dC, dI) vwCl (dk_X13 ac) t ∧ va_D (va_A (dw_X13 a ac s0) sz) (dw_X13 a ac r.2)) (va_A (dw_X13 a ac s0) sz)) 0 0 (va_A (dw_X13 a ac s0) sz) := by
  refine Met.ofW (cc := cX13_register) (maxL := 7) (ret := (some .int)) (by decide) rfl ?_
  intro p e s m args below meth c s₁ B hml hv
  obtain ⟨rfl, hsz, hP, hK, hD0, hN⟩ := hv
  have hx := B.exec
  have hb := B.bytes
  have hr := B.returns
  have hts := atoms_spec (ws := ow_dm_X13_register) B.pre
  have hown : s.vm.findClass RX13 = some m.cls := findClass_of_methodNamed B.named
  have hlocks := B.notSynchronized
  subst hsz
  have hD := hD0.self (sz := s.heap.size)
  generalize hAe : va_A (dw_X13 a ac s0) s.heap.size = A at hD hN ⊢
  have hA : ∀ q : Nat, s.heap.size ≤ q → A q := fun q h => by rw [← hAe]; exact Or.inr h
  have hl := lv_entry ([.ref (a 0), .int v0, .int v1]) (n := 7) (Nat.le_of_ble_eq_true rfl)
  rw [lg_entry_eq]
  generalize (lg_sl ([.ref (a 0), .int v0, .int v1]) ++ List.replicate (7 - (lg_sl ([.ref (a 0), .int v0, .int v1])).length) Slot.unset).toArray = ls at hl ⊢
  have hl : lv_has ls 7 [(0, .ref (a 0)), (1, .int v0), (2, .int v1)] := hl
  exact db_X13_register_0 (dC := dC) (dI := dI) (a := a) (ac := ac) (n := n) (r := r) ⟨hlt, hx, hb, hml, hown, hts, hN, hA, hK⟩ (fun pc v τ H locs ls d z er hP hD hS => by subst er; exact W.zret (v := v) hx hb hr z (fun t ht hW => ⟨⟨v, (), rfl, rfl, by rw [ht]; exact hP, va_K.moved hW.alike hK, hD⟩, hS.F ht⟩) hS.2.2 d) v0 v1 s0 _ _ _ h hP hD va_S.rf (lv_sub hl [0, 1, 2] rfl)
def ow_dm_X13_isAlike : List Cond := .code yX13_isAlike cX13_isAlike 5 (some .boolean) :: ([.methodLink RX13 358 yX13_charAt, .instanceMethod yX13_charAt, .selects RX13 yX13_charAt yX13_charAt, .initialized RX13, .methodLink RX13 362 yX13_isPlain, .static yX13_isPlain, .fieldLink RX13 324 "TimeMachineModel$Assembler" "text" "[C"] ++ (u_ws RX13 TX13 37 ++ (ow_dm_X13_charAt ++ (ow_dm_X13_isPlain ++ []))))
theorem gd_dm_X13_isAlike : ∀ w ∈ ow_dm_X13_isAlike, (w.onTables && w.keeps) = true ∨ ∃ ty, w = Cond.arrayClass ty := List.forall_mem_cons.mpr ⟨good_of_word rfl, List.forall_mem_append.mpr ⟨fun w h => good_of_word (List.all_eq_true.mp (by decide +kernel) w h), List.forall_mem_append.mpr ⟨gu_X13, List.forall_mem_append.mpr ⟨gd_dm_X13_charAt, List.forall_mem_append.mpr ⟨gd_dm_X13_isPlain, fun _ h => nomatch h⟩⟩⟩⟩⟩
theorem hi_dm_X13_isAlike_X13 : ∀ w ∈ u_ws RX13 TX13 37, w ∈ ow_dm_X13_isAlike := fun w h => List.mem_cons_of_mem _ (List.mem_append_right _ (List.mem_append_left _ h))
theorem gi_dm_X13_isAlike_0 : GoodIn ow_dm_X13_isAlike (wsV RX13 358 RX13 yX13_charAt ow_dm_X13_charAt) := goodIn_app (goodIn_of _ (by decide +kernel)) (fun w h => ⟨List.mem_cons_of_mem _ (List.mem_append_right _ (List.mem_append_right _ (List.mem_append_left _ h))), gd_dm_X13_charAt w h⟩)
theorem gi_dm_X13_isAlike_1 : GoodIn ow_dm_X13_isAlike (wsS RX13 362 yX13_isPlain ow_dm_X13_isPlain) := goodIn_app (goodIn_of _ (by decide +kernel)) (fun w h => ⟨List.mem_cons_of_mem _ (List.mem_append_right _ (List.mem_append_right _ (List.mem_append_right _ (List.mem_append_left _ h)))), gd_dm_X13_isPlain w h⟩)
def dj_X13_isAlike_57 (p : Program) (l : Launch) (e : Env) (s : State) (m : MethodId) (args : Array Value) (below : List Frame) (meth : Method) (c : Code) (Q : State → Prop) (A : Nat → Prop) (dC : Nat → ClassId) (dI : Nat → Nat → Nat) (a : Nat → Nat) (ac : Nat → ClassId) (g : Int32 → (St) → Option (Int32 × (St))) (r : Int32 × (St)) : Prop := ∀ (y0 : Int32) (s0 : St) (H : Heap) (locs : List Loc) (ls : Array Slot), g y0 s0 = some r → va_P (dC, dI) vwCl (dw_X13 a ac s0) H → va_D A (dw_X13 a ac s0) → va_S A s.heap H locs → lv_has ls 5 [] → W p l e (headSpec ow_dm_X13_isAlike ({ frames := 2, cells := 0, slots := 0, locals := 40 })).room s m args below meth c H locs 0 0 Q (F0 m 57 ls [.int y0])
def dj_X13_isAlike_3 (p : Program) (l : Launch) (e : Env) (s : State) (m : MethodId) (args : Array Value) (below : List Frame) (meth : Method) (c : Code) (Q : State → Prop) (A : Nat → Prop) (dC : Nat → ClassId) (dI : Nat → Nat → Nat) (a : Nat → Nat) (ac : Nat → ClassId) (g : Int32 → Int32 → Int32 → Int32 → (St) → Option (Int32 × (St))) (r : Int32 × (St)) : Prop := ∀ (x1 : Int32) (x2 : Int32) (x3 : Int32) (x4 : Int32) (s0 : St) (H : Heap) (locs : List Loc) (ls : Array Slot), g x1 x2 x3 x4 s0 = some r → va_P (dC, dI) vwCl (dw_X13 a ac s0) H → va_D A (dw_X13 a ac s0) → va_S A s.heap H locs → lv_has ls 5 [(0, .ref (a 0)), (1, .int x1), (2, .int x2), (3, .int x3), (4, .int x4)] → W p l e (headSpec ow_dm_X13_isAlike ({ frames := 2, cells := 0, slots := 0, locals := 40 })).room s m args below meth c H locs 0 0 Q (F0 m 3 ls [])
def dj_X13_isAlike_0 (p : Program) (l : Launch) (e : Env) (s : State) (m : MethodId) (args : Array Value) (below : List Frame) (meth : Method) (c : Code) (Q : State → Prop) (A : Nat → Prop) (dC : Nat → ClassId) (dI : Nat → Nat → Nat) (a : Nat → Nat) (ac : Nat → ClassId) (g : Int32 → Int32 → Int32 → (St) → Option (Int32 × (St))) (r : Int32 × (St)) : Prop := ∀ (v0 : Int32) (v1 : Int32) (v2 : Int32) (s0 : St) (H : Heap) (locs : List Loc) (ls : Array Slot), g v0 v1 v2 s0 = some r → va_P (dC, dI) vwCl (dw_X13 a ac s0) H → va_D A (dw_X13 a ac s0) → va_S A s.heap H locs → lv_has ls 5 [(0, .ref (a 0)), (1, .int v0), (2, .int v1), (3, .int v2)] → W p l e (headSpec ow_dm_X13_isAlike ({ frames := 2, cells := 0, slots := 0, locals := 40 })).room s m args below meth c H locs 0 0 Q (F0 m 0 ls [])
set_option maxHeartbeats 40000000 in
set_option maxRecDepth 100000 in
theorem db_X13_isAlike_57 {p : Program} {l : Launch} {e : Env} {s : State} {m : MethodId} {args : Array Value} {below : List Frame} {meth : Method} {c : Code} {Q : State → Prop} {A : Nat → Prop} {dC : Nat → ClassId} {dI : Nat → Nat → Nat} {a : Nat → Nat} {ac : Nat → ClassId} {n : Nat} {r : Int32 × (St)} (C : nd_C p l s m args c A (dC, dI) cX13_isAlike 5 RX13 ow_dm_X13_isAlike (dk_X13 ac)) (K : nd_Ki p l e (headSpec ow_dm_X13_isAlike ({ frames := 2, cells := 0, slots := 0, locals := 40 })).room s m args below meth c Q A (dC, dI) cX13_isAlike .boolean (St) (dw_X13 a ac) r) : dj_X13_isAlike_57 p l e s m args below meth c Q A dC dI a ac (df_X13_isAlike_57 n) r := by
  obtain ⟨hlt, hx, hb, hml, hown, hts, hN, hA, hK⟩ := id C
  intro y0 s0 H locs ls h hP hD hS hl
  unfold df_X13_isAlike_57 at h
  obtain ⟨n9, h⟩ := nd_z_e ⟨_, rfl⟩ h
  exact K _ _ _ _ _ _ dX13_isAlike_57 n9 (Option.some.inj h).symm hP hD hS
set_option maxHeartbeats 40000000 in
set_option maxRecDepth 100000 in
theorem dB_X13_isAlike_3 {p : Program} {l : Launch} {e : Env} {s : State} {m : MethodId} {args : Array Value} {below : List Frame} {meth : Method} {c : Code} {Q : State → Prop} {A : Nat → Prop} {dC : Nat → ClassId} {dI : Nat → Nat → Nat} {a : Nat → Nat} {ac : Nat → ClassId} {n : Nat} {r : Int32 × (St)} (C : nd_C p l s m args c A (dC, dI) cX13_isAlike 5 RX13 ow_dm_X13_isAlike (dk_X13 ac)) (K : nd_Ki p l e (headSpec ow_dm_X13_isAlike ({ frames := 2, cells := 0, slots := 0, locals := 40 })).room s m args below meth c Q A (dC, dI) cX13_isAlike .boolean (St) (dw_X13 a ac) r) {g3 : Int32 → Int32 → Int32 → Int32 → (St) → Option (Int32 × (St))} (J3 : dj_X13_isAlike_3 p l e s m args below meth c Q A dC dI a ac g3 r) : dj_X13_isAlike_3 p l e s m args below meth c Q A dC dI a ac (dF_X13_isAlike_3 n g3) r := by
  obtain ⟨hlt, hx, hb, hml, hown, hts, hN, hA, hK⟩ := id C
  intro x1 x2 x3 x4 s0 H locs ls h hP hD hS hl
  unfold dF_X13_isAlike_3 at h
  refine lv_iload hx hb dX13_isAlike_3 (lv_at hl 4 rfl) ?_
  refine lv_iload_n hx hb dX13_isAlike_5 rfl (lv_at hl 2 rfl) ?_
  refine lv_icmp_ge (tgt := 37) hx hb dX13_isAlike_6 (by decide) (fun c1 => ?_) (fun c1 => ?_)
  · have h := nd_pos h c1
    refine lv_aload_n hx hb dX13_isAlike_37 rfl (lv_at hl 0 rfl) ?_
    refine lv_iload_n hx hb dX13_isAlike_38 rfl (lv_at hl 3 rfl) ?_
    refine lv_iload_n hx hb dX13_isAlike_39 rfl (lv_at hl 2 rfl) ?_
    refine lv_iadd hx hb dX13_isAlike_40 ?_
    refine lv_iload_n hx hb dX13_isAlike_41 rfl (lv_at hl 1 rfl) ?_
    refine lv_isub hx hb dX13_isAlike_42 ?_
    obtain ⟨q2, s3, hq, h⟩ := nd_b2_e h
    have hPc := hP
    have hDc := hD
    have hKc := hK
    have hFc := nd_rs hD hS hA
    refine nd_cVi (As := [.int ((x3 + x2) - x1)]) (rest := []) (q := q2) (w' := dw_X13 a ac s3) ⟨hx, hb, hml, hown, hts⟩ (fun sz => dm_X13_charAt l hlt dC dI a ac n (((x3 + x2) - x1)) s0 hq sz) (cwV 1 hts gi_dm_X13_isAlike_0 rfl rfl rfl (by decide +kernel) ⟨Nat.le_of_ble_eq_true rfl, Nat.le_of_ble_eq_true rfl⟩) hPc hDc hKc hS hA hN (va_recv hKc hPc (ci := 14) (q0 := 0) rfl rfl) rfl hl.1 rfl (Nat.le_of_ble_eq_true rfl) dX13_isAlike_43 (fun H locs hP1 hD1 hk1 hS => ?_)
    have hP := hP1
    have hD := hD1.weaken (fun k q _ h => hFc q.1 h)
    obtain ⟨q5, s6, hq, h⟩ := nd_b2_e h
    have hPc : va_P (dC, dI) vwCl (dw_P a ac ()) H := nd_p0
    have hDc : va_D A (dw_P a ac ()) := nd_d0
    have hKc : va_K (dC, dI) vwCl (dk_P ac) s := nd_y0 hK
    have hFc : ∀ q, va_A (dw_P a ac ()) H.size q → A q := nd_r0 hS hA
    refine nd_cSi (As := [.int q2]) (rest := []) (q := q5) (w' := dw_P a ac s6) ⟨hx, hb, hml, hown, hts⟩ (fun sz => dm_X13_isPlain l hlt dC dI a ac n (q2) () hq sz) (cwS 1 hts gi_dm_X13_isAlike_1 rfl rfl rfl (by decide +kernel) ⟨Nat.le_of_ble_eq_true rfl, Nat.le_of_ble_eq_true rfl⟩) hPc hDc hKc hS hA hN rfl hl.1 rfl (Nat.le_of_ble_eq_true rfl) dX13_isAlike_46 (fun H locs hP1 hD1 hk1 hS => ?_)
    have hP := nd_n0 hP hk1
    refine lv_if_ne (tgt := 56) hx hb dX13_isAlike_49 (by decide) (fun c8 => ?_) (fun c8 => ?_)
    · have h := nd_neg h c8
      refine lv_iconst (v := 0) hx hb dX13_isAlike_56 (by decide) ?_
      exact (db_X13_isAlike_57 C K) (0) s3 _ _ _ h hP hD hS (lv_sub hl [] rfl)
    · have h := nd_pos h c8
      refine lv_iconst (v := 1) hx hb dX13_isAlike_52 (by decide) ?_
      refine lv_goto (tgt := 57) hx hb dX13_isAlike_53 (by decide) ?_
      exact (db_X13_isAlike_57 C K) (1) s3 _ _ _ h hP hD hS (lv_sub hl [] rfl)
  · have h := nd_neg h c1
    refine lv_aload_n hx hb dX13_isAlike_9 rfl (lv_at hl 0 rfl) ?_
    refine lv_iload_n hx hb dX13_isAlike_10 rfl (lv_at hl 3 rfl) ?_
    refine lv_iload hx hb dX13_isAlike_11 (lv_at hl 4 rfl) ?_
    refine lv_iadd hx hb dX13_isAlike_13 ?_
    refine lv_iload_n hx hb dX13_isAlike_14 rfl (lv_at hl 1 rfl) ?_
    refine lv_isub hx hb dX13_isAlike_15 ?_
    obtain ⟨q10, s11, hq, h⟩ := nd_b2_e h
    have hPc := hP
    have hDc := hD
    have hKc := hK
    have hFc := nd_rs hD hS hA
    refine nd_cVi (As := [.int ((x3 + x4) - x1)]) (rest := []) (q := q10) (w' := dw_X13 a ac s11) ⟨hx, hb, hml, hown, hts⟩ (fun sz => dm_X13_charAt l hlt dC dI a ac n (((x3 + x4) - x1)) s0 hq sz) (cwV 1 hts gi_dm_X13_isAlike_0 rfl rfl rfl (by decide +kernel) ⟨Nat.le_of_ble_eq_true rfl, Nat.le_of_ble_eq_true rfl⟩) hPc hDc hKc hS hA hN (va_recv hKc hPc (ci := 14) (q0 := 0) rfl rfl) rfl hl.1 rfl (Nat.le_of_ble_eq_true rfl) dX13_isAlike_16 (fun H locs hP1 hD1 hk1 hS => ?_)
    have hP := hP1
    have hD := hD1.weaken (fun k q _ h => hFc q.1 h)
    refine lv_aload_n hx hb dX13_isAlike_19 rfl (lv_at hl 0 rfl) ?_
    refine va_get (D := (dC, dI)) (ci := 14) (v := .ref (a 4)) (C := RX13) (T := TX13) (N := 37) hx hb hts hi_dm_X13_isAlike_X13 hown hK hP 0 rfl rfl 3 (by decide) (hts (.fieldLink RX13 324 "TimeMachineModel$Assembler" "text" "[C") (List.mem_of_getElem? (i := 7) rfl)) (fun _ h9 => h9) rfl dX13_isAlike_20 ?_
    refine lv_iload hx hb dX13_isAlike_23 (lv_at hl 4 rfl) ?_
    obtain ⟨i13, h⟩ := nd_ck_e h
    refine va_cald (i := x4) hx hb hK hP 4 3 rfl rfl i13 dX13_isAlike_25 ?_
    refine lv_icmp_eq (tgt := 31) hx hb dX13_isAlike_26 (by decide) (fun c14 => ?_) (fun c14 => ?_)
    · have h := nd_pos h c14
      obtain ⟨z15, ez15, h⟩ := nd_let_e h
      refine lv_iinc (v := z15) (lv' := [(4, .int z15), (0, .ref (a 0)), (1, .int x1), (2, .int x2), (3, .int x3)]) hx hb dX13_isAlike_31 hl (k := 4) rfl (by rw [ez15]) (by decide) rfl (fun ls hl => ?_)
      refine lv_goto (tgt := 3) hx hb dX13_isAlike_34 (by decide) ?_
      exact (J3) (x1) (x2) (x3) (z15) s11 _ _ _ h hP hD hS (lv_sub hl [1, 2, 3, 4, 0] rfl)
    · have h := nd_neg h c14
      refine lv_iconst (v := 0) hx hb dX13_isAlike_29 (by decide) ?_
      exact K _ _ _ _ _ _ dX13_isAlike_30 (by first | rfl | decide) (Option.some.inj h).symm hP hD hS
set_option maxHeartbeats 40000000 in
set_option maxRecDepth 100000 in
theorem db_X13_isAlike_3 {p : Program} {l : Launch} {e : Env} {s : State} {m : MethodId} {args : Array Value} {below : List Frame} {meth : Method} {c : Code} {Q : State → Prop} {A : Nat → Prop} {dC : Nat → ClassId} {dI : Nat → Nat → Nat} {a : Nat → Nat} {ac : Nat → ClassId} {n : Nat} {r : Int32 × (St)} (C : nd_C p l s m args c A (dC, dI) cX13_isAlike 5 RX13 ow_dm_X13_isAlike (dk_X13 ac)) (K : nd_Ki p l e (headSpec ow_dm_X13_isAlike ({ frames := 2, cells := 0, slots := 0, locals := 40 })).room s m args below meth c Q A (dC, dI) cX13_isAlike .boolean (St) (dw_X13 a ac) r) (k : Nat) : dj_X13_isAlike_3 p l e s m args below meth c Q A dC dI a ac (df_X13_isAlike_3 n k) r := by
  induction k with
  | zero => intro x1 x2 x3 x4 s0 H locs ls h; exact nomatch (show (none : Option (Int32 × (St))) = some r from h)
  | succ k ih => exact dB_X13_isAlike_3 C K ih
