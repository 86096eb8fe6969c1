set_option maxHeartbeats 40000000 in
set_option maxRecDepth 100000 in
theorem db_X11_advance_112 {p : Program} {l : Launch} {e : Env} {s : State} {m : MethodId} {args : Array Value} {below : List Frame} {meth : Method} {c : Code} {Q : State → Prop} {A : Nat → Prop} {dC : Nat → ClassId} {dI : Nat → Nat → Nat} {a : Nat → Nat} {ac : Nat → ClassId} {n : Nat} {r : St × Rw × (St × (St × (St × (St)))) × (St) × (St) × (Nat → St) × (Nat → St) × (Nat → St × (St))} (C : nd_C p l s m args c A (dC, dI) cX11_advance 1 RX11 ow_dm_X11_advance (dk_X11 ac)) (K : nd_Kv p l e (headSpec ow_dm_X11_advance ({ frames := 7, cells := 0, slots := 0, locals := 162 })).room s m args below meth c Q A (dC, dI) cX11_advance (St × Rw × (St × (St × (St × (St)))) × (St) × (St) × (Nat → St) × (Nat → St) × (Nat → St × (St))) (dw_X11 a ac) r) : dj_X11_advance_112 p l e s m args below meth c Q A dC dI a ac (df_X11_advance_112 n) r := by
  obtain ⟨hlt, hx, hb, hml, hown, hts, hN, hA, hK⟩ := id C
  intro s0 H locs ls h hP hD hS hl
  unfold df_X11_advance_112 at h
  refine lv_aload_n hx hb dX11_advance_112 rfl (lv_at hl 0 rfl) ?_
  obtain ⟨s9, hq, h⟩ := nd_b1_e h
  have hPc := hP
  have hDc := hD
  have hKc := hK
  have hFc := nd_rs hD hS hA
  refine nd_cVv (As := []) (rest := []) (w' := dw_X11 a ac s9) ⟨hx, hb, hml, hown, hts⟩ (fun sz => dm_X11_takeRecorded l hlt dC dI a ac n  s0 hq sz) (cwV 0 hts gi_dm_X11_advance_1 rfl rfl rfl (by decide +kernel) ⟨Nat.le_of_ble_eq_true rfl, Nat.le_of_ble_eq_true rfl⟩) hPc hDc hKc hS hA hN (va_recv hKc hPc (ci := 12) (q0 := 0) rfl rfl) rfl hl.1 rfl (Nat.le_of_ble_eq_true rfl) dX11_advance_113 (fun H locs hP1 hD1 hk1 hS => ?_)
  have hP := hP1
  have hD := hD1.weaken (fun k q _ h => hFc q.1 h)
  refine lv_aload_n hx hb dX11_advance_116 rfl (lv_at hl 0 rfl) ?_
  refine va_get (D := (dC, dI)) (ci := 12) (v := .int (sI s9.1 3)) (C := RX11) (T := TX11) (N := 16) hx hb hts hi_dm_X11_advance_X11 hown hK hP 0 rfl rfl 11 (by decide) (hts (.fieldLink RX11 72 "TimeMachine$Timeline" "now" "I") (List.mem_of_getElem? (i := 6) rfl)) (fun _ h9 => h9) rfl dX11_advance_117 ?_
  refine lv_aload_n hx hb dX11_advance_120 rfl (lv_at hl 0 rfl) ?_
  refine va_get (D := (dC, dI)) (ci := 12) (v := .int (sI s9.1 4)) (C := RX11) (T := TX11) (N := 16) hx hb hts hi_dm_X11_advance_X11 hown hK hP 0 rfl rfl 12 (by decide) (hts (.fieldLink RX11 76 "TimeMachine$Timeline" "end" "I") (List.mem_of_getElem? (i := 17) rfl)) (fun _ h9 => h9) rfl dX11_advance_121 ?_
  refine lv_icmp_le (tgt := 139) hx hb dX11_advance_124 (by decide) (fun c11 => ?_) (fun c11 => ?_)
  · have h := nd_pos h c11
    exact (db_X11_advance_139 C K)  s9 _ _ _ h hP hD hS (lv_sub hl [] rfl)
  · have h := nd_neg h c11
    refine lv_aload_n hx hb dX11_advance_127 rfl (lv_at hl 0 rfl) ?_
    refine lv_aload_n hx hb dX11_advance_128 rfl (lv_at hl 0 rfl) ?_
    refine va_get (D := (dC, dI)) (ci := 12) (v := .int (sI s9.1 3)) (C := RX11) (T := TX11) (N := 16) hx hb hts hi_dm_X11_advance_X11 hown hK hP 0 rfl rfl 11 (by decide) (hts (.fieldLink RX11 72 "TimeMachine$Timeline" "now" "I") (List.mem_of_getElem? (i := 6) rfl)) (fun _ h9 => h9) rfl dX11_advance_129 ?_
    refine va_put (D := (dC, dI)) (ci := 12) (v := .int (sI s9.1 3)) (ty := .int) (C := RX11) (T := TX11) (N := 16) hx hb hts hi_dm_X11_advance_X11 tyX11 tyX11_ok nmX11 hown hK hP hD hS 0 rfl rfl 12 (by decide) (hts (.fieldLink RX11 76 "TimeMachine$Timeline" "end" "I") (List.mem_of_getElem? (i := 17) rfl)) (fun _ h9 => h9) rfl (by decide +kernel) rfl rfl (Nat.le_of_ble_eq_true rfl) dX11_advance_132 (fun H locs hP hD hS => ?_)
    obtain ⟨s12, es12, h⟩ := nd_let_e h
    have hP : va_P (dC, dI) vwCl (dw_X11 a ac s12) H := by rw [es12]; exact hP
    have hD : va_D A (dw_X11 a ac s12) := by rw [es12]; exact hD
    refine lv_aload_n hx hb dX11_advance_135 rfl (lv_at hl 0 rfl) ?_
    obtain ⟨s14, hq, h⟩ := nd_b1_e h
    have hPc := hP
    have hDc := hD
    have hKc := hK
    have hFc := nd_rs hD hS hA
    refine nd_cVv (As := []) (rest := []) (w' := dw_X11 a ac s14) ⟨hx, hb, hml, hown, hts⟩ (fun sz => dm_X11_takeScheduled l hlt dC dI a ac n  s12 hq sz) (cwV 0 hts gi_dm_X11_advance_2 rfl rfl rfl (by decide +kernel) ⟨Nat.le_of_ble_eq_true rfl, Nat.le_of_ble_eq_true rfl⟩) hPc hDc hKc hS hA hN (va_recv hKc hPc (ci := 12) (q0 := 0) rfl rfl) rfl hl.1 rfl (Nat.le_of_ble_eq_true rfl) dX11_advance_136 (fun H locs hP1 hD1 hk1 hS => ?_)
    have hP := hP1
    have hD := hD1.weaken (fun k q _ h => hFc q.1 h)
    exact (db_X11_advance_139 C K)  s14 _ _ _ h hP hD hS (lv_sub hl [] rfl)
set_option maxHeartbeats 40000000 in
set_option maxRecDepth 100000 in
theorem db_X11_advance_92 {p : Program} {l : Launch} {e : Env} {s : State} {m : MethodId} {args : Array Value} {below : List Frame} {meth : Method} {c : Code} {Q : State → Prop} {A : Nat → Prop} {dC : Nat → ClassId} {dI : Nat → Nat → Nat} {a : Nat → Nat} {ac : Nat → ClassId} {n : Nat} {r : St × Rw × (St × (St × (St × (St)))) × (St) × (St) × (Nat → St) × (Nat → St) × (Nat → St × (St))} (C : nd_C p l s m args c A (dC, dI) cX11_advance 1 RX11 ow_dm_X11_advance (dk_X11 ac)) (K : nd_Kv p l e (headSpec ow_dm_X11_advance ({ frames := 7, cells := 0, slots := 0, locals := 162 })).room s m args below meth c Q A (dC, dI) cX11_advance (St × Rw × (St × (St × (St × (St)))) × (St) × (St) × (Nat → St) × (Nat → St) × (Nat → St × (St))) (dw_X11 a ac) r) : dj_X11_advance_92 p l e s m args below meth c Q A dC dI a ac (df_X11_advance_92 n) r := by
  obtain ⟨hlt, hx, hb, hml, hown, hts, hN, hA, hK⟩ := id C
  intro s0 H locs ls h hP hD hS hl
  unfold df_X11_advance_92 at h
  refine lv_aload_n hx hb dX11_advance_92 rfl (lv_at hl 0 rfl) ?_
  refine va_get (D := (dC, dI)) (ci := 12) (v := .int (sI s0.1 3)) (C := RX11) (T := TX11) (N := 16) hx hb hts hi_dm_X11_advance_X11 hown hK hP 0 rfl rfl 11 (by decide) (hts (.fieldLink RX11 72 "TimeMachine$Timeline" "now" "I") (List.mem_of_getElem? (i := 6) rfl)) (fun _ h9 => h9) rfl dX11_advance_93 ?_
  refine lv_iconst (v := 1) hx hb dX11_advance_96 (by decide) ?_
  refine lv_aload_n hx hb dX11_advance_97 rfl (lv_at hl 0 rfl) ?_
  refine va_get (D := (dC, dI)) (ci := 12) (v := .int (sI s0.1 2)) (C := RX11) (T := TX11) (N := 16) hx hb hts hi_dm_X11_advance_X11 hown hK hP 0 rfl rfl 10 (by decide) (hts (.fieldLink RX11 88 "TimeMachine$Timeline" "spacing" "I") (List.mem_of_getElem? (i := 8) rfl)) (fun _ h9 => h9) rfl dX11_advance_98 ?_
  refine va_mmax hx hb (by rw [hml]; exact hl.1.symm) hown (hts (.methodLink RX11 104 Lib.Math.max.name) (List.mem_of_getElem? (i := 9) rfl)) (hts (.static Lib.Math.max.name) (List.mem_of_getElem? (i := 10) rfl)) (hts (.initialized "java/lang/Math") (List.mem_of_getElem? (i := 11) rfl)) (hts (.code Lib.Math.max.name Lib.Math.max.code 2 (some .int)) (List.mem_of_getElem? (i := 12) rfl)) (Nat.le_of_ble_eq_true rfl) (Nat.le_of_ble_eq_true rfl) (by decide +kernel) (by decide +kernel) dX11_advance_101 ?_
  obtain ⟨i19, h⟩ := nd_nz_e h
  refine lv_irem hx hb dX11_advance_104 i19 ?_
  refine lv_if_ne (tgt := 112) hx hb dX11_advance_105 (by decide) (fun c20 => ?_) (fun c20 => ?_)
  · have h := nd_neg h c20
    exact (db_X11_advance_112 C K)  s0 _ _ _ h hP hD hS (lv_sub hl [0] rfl)
  · have h := nd_pos h c20
    refine lv_aload_n hx hb dX11_advance_108 rfl (lv_at hl 0 rfl) ?_
    obtain ⟨s22, hq, h⟩ := nd_b1_e h
    have hPc := hP
    have hDc := hD
    have hKc := hK
    have hFc := nd_rs hD hS hA
    refine nd_cVv (As := []) (rest := []) (w' := dw_X11 a ac s22) ⟨hx, hb, hml, hown, hts⟩ (fun sz => dm_X11_keepCopy l hlt dC dI a ac n  s0 hq sz) (cwV 0 hts gi_dm_X11_advance_3 rfl rfl rfl (by decide +kernel) ⟨Nat.le_of_ble_eq_true rfl, Nat.le_of_ble_eq_true rfl⟩) hPc hDc hKc hS hA hN (va_recv hKc hPc (ci := 12) (q0 := 0) rfl rfl) rfl hl.1 rfl (Nat.le_of_ble_eq_true rfl) dX11_advance_109 (fun H locs hP1 hD1 hk1 hS => ?_)
    have hP := hP1
    have hD := hD1.weaken (fun k q _ h => hFc q.1 h)
    exact (db_X11_advance_112 C K)  s22 _ _ _ h hP hD hS (lv_sub hl [0] rfl)
set_option maxHeartbeats 40000000 in
set_option maxRecDepth 100000 in
theorem db_X11_advance_35 {p : Program} {l : Launch} {e : Env} {s : State} {m : MethodId} {args : Array Value} {below : List Frame} {meth : Method} {c : Code} {Q : State → Prop} {A : Nat → Prop} {dC : Nat → ClassId} {dI : Nat → Nat → Nat} {a : Nat → Nat} {ac : Nat → ClassId} {n : Nat} {r : St × Rw × (St × (St × (St × (St)))) × (St) × (St) × (Nat → St) × (Nat → St) × (Nat → St × (St))} (C : nd_C p l s m args c A (dC, dI) cX11_advance 1 RX11 ow_dm_X11_advance (dk_X11 ac)) (K : nd_Kv p l e (headSpec ow_dm_X11_advance ({ frames := 7, cells := 0, slots := 0, locals := 162 })).room s m args below meth c Q A (dC, dI) cX11_advance (St × Rw × (St × (St × (St × (St)))) × (St) × (St) × (Nat → St) × (Nat → St) × (Nat → St × (St))) (dw_X11 a ac) r) : dj_X11_advance_35 p l e s m args below meth c Q A dC dI a ac (df_X11_advance_35 n) r := by
  obtain ⟨hlt, hx, hb, hml, hown, hts, hN, hA, hK⟩ := id C
  intro s0 H locs ls h hP hD hS hl
  unfold df_X11_advance_35 at h
  refine lv_aload_n hx hb dX11_advance_35 rfl (lv_at hl 0 rfl) ?_
  refine lv_dup hx hb dX11_advance_36 rfl ?_
  refine va_get (D := (dC, dI)) (ci := 12) (v := .int (sI s0.1 3)) (C := RX11) (T := TX11) (N := 16) hx hb hts hi_dm_X11_advance_X11 hown hK hP 0 rfl rfl 11 (by decide) (hts (.fieldLink RX11 72 "TimeMachine$Timeline" "now" "I") (List.mem_of_getElem? (i := 6) rfl)) (fun _ h9 => h9) rfl dX11_advance_37 ?_
  refine lv_iconst (v := 1) hx hb dX11_advance_40 (by decide) ?_
  refine lv_iadd hx hb dX11_advance_41 ?_
  refine va_put (D := (dC, dI)) (ci := 12) (v := .int ((sI s0.1 3) + 1)) (ty := .int) (C := RX11) (T := TX11) (N := 16) hx hb hts hi_dm_X11_advance_X11 tyX11 tyX11_ok nmX11 hown hK hP hD hS 0 rfl rfl 11 (by decide) (hts (.fieldLink RX11 72 "TimeMachine$Timeline" "now" "I") (List.mem_of_getElem? (i := 6) rfl)) (fun _ h9 => h9) rfl (by decide +kernel) rfl rfl (Nat.le_of_ble_eq_true rfl) dX11_advance_42 (fun H locs hP hD hS => ?_)
  obtain ⟨s5, es5, h⟩ := nd_let_e h
  have hP : va_P (dC, dI) vwCl (dw_X11 a ac s5) H := by rw [es5]; exact hP
  have hD : va_D A (dw_X11 a ac s5) := by rw [es5]; exact hD
  refine lv_aload_n hx hb dX11_advance_45 rfl (lv_at hl 0 rfl) ?_
  refine va_get (D := (dC, dI)) (ci := 12) (v := .int (sI s5.1 3)) (C := RX11) (T := TX11) (N := 16) hx hb hts hi_dm_X11_advance_X11 hown hK hP 0 rfl rfl 11 (by decide) (hts (.fieldLink RX11 72 "TimeMachine$Timeline" "now" "I") (List.mem_of_getElem? (i := 6) rfl)) (fun _ h9 => h9) rfl dX11_advance_46 ?_
  refine lv_iconst (v := 1) hx hb dX11_advance_49 (by decide) ?_
  refine lv_aload_n hx hb dX11_advance_50 rfl (lv_at hl 0 rfl) ?_
  refine va_get (D := (dC, dI)) (ci := 12) (v := .int (sI s5.1 2)) (C := RX11) (T := TX11) (N := 16) hx hb hts hi_dm_X11_advance_X11 hown hK hP 0 rfl rfl 10 (by decide) (hts (.fieldLink RX11 88 "TimeMachine$Timeline" "spacing" "I") (List.mem_of_getElem? (i := 8) rfl)) (fun _ h9 => h9) rfl dX11_advance_51 ?_
  refine va_mmax hx hb (by rw [hml]; exact hl.1.symm) hown (hts (.methodLink RX11 104 Lib.Math.max.name) (List.mem_of_getElem? (i := 9) rfl)) (hts (.static Lib.Math.max.name) (List.mem_of_getElem? (i := 10) rfl)) (hts (.initialized "java/lang/Math") (List.mem_of_getElem? (i := 11) rfl)) (hts (.code Lib.Math.max.name Lib.Math.max.code 2 (some .int)) (List.mem_of_getElem? (i := 12) rfl)) (Nat.le_of_ble_eq_true rfl) (Nat.le_of_ble_eq_true rfl) (by decide +kernel) (by decide +kernel) dX11_advance_54 ?_
  obtain ⟨i6, h⟩ := nd_nz_e h
  refine lv_irem hx hb dX11_advance_57 i6 ?_
  refine lv_if_ne (tgt := 112) hx hb dX11_advance_58 (by decide) (fun c7 => ?_) (fun c7 => ?_)
  · have h := nd_neg h c7
    exact (db_X11_advance_112 C K)  s5 _ _ _ h hP hD hS (lv_sub hl [0] rfl)
  · have h := nd_pos h c7
    refine lv_aload_n hx hb dX11_advance_61 rfl (lv_at hl 0 rfl) ?_
    refine va_get (D := (dC, dI)) (ci := 12) (v := .int (sI s5.1 3)) (C := RX11) (T := TX11) (N := 16) hx hb hts hi_dm_X11_advance_X11 hown hK hP 0 rfl rfl 11 (by decide) (hts (.fieldLink RX11 72 "TimeMachine$Timeline" "now" "I") (List.mem_of_getElem? (i := 6) rfl)) (fun _ h9 => h9) rfl dX11_advance_62 ?_
    refine lv_aload_n hx hb dX11_advance_65 rfl (lv_at hl 0 rfl) ?_
    refine va_get (D := (dC, dI)) (ci := 12) (v := .ref (a 2)) (C := RX11) (T := TX11) (N := 16) hx hb hts hi_dm_X11_advance_X11 hown hK hP 0 rfl rfl 8 (by decide) (hts (.fieldLink RX11 52 "TimeMachine$Timeline" "copyAt" "[I") (List.mem_of_getElem? (i := 21) rfl)) (fun _ h9 => h9) rfl dX11_advance_66 ?_
    refine lv_aload_n hx hb dX11_advance_69 rfl (lv_at hl 0 rfl) ?_
    refine va_get (D := (dC, dI)) (ci := 12) (v := .int (sI s5.1 1)) (C := RX11) (T := TX11) (N := 16) hx hb hts hi_dm_X11_advance_X11 hown hK hP 0 rfl rfl 9 (by decide) (hts (.fieldLink RX11 85 "TimeMachine$Timeline" "copies" "I") (List.mem_of_getElem? (i := 22) rfl)) (fun _ h9 => h9) rfl dX11_advance_70 ?_
    refine lv_iconst (v := 1) hx hb dX11_advance_73 (by decide) ?_
    refine lv_isub hx hb dX11_advance_74 ?_
    obtain ⟨i16, h⟩ := nd_ck_e h
    refine va_iald (i := ((sI s5.1 1) - 1)) hx hb hK hP 2 1 rfl rfl i16 dX11_advance_75 ?_
    refine lv_icmp_le (tgt := 112) hx hb dX11_advance_76 (by decide) (fun c17 => ?_) (fun c17 => ?_)
    · have h := nd_pos h c17
      exact (db_X11_advance_112 C K)  s5 _ _ _ h hP hD hS (lv_sub hl [0] rfl)
    · have h := nd_neg h c17
      refine lv_aload_n hx hb dX11_advance_79 rfl (lv_at hl 0 rfl) ?_
      refine va_get (D := (dC, dI)) (ci := 12) (v := .int (sI s5.1 1)) (C := RX11) (T := TX11) (N := 16) hx hb hts hi_dm_X11_advance_X11 hown hK hP 0 rfl rfl 9 (by decide) (hts (.fieldLink RX11 85 "TimeMachine$Timeline" "copies" "I") (List.mem_of_getElem? (i := 22) rfl)) (fun _ h9 => h9) rfl dX11_advance_80 ?_
      refine lv_bipush (v := 8) hx hb dX11_advance_83 (by decide) ?_
      refine lv_icmp_ne (tgt := 92) hx hb dX11_advance_85 (by decide) (fun c18 => ?_) (fun c18 => ?_)
      · have h := nd_neg h c18
        exact (db_X11_advance_92 C K)  s5 _ _ _ h hP hD hS (lv_sub hl [0] rfl)
      · have h := nd_pos h c18
        refine lv_aload_n hx hb dX11_advance_88 rfl (lv_at hl 0 rfl) ?_
        obtain ⟨s25, hq, h⟩ := nd_b1_e h
        have hPc := hP
        have hDc := hD
        have hKc := hK
        have hFc := nd_rs hD hS hA
        refine nd_cVv (As := []) (rest := []) (w' := dw_X11 a ac s25) ⟨hx, hb, hml, hown, hts⟩ (fun sz => dm_X11_thinOut l hlt dC dI a ac n  s5 hq sz) (cwV 0 hts gi_dm_X11_advance_4 rfl rfl rfl (by decide +kernel) ⟨Nat.le_of_ble_eq_true rfl, Nat.le_of_ble_eq_true rfl⟩) hPc hDc hKc hS hA hN (va_recv hKc hPc (ci := 12) (q0 := 0) rfl rfl) rfl hl.1 rfl (Nat.le_of_ble_eq_true rfl) dX11_advance_89 (fun H locs hP1 hD1 hk1 hS => ?_)
        have hP := hP1
        have hD := hD1.weaken (fun k q _ h => hFc q.1 h)
        exact (db_X11_advance_92 C K)  s25 _ _ _ h hP hD hS (lv_sub hl [0] rfl)
set_option maxHeartbeats 40000000 in
set_option maxRecDepth 100000 in
theorem db_X11_advance_0 {p : Program} {l : Launch} {e : Env} {s : State} {m : MethodId} {args : Array Value} {below : List Frame} {meth : Method} {c : Code} {Q : State → Prop} {A : Nat → Prop} {dC : Nat → ClassId} {dI : Nat → Nat → Nat} {a : Nat → Nat} {ac : Nat → ClassId} {n : Nat} {r : St × Rw × (St × (St × (St × (St)))) × (St) × (St) × (Nat → St) × (Nat → St) × (Nat → St × (St))} (C : nd_C p l s m args c A (dC, dI) cX11_advance 1 RX11 ow_dm_X11_advance (dk_X11 ac)) (K : nd_Kv p l e (headSpec ow_dm_X11_advance ({ frames := 7, cells := 0, slots := 0, locals := 162 })).room s m args below meth c Q A (dC, dI) cX11_advance (St × Rw × (St × (St × (St × (St)))) × (St) × (St) × (Nat → St) × (Nat → St) × (Nat → St × (St))) (dw_X11 a ac) r) : dj_X11_advance_0 p l e s m args below meth c Q A dC dI a ac (df_X11_advance_0 n) r := by
  obtain ⟨hlt, hx, hb, hml, hown, hts, hN, hA, hK⟩ := id C
  intro s0 H locs ls h hP hD hS hl
  unfold df_X11_advance_0 at h
  refine lv_aload_n hx hb dX11_advance_0 rfl (lv_at hl 0 rfl) ?_
  refine va_get (D := (dC, dI)) (ci := 12) (v := .ref (a 3)) (C := RX11) (T := TX11) (N := 16) hx hb hts hi_dm_X11_advance_X11 hown hK hP 0 rfl rfl 4 (by decide) (hts (.fieldLink RX11 39 "TimeMachine$Timeline" "kernel" "LTimeMachine$Kernel;") (List.mem_of_getElem? (i := 1) rfl)) (fun _ h9 => h9) rfl dX11_advance_1 ?_
  obtain ⟨s2, hq, h⟩ := nd_b1_e h
  have hPc := hP
  have hDc := hD
  have hKc := hK
  have hFc := nd_rs hD hS hA
  refine nd_cVv (As := []) (rest := []) (w' := dw_X11 a ac s2) ⟨hx, hb, hml, hown, hts⟩ (fun sz => dm_X5_tick l hlt dC dI a ac n  s0 hq sz) (cwV 0 hts gi_dm_X11_advance_0 rfl rfl rfl (by decide +kernel) ⟨Nat.le_of_ble_eq_true rfl, Nat.le_of_ble_eq_true rfl⟩) hPc hDc hKc hS hA hN (va_recv hKc hPc (ci := 6) (q0 := 3) rfl rfl) rfl hl.1 rfl (Nat.le_of_ble_eq_true rfl) dX11_advance_4 (fun H locs hP1 hD1 hk1 hS => ?_)
  have hP := hP1
  have hD := hD1.weaken (fun k q _ h => hFc q.1 h)
  refine lv_aload_n hx hb dX11_advance_7 rfl (lv_at hl 0 rfl) ?_
  refine va_get (D := (dC, dI)) (ci := 12) (v := .int (sI s2.1 3)) (C := RX11) (T := TX11) (N := 16) hx hb hts hi_dm_X11_advance_X11 hown hK hP 0 rfl rfl 11 (by decide) (hts (.fieldLink RX11 72 "TimeMachine$Timeline" "now" "I") (List.mem_of_getElem? (i := 6) rfl)) (fun _ h9 => h9) rfl dX11_advance_8 ?_
  refine lv_aload_n hx hb dX11_advance_11 rfl (lv_at hl 0 rfl) ?_
  refine va_get (D := (dC, dI)) (ci := 12) (v := .ref (a 1)) (C := RX11) (T := TX11) (N := 16) hx hb hts hi_dm_X11_advance_X11 hown hK hP 0 rfl rfl 5 (by decide) (hts (.fieldLink RX11 44 "TimeMachine$Timeline" "writes" "[I") (List.mem_of_getElem? (i := 7) rfl)) (fun _ h9 => h9) rfl dX11_advance_12 ?_
  refine va_alen (v := 60000) hx hb hK hP 1 0 rfl rfl (show Int32.ofNat 60000 = 60000 by decide) dX11_advance_15 ?_
  refine lv_icmp_ge (tgt := 35) hx hb dX11_advance_16 (by decide) (fun c4 => ?_) (fun c4 => ?_)
  · have h := nd_pos h c4
    exact (db_X11_advance_35 C K)  s2 _ _ _ h hP hD hS (lv_sub hl [0] rfl)
  · have h := nd_neg h c4
    refine lv_aload_n hx hb dX11_advance_19 rfl (lv_at hl 0 rfl) ?_
    refine va_get (D := (dC, dI)) (ci := 12) (v := .ref (a 1)) (C := RX11) (T := TX11) (N := 16) hx hb hts hi_dm_X11_advance_X11 hown hK hP 0 rfl rfl 5 (by decide) (hts (.fieldLink RX11 44 "TimeMachine$Timeline" "writes" "[I") (List.mem_of_getElem? (i := 7) rfl)) (fun _ h9 => h9) rfl dX11_advance_20 ?_
    refine lv_aload_n hx hb dX11_advance_23 rfl (lv_at hl 0 rfl) ?_
    refine va_get (D := (dC, dI)) (ci := 12) (v := .int (sI s2.1 3)) (C := RX11) (T := TX11) (N := 16) hx hb hts hi_dm_X11_advance_X11 hown hK hP 0 rfl rfl 11 (by decide) (hts (.fieldLink RX11 72 "TimeMachine$Timeline" "now" "I") (List.mem_of_getElem? (i := 6) rfl)) (fun _ h9 => h9) rfl dX11_advance_24 ?_
    refine lv_aload_n hx hb dX11_advance_27 rfl (lv_at hl 0 rfl) ?_
    refine va_get (D := (dC, dI)) (ci := 12) (v := .ref (a 7)) (C := RX11) (T := TX11) (N := 16) hx hb hts hi_dm_X11_advance_X11 hown hK hP 0 rfl rfl 3 (by decide) (hts (.fieldLink RX11 30 "TimeMachine$Timeline" "machine" "LTimeMachine$Machine;") (List.mem_of_getElem? (i := 29) rfl)) (fun _ h9 => h9) rfl dX11_advance_28 ?_
    refine va_get (D := (dC, dI)) (ci := 7) (v := .int (sI s2.2.2.1.2.2.1 7)) (C := RX6) (T := TX6) (N := 20) hx hb hts hi_dm_X11_advance_X6 hown hK hP 7 rfl rfl 19 (by decide) (hts (.fieldLink RX11 101 "TimeMachine$Machine" "written" "I") (List.mem_of_getElem? (i := 30) rfl)) (fun _ h9 => h9) rfl dX11_advance_31 ?_
    obtain ⟨i27, h⟩ := nd_ck_e h
    refine va_iast (i := (sI s2.1 3)) (x := (sI s2.2.2.1.2.2.1 7)) hx hb hK hP hD hS 1 0 rfl rfl i27 dX11_advance_34 (fun H locs hP hD hS => ?_)
    obtain ⟨s28, es28, h⟩ := nd_let_e h
    have hP : va_P (dC, dI) vwCl (dw_X11 a ac s28) H := by rw [es28]; exact hP
    have hD : va_D A (dw_X11 a ac s28) := by rw [es28]; exact hD
    exact (db_X11_advance_35 C K)  s28 _ _ _ h hP hD hS (lv_sub hl [0] rfl)
set_option maxHeartbeats 40000000 in
set_option maxRecDepth 100000 in
theorem dm_X11_advance (l : Launch) (hlt : l.stackTraces = false) (dC : Nat → ClassId) (dI : Nat → Nat → Nat) (a : Nat → Nat) (ac : Nat → ClassId) (n : Nat) (s0 : St × Rw × (St × (St × (St × (St)))) × (St) × (St) × (Nat → St) × (Nat → St) × (Nat → St × (St))) {r : St × Rw × (St × (St × (St × (St)))) × (St) × (St) × (Nat → St) × (Nat → St) × (Nat → St × (St))} (h : df_X11_advance n s0 = some r) (sz : Nat) : Met l yX11_advance ow_dm_X11_advance ({ frames := 7, cells := 0, slots := 0, locals := 162 }) (va_Pc [.ref (a 0)] (fun U => U.heap.size = sz ∧ va_P (dC, dI) vwCl (dw_X11 a ac s0) U.heap ∧ va_K (dC, dI) vwCl (dk_X11 ac) U ∧ va_D (fun _ => True) (dw_X11 a ac s0) ∧ nv_E dI (va_A (dw_X11 a ac s0) sz) U)) (va_Qv (fun _ => True) (fun (_ : Unit) t => va_P (dC, dI) vwCl (dw_X11 a ac r) t.heap ∧ va_K (dC, dI) vwCl (dk_X11 ac) t ∧ va_D (va_A (dw_X11 a ac s0) sz) (dw_X11 a ac r)) (va_A (dw_X11 a ac s0) sz)) 0 0 (va_A (dw_X11 a ac s0) sz) := by
  refine Met.ofW (cc := cX11_advance) (maxL := 1) (ret := none) (by decide) rfl ?_
  intro p e s m args below meth c s₁ B hml hv
  obtain ⟨rfl, hsz, hP, hK, hD0, hN⟩ := hv
  have hx := B.exec
  have hb := B.bytes
  have hr := B.returns
  have hts := atoms_spec (ws := ow_dm_X11_advance) B.pre
  have hown : s.vm.findClass RX11 = some m.cls := findClass_of_methodNamed B.named
  have hlocks := B.notSynchronized
  subst hsz
  have hD := hD0.self (sz := s.heap.size)
  generalize hAe : va_A (dw_X11 a ac s0) s.heap.size = A at hD hN ⊢
  have hA : ∀ q : Nat, s.heap.size ≤ q → A q := fun q h => by rw [← hAe]; exact Or.inr h
  have hl := lv_entry ([.ref (a 0)]) (n := 1) (Nat.le_of_ble_eq_true rfl)
  rw [lg_entry_eq]
  generalize (lg_sl ([.ref (a 0)]) ++ List.replicate (1 - (lg_sl ([.ref (a 0)])).length) Slot.unset).toArray = ls at hl ⊢
  have hl : lv_has ls 1 [(0, .ref (a 0))] := hl
  exact db_X11_advance_0 (dC := dC) (dI := dI) (a := a) (ac := ac) (n := n) (r := r) ⟨hlt, hx, hb, hml, hown, hts, hN, hA, hK⟩ (fun pc τ H locs ls d er hP hD hS => by subst er; exact W.vret hx hb hr (fun t ht hW => ⟨⟨(), rfl, trivial, by rw [ht]; exact hP, va_K.moved hW.alike hK, hD⟩, hS.F ht⟩) hS.2.2 d) s0 _ _ _ h hP hD va_S.rf (lv_sub hl [0] rfl)
def ow_dm_X11_come : List Cond := Cond.code yX11_come cX11_come 5 (some .int) :: ([Cond.fieldLink RX11 72 "TimeMachine$Timeline" "now" "I", Cond.fieldLink RX11 76 "TimeMachine$Timeline" "end" "I", Cond.fieldLink RX11 20 "TimeMachine$Timeline" "events" "LTimeMachine$Events;", Cond.fieldLink RX11 116 "TimeMachine$Events" "recorded" "I", Cond.fieldLink RX11 137 "TimeMachine$Events" "total" "I", Cond.fieldLink RX11 39 "TimeMachine$Timeline" "kernel" "LTimeMachine$Kernel;", Cond.methodLink RX11 133 yX5_come, Cond.instanceMethod yX5_come, Cond.selects RX5 yX5_come yX5_come, Cond.initialized RX5, Cond.methodLink RX11 140 yX3_add, Cond.instanceMethod yX3_add, Cond.selects RX3 yX3_add yX3_add, Cond.initialized RX3, Cond.fieldLink RX11 79 "TimeMachine$Timeline" "came" "I"] ++ (u_ws RX11 TX11 16 ++ (u_ws RX3 TX3 11 ++ (ow_dm_X5_come ++ (ow_dm_X3_add ++ [])))))
theorem gd_dm_X11_come : ∀ w ∈ ow_dm_X11_come, (w.onTables && w.keeps) = true ∨ ∃ ty, w = Cond.arrayClass ty := List.forall_mem_cons.mpr ⟨good_of_word rfl, List.forall_mem_append.mpr ⟨fun w h => good_of_word (List.all_eq_true.mp (by decide +kernel) w h), List.forall_mem_append.mpr ⟨gu_X11, List.forall_mem_append.mpr ⟨gu_X3, List.forall_mem_append.mpr ⟨gd_dm_X5_come, List.forall_mem_append.mpr ⟨gd_dm_X3_add, fun _ h => nomatch h⟩⟩⟩⟩⟩⟩
theorem hi_dm_X11_come_X11 : ∀ w ∈ u_ws RX11 TX11 16, w ∈ ow_dm_X11_come := fun w h => List.mem_cons_of_mem _ (List.mem_append_right _ (List.mem_append_left _ h))
theorem hi_dm_X11_come_X3 : ∀ w ∈ u_ws RX3 TX3 11, w ∈ ow_dm_X11_come := fun w h => List.mem_cons_of_mem _ (List.mem_append_right _ (List.mem_append_right _ (List.mem_append_left _ h)))
theorem gi_dm_X11_come_0 : GoodIn ow_dm_X11_come (wsV RX11 133 RX5 yX5_come ow_dm_X5_come) := goodIn_app (goodIn_of _ (by decide +kernel)) (fun w h => ⟨List.mem_cons_of_mem _ (List.mem_append_right _ (List.mem_append_right _ (List.mem_append_right _ (List.mem_append_left _ h)))), gd_dm_X5_come w h⟩)
theorem gi_dm_X11_come_1 : GoodIn ow_dm_X11_come (wsV RX11 140 RX3 yX3_add ow_dm_X3_add) := goodIn_app (goodIn_of _ (by decide +kernel)) (fun w h => ⟨List.mem_cons_of_mem _ (List.mem_append_right _ (List.mem_append_right _ (List.mem_append_right _ (List.mem_append_right _ (List.mem_append_left _ h))))), gd_dm_X3_add w h⟩)
def dj_X11_come_28 (p : Program) (l : Launch) (e : Env) (s : State) (m : MethodId) (args : Array Value) (below : List Frame) (meth : Method) (c : Code) (Q : State → Prop) (A : Nat → Prop) (dC : Nat → ClassId) (dI : Nat → Nat → Nat) (a : Nat → Nat) (ac : Nat → ClassId) (g : (St × Rw × (St × (St × (St × (St)))) × (St) × (St) × (Nat → St) × (Nat → St) × (Nat → St × (St))) → Option (Int32 × (St × Rw × (St × (St × (St × (St)))) × (St) × (St) × (Nat → St) × (Nat → St) × (Nat → St × (St))))) (r : Int32 × (St × Rw × (St × (St × (St × (St)))) × (St) × (St) × (Nat → St) × (Nat → St) × (Nat → St × (St)))) : Prop := ∀ (s0 : St × Rw × (St × (St × (St × (St)))) × (St) × (St) × (Nat → St) × (Nat → St) × (Nat → St × (St))) (H : Heap) (locs : List Loc) (ls : Array Slot), g s0 = some r → va_P (dC, dI) vwCl (dw_X11 a ac s0) H → va_D A (dw_X11 a ac s0) → va_S A s.heap H locs → lv_has ls 5 [] → W p l e (headSpec ow_dm_X11_come ({ frames := 4, cells := 0, slots := 0, locals := 95 })).room s m args below meth c H locs 0 0 Q (F0 m 28 ls [])
def dj_X11_come_0 (p : Program) (l : Launch) (e : Env) (s : State) (m : MethodId) (args : Array Value) (below : List Frame) (meth : Method) (c : Code) (Q : State → Prop) (A : Nat → Prop) (dC : Nat → ClassId) (dI : Nat → Nat → Nat) (a : Nat → Nat) (ac : Nat → ClassId) (g : Int32 → Int64 → Int32 → (St × Rw × (St × (St × (St × (St)))) × (St) × (St) × (Nat → St) × (Nat → St) × (Nat → St × (St))) → Option (Int32 × (St × Rw × (St × (St × (St × (St)))) × (St) × (St) × (Nat → St) × (Nat → St) × (Nat → St × (St))))) (r : Int32 × (St × Rw × (St × (St × (St × (St)))) × (St) × (St) × (Nat → St) × (Nat → St) × (Nat → St × (St)))) : Prop := ∀ (v0 : Int32) (v1 : Int64) (v2 : Int32) (s0 : St × Rw × (St × (St × (St × (St)))) × (St) × (St) × (Nat → St) × (Nat → St) × (Nat → St × (St))) (H : Heap) (locs : List Loc) (ls : Array Slot), g v0 v1 v2 s0 = some r → va_P (dC, dI) vwCl (dw_X11 a ac s0) H → va_D A (dw_X11 a ac s0) → va_S A s.heap H locs → lv_has ls 5 [(0, .ref (a 0)), (1, .int v0), (2, .long v1), (4, .int v2)] → W p l e (headSpec ow_dm_X11_come ({ frames := 4, cells := 0, slots := 0, locals := 95 })).room s m args below meth c H locs 0 0 Q (F0 m 0 ls [])
set_option maxHeartbeats 40000000 in
set_option maxRecDepth 100000 in
theorem db_X11_come_28 {p : Program} {l : Launch} {e : Env} {s : State} {m : MethodId} {args : Array Value} {below : List Frame} {meth : Method} {c : Code} {Q : State → Prop} {A : Nat → Prop} {dC : Nat → ClassId} {dI : Nat → Nat → Nat} {a : Nat → Nat} {ac : Nat → ClassId} {n : Nat} {r : Int32 × (St × Rw × (St × (St × (St × (St)))) × (St) × (St) × (Nat → St) × (Nat → St) × (Nat → St × (St)))} (C : nd_C p l s m args c A (dC, dI) cX11_come 5 RX11 ow_dm_X11_come (dk_X11 ac)) (K : nd_Ki p l e (headSpec ow_dm_X11_come ({ frames := 4, cells := 0, slots := 0, locals := 95 })).room s m args below meth c Q A (dC, dI) cX11_come .int (St × Rw × (St × (St × (St × (St)))) × (St) × (St) × (Nat → St) × (Nat → St) × (Nat → St × (St))) (dw_X11 a ac) r) : dj_X11_come_28 p l e s m args below meth c Q A dC dI a ac (df_X11_come_28 n) r := by
  obtain ⟨hlt, hx, hb, hml, hown, hts, hN, hA, hK⟩ := id C
  intro s0 H locs ls h hP hD hS hl
  unfold df_X11_come_28 at h
  refine lv_iconst (v := 2) hx hb dX11_come_28 (by decide) ?_
  exact K _ _ _ _ _ _ dX11_come_29 rfl (Option.some.inj h).symm hP hD hS
set_option maxHeartbeats 40000000 in
set_option maxRecDepth 100000 in
theorem db_X11_come_0 {p : Program} {l : Launch} {e : Env} {s : State} {m : MethodId} {args : Array Value} {below : List Frame} {meth : Method} {c : Code} {Q : State → Prop} {A : Nat → Prop} {dC : Nat → ClassId} {dI : Nat → Nat → Nat} {a : Nat → Nat} {ac : Nat → ClassId} {n : Nat} {r : Int32 × (St × Rw × (St × (St × (St × (St)))) × (St) × (St) × (Nat → St) × (Nat → St) × (Nat → St × (St)))} (C : nd_C p l s m args c A (dC, dI) cX11_come 5 RX11 ow_dm_X11_come (dk_X11 ac)) (K : nd_Ki p l e (headSpec ow_dm_X11_come ({ frames := 4, cells := 0, slots := 0, locals := 95 })).room s m args below meth c Q A (dC, dI) cX11_come .int (St × Rw × (St × (St × (St × (St)))) × (St) × (St) × (Nat → St) × (Nat → St) × (Nat → St × (St))) (dw_X11 a ac) r) : dj_X11_come_0 p l e s m args below meth c Q A dC dI a ac (df_X11_come_0 n) r := by
  obtain ⟨hlt, hx, hb, hml, hown, hts, hN, hA, hK⟩ := id C
  intro v0 v1 v2 s0 H locs ls h hP hD hS hl
  unfold df_X11_come_0 at h
  refine lv_aload_n hx hb dX11_come_0 rfl (lv_at hl 0 rfl) ?_
  refine va_get (D := (dC, dI)) (ci := 12) (v := .int (sI s0.1 3)) (C := RX11) (T := TX11) (N := 16) hx hb hts hi_dm_X11_come_X11 hown hK hP 0 rfl rfl 11 (by decide) (hts (.fieldLink RX11 72 "TimeMachine$Timeline" "now" "I") (List.mem_of_getElem? (i := 1) rfl)) (fun _ h9 => h9) rfl dX11_come_1 ?_
  refine lv_aload_n hx hb dX11_come_4 rfl (lv_at hl 0 rfl) ?_
  refine va_get (D := (dC, dI)) (ci := 12) (v := .int (sI s0.1 4)) (C := RX11) (T := TX11) (N := 16) hx hb hts hi_dm_X11_come_X11 hown hK hP 0 rfl rfl 12 (by decide) (hts (.fieldLink RX11 76 "TimeMachine$Timeline" "end" "I") (List.mem_of_getElem? (i := 2) rfl)) (fun _ h9 => h9) rfl dX11_come_5 ?_
  refine lv_icmp_ne (tgt := 28) hx hb dX11_come_8 (by decide) (fun c1 => ?_) (fun c1 => ?_)
  · have h := nd_neg h c1
    exact (db_X11_come_28 C K)  s0 _ _ _ h hP hD hS (lv_sub hl [] rfl)
  · have h := nd_pos h c1
    refine lv_aload_n hx hb dX11_come_11 rfl (lv_at hl 0 rfl) ?_
    by_cases o2 : sO s0.1 0 = some 27
    · have h := nd_pos h o2
      refine va_get (D := (dC, dI)) (ci := 12) (v := .ref (a 27)) (C := RX11) (T := TX11) (N := 16) hx hb hts hi_dm_X11_come_X11 hown hK hP 0 rfl rfl 1 (by decide) (hts (.fieldLink RX11 20 "TimeMachine$Timeline" "events" "LTimeMachine$Events;") (List.mem_of_getElem? (i := 3) rfl)) (fun _ h9 => h9) (congrArg (fun z => some (va_rf (Option.map a z))) o2) dX11_come_12 ?_
      refine va_get (D := (dC, dI)) (ci := 4) (v := .int (sI s0.2.2.2.1 0)) (C := RX3) (T := TX3) (N := 11) hx hb hts hi_dm_X11_come_X3 hown hK hP 27 rfl rfl 4 (by decide) (hts (.fieldLink RX11 116 "TimeMachine$Events" "recorded" "I") (List.mem_of_getElem? (i := 4) rfl)) (fun _ h9 => h9) rfl dX11_come_15 ?_
      refine lv_aload_n hx hb dX11_come_18 rfl (lv_at hl 0 rfl) ?_
      refine va_get (D := (dC, dI)) (ci := 12) (v := .ref (a 27)) (C := RX11) (T := TX11) (N := 16) hx hb hts hi_dm_X11_come_X11 hown hK hP 0 rfl rfl 1 (by decide) (hts (.fieldLink RX11 20 "TimeMachine$Timeline" "events" "LTimeMachine$Events;") (List.mem_of_getElem? (i := 3) rfl)) (fun _ h9 => h9) (congrArg (fun z => some (va_rf (Option.map a z))) o2) dX11_come_19 ?_
      refine va_get (D := (dC, dI)) (ci := 4) (v := .int (sI s0.2.2.2.1 1)) (C := RX3) (T := TX3) (N := 11) hx hb hts hi_dm_X11_come_X3 hown hK hP 27 rfl rfl 5 (by decide) (hts (.fieldLink RX11 137 "TimeMachine$Events" "total" "I") (List.mem_of_getElem? (i := 5) rfl)) (fun _ h9 => h9) rfl dX11_come_22 ?_
      refine lv_icmp_ge (tgt := 30) hx hb dX11_come_25 (by decide) (fun c3 => ?_) (fun c3 => ?_)
      · have h := nd_pos h c3
        refine lv_aload_n hx hb dX11_come_30 rfl (lv_at hl 0 rfl) ?_
        refine va_get (D := (dC, dI)) (ci := 12) (v := .ref (a 27)) (C := RX11) (T := TX11) (N := 16) hx hb hts hi_dm_X11_come_X11 hown hK hP 0 rfl rfl 1 (by decide) (hts (.fieldLink RX11 20 "TimeMachine$Timeline" "events" "LTimeMachine$Events;") (List.mem_of_getElem? (i := 3) rfl)) (fun _ h9 => h9) (congrArg (fun z => some (va_rf (Option.map a z))) o2) dX11_come_31 ?_
        refine va_get (D := (dC, dI)) (ci := 4) (v := .int (sI s0.2.2.2.1 0)) (C := RX3) (T := TX3) (N := 11) hx hb hts hi_dm_X11_come_X3 hown hK hP 27 rfl rfl 4 (by decide) (hts (.fieldLink RX11 116 "TimeMachine$Events" "recorded" "I") (List.mem_of_getElem? (i := 4) rfl)) (fun _ h9 => h9) rfl dX11_come_34 ?_
        refine lv_sipush (v := 2048) hx hb dX11_come_37 (by decide) ?_
        refine lv_icmp_lt (tgt := 45) hx hb dX11_come_40 (by decide) (fun c4 => ?_) (fun c4 => ?_)
        · have h := nd_pos h c4
          refine lv_aload_n hx hb dX11_come_45 rfl (lv_at hl 0 rfl) ?_
          refine va_get (D := (dC, dI)) (ci := 12) (v := .ref (a 3)) (C := RX11) (T := TX11) (N := 16) hx hb hts hi_dm_X11_come_X11 hown hK hP 0 rfl rfl 4 (by decide) (hts (.fieldLink RX11 39 "TimeMachine$Timeline" "kernel" "LTimeMachine$Kernel;") (List.mem_of_getElem? (i := 6) rfl)) (fun _ h9 => h9) rfl dX11_come_46 ?_
          refine lv_iload_n hx hb dX11_come_49 rfl (lv_at hl 1 rfl) ?_
          refine lv_lload_n hx hb dX11_come_50 rfl (lv_at hl 2 rfl) ?_
          refine lv_iload hx hb dX11_come_51 (lv_at hl 3 rfl) ?_
          obtain ⟨q5, s6, hq, h⟩ := nd_b2_e h
          have hPc := dp_wX11_X5_2 hP
          have hDc := dd_wX11_X5_2 hD
          have hKc := dy_wX11_X5_2 hK
          have hFc := nd_rs hDc hS hA
          have hzA : ∀ q : Nat, H.size ≤ q → A q := fun q h => hA q (Nat.le_trans hS.1 h)
          refine nd_cVi (As := [.int v0, .long v1, .int v2]) (rest := []) (q := q5) (w' := dw_X5 (fun k => a (k + 3)) (fun k => ac (k + 3)) s6) ⟨hx, hb, hml, hown, hts⟩ (fun sz => dm_X5_come l hlt dC dI (fun k => a (k + 3)) (fun k => ac (k + 3)) n (v0) (v1) (v2) s0.2.2.1 hq sz) (cwV 3 hts gi_dm_X11_come_0 rfl rfl rfl (by decide +kernel) ⟨Nat.le_of_ble_eq_true rfl, Nat.le_of_ble_eq_true rfl⟩) hPc hDc hKc hS hA hN (va_recv hKc hPc (ci := 6) (q0 := 0) rfl rfl) rfl hl.1 rfl (Nat.le_of_ble_eq_true rfl) dX11_come_53 (fun H locs hP1 hD1 hk1 hS => ?_)
          obtain ⟨hP, hD⟩ := dn_wX11_X5_2 hP hD hzA hk1 hP1 hD1
          obtain ⟨s8, es8, h⟩ := nd_let_e h
          have hP : va_P (dC, dI) vwCl (dw_X11 a ac s8) H := by rw [es8]; exact hP
          have hD : va_D A (dw_X11 a ac s8) := by rw [es8]; exact hD
          have o2 : sO s8.1 0 = some 27 := by rw [es8]; exact o2
          refine lv_if_ne (tgt := 61) hx hb dX11_come_56 (by decide) (fun c9 => ?_) (fun c9 => ?_)
          · have h := nd_neg h c9
            refine lv_aload_n hx hb dX11_come_61 rfl (lv_at hl 0 rfl) ?_
            refine va_get (D := (dC, dI)) (ci := 12) (v := .ref (a 27)) (C := RX11) (T := TX11) (N := 16) hx hb hts hi_dm_X11_come_X11 hown hK hP 0 rfl rfl 1 (by decide) (hts (.fieldLink RX11 20 "TimeMachine$Timeline" "events" "LTimeMachine$Events;") (List.mem_of_getElem? (i := 3) rfl)) (fun _ h9 => h9) (congrArg (fun z => some (va_rf (Option.map a z))) o2) dX11_come_62 ?_
            refine lv_iload_n hx hb dX11_come_65 rfl (lv_at hl 1 rfl) ?_
            refine lv_aload_n hx hb dX11_come_66 rfl (lv_at hl 0 rfl) ?_
            refine va_get (D := (dC, dI)) (ci := 12) (v := .int (sI s8.1 3)) (C := RX11) (T := TX11) (N := 16) hx hb hts hi_dm_X11_come_X11 hown hK hP 0 rfl rfl 11 (by decide) (hts (.fieldLink RX11 72 "TimeMachine$Timeline" "now" "I") (List.mem_of_getElem? (i := 1) rfl)) (fun _ h9 => h9) rfl dX11_come_67 ?_
            refine lv_i2l hx hb dX11_come_70 rfl ?_
            refine lv_lload_n hx hb dX11_come_71 rfl (lv_at hl 2 rfl) ?_
            refine lv_iload hx hb dX11_come_72 (lv_at hl 3 rfl) ?_
            obtain ⟨q10, s11, hq, h⟩ := nd_b2_e h
            have hPc := dp_wX11_X3c_5 hP
            have hDc := dd_wX11_X3c_5 hD
            have hKc := dy_wX11_X3c_5 hK
            have hFc := nd_rs hDc hS hA
            have hzA : ∀ q : Nat, H.size ≤ q → A q := fun q h => hA q (Nat.le_trans hS.1 h)
            refine nd_cVi (As := [.int v0, .long (((sI s8.1 3) : Int32).toInt64), .long v1, .int v2]) (rest := []) (q := q10) (w' := dw_X3c (fun k => a (k + 27)) (fun k => ac (k + 27)) s11) ⟨hx, hb, hml, hown, hts⟩ (fun sz => dm_X3_add l hlt dC dI (fun k => a (k + 27)) (fun k => ac (k + 27)) n (v0) ((((sI s8.1 3) : Int32).toInt64)) (v1) (v2) s8.2.2.2.1 hq sz) (cwV 4 hts gi_dm_X11_come_1 rfl rfl rfl (by decide +kernel) ⟨Nat.le_of_ble_eq_true rfl, Nat.le_of_ble_eq_true rfl⟩) hPc hDc hKc hS hA hN (va_recv hKc hPc (ci := 4) (q0 := 0) rfl rfl) rfl hl.1 rfl (Nat.le_of_ble_eq_true rfl) dX11_come_74 (fun H locs hP1 hD1 hk1 hS => ?_)
            obtain ⟨hP, hD⟩ := dn_wX11_X3c_5 hP hD hzA hk1 hP1 hD1
            obtain ⟨s13, es13, h⟩ := nd_let_e h
            have hP : va_P (dC, dI) vwCl (dw_X11 a ac s13) H := by rw [es13]; exact hP
            have hD : va_D A (dw_X11 a ac s13) := by rw [es13]; exact hD
            have o2 : sO s13.1 0 = some 27 := by rw [es13]; exact o2
            refine lv_pop hx hb dX11_come_77 rfl ?_
            refine lv_aload_n hx hb dX11_come_78 rfl (lv_at hl 0 rfl) ?_
            refine va_get (D := (dC, dI)) (ci := 12) (v := .ref (a 27)) (C := RX11) (T := TX11) (N := 16) hx hb hts hi_dm_X11_come_X11 hown hK hP 0 rfl rfl 1 (by decide) (hts (.fieldLink RX11 20 "TimeMachine$Timeline" "events" "LTimeMachine$Events;") (List.mem_of_getElem? (i := 3) rfl)) (fun _ h9 => h9) (congrArg (fun z => some (va_rf (Option.map a z))) o2) dX11_come_79 ?_
            refine lv_aload_n hx hb dX11_come_82 rfl (lv_at hl 0 rfl) ?_
            refine va_get (D := (dC, dI)) (ci := 12) (v := .ref (a 27)) (C := RX11) (T := TX11) (N := 16) hx hb hts hi_dm_X11_come_X11 hown hK hP 0 rfl rfl 1 (by decide) (hts (.fieldLink RX11 20 "TimeMachine$Timeline" "events" "LTimeMachine$Events;") (List.mem_of_getElem? (i := 3) rfl)) (fun _ h9 => h9) (congrArg (fun z => some (va_rf (Option.map a z))) o2) dX11_come_83 ?_
            refine va_get (D := (dC, dI)) (ci := 4) (v := .int (sI s13.2.2.2.1 1)) (C := RX3) (T := TX3) (N := 11) hx hb hts hi_dm_X11_come_X3 hown hK hP 27 rfl rfl 5 (by decide) (hts (.fieldLink RX11 137 "TimeMachine$Events" "total" "I") (List.mem_of_getElem? (i := 5) rfl)) (fun _ h9 => h9) rfl dX11_come_86 ?_
            refine va_put (D := (dC, dI)) (ci := 4) (v := .int (sI s13.2.2.2.1 1)) (ty := .int) (C := RX3) (T := TX3) (N := 11) hx hb hts hi_dm_X11_come_X3 tyX3 tyX3_ok nmX3 hown hK hP hD hS 27 rfl rfl 4 (by decide) (hts (.fieldLink RX11 116 "TimeMachine$Events" "recorded" "I") (List.mem_of_getElem? (i := 4) rfl)) (fun _ h9 => h9) rfl (by decide +kernel) rfl rfl (Nat.le_of_ble_eq_true rfl) dX11_come_89 (fun H locs hP hD hS => ?_)
            obtain ⟨s14, es14, h⟩ := nd_let_e h
            have hP : va_P (dC, dI) vwCl (dw_X11 a ac s14) H := by rw [es14]; exact hP
            have hD : va_D A (dw_X11 a ac s14) := by rw [es14]; exact hD
            have o2 : sO s14.1 0 = some 27 := by rw [es14]; exact o2
            refine lv_aload_n hx hb dX11_come_92 rfl (lv_at hl 0 rfl) ?_
            refine lv_aload_n hx hb dX11_come_93 rfl (lv_at hl 0 rfl) ?_
            refine va_get (D := (dC, dI)) (ci := 12) (v := .ref (a 27)) (C := RX11) (T := TX11) (N := 16) hx hb hts hi_dm_X11_come_X11 hown hK hP 0 rfl rfl 1 (by decide) (hts (.fieldLink RX11 20 "TimeMachine$Timeline" "events" "LTimeMachine$Events;") (List.mem_of_getElem? (i := 3) rfl)) (fun _ h9 => h9) (congrArg (fun z => some (va_rf (Option.map a z))) o2) dX11_come_94 ?_
            refine va_get (D := (dC, dI)) (ci := 4) (v := .int (sI s14.2.2.2.1 0)) (C := RX3) (T := TX3) (N := 11) hx hb hts hi_dm_X11_come_X3 hown hK hP 27 rfl rfl 4 (by decide) (hts (.fieldLink RX11 116 "TimeMachine$Events" "recorded" "I") (List.mem_of_getElem? (i := 4) rfl)) (fun _ h9 => h9) rfl dX11_come_97 ?_
            refine va_put (D := (dC, dI)) (ci := 12) (v := .int (sI s14.2.2.2.1 0)) (ty := .int) (C := RX11) (T := TX11) (N := 16) hx hb hts hi_dm_X11_come_X11 tyX11 tyX11_ok nmX11 hown hK hP hD hS 0 rfl rfl 13 (by decide) (hts (.fieldLink RX11 79 "TimeMachine$Timeline" "came" "I") (List.mem_of_getElem? (i := 15) rfl)) (fun _ h9 => h9) rfl (by decide +kernel) rfl rfl (Nat.le_of_ble_eq_true rfl) dX11_come_100 (fun H locs hP hD hS => ?_)
            obtain ⟨s15, es15, h⟩ := nd_let_e h
            have hP : va_P (dC, dI) vwCl (dw_X11 a ac s15) H := by rw [es15]; exact hP
            have hD : va_D A (dw_X11 a ac s15) := by rw [es15]; exact hD
            have o2 : sO s15.1 0 = some 27 := by rw [es15]; exact o2
            refine lv_iconst (v := 0) hx hb dX11_come_103 (by decide) ?_
            exact K _ _ _ _ _ _ dX11_come_104 rfl (Option.some.inj h).symm hP hD hS
          · have h := nd_pos h c9
            refine lv_iconst (v := 1) hx hb dX11_come_59 (by decide) ?_
            exact K _ _ _ _ _ _ dX11_come_60 rfl (Option.some.inj h).symm hP hD hS
        · have h := nd_neg h c4
          refine lv_iconst (v := 3) hx hb dX11_come_43 (by decide) ?_
          exact K _ _ _ _ _ _ dX11_come_44 rfl (Option.some.inj h).symm hP hD hS
      · have h := nd_neg h c3
        exact (db_X11_come_28 C K)  s0 _ _ _ h hP hD hS (lv_sub hl [] rfl)
    have h := nd_neg h o2
    by_cases o16 : sO s0.1 0 = some 32
    · have h := nd_pos h o16
      refine va_get (D := (dC, dI)) (ci := 12) (v := .ref (a 32)) (C := RX11) (T := TX11) (N := 16) hx hb hts hi_dm_X11_come_X11 hown hK hP 0 rfl rfl 1 (by decide) (hts (.fieldLink RX11 20 "TimeMachine$Timeline" "events" "LTimeMachine$Events;") (List.mem_of_getElem? (i := 3) rfl)) (fun _ h9 => h9) (congrArg (fun z => some (va_rf (Option.map a z))) o16) dX11_come_12 ?_
      refine va_get (D := (dC, dI)) (ci := 4) (v := .int (sI s0.2.2.2.2.1 0)) (C := RX3) (T := TX3) (N := 11) hx hb hts hi_dm_X11_come_X3 hown hK hP 32 rfl rfl 4 (by decide) (hts (.fieldLink RX11 116 "TimeMachine$Events" "recorded" "I") (List.mem_of_getElem? (i := 4) rfl)) (fun _ h9 => h9) rfl dX11_come_15 ?_
      refine lv_aload_n hx hb dX11_come_18 rfl (lv_at hl 0 rfl) ?_
      refine va_get (D := (dC, dI)) (ci := 12) (v := .ref (a 32)) (C := RX11) (T := TX11) (N := 16) hx hb hts hi_dm_X11_come_X11 hown hK hP 0 rfl rfl 1 (by decide) (hts (.fieldLink RX11 20 "TimeMachine$Timeline" "events" "LTimeMachine$Events;") (List.mem_of_getElem? (i := 3) rfl)) (fun _ h9 => h9) (congrArg (fun z => some (va_rf (Option.map a z))) o16) dX11_come_19 ?_
      refine va_get (D := (dC, dI)) (ci := 4) (v := .int (sI s0.2.2.2.2.1 1)) (C := RX3) (T := TX3) (N := 11) hx hb hts hi_dm_X11_come_X3 hown hK hP 32 rfl rfl 5 (by decide) (hts (.fieldLink RX11 137 "TimeMachine$Events" "total" "I") (List.mem_of_getElem? (i := 5) rfl)) (fun _ h9 => h9) rfl dX11_come_22 ?_
      refine lv_icmp_ge (tgt := 30) hx hb dX11_come_25 (by decide) (fun c17 => ?_) (fun c17 => ?_)
      · have h := nd_pos h c17
        refine lv_aload_n hx hb dX11_come_30 rfl (lv_at hl 0 rfl) ?_
        refine va_get (D := (dC, dI)) (ci := 12) (v := .ref (a 32)) (C := RX11) (T := TX11) (N := 16) hx hb hts hi_dm_X11_come_X11 hown hK hP 0 rfl rfl 1 (by decide) (hts (.fieldLink RX11 20 "TimeMachine$Timeline" "events" "LTimeMachine$Events;") (List.mem_of_getElem? (i := 3) rfl)) (fun _ h9 => h9) (congrArg (fun z => some (va_rf (Option.map a z))) o16) dX11_come_31 ?_
        refine va_get (D := (dC, dI)) (ci := 4) (v := .int (sI s0.2.2.2.2.1 0)) (C := RX3) (T := TX3) (N := 11) hx hb hts hi_dm_X11_come_X3 hown hK hP 32 rfl rfl 4 (by decide) (hts (.fieldLink RX11 116 "TimeMachine$Events" "recorded" "I") (List.mem_of_getElem? (i := 4) rfl)) (fun _ h9 => h9) rfl dX11_come_34 ?_
        refine lv_sipush (v := 2048) hx hb dX11_come_37 (by decide) ?_
        refine lv_icmp_lt (tgt := 45) hx hb dX11_come_40 (by decide) (fun c18 => ?_) (fun c18 => ?_)
        · have h := nd_pos h c18
          refine lv_aload_n hx hb dX11_come_45 rfl (lv_at hl 0 rfl) ?_
          refine va_get (D := (dC, dI)) (ci := 12) (v := .ref (a 3)) (C := RX11) (T := TX11) (N := 16) hx hb hts hi_dm_X11_come_X11 hown hK hP 0 rfl rfl 4 (by decide) (hts (.fieldLink RX11 39 "TimeMachine$Timeline" "kernel" "LTimeMachine$Kernel;") (List.mem_of_getElem? (i := 6) rfl)) (fun _ h9 => h9) rfl dX11_come_46 ?_
          refine lv_iload_n hx hb dX11_come_49 rfl (lv_at hl 1 rfl) ?_
          refine lv_lload_n hx hb dX11_come_50 rfl (lv_at hl 2 rfl) ?_
          refine lv_iload hx hb dX11_come_51 (lv_at hl 3 rfl) ?_
          obtain ⟨q19, s20, hq, h⟩ := nd_b2_e h
          have hPc := dp_wX11_X5_2 hP
          have hDc := dd_wX11_X5_2 hD
          have hKc := dy_wX11_X5_2 hK
          have hFc := nd_rs hDc hS hA
          have hzA : ∀ q : Nat, H.size ≤ q → A q := fun q h => hA q (Nat.le_trans hS.1 h)
          refine nd_cVi (As := [.int v0, .long v1, .int v2]) (rest := []) (q := q19) (w' := dw_X5 (fun k => a (k + 3)) (fun k => ac (k + 3)) s20) ⟨hx, hb, hml, hown, hts⟩ (fun sz => dm_X5_come l hlt dC dI (fun k => a (k + 3)) (fun k => ac (k + 3)) n (v0) (v1) (v2) s0.2.2.1 hq sz) (cwV 3 hts gi_dm_X11_come_0 rfl rfl rfl (by decide +kernel) ⟨Nat.le_of_ble_eq_true rfl, Nat.le_of_ble_eq_true rfl⟩) hPc hDc hKc hS hA hN (va_recv hKc hPc (ci := 6) (q0 := 0) rfl rfl) rfl hl.1 rfl (Nat.le_of_ble_eq_true rfl) dX11_come_53 (fun H locs hP1 hD1 hk1 hS => ?_)
          obtain ⟨hP, hD⟩ := dn_wX11_X5_2 hP hD hzA hk1 hP1 hD1
          obtain ⟨s22, es22, h⟩ := nd_let_e h
          have hP : va_P (dC, dI) vwCl (dw_X11 a ac s22) H := by rw [es22]; exact hP
          have hD : va_D A (dw_X11 a ac s22) := by rw [es22]; exact hD
          have o16 : sO s22.1 0 = some 32 := by rw [es22]; exact o16
          refine lv_if_ne (tgt := 61) hx hb dX11_come_56 (by decide) (fun c23 => ?_) (fun c23 => ?_)
          · have h := nd_neg h c23
            refine lv_aload_n hx hb dX11_come_61 rfl (lv_at hl 0 rfl) ?_
            refine va_get (D := (dC, dI)) (ci := 12) (v := .ref (a 32)) (C := RX11) (T := TX11) (N := 16) hx hb hts hi_dm_X11_come_X11 hown hK hP 0 rfl rfl 1 (by decide) (hts (.fieldLink RX11 20 "TimeMachine$Timeline" "events" "LTimeMachine$Events;") (List.mem_of_getElem? (i := 3) rfl)) (fun _ h9 => h9) (congrArg (fun z => some (va_rf (Option.map a z))) o16) dX11_come_62 ?_
            refine lv_iload_n hx hb dX11_come_65 rfl (lv_at hl 1 rfl) ?_
            refine lv_aload_n hx hb dX11_come_66 rfl (lv_at hl 0 rfl) ?_
            refine va_get (D := (dC, dI)) (ci := 12) (v := .int (sI s22.1 3)) (C := RX11) (T := TX11) (N := 16) hx hb hts hi_dm_X11_come_X11 hown hK hP 0 rfl rfl 11 (by decide) (hts (.fieldLink RX11 72 "TimeMachine$Timeline" "now" "I") (List.mem_of_getElem? (i := 1) rfl)) (fun _ h9 => h9) rfl dX11_come_67 ?_
            refine lv_i2l hx hb dX11_come_70 rfl ?_
            refine lv_lload_n hx hb dX11_come_71 rfl (lv_at hl 2 rfl) ?_
            refine lv_iload hx hb dX11_come_72 (lv_at hl 3 rfl) ?_
            obtain ⟨q24, s25, hq, h⟩ := nd_b2_e h
            have hPc := dp_wX11_X3c_7 hP
            have hDc := dd_wX11_X3c_7 hD
            have hKc := dy_wX11_X3c_7 hK
            have hFc := nd_rs hDc hS hA
            have hzA : ∀ q : Nat, H.size ≤ q → A q := fun q h => hA q (Nat.le_trans hS.1 h)
            refine nd_cVi (As := [.int v0, .long (((sI s22.1 3) : Int32).toInt64), .long v1, .int v2]) (rest := []) (q := q24) (w' := dw_X3c (fun k => a (k + 32)) (fun k => ac (k + 32)) s25) ⟨hx, hb, hml, hown, hts⟩ (fun sz => dm_X3_add l hlt dC dI (fun k => a (k + 32)) (fun k => ac (k + 32)) n (v0) ((((sI s22.1 3) : Int32).toInt64)) (v1) (v2) s22.2.2.2.2.1 hq sz) (cwV 4 hts gi_dm_X11_come_1 rfl rfl rfl (by decide +kernel) ⟨Nat.le_of_ble_eq_true rfl, Nat.le_of_ble_eq_true rfl⟩) hPc hDc hKc hS hA hN (va_recv hKc hPc (ci := 4) (q0 := 0) rfl rfl) rfl hl.1 rfl (Nat.le_of_ble_eq_true rfl) dX11_come_74 (fun H locs hP1 hD1 hk1 hS => ?_)
            obtain ⟨hP, hD⟩ := dn_wX11_X3c_7 hP hD hzA hk1 hP1 hD1
            obtain ⟨s27, es27, h⟩ := nd_let_e h
            have hP : va_P (dC, dI) vwCl (dw_X11 a ac s27) H := by rw [es27]; exact hP
            have hD : va_D A (dw_X11 a ac s27) := by rw [es27]; exact hD
            have o16 : sO s27.1 0 = some 32 := by rw [es27]; exact o16
            refine lv_pop hx hb dX11_come_77 rfl ?_
            refine lv_aload_n hx hb dX11_come_78 rfl (lv_at hl 0 rfl) ?_
            refine va_get (D := (dC, dI)) (ci := 12) (v := .ref (a 32)) (C := RX11) (T := TX11) (N := 16) hx hb hts hi_dm_X11_come_X11 hown hK hP 0 rfl rfl 1 (by decide) (hts (.fieldLink RX11 20 "TimeMachine$Timeline" "events" "LTimeMachine$Events;") (List.mem_of_getElem? (i := 3) rfl)) (fun _ h9 => h9) (congrArg (fun z => some (va_rf (Option.map a z))) o16) dX11_come_79 ?_
            refine lv_aload_n hx hb dX11_come_82 rfl (lv_at hl 0 rfl) ?_
            refine va_get (D := (dC, dI)) (ci := 12) (v := .ref (a 32)) (C := RX11) (T := TX11) (N := 16) hx hb hts hi_dm_X11_come_X11 hown hK hP 0 rfl rfl 1 (by decide) (hts (.fieldLink RX11 20 "TimeMachine$Timeline" "events" "LTimeMachine$Events;") (List.mem_of_getElem? (i := 3) rfl)) (fun _ h9 => h9) (congrArg (fun z => some (va_rf (Option.map a z))) o16) dX11_come_83 ?_
            refine va_get (D := (dC, dI)) (ci := 4) (v := .int (sI s27.2.2.2.2.1 1)) (C := RX3) (T := TX3) (N := 11) hx hb hts hi_dm_X11_come_X3 hown hK hP 32 rfl rfl 5 (by decide) (hts (.fieldLink RX11 137 "TimeMachine$Events" "total" "I") (List.mem_of_getElem? (i := 5) rfl)) (fun _ h9 => h9) rfl dX11_come_86 ?_
            refine va_put (D := (dC, dI)) (ci := 4) (v := .int (sI s27.2.2.2.2.1 1)) (ty := .int) (C := RX3) (T := TX3) (N := 11) hx hb hts hi_dm_X11_come_X3 tyX3 tyX3_ok nmX3 hown hK hP hD hS 32 rfl rfl 4 (by decide) (hts (.fieldLink RX11 116 "TimeMachine$Events" "recorded" "I") (List.mem_of_getElem? (i := 4) rfl)) (fun _ h9 => h9) rfl (by decide +kernel) rfl rfl (Nat.le_of_ble_eq_true rfl) dX11_come_89 (fun H locs hP hD hS => ?_)
            obtain ⟨s28, es28, h⟩ := nd_let_e h
            have hP : va_P (dC, dI) vwCl (dw_X11 a ac s28) H := by rw [es28]; exact hP
            have hD : va_D A (dw_X11 a ac s28) := by rw [es28]; exact hD
            have o16 : sO s28.1 0 = some 32 := by rw [es28]; exact o16
            refine lv_aload_n hx hb dX11_come_92 rfl (lv_at hl 0 rfl) ?_
            refine lv_aload_n hx hb dX11_come_93 rfl (lv_at hl 0 rfl) ?_
            refine va_get (D := (dC, dI)) (ci := 12) (v := .ref (a 32)) (C := RX11) (T := TX11) (N := 16) hx hb hts hi_dm_X11_come_X11 hown hK hP 0 rfl rfl 1 (by decide) (hts (.fieldLink RX11 20 "TimeMachine$Timeline" "events" "LTimeMachine$Events;") (List.mem_of_getElem? (i := 3) rfl)) (fun _ h9 => h9) (congrArg (fun z => some (va_rf (Option.map a z))) o16) dX11_come_94 ?_
            refine va_get (D := (dC, dI)) (ci := 4) (v := .int (sI s28.2.2.2.2.1 0)) (C := RX3) (T := TX3) (N := 11) hx hb hts hi_dm_X11_come_X3 hown hK hP 32 rfl rfl 4 (by decide) (hts (.fieldLink RX11 116 "TimeMachine$Events" "recorded" "I") (List.mem_of_getElem? (i := 4) rfl)) (fun _ h9 => h9) rfl dX11_come_97 ?_
            refine va_put (D := (dC, dI)) (ci := 12) (v := .int (sI s28.2.2.2.2.1 0)) (ty := .int) (C := RX11) (T := TX11) (N := 16) hx hb hts hi_dm_X11_come_X11 tyX11 tyX11_ok nmX11 hown hK hP hD hS 0 rfl rfl 13 (by decide) (hts (.fieldLink RX11 79 "TimeMachine$Timeline" "came" "I") (List.mem_of_getElem? (i := 15) rfl)) (fun _ h9 => h9) rfl (by decide +kernel) rfl rfl (Nat.le_of_ble_eq_true rfl) dX11_come_100 (fun H locs hP hD hS => ?_)
            obtain ⟨s29, es29, h⟩ := nd_let_e h
            have hP : va_P (dC, dI) vwCl (dw_X11 a ac s29) H := by rw [es29]; exact hP
            have hD : va_D A (dw_X11 a ac s29) := by rw [es29]; exact hD
            have o16 : sO s29.1 0 = some 32 := by rw [es29]; exact o16
            refine lv_iconst (v := 0) hx hb dX11_come_103 (by decide) ?_
            exact K _ _ _ _ _ _ dX11_come_104 rfl (Option.some.inj h).symm hP hD hS
          · have h := nd_pos h c23
            refine lv_iconst (v := 1) hx hb dX11_come_59 (by decide) ?_
            exact K _ _ _ _ _ _ dX11_come_60 rfl (Option.some.inj h).symm hP hD hS
        · have h := nd_neg h c18
          refine lv_iconst (v := 3) hx hb dX11_come_43 (by decide) ?_
          exact K _ _ _ _ _ _ dX11_come_44 rfl (Option.some.inj h).symm hP hD hS
      · have h := nd_neg h c17
        exact (db_X11_come_28 C K)  s0 _ _ _ h hP hD hS (lv_sub hl [] rfl)
    have h := nd_neg h o16
    exact nomatch h
set_option maxHeartbeats 40000000 in
set_option maxRecDepth 100000 in
theorem dm_X11_come (l : Launch) (hlt : l.stackTraces = false) (dC : Nat → ClassId) (dI : Nat → Nat → Nat) (a : Nat → Nat) (ac : Nat → ClassId) (n : Nat) (v0 : Int32) (v1 : Int64) (v2 : Int32) (s0 : St × Rw × (St × (St × (St × (St)))) × (St) × (St) × (Nat → St) × (Nat → St) × (Nat → St × (St))) {r : Int32 × (St × Rw × (St × (St × (St × (St)))) × (St) × (St) × (Nat → St) × (Nat → St) × (Nat → St × (St)))} (h : df_X11_come n v0 v1 v2 s0 = some r) (sz : Nat) : Met l yX11_come ow_dm_X11_come ({ frames := 4, cells := 0, slots := 0, locals := 95 }) (va_Pc [.ref (a 0), .int v0, .long v1, .int v2] (fun U => U.heap.size = sz ∧ va_P (dC, dI) vwCl (dw_X11 a ac s0) U.heap ∧ va_K (dC, dI) vwCl (dk_X11 ac) U ∧ va_D (fun _ => True) (dw_X11 a ac s0) ∧ nv_E dI (va_A (dw_X11 a ac s0) sz) U)) (va_Qi (fun x _ => x = r.1) (fun (_ : Unit) t => va_P (dC, dI) vwCl (dw_X11 a ac r.2) t.heap ∧ va_K (dC, dI) vwCl (dk_X11 ac) t ∧ va_D (va_A (dw_X11 a ac s0) sz) (dw_X11 a ac r.2)) (va_A (dw_X11 a ac s0) sz)) 0 0 (va_A (dw_X11 a ac s0) sz) := by
  refine Met.ofW (cc := cX11_come) (maxL := 5) (ret := (some .int)) (by decide) rfl ?_
  intro p e s m args below meth c s₁ B hml hv
  obtain ⟨rfl, hsz, hP, hK, hD0, hN⟩ := hv
  have hx := B.exec
  have hb := B.bytes
  have hr := B.returns
  have hts := atoms_spec (ws := ow_dm_X11_come) B.pre
  have hown : s.vm.findClass RX11 = some m.cls := findClass_of_methodNamed B.named
  have hlocks := B.notSynchronized
  subst hsz
  have hD := hD0.self (sz := s.heap.size)
  generalize hAe : va_A (dw_X11 a ac s0) s.heap.size = A at hD hN ⊢
  have hA : ∀ q : Nat, s.heap.size ≤ q → A q := fun q h => by rw [← hAe]; exact Or.inr h
  have hl := lv_entry ([.ref (a 0), .int v0, .long v1, .int v2]) (n := 5) (Nat.le_of_ble_eq_true rfl)
  rw [lg_entry_eq]
  generalize (lg_sl ([.ref (a 0), .int v0, .long v1, .int v2]) ++ List.replicate (5 - (lg_sl ([.ref (a 0), .int v0, .long v1, .int v2])).length) Slot.unset).toArray = ls at hl ⊢
  have hl : lv_has ls 5 [(0, .ref (a 0)), (1, .int v0), (2, .long v1), (4, .int v2)] := hl
  exact db_X11_come_0 (dC := dC) (dI := dI) (a := a) (ac := ac) (n := n) (r := r) ⟨hlt, hx, hb, hml, hown, hts, hN, hA, hK⟩ (fun pc v τ H locs ls d z er hP hD hS => by subst er; exact W.zret (v := v) hx hb hr z (fun t ht hW => ⟨⟨v, (), rfl, rfl, by rw [ht]; exact hP, va_K.moved hW.alike hK, hD⟩, hS.F ht⟩) hS.2.2 d) v0 v1 v2 s0 _ _ _ h hP hD va_S.rf (lv_sub hl [0, 1, 2, 3] rfl)
def ow_dm_X11_stops : List Cond := Cond.code yX11_stops cX11_stops 1 (some .int) :: ([Cond.fieldLink RX11 72 "TimeMachine$Timeline" "now" "I", Cond.constant RX11 43 (60000), Cond.fieldLink RX11 30 "TimeMachine$Timeline" "machine" "LTimeMachine$Machine;", Cond.fieldLink RX11 162 "TimeMachine$Machine" "current" "I", Cond.fieldLink RX11 165 "TimeMachine$Machine" "waiting" "I"] ++ (u_ws RX11 TX11 16 ++ (u_ws RX6 TX6 20 ++ [])))
theorem gd_dm_X11_stops : ∀ w ∈ ow_dm_X11_stops, (w.onTables && w.keeps) = true ∨ ∃ ty, w = Cond.arrayClass ty := List.forall_mem_cons.mpr ⟨good_of_word rfl, List.forall_mem_append.mpr ⟨fun w h => good_of_word (List.all_eq_true.mp (by decide +kernel) w h), List.forall_mem_append.mpr ⟨gu_X11, List.forall_mem_append.mpr ⟨gu_X6, fun _ h => nomatch h⟩⟩⟩⟩
theorem hi_dm_X11_stops_X11 : ∀ w ∈ u_ws RX11 TX11 16, w ∈ ow_dm_X11_stops := fun w h => List.mem_cons_of_mem _ (List.mem_append_right _ (List.mem_append_left _ h))
theorem hi_dm_X11_stops_X6 : ∀ w ∈ u_ws RX6 TX6 20, w ∈ ow_dm_X11_stops := fun w h => List.mem_cons_of_mem _ (List.mem_append_right _ (List.mem_append_right _ (List.mem_append_left _ h)))
def dj_X11_stops_38 (p : Program) (l : Launch) (e : Env) (s : State) (m : MethodId) (args : Array Value) (below : List Frame) (meth : Method) (c : Code) (Q : State → Prop) (A : Nat → Prop) (dC : Nat → ClassId) (dI : Nat → Nat → Nat) (a : Nat → Nat) (ac : Nat → ClassId) (g : Int32 → (St × Rw × (St × (St × (St × (St)))) × (St) × (St) × (Nat → St) × (Nat → St) × (Nat → St × (St))) → Option (Int32 × (St × Rw × (St × (St × (St × (St)))) × (St) × (St) × (Nat → St) × (Nat → St) × (Nat → St × (St))))) (r : Int32 × (St × Rw × (St × (St × (St × (St)))) × (St) × (St) × (Nat → St) × (Nat → St) × (Nat → St × (St)))) : Prop := ∀ (y0 : Int32) (s0 : St × Rw × (St × (St × (St × (St)))) × (St) × (St) × (Nat → St) × (Nat → St) × (Nat → St × (St))) (H : Heap) (locs : List Loc) (ls : Array Slot), g y0 s0 = some r → va_P (dC, dI) vwCl (dw_X11 a ac s0) H → va_D A (dw_X11 a ac s0) → va_S A s.heap H locs → lv_has ls 1 [] → W p l e (headSpec ow_dm_X11_stops ({ frames := 0, cells := 0, slots := 0, locals := 0 })).room s m args below meth c H locs 0 0 Q (F0 m 38 ls [.int y0])
def dj_X11_stops_0 (p : Program) (l : Launch) (e : Env) (s : State) (m : MethodId) (args : Array Value) (below : List Frame) (meth : Method) (c : Code) (Q : State → Prop) (A : Nat → Prop) (dC : Nat → ClassId) (dI : Nat → Nat → Nat) (a : Nat → Nat) (ac : Nat → ClassId) (g : (St × Rw × (St × (St × (St × (St)))) × (St) × (St) × (Nat → St) × (Nat → St) × (Nat → St × (St))) → Option (Int32 × (St × Rw × (St × (St × (St × (St)))) × (St) × (St) × (Nat → St) × (Nat → St) × (Nat → St × (St))))) (r : Int32 × (St × Rw × (St × (St × (St × (St)))) × (St) × (St) × (Nat → St) × (Nat → St) × (Nat → St × (St)))) : Prop := ∀ (s0 : St × Rw × (St × (St × (St × (St)))) × (St) × (St) × (Nat → St) × (Nat → St) × (Nat → St × (St))) (H : Heap) (locs : List Loc) (ls : Array Slot), g s0 = some r → va_P (dC, dI) vwCl (dw_X11 a ac s0) H → va_D A (dw_X11 a ac s0) → va_S A s.heap H locs → lv_has ls 1 [(0, .ref (a 0))] → W p l e (headSpec ow_dm_X11_stops ({ frames := 0, cells := 0, slots := 0, locals := 0 })).room s m args below meth c H locs 0 0 Q (F0 m 0 ls [])
set_option maxHeartbeats 40000000 in
set_option maxRecDepth 100000 in
theorem db_X11_stops_38 {p : Program} {l : Launch} {e : Env} {s : State} {m : MethodId} {args : Array Value} {below : List Frame} {meth : Method} {c : Code} {Q : State → Prop} {A : Nat → Prop} {dC : Nat → ClassId} {dI : Nat → Nat → Nat} {a : Nat → Nat} {ac : Nat → ClassId} {n : Nat} {r : Int32 × (St × Rw × (St × (St × (St × (St)))) × (St) × (St) × (Nat → St) × (Nat → St) × (Nat → St × (St)))} (C : nd_C p l s m args c A (dC, dI) cX11_stops 1 RX11 ow_dm_X11_stops (dk_X11 ac)) (K : nd_Ki p l e (headSpec ow_dm_X11_stops ({ frames := 0, cells := 0, slots := 0, locals := 0 })).room s m args below meth c Q A (dC, dI) cX11_stops .int (St × Rw × (St × (St × (St × (St)))) × (St) × (St) × (Nat → St) × (Nat → St) × (Nat → St × (St))) (dw_X11 a ac) r) : dj_X11_stops_38 p l e s m args below meth c Q A dC dI a ac (df_X11_stops_38 n) r := by
  obtain ⟨hlt, hx, hb, hml, hown, hts, hN, hA, hK⟩ := id C
  intro y0 s0 H locs ls h hP hD hS hl
  unfold df_X11_stops_38 at h
  exact K _ _ _ _ _ _ dX11_stops_38 rfl (Option.some.inj h).symm hP hD hS
set_option maxHeartbeats 40000000 in
set_option maxRecDepth 100000 in
theorem db_X11_stops_0 {p : Program} {l : Launch} {e : Env} {s : State} {m : MethodId} {args : Array Value} {below : List Frame} {meth : Method} {c : Code} {Q : State → Prop} {A : Nat → Prop} {dC : Nat → ClassId} {dI : Nat → Nat → Nat} {a : Nat → Nat} {ac : Nat → ClassId} {n : Nat} {r : Int32 × (St × Rw × (St × (St × (St × (St)))) × (St) × (St) × (Nat → St) × (Nat → St) × (Nat → St × (St)))} (C : nd_C p l s m args c A (dC, dI) cX11_stops 1 RX11 ow_dm_X11_stops (dk_X11 ac)) (K : nd_Ki p l e (headSpec ow_dm_X11_stops ({ frames := 0, cells := 0, slots := 0, locals := 0 })).room s m args below meth c Q A (dC, dI) cX11_stops .int (St × Rw × (St × (St × (St × (St)))) × (St) × (St) × (Nat → St) × (Nat → St) × (Nat → St × (St))) (dw_X11 a ac) r) : dj_X11_stops_0 p l e s m args below meth c Q A dC dI a ac (df_X11_stops_0 n) r := by
  obtain ⟨hlt, hx, hb, hml, hown, hts, hN, hA, hK⟩ := id C
  intro s0 H locs ls h hP hD hS hl
  unfold df_X11_stops_0 at h
  refine lv_aload_n hx hb dX11_stops_0 rfl (lv_at hl 0 rfl) ?_
  refine va_get (D := (dC, dI)) (ci := 12) (v := .int (sI s0.1 3)) (C := RX11) (T := TX11) (N := 16) hx hb hts hi_dm_X11_stops_X11 hown hK hP 0 rfl rfl 11 (by decide) (hts (.fieldLink RX11 72 "TimeMachine$Timeline" "now" "I") (List.mem_of_getElem? (i := 1) rfl)) (fun _ h9 => h9) rfl dX11_stops_1 ?_
  refine lv_ldc hx hb hown (hts (.constant RX11 43 (60000)) (List.mem_of_getElem? (i := 2) rfl)) dX11_stops_4 ?_
  refine lv_icmp_lt (tgt := 11) hx hb dX11_stops_6 (by decide) (fun c1 => ?_) (fun c1 => ?_)
  · have h := nd_pos h c1
    refine lv_aload_n hx hb dX11_stops_11 rfl (lv_at hl 0 rfl) ?_
    refine va_get (D := (dC, dI)) (ci := 12) (v := .ref (a 7)) (C := RX11) (T := TX11) (N := 16) hx hb hts hi_dm_X11_stops_X11 hown hK hP 0 rfl rfl 3 (by decide) (hts (.fieldLink RX11 30 "TimeMachine$Timeline" "machine" "LTimeMachine$Machine;") (List.mem_of_getElem? (i := 3) rfl)) (fun _ h9 => h9) rfl dX11_stops_12 ?_
    refine va_get (D := (dC, dI)) (ci := 7) (v := .int (sI s0.2.2.1.2.2.1 3)) (C := RX6) (T := TX6) (N := 20) hx hb hts hi_dm_X11_stops_X6 hown hK hP 7 rfl rfl 13 (by decide) (hts (.fieldLink RX11 162 "TimeMachine$Machine" "current" "I") (List.mem_of_getElem? (i := 4) rfl)) (fun _ h9 => h9) rfl dX11_stops_15 ?_
    refine lv_if_lt (tgt := 23) hx hb dX11_stops_18 (by decide) (fun c2 => ?_) (fun c2 => ?_)
    · have h := nd_pos h c2
      refine lv_aload_n hx hb dX11_stops_23 rfl (lv_at hl 0 rfl) ?_
      refine va_get (D := (dC, dI)) (ci := 12) (v := .ref (a 7)) (C := RX11) (T := TX11) (N := 16) hx hb hts hi_dm_X11_stops_X11 hown hK hP 0 rfl rfl 3 (by decide) (hts (.fieldLink RX11 30 "TimeMachine$Timeline" "machine" "LTimeMachine$Machine;") (List.mem_of_getElem? (i := 3) rfl)) (fun _ h9 => h9) rfl dX11_stops_24 ?_
      refine va_get (D := (dC, dI)) (ci := 7) (v := .int (sI s0.2.2.1.2.2.1 2)) (C := RX6) (T := TX6) (N := 20) hx hb hts hi_dm_X11_stops_X6 hown hK hP 7 rfl rfl 12 (by decide) (hts (.fieldLink RX11 165 "TimeMachine$Machine" "waiting" "I") (List.mem_of_getElem? (i := 5) rfl)) (fun _ h9 => h9) rfl dX11_stops_27 ?_
      refine lv_if_le (tgt := 37) hx hb dX11_stops_30 (by decide) (fun c3 => ?_) (fun c3 => ?_)
      · have h := nd_pos h c3
        refine lv_iconst (v := 2) hx hb dX11_stops_37 (by decide) ?_
        exact (db_X11_stops_38 C K) (2) s0 _ _ _ h hP hD hS (lv_sub hl [] rfl)
      · have h := nd_neg h c3
        refine lv_iconst (v := 1) hx hb dX11_stops_33 (by decide) ?_
        refine lv_goto (tgt := 38) hx hb dX11_stops_34 (by decide) ?_
        exact (db_X11_stops_38 C K) (1) s0 _ _ _ h hP hD hS (lv_sub hl [] rfl)
    · have h := nd_neg h c2
      refine lv_iconst (v := 0) hx hb dX11_stops_21 (by decide) ?_
      exact K _ _ _ _ _ _ dX11_stops_22 rfl (Option.some.inj h).symm hP hD hS
  · have h := nd_neg h c1
    refine lv_iconst (v := 4) hx hb dX11_stops_9 (by decide) ?_
    exact K _ _ _ _ _ _ dX11_stops_10 rfl (Option.some.inj h).symm hP hD hS
set_option maxHeartbeats 40000000 in
set_option maxRecDepth 100000 in
theorem dm_X11_stops (l : Launch) (hlt : l.stackTraces = false) (dC : Nat → ClassId) (dI : Nat → Nat → Nat) (a : Nat → Nat) (ac : Nat → ClassId) (n : Nat) (s0 : St × Rw × (St × (St × (St × (St)))) × (St) × (St) × (Nat → St) × (Nat → St) × (Nat → St × (St))) {r : Int32 × (St × Rw × (St × (St × (St × (St)))) × (St) × (St) × (Nat → St) × (Nat → St) × (Nat → St × (St)))} (h : df_X11_stops n s0 = some r) (sz : Nat) : Met l yX11_stops ow_dm_X11_stops ({ frames := 0, cells := 0, slots := 0, locals := 0 }) (va_Pc [.ref (a 0)] (fun U => U.heap.size = sz ∧ va_P (dC, dI) vwCl (dw_X11 a ac s0) U.heap ∧ va_K (dC, dI) vwCl (dk_X11 ac) U ∧ va_D (fun _ => True) (dw_X11 a ac s0) ∧ nv_E dI (va_A (dw_X11 a ac s0) sz) U)) (va_Qi (fun x _ => x = r.1) (fun (_ : Unit) t => va_P (dC, dI) vwCl (dw_X11 a ac r.2) t.heap ∧ va_K (dC, dI) vwCl (dk_X11 ac) t ∧ va_D (va_A (dw_X11 a ac s0) sz) (dw_X11 a ac r.2)) (va_A (dw_X11 a ac s0) sz)) 0 0 (va_A (dw_X11 a ac s0) sz) := by
  refine Met.ofW (cc := cX11_stops) (maxL := 1) (ret := (some .int)) (by decide) rfl ?_
  intro p e s m args below meth c s₁ B hml hv
  obtain ⟨rfl, hsz, hP, hK, hD0, hN⟩ := hv
  have hx := B.exec
  have hb := B.bytes
  have hr := B.returns
  have hts := atoms_spec (ws := ow_dm_X11_stops) B.pre
  have hown : s.vm.findClass RX11 = some m.cls := findClass_of_methodNamed B.named
  have hlocks := B.notSynchronized
  subst hsz
  have hD := hD0.self (sz := s.heap.size)
  generalize hAe : va_A (dw_X11 a ac s0) s.heap.size = A at hD hN ⊢
  have hA : ∀ q : Nat, s.heap.size ≤ q → A q := fun q h => by rw [← hAe]; exact Or.inr h
  have hl := lv_entry ([.ref (a 0)]) (n := 1) (Nat.le_of_ble_eq_true rfl)
  rw [lg_entry_eq]
  generalize (lg_sl ([.ref (a 0)]) ++ List.replicate (1 - (lg_sl ([.ref (a 0)])).length) Slot.unset).toArray = ls at hl ⊢
  have hl : lv_has ls 1 [(0, .ref (a 0))] := hl
  exact db_X11_stops_0 (dC := dC) (dI := dI) (a := a) (ac := ac) (n := n) (r := r) ⟨hlt, hx, hb, hml, hown, hts, hN, hA, hK⟩ (fun pc v τ H locs ls d z er hP hD hS => by subst er; exact W.zret (v := v) hx hb hr z (fun t ht hW => ⟨⟨v, (), rfl, rfl, by rw [ht]; exact hP, va_K.moved hW.alike hK, hD⟩, hS.F ht⟩) hS.2.2 d) s0 _ _ _ h hP hD va_S.rf (lv_sub hl [0] rfl)
set_option maxHeartbeats 40000000 in
set_option maxRecDepth 100000 in
theorem de_wX11_X2m_8 {a : Nat → Nat} {ac : Nat → ClassId} {j1 : Nat} {τ : St × (St) × (St × (St))} : ([dw_X2c (fun k => a (k + j1 * 9 + 86)) (fun k => ac (k + j1 * 9 + 86)) (τ.2.1), dwo_X6 (fun k => a (k + 7)) (fun k => ac (k + 7)) (τ.2.2.1), dw_X10 (fun k => a (k + 17)) (fun k => ac (k + 17)) (τ.2.2.2)] : List va_W).flatten = dw_X2m (fun k => a (if k < 9 then k - 0 + j1 * 9 + 86 else k - 9 + 7)) (fun k => ac (if k < 9 then k - 0 + j1 * 9 + 86 else k - 9 + 7)) τ := by
  first
  | (simp only [List.flatten_cons, List.flatten_nil, List.append_nil]; done)
  | (simp only [List.flatten_cons, List.flatten_nil, List.append_nil]; rfl)
set_option maxHeartbeats 40000000 in
set_option maxRecDepth 100000 in
theorem dp_wX11_X2m_8 {D : va_G} {H : Heap} {a : Nat → Nat} {ac : Nat → ClassId} {σ : St × Rw × (St × (St × (St × (St)))) × (St) × (St) × (Nat → St) × (Nat → St) × (Nat → St × (St))} {j1 : Nat} (hj1 : j1 < 9) (h : va_P D vwCl (dw_X11 a ac σ) H) : va_P D vwCl (dw_X2m (fun k => a (if k < 9 then k - 0 + j1 * 9 + 86 else k - 9 + 7)) (fun k => ac (if k < 9 then k - 0 + j1 * 9 + 86 else k - 9 + 7)) (nd_st0, (σ.2.2.2.2.2.2.1 j1), σ.2.2.1.2.2)) H := by
  have h2 := nd_vp (segs := dg_X11 a ac σ) (ix := [20 + j1, 3, 4]) (old := [dw_X2c (fun k => a (k + j1 * 9 + 86)) (fun k => ac (k + j1 * 9 + 86)) (σ.2.2.2.2.2.2.1 j1), dwo_X6 (fun k => a (k + 7)) (fun k => ac (k + 7)) (σ.2.2.1.2.2.1), dw_X10 (fun k => a (k + 17)) (fun k => ac (k + 17)) (σ.2.2.1.2.2.2)]) h (nd_co (dx_X11_K2 hj1) (nd_co rfl (nd_co rfl rfl)))
  have e := de_wX11_X2m_8 (a := a) (ac := ac) (j1 := j1) (τ := (nd_st0, (σ.2.2.2.2.2.2.1 j1), σ.2.2.1.2.2))
  exact e ▸ h2
set_option maxHeartbeats 40000000 in
set_option maxRecDepth 100000 in
theorem dd_wX11_X2m_8 {A : Nat → Prop} {a : Nat → Nat} {ac : Nat → ClassId} {σ : St × Rw × (St × (St × (St × (St)))) × (St) × (St) × (Nat → St) × (Nat → St) × (Nat → St × (St))} {j1 : Nat} (hj1 : j1 < 9) (h : va_D A (dw_X11 a ac σ)) : va_D A (dw_X2m (fun k => a (if k < 9 then k - 0 + j1 * 9 + 86 else k - 9 + 7)) (fun k => ac (if k < 9 then k - 0 + j1 * 9 + 86 else k - 9 + 7)) (nd_st0, (σ.2.2.2.2.2.2.1 j1), σ.2.2.1.2.2)) := by
  have h2 := nd_vd (segs := dg_X11 a ac σ) (ix := [20 + j1, 3, 4]) (old := [dw_X2c (fun k => a (k + j1 * 9 + 86)) (fun k => ac (k + j1 * 9 + 86)) (σ.2.2.2.2.2.2.1 j1), dwo_X6 (fun k => a (k + 7)) (fun k => ac (k + 7)) (σ.2.2.1.2.2.1), dw_X10 (fun k => a (k + 17)) (fun k => ac (k + 17)) (σ.2.2.1.2.2.2)]) h (nd_co (dx_X11_K2 hj1) (nd_co rfl (nd_co rfl rfl))) (by simp only [List.nodup_cons, List.mem_cons, List.not_mem_nil, List.nodup_nil, or_false, not_false_eq_true, and_true, true_and] <;> omega)
  have e := de_wX11_X2m_8 (a := a) (ac := ac) (j1 := j1) (τ := (nd_st0, (σ.2.2.2.2.2.2.1 j1), σ.2.2.1.2.2))
  exact e ▸ h2
set_option maxHeartbeats 40000000 in
set_option maxRecDepth 100000 in
theorem dy_wX11_X2m_8 {D : va_G} {U : State} {ac : Nat → ClassId} {j1 : Nat} (hj1 : j1 < 9) (h : va_K D vwCl (dk_X11 ac) U) : va_K D vwCl (dk_X2m (fun k => ac (if k < 9 then k - 0 + j1 * 9 + 86 else k - 9 + 7))) U := (va_K.app (nd_ks h (fun q hq => absurd hq List.not_mem_nil)) (va_K.app (dq_X11_K2 hj1 h) (h.sub [4, 5, 6, 7, 8, 9, 10, 11, 12, 13, 14, 15, 16, 17, 18, 19, 20, 21] rfl)))
set_option maxHeartbeats 40000000 in
set_option maxRecDepth 100000 in
theorem dn_wX11_X2m_8 {A0 : Nat → Prop} {D : va_G} {H H1 : Heap} {a : Nat → Nat} {ac : Nat → ClassId} {σ : St × Rw × (St × (St × (St × (St)))) × (St) × (St) × (Nat → St) × (Nat → St) × (Nat → St × (St))} {τ : St × (St) × (St × (St))} {j1 : Nat} (hj1 : j1 < 9) (hP : va_P D vwCl (dw_X11 a ac σ) H) (hD : va_D A0 (dw_X11 a ac σ)) (hA : ∀ q : Nat, H.size ≤ q → A0 q) (hk : ∀ q : Nat, q < H.size → ¬ va_A (dw_X2m (fun k => a (if k < 9 then k - 0 + j1 * 9 + 86 else k - 9 + 7)) (fun k => ac (if k < 9 then k - 0 + j1 * 9 + 86 else k - 9 + 7)) (nd_st0, (σ.2.2.2.2.2.2.1 j1), σ.2.2.1.2.2)) H.size q → H1[q]? = H[q]?) (h1 : va_P D vwCl (dw_X2m (fun k => a (if k < 9 then k - 0 + j1 * 9 + 86 else k - 9 + 7)) (fun k => ac (if k < 9 then k - 0 + j1 * 9 + 86 else k - 9 + 7)) τ) H1) (h2 : va_D (va_A (dw_X2m (fun k => a (if k < 9 then k - 0 + j1 * 9 + 86 else k - 9 + 7)) (fun k => ac (if k < 9 then k - 0 + j1 * 9 + 86 else k - 9 + 7)) (nd_st0, (σ.2.2.2.2.2.2.1 j1), σ.2.2.1.2.2)) H.size) (dw_X2m (fun k => a (if k < 9 then k - 0 + j1 * 9 + 86 else k - 9 + 7)) (fun k => ac (if k < 9 then k - 0 + j1 * 9 + 86 else k - 9 + 7)) τ)) : va_P D vwCl (dw_X11 a ac ((σ.1, (σ.2.1, (σ.2.2.1, (σ.2.2.2.1, (σ.2.2.2.2.1, (σ.2.2.2.2.2.1, ((fun i => if i = j1 then τ.2.1 else σ.2.2.2.2.2.2.1 i), σ.2.2.2.2.2.2.2))))))).1, ((σ.1, (σ.2.1, (σ.2.2.1, (σ.2.2.2.1, (σ.2.2.2.2.1, (σ.2.2.2.2.2.1, ((fun i => if i = j1 then τ.2.1 else σ.2.2.2.2.2.2.1 i), σ.2.2.2.2.2.2.2))))))).2.1, (((σ.1, (σ.2.1, (σ.2.2.1, (σ.2.2.2.1, (σ.2.2.2.2.1, (σ.2.2.2.2.2.1, ((fun i => if i = j1 then τ.2.1 else σ.2.2.2.2.2.2.1 i), σ.2.2.2.2.2.2.2))))))).2.2.1.1, ((σ.1, (σ.2.1, (σ.2.2.1, (σ.2.2.2.1, (σ.2.2.2.2.1, (σ.2.2.2.2.2.1, ((fun i => if i = j1 then τ.2.1 else σ.2.2.2.2.2.2.1 i), σ.2.2.2.2.2.2.2))))))).2.2.1.2.1, τ.2.2)), (σ.1, (σ.2.1, (σ.2.2.1, (σ.2.2.2.1, (σ.2.2.2.2.1, (σ.2.2.2.2.2.1, ((fun i => if i = j1 then τ.2.1 else σ.2.2.2.2.2.2.1 i), σ.2.2.2.2.2.2.2))))))).2.2.2)))) H1 ∧ va_D A0 (dw_X11 a ac ((σ.1, (σ.2.1, (σ.2.2.1, (σ.2.2.2.1, (σ.2.2.2.2.1, (σ.2.2.2.2.2.1, ((fun i => if i = j1 then τ.2.1 else σ.2.2.2.2.2.2.1 i), σ.2.2.2.2.2.2.2))))))).1, ((σ.1, (σ.2.1, (σ.2.2.1, (σ.2.2.2.1, (σ.2.2.2.2.1, (σ.2.2.2.2.2.1, ((fun i => if i = j1 then τ.2.1 else σ.2.2.2.2.2.2.1 i), σ.2.2.2.2.2.2.2))))))).2.1, (((σ.1, (σ.2.1, (σ.2.2.1, (σ.2.2.2.1, (σ.2.2.2.2.1, (σ.2.2.2.2.2.1, ((fun i => if i = j1 then τ.2.1 else σ.2.2.2.2.2.2.1 i), σ.2.2.2.2.2.2.2))))))).2.2.1.1, ((σ.1, (σ.2.1, (σ.2.2.1, (σ.2.2.2.1, (σ.2.2.2.2.1, (σ.2.2.2.2.2.1, ((fun i => if i = j1 then τ.2.1 else σ.2.2.2.2.2.2.1 i), σ.2.2.2.2.2.2.2))))))).2.2.1.2.1, τ.2.2)), (σ.1, (σ.2.1, (σ.2.2.1, (σ.2.2.2.1, (σ.2.2.2.2.1, (σ.2.2.2.2.2.1, ((fun i => if i = j1 then τ.2.1 else σ.2.2.2.2.2.2.1 i), σ.2.2.2.2.2.2.2))))))).2.2.2)))) := by
  have eo := de_wX11_X2m_8 (a := a) (ac := ac) (j1 := j1) (τ := (nd_st0, (σ.2.2.2.2.2.2.1 j1), σ.2.2.1.2.2))
  have en := de_wX11_X2m_8 (a := a) (ac := ac) (j1 := j1) (τ := τ)
  have h := nd_vn (segs := dg_X11 a ac σ) (ix := [20 + j1, 3, 4]) (old := [dw_X2c (fun k => a (k + j1 * 9 + 86)) (fun k => ac (k + j1 * 9 + 86)) (σ.2.2.2.2.2.2.1 j1), dwo_X6 (fun k => a (k + 7)) (fun k => ac (k + 7)) (σ.2.2.1.2.2.1), dw_X10 (fun k => a (k + 17)) (fun k => ac (k + 17)) (σ.2.2.1.2.2.2)]) (new := [dw_X2c (fun k => a (k + j1 * 9 + 86)) (fun k => ac (k + j1 * 9 + 86)) (τ.2.1), dwo_X6 (fun k => a (k + 7)) (fun k => ac (k + 7)) (τ.2.2.1), dw_X10 (fun k => a (k + 17)) (fun k => ac (k + 17)) (τ.2.2.2)]) hP hD (nd_co (dx_X11_K2 hj1) (nd_co rfl (nd_co rfl rfl))) rfl (fun q z y => hk q z (fun w => y (eo ▸ w))) (en ▸ h1)
  have e0 : (dg_X11 a ac σ).set (20 + j1) (dw_X2c (fun k => a (k + j1 * 9 + 86)) (fun k => ac (k + j1 * 9 + 86)) (τ.2.1)) = dg_X11 a ac (σ.1, (σ.2.1, (σ.2.2.1, (σ.2.2.2.1, (σ.2.2.2.2.1, (σ.2.2.2.2.2.1, ((fun i => if i = j1 then (τ.2.1) else σ.2.2.2.2.2.2.1 i), σ.2.2.2.2.2.2.2))))))) := dz_X11_K2 hj1
  have e2 : ((dg_X11 a ac (σ.1, (σ.2.1, (σ.2.2.1, (σ.2.2.2.1, (σ.2.2.2.2.1, (σ.2.2.2.2.2.1, ((fun i => if i = j1 then (τ.2.1) else σ.2.2.2.2.2.2.1 i), σ.2.2.2.2.2.2.2)))))))).set 3 (dwo_X6 (fun k => a (k + 7)) (fun k => ac (k + 7)) (τ.2.2.1))).set 4 (dw_X10 (fun k => a (k + 17)) (fun k => ac (k + 17)) (τ.2.2.2)) = dg_X11 a ac (((σ.1, (σ.2.1, (σ.2.2.1, (σ.2.2.2.1, (σ.2.2.2.2.1, (σ.2.2.2.2.2.1, ((fun i => if i = j1 then (τ.2.1) else σ.2.2.2.2.2.2.1 i), σ.2.2.2.2.2.2.2))))))).1, ((σ.1, (σ.2.1, (σ.2.2.1, (σ.2.2.2.1, (σ.2.2.2.2.1, (σ.2.2.2.2.2.1, ((fun i => if i = j1 then (τ.2.1) else σ.2.2.2.2.2.2.1 i), σ.2.2.2.2.2.2.2))))))).2.1, (((σ.1, (σ.2.1, (σ.2.2.1, (σ.2.2.2.1, (σ.2.2.2.2.1, (σ.2.2.2.2.2.1, ((fun i => if i = j1 then (τ.2.1) else σ.2.2.2.2.2.2.1 i), σ.2.2.2.2.2.2.2))))))).2.2.1.1, ((σ.1, (σ.2.1, (σ.2.2.1, (σ.2.2.2.1, (σ.2.2.2.2.1, (σ.2.2.2.2.2.1, ((fun i => if i = j1 then (τ.2.1) else σ.2.2.2.2.2.2.1 i), σ.2.2.2.2.2.2.2))))))).2.2.1.2.1, ((τ.2.2.1), (σ.1, (σ.2.1, (σ.2.2.1, (σ.2.2.2.1, (σ.2.2.2.2.1, (σ.2.2.2.2.2.1, ((fun i => if i = j1 then (τ.2.1) else σ.2.2.2.2.2.2.1 i), σ.2.2.2.2.2.2.2))))))).2.2.1.2.2.2))), (σ.1, (σ.2.1, (σ.2.2.1, (σ.2.2.2.1, (σ.2.2.2.2.1, (σ.2.2.2.2.2.1, ((fun i => if i = j1 then (τ.2.1) else σ.2.2.2.2.2.2.1 i), σ.2.2.2.2.2.2.2))))))).2.2.2))).1, (((σ.1, (σ.2.1, (σ.2.2.1, (σ.2.2.2.1, (σ.2.2.2.2.1, (σ.2.2.2.2.2.1, ((fun i => if i = j1 then (τ.2.1) else σ.2.2.2.2.2.2.1 i), σ.2.2.2.2.2.2.2))))))).1, ((σ.1, (σ.2.1, (σ.2.2.1, (σ.2.2.2.1, (σ.2.2.2.2.1, (σ.2.2.2.2.2.1, ((fun i => if i = j1 then (τ.2.1) else σ.2.2.2.2.2.2.1 i), σ.2.2.2.2.2.2.2))))))).2.1, (((σ.1, (σ.2.1, (σ.2.2.1, (σ.2.2.2.1, (σ.2.2.2.2.1, (σ.2.2.2.2.2.1, ((fun i => if i = j1 then (τ.2.1) else σ.2.2.2.2.2.2.1 i), σ.2.2.2.2.2.2.2))))))).2.2.1.1, ((σ.1, (σ.2.1, (σ.2.2.1, (σ.2.2.2.1, (σ.2.2.2.2.1, (σ.2.2.2.2.2.1, ((fun i => if i = j1 then (τ.2.1) else σ.2.2.2.2.2.2.1 i), σ.2.2.2.2.2.2.2))))))).2.2.1.2.1, ((τ.2.2.1), (σ.1, (σ.2.1, (σ.2.2.1, (σ.2.2.2.1, (σ.2.2.2.2.1, (σ.2.2.2.2.2.1, ((fun i => if i = j1 then (τ.2.1) else σ.2.2.2.2.2.2.1 i), σ.2.2.2.2.2.2.2))))))).2.2.1.2.2.2))), (σ.1, (σ.2.1, (σ.2.2.1, (σ.2.2.2.1, (σ.2.2.2.2.1, (σ.2.2.2.2.2.1, ((fun i => if i = j1 then (τ.2.1) else σ.2.2.2.2.2.2.1 i), σ.2.2.2.2.2.2.2))))))).2.2.2))).2.1, ((((σ.1, (σ.2.1, (σ.2.2.1, (σ.2.2.2.1, (σ.2.2.2.2.1, (σ.2.2.2.2.2.1, ((fun i => if i = j1 then (τ.2.1) else σ.2.2.2.2.2.2.1 i), σ.2.2.2.2.2.2.2))))))).1, ((σ.1, (σ.2.1, (σ.2.2.1, (σ.2.2.2.1, (σ.2.2.2.2.1, (σ.2.2.2.2.2.1, ((fun i => if i = j1 then (τ.2.1) else σ.2.2.2.2.2.2.1 i), σ.2.2.2.2.2.2.2))))))).2.1, (((σ.1, (σ.2.1, (σ.2.2.1, (σ.2.2.2.1, (σ.2.2.2.2.1, (σ.2.2.2.2.2.1, ((fun i => if i = j1 then (τ.2.1) else σ.2.2.2.2.2.2.1 i), σ.2.2.2.2.2.2.2))))))).2.2.1.1, ((σ.1, (σ.2.1, (σ.2.2.1, (σ.2.2.2.1, (σ.2.2.2.2.1, (σ.2.2.2.2.2.1, ((fun i => if i = j1 then (τ.2.1) else σ.2.2.2.2.2.2.1 i), σ.2.2.2.2.2.2.2))))))).2.2.1.2.1, ((τ.2.2.1), (σ.1, (σ.2.1, (σ.2.2.1, (σ.2.2.2.1, (σ.2.2.2.2.1, (σ.2.2.2.2.2.1, ((fun i => if i = j1 then (τ.2.1) else σ.2.2.2.2.2.2.1 i), σ.2.2.2.2.2.2.2))))))).2.2.1.2.2.2))), (σ.1, (σ.2.1, (σ.2.2.1, (σ.2.2.2.1, (σ.2.2.2.2.1, (σ.2.2.2.2.2.1, ((fun i => if i = j1 then (τ.2.1) else σ.2.2.2.2.2.2.1 i), σ.2.2.2.2.2.2.2))))))).2.2.2))).2.2.1.1, (((σ.1, (σ.2.1, (σ.2.2.1, (σ.2.2.2.1, (σ.2.2.2.2.1, (σ.2.2.2.2.2.1, ((fun i => if i = j1 then (τ.2.1) else σ.2.2.2.2.2.2.1 i), σ.2.2.2.2.2.2.2))))))).1, ((σ.1, (σ.2.1, (σ.2.2.1, (σ.2.2.2.1, (σ.2.2.2.2.1, (σ.2.2.2.2.2.1, ((fun i => if i = j1 then (τ.2.1) else σ.2.2.2.2.2.2.1 i), σ.2.2.2.2.2.2.2))))))).2.1, (((σ.1, (σ.2.1, (σ.2.2.1, (σ.2.2.2.1, (σ.2.2.2.2.1, (σ.2.2.2.2.2.1, ((fun i => if i = j1 then (τ.2.1) else σ.2.2.2.2.2.2.1 i), σ.2.2.2.2.2.2.2))))))).2.2.1.1, ((σ.1, (σ.2.1, (σ.2.2.1, (σ.2.2.2.1, (σ.2.2.2.2.1, (σ.2.2.2.2.2.1, ((fun i => if i = j1 then (τ.2.1) else σ.2.2.2.2.2.2.1 i), σ.2.2.2.2.2.2.2))))))).2.2.1.2.1, ((τ.2.2.1), (σ.1, (σ.2.1, (σ.2.2.1, (σ.2.2.2.1, (σ.2.2.2.2.1, (σ.2.2.2.2.2.1, ((fun i => if i = j1 then (τ.2.1) else σ.2.2.2.2.2.2.1 i), σ.2.2.2.2.2.2.2))))))).2.2.1.2.2.2))), (σ.1, (σ.2.1, (σ.2.2.1, (σ.2.2.2.1, (σ.2.2.2.2.1, (σ.2.2.2.2.2.1, ((fun i => if i = j1 then (τ.2.1) else σ.2.2.2.2.2.2.1 i), σ.2.2.2.2.2.2.2))))))).2.2.2))).2.2.1.2.1, (((σ.1, (σ.2.1, (σ.2.2.1, (σ.2.2.2.1, (σ.2.2.2.2.1, (σ.2.2.2.2.2.1, ((fun i => if i = j1 then (τ.2.1) else σ.2.2.2.2.2.2.1 i), σ.2.2.2.2.2.2.2))))))).1, ((σ.1, (σ.2.1, (σ.2.2.1, (σ.2.2.2.1, (σ.2.2.2.2.1, (σ.2.2.2.2.2.1, ((fun i => if i = j1 then (τ.2.1) else σ.2.2.2.2.2.2.1 i), σ.2.2.2.2.2.2.2))))))).2.1, (((σ.1, (σ.2.1, (σ.2.2.1, (σ.2.2.2.1, (σ.2.2.2.2.1, (σ.2.2.2.2.2.1, ((fun i => if i = j1 then (τ.2.1) else σ.2.2.2.2.2.2.1 i), σ.2.2.2.2.2.2.2))))))).2.2.1.1, ((σ.1, (σ.2.1, (σ.2.2.1, (σ.2.2.2.1, (σ.2.2.2.2.1, (σ.2.2.2.2.2.1, ((fun i => if i = j1 then (τ.2.1) else σ.2.2.2.2.2.2.1 i), σ.2.2.2.2.2.2.2))))))).2.2.1.2.1, ((τ.2.2.1), (σ.1, (σ.2.1, (σ.2.2.1, (σ.2.2.2.1, (σ.2.2.2.2.1, (σ.2.2.2.2.2.1, ((fun i => if i = j1 then (τ.2.1) else σ.2.2.2.2.2.2.1 i), σ.2.2.2.2.2.2.2))))))).2.2.1.2.2.2))), (σ.1, (σ.2.1, (σ.2.2.1, (σ.2.2.2.1, (σ.2.2.2.2.1, (σ.2.2.2.2.2.1, ((fun i => if i = j1 then (τ.2.1) else σ.2.2.2.2.2.2.1 i), σ.2.2.2.2.2.2.2))))))).2.2.2))).2.2.1.2.2.1, (τ.2.2.2)))), ((σ.1, (σ.2.1, (σ.2.2.1, (σ.2.2.2.1, (σ.2.2.2.2.1, (σ.2.2.2.2.2.1, ((fun i => if i = j1 then (τ.2.1) else σ.2.2.2.2.2.2.1 i), σ.2.2.2.2.2.2.2))))))).1, ((σ.1, (σ.2.1, (σ.2.2.1, (σ.2.2.2.1, (σ.2.2.2.2.1, (σ.2.2.2.2.2.1, ((fun i => if i = j1 then (τ.2.1) else σ.2.2.2.2.2.2.1 i), σ.2.2.2.2.2.2.2))))))).2.1, (((σ.1, (σ.2.1, (σ.2.2.1, (σ.2.2.2.1, (σ.2.2.2.2.1, (σ.2.2.2.2.2.1, ((fun i => if i = j1 then (τ.2.1) else σ.2.2.2.2.2.2.1 i), σ.2.2.2.2.2.2.2))))))).2.2.1.1, ((σ.1, (σ.2.1, (σ.2.2.1, (σ.2.2.2.1, (σ.2.2.2.2.1, (σ.2.2.2.2.2.1, ((fun i => if i = j1 then (τ.2.1) else σ.2.2.2.2.2.2.1 i), σ.2.2.2.2.2.2.2))))))).2.2.1.2.1, ((τ.2.2.1), (σ.1, (σ.2.1, (σ.2.2.1, (σ.2.2.2.1, (σ.2.2.2.2.1, (σ.2.2.2.2.2.1, ((fun i => if i = j1 then (τ.2.1) else σ.2.2.2.2.2.2.1 i), σ.2.2.2.2.2.2.2))))))).2.2.1.2.2.2))), (σ.1, (σ.2.1, (σ.2.2.1, (σ.2.2.2.1, (σ.2.2.2.2.1, (σ.2.2.2.2.2.1, ((fun i => if i = j1 then (τ.2.1) else σ.2.2.2.2.2.2.1 i), σ.2.2.2.2.2.2.2))))))).2.2.2))).2.2.2))) := rfl
  have ee : nd_sets (dg_X11 a ac σ) [20 + j1, 3, 4] [dw_X2c (fun k => a (k + j1 * 9 + 86)) (fun k => ac (k + j1 * 9 + 86)) (τ.2.1), dwo_X6 (fun k => a (k + 7)) (fun k => ac (k + 7)) (τ.2.2.1), dw_X10 (fun k => a (k + 17)) (fun k => ac (k + 17)) (τ.2.2.2)] = dg_X11 a ac (((σ.1, (σ.2.1, (σ.2.2.1, (σ.2.2.2.1, (σ.2.2.2.2.1, (σ.2.2.2.2.2.1, ((fun i => if i = j1 then (τ.2.1) else σ.2.2.2.2.2.2.1 i), σ.2.2.2.2.2.2.2))))))).1, ((σ.1, (σ.2.1, (σ.2.2.1, (σ.2.2.2.1, (σ.2.2.2.2.1, (σ.2.2.2.2.2.1, ((fun i => if i = j1 then (τ.2.1) else σ.2.2.2.2.2.2.1 i), σ.2.2.2.2.2.2.2))))))).2.1, (((σ.1, (σ.2.1, (σ.2.2.1, (σ.2.2.2.1, (σ.2.2.2.2.1, (σ.2.2.2.2.2.1, ((fun i => if i = j1 then (τ.2.1) else σ.2.2.2.2.2.2.1 i), σ.2.2.2.2.2.2.2))))))).2.2.1.1, ((σ.1, (σ.2.1, (σ.2.2.1, (σ.2.2.2.1, (σ.2.2.2.2.1, (σ.2.2.2.2.2.1, ((fun i => if i = j1 then (τ.2.1) else σ.2.2.2.2.2.2.1 i), σ.2.2.2.2.2.2.2))))))).2.2.1.2.1, ((τ.2.2.1), (σ.1, (σ.2.1, (σ.2.2.1, (σ.2.2.2.1, (σ.2.2.2.2.1, (σ.2.2.2.2.2.1, ((fun i => if i = j1 then (τ.2.1) else σ.2.2.2.2.2.2.1 i), σ.2.2.2.2.2.2.2))))))).2.2.1.2.2.2))), (σ.1, (σ.2.1, (σ.2.2.1, (σ.2.2.2.1, (σ.2.2.2.2.1, (σ.2.2.2.2.2.1, ((fun i => if i = j1 then (τ.2.1) else σ.2.2.2.2.2.2.1 i), σ.2.2.2.2.2.2.2))))))).2.2.2))).1, (((σ.1, (σ.2.1, (σ.2.2.1, (σ.2.2.2.1, (σ.2.2.2.2.1, (σ.2.2.2.2.2.1, ((fun i => if i = j1 then (τ.2.1) else σ.2.2.2.2.2.2.1 i), σ.2.2.2.2.2.2.2))))))).1, ((σ.1, (σ.2.1, (σ.2.2.1, (σ.2.2.2.1, (σ.2.2.2.2.1, (σ.2.2.2.2.2.1, ((fun i => if i = j1 then (τ.2.1) else σ.2.2.2.2.2.2.1 i), σ.2.2.2.2.2.2.2))))))).2.1, (((σ.1, (σ.2.1, (σ.2.2.1, (σ.2.2.2.1, (σ.2.2.2.2.1, (σ.2.2.2.2.2.1, ((fun i => if i = j1 then (τ.2.1) else σ.2.2.2.2.2.2.1 i), σ.2.2.2.2.2.2.2))))))).2.2.1.1, ((σ.1, (σ.2.1, (σ.2.2.1, (σ.2.2.2.1, (σ.2.2.2.2.1, (σ.2.2.2.2.2.1, ((fun i => if i = j1 then (τ.2.1) else σ.2.2.2.2.2.2.1 i), σ.2.2.2.2.2.2.2))))))).2.2.1.2.1, ((τ.2.2.1), (σ.1, (σ.2.1, (σ.2.2.1, (σ.2.2.2.1, (σ.2.2.2.2.1, (σ.2.2.2.2.2.1, ((fun i => if i = j1 then (τ.2.1) else σ.2.2.2.2.2.2.1 i), σ.2.2.2.2.2.2.2))))))).2.2.1.2.2.2))), (σ.1, (σ.2.1, (σ.2.2.1, (σ.2.2.2.1, (σ.2.2.2.2.1, (σ.2.2.2.2.2.1, ((fun i => if i = j1 then (τ.2.1) else σ.2.2.2.2.2.2.1 i), σ.2.2.2.2.2.2.2))))))).2.2.2))).2.1, ((((σ.1, (σ.2.1, (σ.2.2.1, (σ.2.2.2.1, (σ.2.2.2.2.1, (σ.2.2.2.2.2.1, ((fun i => if i = j1 then (τ.2.1) else σ.2.2.2.2.2.2.1 i), σ.2.2.2.2.2.2.2))))))).1, ((σ.1, (σ.2.1, (σ.2.2.1, (σ.2.2.2.1, (σ.2.2.2.2.1, (σ.2.2.2.2.2.1, ((fun i => if i = j1 then (τ.2.1) else σ.2.2.2.2.2.2.1 i), σ.2.2.2.2.2.2.2))))))).2.1, (((σ.1, (σ.2.1, (σ.2.2.1, (σ.2.2.2.1, (σ.2.2.2.2.1, (σ.2.2.2.2.2.1, ((fun i => if i = j1 then (τ.2.1) else σ.2.2.2.2.2.2.1 i), σ.2.2.2.2.2.2.2))))))).2.2.1.1, ((σ.1, (σ.2.1, (σ.2.2.1, (σ.2.2.2.1, (σ.2.2.2.2.1, (σ.2.2.2.2.2.1, ((fun i => if i = j1 then (τ.2.1) else σ.2.2.2.2.2.2.1 i), σ.2.2.2.2.2.2.2))))))).2.2.1.2.1, ((τ.2.2.1), (σ.1, (σ.2.1, (σ.2.2.1, (σ.2.2.2.1, (σ.2.2.2.2.1, (σ.2.2.2.2.2.1, ((fun i => if i = j1 then (τ.2.1) else σ.2.2.2.2.2.2.1 i), σ.2.2.2.2.2.2.2))))))).2.2.1.2.2.2))), (σ.1, (σ.2.1, (σ.2.2.1, (σ.2.2.2.1, (σ.2.2.2.2.1, (σ.2.2.2.2.2.1, ((fun i => if i = j1 then (τ.2.1) else σ.2.2.2.2.2.2.1 i), σ.2.2.2.2.2.2.2))))))).2.2.2))).2.2.1.1, (((σ.1, (σ.2.1, (σ.2.2.1, (σ.2.2.2.1, (σ.2.2.2.2.1, (σ.2.2.2.2.2.1, ((fun i => if i = j1 then (τ.2.1) else σ.2.2.2.2.2.2.1 i), σ.2.2.2.2.2.2.2))))))).1, ((σ.1, (σ.2.1, (σ.2.2.1, (σ.2.2.2.1, (σ.2.2.2.2.1, (σ.2.2.2.2.2.1, ((fun i => if i = j1 then (τ.2.1) else σ.2.2.2.2.2.2.1 i), σ.2.2.2.2.2.2.2))))))).2.1, (((σ.1, (σ.2.1, (σ.2.2.1, (σ.2.2.2.1, (σ.2.2.2.2.1, (σ.2.2.2.2.2.1, ((fun i => if i = j1 then (τ.2.1) else σ.2.2.2.2.2.2.1 i), σ.2.2.2.2.2.2.2))))))).2.2.1.1, ((σ.1, (σ.2.1, (σ.2.2.1, (σ.2.2.2.1, (σ.2.2.2.2.1, (σ.2.2.2.2.2.1, ((fun i => if i = j1 then (τ.2.1) else σ.2.2.2.2.2.2.1 i), σ.2.2.2.2.2.2.2))))))).2.2.1.2.1, ((τ.2.2.1), (σ.1, (σ.2.1, (σ.2.2.1, (σ.2.2.2.1, (σ.2.2.2.2.1, (σ.2.2.2.2.2.1, ((fun i => if i = j1 then (τ.2.1) else σ.2.2.2.2.2.2.1 i), σ.2.2.2.2.2.2.2))))))).2.2.1.2.2.2))), (σ.1, (σ.2.1, (σ.2.2.1, (σ.2.2.2.1, (σ.2.2.2.2.1, (σ.2.2.2.2.2.1, ((fun i => if i = j1 then (τ.2.1) else σ.2.2.2.2.2.2.1 i), σ.2.2.2.2.2.2.2))))))).2.2.2))).2.2.1.2.1, (((σ.1, (σ.2.1, (σ.2.2.1, (σ.2.2.2.1, (σ.2.2.2.2.1, (σ.2.2.2.2.2.1, ((fun i => if i = j1 then (τ.2.1) else σ.2.2.2.2.2.2.1 i), σ.2.2.2.2.2.2.2))))))).1, ((σ.1, (σ.2.1, (σ.2.2.1, (σ.2.2.2.1, (σ.2.2.2.2.1, (σ.2.2.2.2.2.1, ((fun i => if i = j1 then (τ.2.1) else σ.2.2.2.2.2.2.1 i), σ.2.2.2.2.2.2.2))))))).2.1, (((σ.1, (σ.2.1, (σ.2.2.1, (σ.2.2.2.1, (σ.2.2.2.2.1, (σ.2.2.2.2.2.1, ((fun i => if i = j1 then (τ.2.1) else σ.2.2.2.2.2.2.1 i), σ.2.2.2.2.2.2.2))))))).2.2.1.1, ((σ.1, (σ.2.1, (σ.2.2.1, (σ.2.2.2.1, (σ.2.2.2.2.1, (σ.2.2.2.2.2.1, ((fun i => if i = j1 then (τ.2.1) else σ.2.2.2.2.2.2.1 i), σ.2.2.2.2.2.2.2))))))).2.2.1.2.1, ((τ.2.2.1), (σ.1, (σ.2.1, (σ.2.2.1, (σ.2.2.2.1, (σ.2.2.2.2.1, (σ.2.2.2.2.2.1, ((fun i => if i = j1 then (τ.2.1) else σ.2.2.2.2.2.2.1 i), σ.2.2.2.2.2.2.2))))))).2.2.1.2.2.2))), (σ.1, (σ.2.1, (σ.2.2.1, (σ.2.2.2.1, (σ.2.2.2.2.1, (σ.2.2.2.2.2.1, ((fun i => if i = j1 then (τ.2.1) else σ.2.2.2.2.2.2.1 i), σ.2.2.2.2.2.2.2))))))).2.2.2))).2.2.1.2.2.1, (τ.2.2.2)))), ((σ.1, (σ.2.1, (σ.2.2.1, (σ.2.2.2.1, (σ.2.2.2.2.1, (σ.2.2.2.2.2.1, ((fun i => if i = j1 then (τ.2.1) else σ.2.2.2.2.2.2.1 i), σ.2.2.2.2.2.2.2))))))).1, ((σ.1, (σ.2.1, (σ.2.2.1, (σ.2.2.2.1, (σ.2.2.2.2.1, (σ.2.2.2.2.2.1, ((fun i => if i = j1 then (τ.2.1) else σ.2.2.2.2.2.2.1 i), σ.2.2.2.2.2.2.2))))))).2.1, (((σ.1, (σ.2.1, (σ.2.2.1, (σ.2.2.2.1, (σ.2.2.2.2.1, (σ.2.2.2.2.2.1, ((fun i => if i = j1 then (τ.2.1) else σ.2.2.2.2.2.2.1 i), σ.2.2.2.2.2.2.2))))))).2.2.1.1, ((σ.1, (σ.2.1, (σ.2.2.1, (σ.2.2.2.1, (σ.2.2.2.2.1, (σ.2.2.2.2.2.1, ((fun i => if i = j1 then (τ.2.1) else σ.2.2.2.2.2.2.1 i), σ.2.2.2.2.2.2.2))))))).2.2.1.2.1, ((τ.2.2.1), (σ.1, (σ.2.1, (σ.2.2.1, (σ.2.2.2.1, (σ.2.2.2.2.1, (σ.2.2.2.2.2.1, ((fun i => if i = j1 then (τ.2.1) else σ.2.2.2.2.2.2.1 i), σ.2.2.2.2.2.2.2))))))).2.2.1.2.2.2))), (σ.1, (σ.2.1, (σ.2.2.1, (σ.2.2.2.1, (σ.2.2.2.2.1, (σ.2.2.2.2.2.1, ((fun i => if i = j1 then (τ.2.1) else σ.2.2.2.2.2.2.1 i), σ.2.2.2.2.2.2.2))))))).2.2.2))).2.2.2))) := by
    show (((dg_X11 a ac σ).set (20 + j1) (dw_X2c (fun k => a (k + j1 * 9 + 86)) (fun k => ac (k + j1 * 9 + 86)) (τ.2.1))).set 3 (dwo_X6 (fun k => a (k + 7)) (fun k => ac (k + 7)) (τ.2.2.1))).set 4 (dw_X10 (fun k => a (k + 17)) (fun k => ac (k + 17)) (τ.2.2.2)) = _
    rw [e0, e2]
  have hz : va_P D vwCl (dg_X11 a ac (((σ.1, (σ.2.1, (σ.2.2.1, (σ.2.2.2.1, (σ.2.2.2.2.1, (σ.2.2.2.2.2.1, ((fun i => if i = j1 then (τ.2.1) else σ.2.2.2.2.2.2.1 i), σ.2.2.2.2.2.2.2))))))).1, ((σ.1, (σ.2.1, (σ.2.2.1, (σ.2.2.2.1, (σ.2.2.2.2.1, (σ.2.2.2.2.2.1, ((fun i => if i = j1 then (τ.2.1) else σ.2.2.2.2.2.2.1 i), σ.2.2.2.2.2.2.2))))))).2.1, (((σ.1, (σ.2.1, (σ.2.2.1, (σ.2.2.2.1, (σ.2.2.2.2.1, (σ.2.2.2.2.2.1, ((fun i => if i = j1 then (τ.2.1) else σ.2.2.2.2.2.2.1 i), σ.2.2.2.2.2.2.2))))))).2.2.1.1, ((σ.1, (σ.2.1, (σ.2.2.1, (σ.2.2.2.1, (σ.2.2.2.2.1, (σ.2.2.2.2.2.1, ((fun i => if i = j1 then (τ.2.1) else σ.2.2.2.2.2.2.1 i), σ.2.2.2.2.2.2.2))))))).2.2.1.2.1, ((τ.2.2.1), (σ.1, (σ.2.1, (σ.2.2.1, (σ.2.2.2.1, (σ.2.2.2.2.1, (σ.2.2.2.2.2.1, ((fun i => if i = j1 then (τ.2.1) else σ.2.2.2.2.2.2.1 i), σ.2.2.2.2.2.2.2))))))).2.2.1.2.2.2))), (σ.1, (σ.2.1, (σ.2.2.1, (σ.2.2.2.1, (σ.2.2.2.2.1, (σ.2.2.2.2.2.1, ((fun i => if i = j1 then (τ.2.1) else σ.2.2.2.2.2.2.1 i), σ.2.2.2.2.2.2.2))))))).2.2.2))).1, (((σ.1, (σ.2.1, (σ.2.2.1, (σ.2.2.2.1, (σ.2.2.2.2.1, (σ.2.2.2.2.2.1, ((fun i => if i = j1 then (τ.2.1) else σ.2.2.2.2.2.2.1 i), σ.2.2.2.2.2.2.2))))))).1, ((σ.1, (σ.2.1, (σ.2.2.1, (σ.2.2.2.1, (σ.2.2.2.2.1, (σ.2.2.2.2.2.1, ((fun i => if i = j1 then (τ.2.1) else σ.2.2.2.2.2.2.1 i), σ.2.2.2.2.2.2.2))))))).2.1, (((σ.1, (σ.2.1, (σ.2.2.1, (σ.2.2.2.1, (σ.2.2.2.2.1, (σ.2.2.2.2.2.1, ((fun i => if i = j1 then (τ.2.1) else σ.2.2.2.2.2.2.1 i), σ.2.2.2.2.2.2.2))))))).2.2.1.1, ((σ.1, (σ.2.1, (σ.2.2.1, (σ.2.2.2.1, (σ.2.2.2.2.1, (σ.2.2.2.2.2.1, ((fun i => if i = j1 then (τ.2.1) else σ.2.2.2.2.2.2.1 i), σ.2.2.2.2.2.2.2))))))).2.2.1.2.1, ((τ.2.2.1), (σ.1, (σ.2.1, (σ.2.2.1, (σ.2.2.2.1, (σ.2.2.2.2.1, (σ.2.2.2.2.2.1, ((fun i => if i = j1 then (τ.2.1) else σ.2.2.2.2.2.2.1 i), σ.2.2.2.2.2.2.2))))))).2.2.1.2.2.2))), (σ.1, (σ.2.1, (σ.2.2.1, (σ.2.2.2.1, (σ.2.2.2.2.1, (σ.2.2.2.2.2.1, ((fun i => if i = j1 then (τ.2.1) else σ.2.2.2.2.2.2.1 i), σ.2.2.2.2.2.2.2))))))).2.2.2))).2.1, ((((σ.1, (σ.2.1, (σ.2.2.1, (σ.2.2.2.1, (σ.2.2.2.2.1, (σ.2.2.2.2.2.1, ((fun i => if i = j1 then (τ.2.1) else σ.2.2.2.2.2.2.1 i), σ.2.2.2.2.2.2.2))))))).1, ((σ.1, (σ.2.1, (σ.2.2.1, (σ.2.2.2.1, (σ.2.2.2.2.1, (σ.2.2.2.2.2.1, ((fun i => if i = j1 then (τ.2.1) else σ.2.2.2.2.2.2.1 i), σ.2.2.2.2.2.2.2))))))).2.1, (((σ.1, (σ.2.1, (σ.2.2.1, (σ.2.2.2.1, (σ.2.2.2.2.1, (σ.2.2.2.2.2.1, ((fun i => if i = j1 then (τ.2.1) else σ.2.2.2.2.2.2.1 i), σ.2.2.2.2.2.2.2))))))).2.2.1.1, ((σ.1, (σ.2.1, (σ.2.2.1, (σ.2.2.2.1, (σ.2.2.2.2.1, (σ.2.2.2.2.2.1, ((fun i => if i = j1 then (τ.2.1) else σ.2.2.2.2.2.2.1 i), σ.2.2.2.2.2.2.2))))))).2.2.1.2.1, ((τ.2.2.1), (σ.1, (σ.2.1, (σ.2.2.1, (σ.2.2.2.1, (σ.2.2.2.2.1, (σ.2.2.2.2.2.1, ((fun i => if i = j1 then (τ.2.1) else σ.2.2.2.2.2.2.1 i), σ.2.2.2.2.2.2.2))))))).2.2.1.2.2.2))), (σ.1, (σ.2.1, (σ.2.2.1, (σ.2.2.2.1, (σ.2.2.2.2.1, (σ.2.2.2.2.2.1, ((fun i => if i = j1 then (τ.2.1) else σ.2.2.2.2.2.2.1 i), σ.2.2.2.2.2.2.2))))))).2.2.2))).2.2.1.1, (((σ.1, (σ.2.1, (σ.2.2.1, (σ.2.2.2.1, (σ.2.2.2.2.1, (σ.2.2.2.2.2.1, ((fun i => if i = j1 then (τ.2.1) else σ.2.2.2.2.2.2.1 i), σ.2.2.2.2.2.2.2))))))).1, ((σ.1, (σ.2.1, (σ.2.2.1, (σ.2.2.2.1, (σ.2.2.2.2.1, (σ.2.2.2.2.2.1, ((fun i => if i = j1 then (τ.2.1) else σ.2.2.2.2.2.2.1 i), σ.2.2.2.2.2.2.2))))))).2.1, (((σ.1, (σ.2.1, (σ.2.2.1, (σ.2.2.2.1, (σ.2.2.2.2.1, (σ.2.2.2.2.2.1, ((fun i => if i = j1 then (τ.2.1) else σ.2.2.2.2.2.2.1 i), σ.2.2.2.2.2.2.2))))))).2.2.1.1, ((σ.1, (σ.2.1, (σ.2.2.1, (σ.2.2.2.1, (σ.2.2.2.2.1, (σ.2.2.2.2.2.1, ((fun i => if i = j1 then (τ.2.1) else σ.2.2.2.2.2.2.1 i), σ.2.2.2.2.2.2.2))))))).2.2.1.2.1, ((τ.2.2.1), (σ.1, (σ.2.1, (σ.2.2.1, (σ.2.2.2.1, (σ.2.2.2.2.1, (σ.2.2.2.2.2.1, ((fun i => if i = j1 then (τ.2.1) else σ.2.2.2.2.2.2.1 i), σ.2.2.2.2.2.2.2))))))).2.2.1.2.2.2))), (σ.1, (σ.2.1, (σ.2.2.1, (σ.2.2.2.1, (σ.2.2.2.2.1, (σ.2.2.2.2.2.1, ((fun i => if i = j1 then (τ.2.1) else σ.2.2.2.2.2.2.1 i), σ.2.2.2.2.2.2.2))))))).2.2.2))).2.2.1.2.1, (((σ.1, (σ.2.1, (σ.2.2.1, (σ.2.2.2.1, (σ.2.2.2.2.1, (σ.2.2.2.2.2.1, ((fun i => if i = j1 then (τ.2.1) else σ.2.2.2.2.2.2.1 i), σ.2.2.2.2.2.2.2))))))).1, ((σ.1, (σ.2.1, (σ.2.2.1, (σ.2.2.2.1, (σ.2.2.2.2.1, (σ.2.2.2.2.2.1, ((fun i => if i = j1 then (τ.2.1) else σ.2.2.2.2.2.2.1 i), σ.2.2.2.2.2.2.2))))))).2.1, (((σ.1, (σ.2.1, (σ.2.2.1, (σ.2.2.2.1, (σ.2.2.2.2.1, (σ.2.2.2.2.2.1, ((fun i => if i = j1 then (τ.2.1) else σ.2.2.2.2.2.2.1 i), σ.2.2.2.2.2.2.2))))))).2.2.1.1, ((σ.1, (σ.2.1, (σ.2.2.1, (σ.2.2.2.1, (σ.2.2.2.2.1, (σ.2.2.2.2.2.1, ((fun i => if i = j1 then (τ.2.1) else σ.2.2.2.2.2.2.1 i), σ.2.2.2.2.2.2.2))))))).2.2.1.2.1, ((τ.2.2.1), (σ.1, (σ.2.1, (σ.2.2.1, (σ.2.2.2.1, (σ.2.2.2.2.1, (σ.2.2.2.2.2.1, ((fun i => if i = j1 then (τ.2.1) else σ.2.2.2.2.2.2.1 i), σ.2.2.2.2.2.2.2))))))).2.2.1.2.2.2))), (σ.1, (σ.2.1, (σ.2.2.1, (σ.2.2.2.1, (σ.2.2.2.2.1, (σ.2.2.2.2.2.1, ((fun i => if i = j1 then (τ.2.1) else σ.2.2.2.2.2.2.1 i), σ.2.2.2.2.2.2.2))))))).2.2.2))).2.2.1.2.2.1, (τ.2.2.2)))), ((σ.1, (σ.2.1, (σ.2.2.1, (σ.2.2.2.1, (σ.2.2.2.2.1, (σ.2.2.2.2.2.1, ((fun i => if i = j1 then (τ.2.1) else σ.2.2.2.2.2.2.1 i), σ.2.2.2.2.2.2.2))))))).1, ((σ.1, (σ.2.1, (σ.2.2.1, (σ.2.2.2.1, (σ.2.2.2.2.1, (σ.2.2.2.2.2.1, ((fun i => if i = j1 then (τ.2.1) else σ.2.2.2.2.2.2.1 i), σ.2.2.2.2.2.2.2))))))).2.1, (((σ.1, (σ.2.1, (σ.2.2.1, (σ.2.2.2.1, (σ.2.2.2.2.1, (σ.2.2.2.2.2.1, ((fun i => if i = j1 then (τ.2.1) else σ.2.2.2.2.2.2.1 i), σ.2.2.2.2.2.2.2))))))).2.2.1.1, ((σ.1, (σ.2.1, (σ.2.2.1, (σ.2.2.2.1, (σ.2.2.2.2.1, (σ.2.2.2.2.2.1, ((fun i => if i = j1 then (τ.2.1) else σ.2.2.2.2.2.2.1 i), σ.2.2.2.2.2.2.2))))))).2.2.1.2.1, ((τ.2.2.1), (σ.1, (σ.2.1, (σ.2.2.1, (σ.2.2.2.1, (σ.2.2.2.2.1, (σ.2.2.2.2.2.1, ((fun i => if i = j1 then (τ.2.1) else σ.2.2.2.2.2.2.1 i), σ.2.2.2.2.2.2.2))))))).2.2.1.2.2.2))), (σ.1, (σ.2.1, (σ.2.2.1, (σ.2.2.2.1, (σ.2.2.2.2.1, (σ.2.2.2.2.2.1, ((fun i => if i = j1 then (τ.2.1) else σ.2.2.2.2.2.2.1 i), σ.2.2.2.2.2.2.2))))))).2.2.2))).2.2.2)))).flatten H1 := by rw [← ee]; exact h
  exact ⟨hz, nd_Da hD dA_X11⟩
def ow_dm_X11_rememberAll : List Cond := Cond.code yX11_rememberAll cX11_rememberAll 3 none :: ([Cond.fieldLink RX11 30 "TimeMachine$Timeline" "machine" "LTimeMachine$Machine;", Cond.fieldLink RX11 72 "TimeMachine$Timeline" "now" "I", Cond.methodLink RX11 174 yX2_remember, Cond.instanceMethod yX2_remember, Cond.selects RX2 yX2_remember yX2_remember, Cond.initialized RX2] ++ (u_ws RX11 TX11 16 ++ (ow_dm_X2_remember ++ [])))
theorem gd_dm_X11_rememberAll : ∀ w ∈ ow_dm_X11_rememberAll, (w.onTables && w.keeps) = true ∨ ∃ ty, w = Cond.arrayClass ty := List.forall_mem_cons.mpr ⟨good_of_word rfl, List.forall_mem_append.mpr ⟨fun w h => good_of_word (List.all_eq_true.mp (by decide +kernel) w h), List.forall_mem_append.mpr ⟨gu_X11, List.forall_mem_append.mpr ⟨gd_dm_X2_remember, fun _ h => nomatch h⟩⟩⟩⟩
theorem hi_dm_X11_rememberAll_X11 : ∀ w ∈ u_ws RX11 TX11 16, w ∈ ow_dm_X11_rememberAll := fun w h => List.mem_cons_of_mem _ (List.mem_append_right _ (List.mem_append_left _ h))
theorem gi_dm_X11_rememberAll_0 : GoodIn ow_dm_X11_rememberAll (wsV RX11 174 RX2 yX2_remember ow_dm_X2_remember) := goodIn_app (goodIn_of _ (by decide +kernel)) (fun w h => ⟨List.mem_cons_of_mem _ (List.mem_append_right _ (List.mem_append_right _ (List.mem_append_left _ h))), gd_dm_X2_remember w h⟩)
def dj_X11_rememberAll_28 (p : Program) (l : Launch) (e : Env) (s : State) (m : MethodId) (args : Array Value) (below : List Frame) (meth : Method) (c : Code) (Q : State → Prop) (A : Nat → Prop) (dC : Nat → ClassId) (dI : Nat → Nat → Nat) (a : Nat → Nat) (ac : Nat → ClassId) (g : Int32 → (St × Rw × (St × (St × (St × (St)))) × (St) × (St) × (Nat → St) × (Nat → St) × (Nat → St × (St))) → Option (St × Rw × (St × (St × (St × (St)))) × (St) × (St) × (Nat → St) × (Nat → St) × (Nat → St × (St)))) (r : St × Rw × (St × (St × (St × (St)))) × (St) × (St) × (Nat → St) × (Nat → St) × (Nat → St × (St))) : Prop := ∀ (x2 : Int32) (s0 : St × Rw × (St × (St × (St × (St)))) × (St) × (St) × (Nat → St) × (Nat → St) × (Nat → St × (St))) (H : Heap) (locs : List Loc) (ls : Array Slot), g x2 s0 = some r → va_P (dC, dI) vwCl (dw_X11 a ac s0) H → va_D A (dw_X11 a ac s0) → va_S A s.heap H locs → lv_has ls 3 [(0, .ref (a 0)), (1, .ref (a 39)), (2, .int x2)] → W p l e (headSpec ow_dm_X11_rememberAll ({ frames := 5, cells := 0, slots := 0, locals := 127 })).room s m args below meth c H locs 0 0 Q (F0 m 28 ls [])
def dj_X11_rememberAll_2 (p : Program) (l : Launch) (e : Env) (s : State) (m : MethodId) (args : Array Value) (below : List Frame) (meth : Method) (c : Code) (Q : State → Prop) (A : Nat → Prop) (dC : Nat → ClassId) (dI : Nat → Nat → Nat) (a : Nat → Nat) (ac : Nat → ClassId) (g : Int32 → (St × Rw × (St × (St × (St × (St)))) × (St) × (St) × (Nat → St) × (Nat → St) × (Nat → St × (St))) → Option (St × Rw × (St × (St × (St × (St)))) × (St) × (St) × (Nat → St) × (Nat → St) × (Nat → St × (St)))) (r : St × Rw × (St × (St × (St × (St)))) × (St) × (St) × (Nat → St) × (Nat → St) × (Nat → St × (St))) : Prop := ∀ (x2 : Int32) (s0 : St × Rw × (St × (St × (St × (St)))) × (St) × (St) × (Nat → St) × (Nat → St) × (Nat → St × (St))) (H : Heap) (locs : List Loc) (ls : Array Slot), g x2 s0 = some r → va_P (dC, dI) vwCl (dw_X11 a ac s0) H → va_D A (dw_X11 a ac s0) → va_S A s.heap H locs → lv_has ls 3 [(0, .ref (a 0)), (1, .ref (a 39)), (2, .int x2)] → W p l e (headSpec ow_dm_X11_rememberAll ({ frames := 5, cells := 0, slots := 0, locals := 127 })).room s m args below meth c H locs 0 0 Q (F0 m 2 ls [])
def dj_X11_rememberAll_0 (p : Program) (l : Launch) (e : Env) (s : State) (m : MethodId) (args : Array Value) (below : List Frame) (meth : Method) (c : Code) (Q : State → Prop) (A : Nat → Prop) (dC : Nat → ClassId) (dI : Nat → Nat → Nat) (a : Nat → Nat) (ac : Nat → ClassId) (g : (St × Rw × (St × (St × (St × (St)))) × (St) × (St) × (Nat → St) × (Nat → St) × (Nat → St × (St))) → Option (St × Rw × (St × (St × (St × (St)))) × (St) × (St) × (Nat → St) × (Nat → St) × (Nat → St × (St)))) (r : St × Rw × (St × (St × (St × (St)))) × (St) × (St) × (Nat → St) × (Nat → St) × (Nat → St × (St))) : Prop := ∀ (s0 : St × Rw × (St × (St × (St × (St)))) × (St) × (St) × (Nat → St) × (Nat → St) × (Nat → St × (St))) (H : Heap) (locs : List Loc) (ls : Array Slot), g s0 = some r → va_P (dC, dI) vwCl (dw_X11 a ac s0) H → va_D A (dw_X11 a ac s0) → va_S A s.heap H locs → lv_has ls 3 [(0, .ref (a 0)), (1, .ref (a 39))] → W p l e (headSpec ow_dm_X11_rememberAll ({ frames := 5, cells := 0, slots := 0, locals := 127 })).room s m args below meth c H locs 0 0 Q (F0 m 0 ls [])
set_option maxHeartbeats 40000000 in
set_option maxRecDepth 100000 in
theorem db_X11_rememberAll_28 {p : Program} {l : Launch} {e : Env} {s : State} {m : MethodId} {args : Array Value} {below : List Frame} {meth : Method} {c : Code} {Q : State → Prop} {A : Nat → Prop} {dC : Nat → ClassId} {dI : Nat → Nat → Nat} {a : Nat → Nat} {ac : Nat → ClassId} {n : Nat} {r : St × Rw × (St × (St × (St × (St)))) × (St) × (St) × (Nat → St) × (Nat → St) × (Nat → St × (St))} (C : nd_C p l s m args c A (dC, dI) cX11_rememberAll 3 RX11 ow_dm_X11_rememberAll (dk_X11 ac)) (K : nd_Kv p l e (headSpec ow_dm_X11_rememberAll ({ frames := 5, cells := 0, slots := 0, locals := 127 })).room s m args below meth c Q A (dC, dI) cX11_rememberAll (St × Rw × (St × (St × (St × (St)))) × (St) × (St) × (Nat → St) × (Nat → St) × (Nat → St × (St))) (dw_X11 a ac) r) {g2 : Int32 → (St × Rw × (St × (St × (St × (St)))) × (St) × (St) × (Nat → St) × (Nat → St) × (Nat → St × (St))) → Option (St × Rw × (St × (St × (St × (St)))) × (St) × (St) × (Nat → St) × (Nat → St) × (Nat → St × (St)))} (J2 : dj_X11_rememberAll_2 p l e s m args below meth c Q A dC dI a ac g2 r) : dj_X11_rememberAll_28 p l e s m args below meth c Q A dC dI a ac (df_X11_rememberAll_28 n g2) r := by
  obtain ⟨hlt, hx, hb, hml, hown, hts, hN, hA, hK⟩ := id C
  intro x2 s0 H locs ls h hP hD hS hl
  unfold df_X11_rememberAll_28 at h
  obtain ⟨z4, ez4, h⟩ := nd_let_e h
  refine lv_iinc (v := z4) (lv' := [(2, .int z4), (0, .ref (a 0)), (1, .ref (a 39))]) hx hb dX11_rememberAll_28 hl (k := 2) rfl (by rw [ez4]) (by decide) rfl (fun ls hl => ?_)
  refine lv_goto (tgt := 2) hx hb dX11_rememberAll_31 (by decide) ?_
  exact (J2) (z4) s0 _ _ _ h hP hD hS (lv_sub hl [1, 2, 0] rfl)
set_option maxHeartbeats 40000000 in
set_option maxRecDepth 100000 in
theorem dB_X11_rememberAll_2 {p : Program} {l : Launch} {e : Env} {s : State} {m : MethodId} {args : Array Value} {below : List Frame} {meth : Method} {c : Code} {Q : State → Prop} {A : Nat → Prop} {dC : Nat → ClassId} {dI : Nat → Nat → Nat} {a : Nat → Nat} {ac : Nat → ClassId} {n : Nat} {r : St × Rw × (St × (St × (St × (St)))) × (St) × (St) × (Nat → St) × (Nat → St) × (Nat → St × (St))} (C : nd_C p l s m args c A (dC, dI) cX11_rememberAll 3 RX11 ow_dm_X11_rememberAll (dk_X11 ac)) (K : nd_Kv p l e (headSpec ow_dm_X11_rememberAll ({ frames := 5, cells := 0, slots := 0, locals := 127 })).room s m args below meth c Q A (dC, dI) cX11_rememberAll (St × Rw × (St × (St × (St × (St)))) × (St) × (St) × (Nat → St) × (Nat → St) × (Nat → St × (St))) (dw_X11 a ac) r) {g2 : Int32 → (St × Rw × (St × (St × (St × (St)))) × (St) × (St) × (Nat → St) × (Nat → St) × (Nat → St × (St))) → Option (St × Rw × (St × (St × (St × (St)))) × (St) × (St) × (Nat → St) × (Nat → St) × (Nat → St × (St)))} (J2 : dj_X11_rememberAll_2 p l e s m args below meth c Q A dC dI a ac g2 r) : dj_X11_rememberAll_2 p l e s m args below meth c Q A dC dI a ac (dF_X11_rememberAll_2 n g2) r := by
  obtain ⟨hlt, hx, hb, hml, hown, hts, hN, hA, hK⟩ := id C
  intro x2 s0 H locs ls h hP hD hS hl
  unfold dF_X11_rememberAll_2 at h
  refine lv_iload_n hx hb dX11_rememberAll_2 rfl (lv_at hl 2 rfl) ?_
  refine lv_aload_n hx hb dX11_rememberAll_3 rfl (lv_at hl 1 rfl) ?_
  refine va_alen (v := 8) hx hb hK hP 39 32 rfl rfl (show Int32.ofNat 8 = 8 by decide) dX11_rememberAll_4 ?_
  refine lv_icmp_ge (tgt := 34) hx hb dX11_rememberAll_5 (by decide) (fun c1 => ?_) (fun c1 => ?_)
  · have h := nd_pos h c1
    exact K _ _ _ _ _ dX11_rememberAll_34 (Option.some.inj h).symm hP hD hS
  · have h := nd_neg h c1
    refine lv_aload_n hx hb dX11_rememberAll_8 rfl (lv_at hl 1 rfl) ?_
    refine lv_iload_n hx hb dX11_rememberAll_9 rfl (lv_at hl 2 rfl) ?_
    obtain ⟨i2, h⟩ := nd_ck_e h
    refine va_aldq (i := x2) hx hb hK hP 39 32 rfl rfl i2 dX11_rememberAll_10 ?_
    cases hrj3 : s0.2.1 2 (Int32.toNatClampNeg x2) with
    | none =>
      have h := nd_mN h hrj3
      refine W.eq (g2 := F0 m 11 ls [.null]) (by first | rfl | (show F0 m _ ls (va_rf (Option.map (fun j => a (0 + j * 9 + 86)) (s0.2.1 2 (Int32.toNatClampNeg x2))) :: _) = _; rw [hrj3]; rfl)) ?_
      refine lv_ifnullN (tgt := 28) hx hb dX11_rememberAll_11 (by decide) ?_
      exact (db_X11_rememberAll_28 C K J2) (x2) s0 _ _ _ h hP hD hS (lv_sub hl [0, 1, 2] rfl)
    | some j3 =>
      have h := nd_mS h hrj3
      refine W.eq (g2 := F0 m 11 ls [.ref (a (0 + j3 * 9 + 86))]) (by first | rfl | (show F0 m _ ls (va_rf (Option.map (fun j => a (0 + j * 9 + 86)) (s0.2.1 2 (Int32.toNatClampNeg x2))) :: _) = _; rw [hrj3]; rfl)) ?_
      refine lv_ifnull hx hb dX11_rememberAll_11 ?_
      refine lv_aload_n hx hb dX11_rememberAll_14 rfl (lv_at hl 1 rfl) ?_
      refine lv_iload_n hx hb dX11_rememberAll_15 rfl (lv_at hl 2 rfl) ?_
      obtain ⟨i5, h⟩ := nd_ck_e h
      refine va_aldq (i := x2) hx hb hK hP 39 32 rfl rfl i5 dX11_rememberAll_16 ?_
      cases hrj6 : s0.2.1 2 (Int32.toNatClampNeg x2) with
      | none =>
        have h := nd_mN h hrj6
        refine W.eq (g2 := F0 m 17 ls [.null]) (by first | rfl | (show F0 m _ ls (va_rf (Option.map (fun j => a (0 + j * 9 + 86)) (s0.2.1 2 (Int32.toNatClampNeg x2))) :: _) = _; rw [hrj6]; rfl)) ?_
        refine lv_aload_n hx hb dX11_rememberAll_17 rfl (lv_at hl 0 rfl) ?_
        refine va_get (D := (dC, dI)) (ci := 12) (v := .ref (a 7)) (C := RX11) (T := TX11) (N := 16) hx hb hts hi_dm_X11_rememberAll_X11 hown hK hP 0 rfl rfl 3 (by decide) (hts (.fieldLink RX11 30 "TimeMachine$Timeline" "machine" "LTimeMachine$Machine;") (List.mem_of_getElem? (i := 1) rfl)) (fun _ h9 => h9) rfl dX11_rememberAll_18 ?_
        refine lv_aload_n hx hb dX11_rememberAll_21 rfl (lv_at hl 0 rfl) ?_
        refine va_get (D := (dC, dI)) (ci := 12) (v := .int (sI s0.1 3)) (C := RX11) (T := TX11) (N := 16) hx hb hts hi_dm_X11_rememberAll_X11 hown hK hP 0 rfl rfl 11 (by decide) (hts (.fieldLink RX11 72 "TimeMachine$Timeline" "now" "I") (List.mem_of_getElem? (i := 2) rfl)) (fun _ h9 => h9) rfl dX11_rememberAll_22 ?_
        exact nomatch h
      | some j6 =>
        have h := nd_mS h hrj6
        refine W.eq (g2 := F0 m 17 ls [.ref (a (0 + j6 * 9 + 86))]) (by first | rfl | (show F0 m _ ls (va_rf (Option.map (fun j => a (0 + j * 9 + 86)) (s0.2.1 2 (Int32.toNatClampNeg x2))) :: _) = _; rw [hrj6]; rfl)) ?_
        refine lv_aload_n hx hb dX11_rememberAll_17 rfl (lv_at hl 0 rfl) ?_
        refine va_get (D := (dC, dI)) (ci := 12) (v := .ref (a 7)) (C := RX11) (T := TX11) (N := 16) hx hb hts hi_dm_X11_rememberAll_X11 hown hK hP 0 rfl rfl 3 (by decide) (hts (.fieldLink RX11 30 "TimeMachine$Timeline" "machine" "LTimeMachine$Machine;") (List.mem_of_getElem? (i := 1) rfl)) (fun _ h9 => h9) rfl dX11_rememberAll_18 ?_
        refine lv_aload_n hx hb dX11_rememberAll_21 rfl (lv_at hl 0 rfl) ?_
        refine va_get (D := (dC, dI)) (ci := 12) (v := .int (sI s0.1 3)) (C := RX11) (T := TX11) (N := 16) hx hb hts hi_dm_X11_rememberAll_X11 hown hK hP 0 rfl rfl 11 (by decide) (hts (.fieldLink RX11 72 "TimeMachine$Timeline" "now" "I") (List.mem_of_getElem? (i := 2) rfl)) (fun _ h9 => h9) rfl dX11_rememberAll_22 ?_
        obtain ⟨l7, h⟩ := nd_lt_e h
        obtain ⟨s9, hq, h⟩ := nd_b1_e h
        have hPc := dp_wX11_X2m_8 l7 hP
        have hDc := dd_wX11_X2m_8 l7 hD
        have hKc := dy_wX11_X2m_8 l7 hK
        have hFc := nd_rs hDc hS hA
        have hzA : ∀ q : Nat, H.size ≤ q → A q := fun q h => hA q (Nat.le_trans hS.1 h)
        refine nd_cVv (As := [.ref (a 7), .int (sI s0.1 3)]) (rest := []) (w' := dw_X2m (fun k => a (if k < 9 then k - 0 + j6 * 9 + 86 else k - 9 + 7)) (fun k => ac (if k < 9 then k - 0 + j6 * 9 + 86 else k - 9 + 7)) s9) ⟨hx, hb, hml, hown, hts⟩ (fun sz => dm_X2_remember l hlt dC dI (fun k => a (if k < 9 then k - 0 + j6 * 9 + 86 else k - 9 + 7)) (fun k => ac (if k < 9 then k - 0 + j6 * 9 + 86 else k - 9 + 7)) n ((sI s0.1 3)) (nd_st0, (s0.2.2.2.2.2.2.1 j6), s0.2.2.1.2.2) hq sz) (cwV 2 hts gi_dm_X11_rememberAll_0 rfl rfl rfl (by decide +kernel) ⟨Nat.le_of_ble_eq_true rfl, Nat.le_of_ble_eq_true rfl⟩) hPc hDc hKc hS hA hN (va_recv hKc hPc (ci := 3) (q0 := 0) rfl rfl) rfl hl.1 rfl (Nat.le_of_ble_eq_true rfl) dX11_rememberAll_25 (fun H locs hP1 hD1 hk1 hS => ?_)
        obtain ⟨hP, hD⟩ := dn_wX11_X2m_8 l7 hP hD hzA hk1 hP1 hD1
        obtain ⟨s11, es11, h⟩ := nd_let_e h
        have hP : va_P (dC, dI) vwCl (dw_X11 a ac s11) H := by rw [es11]; exact hP
        have hD : va_D A (dw_X11 a ac s11) := by rw [es11]; exact hD
        exact (db_X11_rememberAll_28 C K J2) (x2) s11 _ _ _ h hP hD hS (lv_sub hl [0, 1, 2] rfl)
set_option maxHeartbeats 40000000 in
set_option maxRecDepth 100000 in
theorem db_X11_rememberAll_2 {p : Program} {l : Launch} {e : Env} {s : State} {m : MethodId} {args : Array Value} {below : List Frame} {meth : Method} {c : Code} {Q : State → Prop} {A : Nat → Prop} {dC : Nat → ClassId} {dI : Nat → Nat → Nat} {a : Nat → Nat} {ac : Nat → ClassId} {n : Nat} {r : St × Rw × (St × (St × (St × (St)))) × (St) × (St) × (Nat → St) × (Nat → St) × (Nat → St × (St))} (C : nd_C p l s m args c A (dC, dI) cX11_rememberAll 3 RX11 ow_dm_X11_rememberAll (dk_X11 ac)) (K : nd_Kv p l e (headSpec ow_dm_X11_rememberAll ({ frames := 5, cells := 0, slots := 0, locals := 127 })).room s m args below meth c Q A (dC, dI) cX11_rememberAll (St × Rw × (St × (St × (St × (St)))) × (St) × (St) × (Nat → St) × (Nat → St) × (Nat → St × (St))) (dw_X11 a ac) r) (k : Nat) : dj_X11_rememberAll_2 p l e s m args below meth c Q A dC dI a ac (df_X11_rememberAll_2 n k) r := by
  induction k with
  | zero => intro x2 s0 H locs ls h; exact nomatch (show (none : Option (St × Rw × (St × (St × (St × (St)))) × (St) × (St) × (Nat → St) × (Nat → St) × (Nat → St × (St)))) = some r from h)
  | succ k ih => exact dB_X11_rememberAll_2 C K ih
set_option maxHeartbeats 40000000 in
set_option maxRecDepth 100000 in
theorem db_X11_rememberAll_0 {p : Program} {l : Launch} {e : Env} {s : State} {m : MethodId} {args : Array Value} {below : List Frame} {meth : Method} {c : Code} {Q : State → Prop} {A : Nat → Prop} {dC : Nat → ClassId} {dI : Nat → Nat → Nat} {a : Nat → Nat} {ac : Nat → ClassId} {n : Nat} {r : St × Rw × (St × (St × (St × (St)))) × (St) × (St) × (Nat → St) × (Nat → St) × (Nat → St × (St))} (C : nd_C p l s m args c A (dC, dI) cX11_rememberAll 3 RX11 ow_dm_X11_rememberAll (dk_X11 ac)) (K : nd_Kv p l e (headSpec ow_dm_X11_rememberAll ({ frames := 5, cells := 0, slots := 0, locals := 127 })).room s m args below meth c Q A (dC, dI) cX11_rememberAll (St × Rw × (St × (St × (St × (St)))) × (St) × (St) × (Nat → St) × (Nat → St) × (Nat → St × (St))) (dw_X11 a ac) r) : dj_X11_rememberAll_0 p l e s m args below meth c Q A dC dI a ac (df_X11_rememberAll_0 n) r := by
  obtain ⟨hlt, hx, hb, hml, hown, hts, hN, hA, hK⟩ := id C
  intro s0 H locs ls h hP hD hS hl
  unfold df_X11_rememberAll_0 at h
  refine lv_iconst (v := 0) hx hb dX11_rememberAll_0 (by decide) ?_
  refine lv_istore_n (lv' := [(2, .int 0), (0, .ref (a 0)), (1, .ref (a 39))]) hx hb dX11_rememberAll_1 rfl hl (by decide) rfl (fun ls hl => ?_)
  exact (db_X11_rememberAll_2 C K n) (0) s0 _ _ _ h hP hD hS (lv_sub hl [1, 2, 0] rfl)
set_option maxHeartbeats 40000000 in
set_option maxRecDepth 100000 in
theorem dm_X11_rememberAll (l : Launch) (hlt : l.stackTraces = false) (dC : Nat → ClassId) (dI : Nat → Nat → Nat) (a : Nat → Nat) (ac : Nat → ClassId) (n : Nat) (s0 : St × Rw × (St × (St × (St × (St)))) × (St) × (St) × (Nat → St) × (Nat → St) × (Nat → St × (St))) {r : St × Rw × (St × (St × (St × (St)))) × (St) × (St) × (Nat → St) × (Nat → St) × (Nat → St × (St))} (h : df_X11_rememberAll n s0 = some r) (sz : Nat) : Met l yX11_rememberAll ow_dm_X11_rememberAll ({ frames := 5, cells := 0, slots := 0, locals := 127 }) (va_Pc [.ref (a 0), .ref (a 39)] (fun U => U.heap.size = sz ∧ va_P (dC, dI) vwCl (dw_X11 a ac s0) U.heap ∧ va_K (dC, dI) vwCl (dk_X11 ac) U ∧ va_D (fun _ => True) (dw_X11 a ac s0) ∧ nv_E dI (va_A (dw_X11 a ac s0) sz) U)) (va_Qv (fun _ => True) (fun (_ : Unit) t => va_P (dC, dI) vwCl (dw_X11 a ac r) t.heap ∧ va_K (dC, dI) vwCl (dk_X11 ac) t ∧ va_D (va_A (dw_X11 a ac s0) sz) (dw_X11 a ac r)) (va_A (dw_X11 a ac s0) sz)) 0 0 (va_A (dw_X11 a ac s0) sz) := by
  refine Met.ofW (cc := cX11_rememberAll) (maxL := 3) (ret := none) (by decide) rfl ?_
  intro p e s m args below meth c s₁ B hml hv
  obtain ⟨rfl, hsz, hP, hK, hD0, hN⟩ := hv
  have hx := B.exec
  have hb := B.bytes
  have hr := B.returns
  have hts := atoms_spec (ws := ow_dm_X11_rememberAll) B.pre
  have hown : s.vm.findClass RX11 = some m.cls := findClass_of_methodNamed B.named
  have hlocks := B.notSynchronized
  subst hsz
  have hD := hD0.self (sz := s.heap.size)
  generalize hAe : va_A (dw_X11 a ac s0) s.heap.size = A at hD hN ⊢
  have hA : ∀ q : Nat, s.heap.size ≤ q → A q := fun q h => by rw [← hAe]; exact Or.inr h
  have hl := lv_entry ([.ref (a 0), .ref (a 39)]) (n := 3) (Nat.le_of_ble_eq_true rfl)
  rw [lg_entry_eq]
  generalize (lg_sl ([.ref (a 0), .ref (a 39)]) ++ List.replicate (3 - (lg_sl ([.ref (a 0), .ref (a 39)])).length) Slot.unset).toArray = ls at hl ⊢
  have hl : lv_has ls 3 [(0, .ref (a 0)), (1, .ref (a 39))] := hl
  exact db_X11_rememberAll_0 (dC := dC) (dI := dI) (a := a) (ac := ac) (n := n) (r := r) ⟨hlt, hx, hb, hml, hown, hts, hN, hA, hK⟩ (fun pc τ H locs ls d er hP hD hS => by subst er; exact W.vret hx hb hr (fun t ht hW => ⟨⟨(), rfl, trivial, by rw [ht]; exact hP, va_K.moved hW.alike hK, hD⟩, hS.F ht⟩) hS.2.2 d) s0 _ _ _ h hP hD va_S.rf (lv_sub hl [0, 1] rfl)
def ow_dm_X11_hit : List Cond := Cond.code yX11_hit cX11_hit 3 (some .int) :: ([Cond.fieldLink RX11 30 "TimeMachine$Timeline" "machine" "LTimeMachine$Machine;", Cond.fieldLink RX11 72 "TimeMachine$Timeline" "now" "I", Cond.methodLink RX11 168 yX2_worth, Cond.instanceMethod yX2_worth, Cond.selects RX2 yX2_worth yX2_worth, Cond.initialized RX2] ++ (u_ws RX11 TX11 16 ++ (ow_dm_X2_worth ++ [])))
theorem gd_dm_X11_hit : ∀ w ∈ ow_dm_X11_hit, (w.onTables && w.keeps) = true ∨ ∃ ty, w = Cond.arrayClass ty := List.forall_mem_cons.mpr ⟨good_of_word rfl, List.forall_mem_append.mpr ⟨fun w h => good_of_word (List.all_eq_true.mp (by decide +kernel) w h), List.forall_mem_append.mpr ⟨gu_X11, List.forall_mem_append.mpr ⟨gd_dm_X2_worth, fun _ h => nomatch h⟩⟩⟩⟩
theorem hi_dm_X11_hit_X11 : ∀ w ∈ u_ws RX11 TX11 16, w ∈ ow_dm_X11_hit := fun w h => List.mem_cons_of_mem _ (List.mem_append_right _ (List.mem_append_left _ h))
theorem gi_dm_X11_hit_0 : GoodIn ow_dm_X11_hit (wsV RX11 168 RX2 yX2_worth ow_dm_X2_worth) := goodIn_app (goodIn_of _ (by decide +kernel)) (fun w h => ⟨List.mem_cons_of_mem _ (List.mem_append_right _ (List.mem_append_right _ (List.mem_append_left _ h))), gd_dm_X2_worth w h⟩)
def dj_X11_hit_40 (p : Program) (l : Launch) (e : Env) (s : State) (m : MethodId) (args : Array Value) (below : List Frame) (meth : Method) (c : Code) (Q : State → Prop) (A : Nat → Prop) (dC : Nat → ClassId) (dI : Nat → Nat → Nat) (a : Nat → Nat) (ac : Nat → ClassId) (g : Int32 → (St × Rw × (St × (St × (St × (St)))) × (St) × (St) × (Nat → St) × (Nat → St) × (Nat → St × (St))) → Option (Int32 × (St × Rw × (St × (St × (St × (St)))) × (St) × (St) × (Nat → St) × (Nat → St) × (Nat → St × (St))))) (r : Int32 × (St × Rw × (St × (St × (St × (St)))) × (St) × (St) × (Nat → St) × (Nat → St) × (Nat → St × (St)))) : Prop := ∀ (x2 : Int32) (s0 : St × Rw × (St × (St × (St × (St)))) × (St) × (St) × (Nat → St) × (Nat → St) × (Nat → St × (St))) (H : Heap) (locs : List Loc) (ls : Array Slot), g x2 s0 = some r → va_P (dC, dI) vwCl (dw_X11 a ac s0) H → va_D A (dw_X11 a ac s0) → va_S A s.heap H locs → lv_has ls 3 [(0, .ref (a 0)), (1, .ref (a 39)), (2, .int x2)] → W p l e (headSpec ow_dm_X11_hit ({ frames := 5, cells := 0, slots := 0, locals := 126 })).room s m args below meth c H locs 0 0 Q (F0 m 40 ls [])
def dj_X11_hit_2 (p : Program) (l : Launch) (e : Env) (s : State) (m : MethodId) (args : Array Value) (below : List Frame) (meth : Method) (c : Code) (Q : State → Prop) (A : Nat → Prop) (dC : Nat → ClassId) (dI : Nat → Nat → Nat) (a : Nat → Nat) (ac : Nat → ClassId) (g : Int32 → (St × Rw × (St × (St × (St × (St)))) × (St) × (St) × (Nat → St) × (Nat → St) × (Nat → St × (St))) → Option (Int32 × (St × Rw × (St × (St × (St × (St)))) × (St) × (St) × (Nat → St) × (Nat → St) × (Nat → St × (St))))) (r : Int32 × (St × Rw × (St × (St × (St × (St)))) × (St) × (St) × (Nat → St) × (Nat → St) × (Nat → St × (St)))) : Prop := ∀ (x2 : Int32) (s0 : St × Rw × (St × (St × (St × (St)))) × (St) × (St) × (Nat → St) × (Nat → St) × (Nat → St × (St))) (H : Heap) (locs : List Loc) (ls : Array Slot), g x2 s0 = some r → va_P (dC, dI) vwCl (dw_X11 a ac s0) H → va_D A (dw_X11 a ac s0) → va_S A s.heap H locs → lv_has ls 3 [(0, .ref (a 0)), (1, .ref (a 39)), (2, .int x2)] → W p l e (headSpec ow_dm_X11_hit ({ frames := 5, cells := 0, slots := 0, locals := 126 })).room s m args below meth c H locs 0 0 Q (F0 m 2 ls [])
def dj_X11_hit_0 (p : Program) (l : Launch) (e : Env) (s : State) (m : MethodId) (args : Array Value) (below : List Frame) (meth : Method) (c : Code) (Q : State → Prop) (A : Nat → Prop) (dC : Nat → ClassId) (dI : Nat → Nat → Nat) (a : Nat → Nat) (ac : Nat → ClassId) (g : (St × Rw × (St × (St × (St × (St)))) × (St) × (St) × (Nat → St) × (Nat → St) × (Nat → St × (St))) → Option (Int32 × (St × Rw × (St × (St × (St × (St)))) × (St) × (St) × (Nat → St) × (Nat → St) × (Nat → St × (St))))) (r : Int32 × (St × Rw × (St × (St × (St × (St)))) × (St) × (St) × (Nat → St) × (Nat → St) × (Nat → St × (St)))) : Prop := ∀ (s0 : St × Rw × (St × (St × (St × (St)))) × (St) × (St) × (Nat → St) × (Nat → St) × (Nat → St × (St))) (H : Heap) (locs : List Loc) (ls : Array Slot), g s0 = some r → va_P (dC, dI) vwCl (dw_X11 a ac s0) H → va_D A (dw_X11 a ac s0) → va_S A s.heap H locs → lv_has ls 3 [(0, .ref (a 0)), (1, .ref (a 39))] → W p l e (headSpec ow_dm_X11_hit ({ frames := 5, cells := 0, slots := 0, locals := 126 })).room s m args below meth c H locs 0 0 Q (F0 m 0 ls [])
set_option maxHeartbeats 40000000 in
set_option maxRecDepth 100000 in
theorem db_X11_hit_40 {p : Program} {l : Launch} {e : Env} {s : State} {m : MethodId} {args : Array Value} {below : List Frame} {meth : Method} {c : Code} {Q : State → Prop} {A : Nat → Prop} {dC : Nat → ClassId} {dI : Nat → Nat → Nat} {a : Nat → Nat} {ac : Nat → ClassId} {n : Nat} {r : Int32 × (St × Rw × (St × (St × (St × (St)))) × (St) × (St) × (Nat → St) × (Nat → St) × (Nat → St × (St)))} (C : nd_C p l s m args c A (dC, dI) cX11_hit 3 RX11 ow_dm_X11_hit (dk_X11 ac)) (K : nd_Ki p l e (headSpec ow_dm_X11_hit ({ frames := 5, cells := 0, slots := 0, locals := 126 })).room s m args below meth c Q A (dC, dI) cX11_hit .int (St × Rw × (St × (St × (St × (St)))) × (St) × (St) × (Nat → St) × (Nat → St) × (Nat → St × (St))) (dw_X11 a ac) r) {g2 : Int32 → (St × Rw × (St × (St × (St × (St)))) × (St) × (St) × (Nat → St) × (Nat → St) × (Nat → St × (St))) → Option (Int32 × (St × Rw × (St × (St × (St × (St)))) × (St) × (St) × (Nat → St) × (Nat → St) × (Nat → St × (St))))} (J2 : dj_X11_hit_2 p l e s m args below meth c Q A dC dI a ac g2 r) : dj_X11_hit_40 p l e s m args below meth c Q A dC dI a ac (df_X11_hit_40 n g2) r := by
  obtain ⟨hlt, hx, hb, hml, hown, hts, hN, hA, hK⟩ := id C
  intro x2 s0 H locs ls h hP hD hS hl
  unfold df_X11_hit_40 at h
  obtain ⟨z4, ez4, h⟩ := nd_let_e h
  refine lv_iinc (v := z4) (lv' := [(2, .int z4), (0, .ref (a 0)), (1, .ref (a 39))]) hx hb dX11_hit_40 hl (k := 2) rfl (by rw [ez4]) (by decide) rfl (fun ls hl => ?_)
  refine lv_goto (tgt := 2) hx hb dX11_hit_43 (by decide) ?_
  exact (J2) (z4) s0 _ _ _ h hP hD hS (lv_sub hl [1, 2, 0] rfl)
set_option maxHeartbeats 40000000 in
set_option maxRecDepth 100000 in
theorem dB_X11_hit_2 {p : Program} {l : Launch} {e : Env} {s : State} {m : MethodId} {args : Array Value} {below : List Frame} {meth : Method} {c : Code} {Q : State → Prop} {A : Nat → Prop} {dC : Nat → ClassId} {dI : Nat → Nat → Nat} {a : Nat → Nat} {ac : Nat → ClassId} {n : Nat} {r : Int32 × (St × Rw × (St × (St × (St × (St)))) × (St) × (St) × (Nat → St) × (Nat → St) × (Nat → St × (St)))} (C : nd_C p l s m args c A (dC, dI) cX11_hit 3 RX11 ow_dm_X11_hit (dk_X11 ac)) (K : nd_Ki p l e (headSpec ow_dm_X11_hit ({ frames := 5, cells := 0, slots := 0, locals := 126 })).room s m args below meth c Q A (dC, dI) cX11_hit .int (St × Rw × (St × (St × (St × (St)))) × (St) × (St) × (Nat → St) × (Nat → St) × (Nat → St × (St))) (dw_X11 a ac) r) {g2 : Int32 → (St × Rw × (St × (St × (St × (St)))) × (St) × (St) × (Nat → St) × (Nat → St) × (Nat → St × (St))) → Option (Int32 × (St × Rw × (St × (St × (St × (St)))) × (St) × (St) × (Nat → St) × (Nat → St) × (Nat → St × (St))))} (J2 : dj_X11_hit_2 p l e s m args below meth c Q A dC dI a ac g2 r) : dj_X11_hit_2 p l e s m args below meth c Q A dC dI a ac (dF_X11_hit_2 n g2) r := by
  obtain ⟨hlt, hx, hb, hml, hown, hts, hN, hA, hK⟩ := id C
  intro x2 s0 H locs ls h hP hD hS hl
  unfold dF_X11_hit_2 at h
  refine lv_iload_n hx hb dX11_hit_2 rfl (lv_at hl 2 rfl) ?_
  refine lv_aload_n hx hb dX11_hit_3 rfl (lv_at hl 1 rfl) ?_
  refine va_alen (v := 8) hx hb hK hP 39 32 rfl rfl (show Int32.ofNat 8 = 8 by decide) dX11_hit_4 ?_
  refine lv_icmp_ge (tgt := 46) hx hb dX11_hit_5 (by decide) (fun c1 => ?_) (fun c1 => ?_)
  · have h := nd_pos h c1
    refine lv_iconst (v := 0) hx hb dX11_hit_46 (by decide) ?_
    exact K _ _ _ _ _ _ dX11_hit_47 rfl (Option.some.inj h).symm hP hD hS
  · have h := nd_neg h c1
    refine lv_aload_n hx hb dX11_hit_8 rfl (lv_at hl 1 rfl) ?_
    refine lv_iload_n hx hb dX11_hit_9 rfl (lv_at hl 2 rfl) ?_
    obtain ⟨i2, h⟩ := nd_ck_e h
    refine va_aldq (i := x2) hx hb hK hP 39 32 rfl rfl i2 dX11_hit_10 ?_
    cases hrj3 : s0.2.1 2 (Int32.toNatClampNeg x2) with
    | none =>
      have h := nd_mN h hrj3
      refine W.eq (g2 := F0 m 11 ls [.null]) (by first | rfl | (show F0 m _ ls (va_rf (Option.map (fun j => a (0 + j * 9 + 86)) (s0.2.1 2 (Int32.toNatClampNeg x2))) :: _) = _; rw [hrj3]; rfl)) ?_
      refine lv_ifnullN (tgt := 40) hx hb dX11_hit_11 (by decide) ?_
      exact (db_X11_hit_40 C K J2) (x2) s0 _ _ _ h hP hD hS (lv_sub hl [0, 1, 2] rfl)
    | some j3 =>
      have h := nd_mS h hrj3
      refine W.eq (g2 := F0 m 11 ls [.ref (a (0 + j3 * 9 + 86))]) (by first | rfl | (show F0 m _ ls (va_rf (Option.map (fun j => a (0 + j * 9 + 86)) (s0.2.1 2 (Int32.toNatClampNeg x2))) :: _) = _; rw [hrj3]; rfl)) ?_
      refine lv_ifnull hx hb dX11_hit_11 ?_
      refine lv_aload_n hx hb dX11_hit_14 rfl (lv_at hl 1 rfl) ?_
      refine lv_iload_n hx hb dX11_hit_15 rfl (lv_at hl 2 rfl) ?_
      obtain ⟨i5, h⟩ := nd_ck_e h
      refine va_aldq (i := x2) hx hb hK hP 39 32 rfl rfl i5 dX11_hit_16 ?_
      cases hrj6 : s0.2.1 2 (Int32.toNatClampNeg x2) with
      | none =>
        have h := nd_mN h hrj6
        refine W.eq (g2 := F0 m 17 ls [.null]) (by first | rfl | (show F0 m _ ls (va_rf (Option.map (fun j => a (0 + j * 9 + 86)) (s0.2.1 2 (Int32.toNatClampNeg x2))) :: _) = _; rw [hrj6]; rfl)) ?_
        refine lv_aload_n hx hb dX11_hit_17 rfl (lv_at hl 0 rfl) ?_
        refine va_get (D := (dC, dI)) (ci := 12) (v := .ref (a 7)) (C := RX11) (T := TX11) (N := 16) hx hb hts hi_dm_X11_hit_X11 hown hK hP 0 rfl rfl 3 (by decide) (hts (.fieldLink RX11 30 "TimeMachine$Timeline" "machine" "LTimeMachine$Machine;") (List.mem_of_getElem? (i := 1) rfl)) (fun _ h9 => h9) rfl dX11_hit_18 ?_
        refine lv_aload_n hx hb dX11_hit_21 rfl (lv_at hl 0 rfl) ?_
        refine va_get (D := (dC, dI)) (ci := 12) (v := .int (sI s0.1 3)) (C := RX11) (T := TX11) (N := 16) hx hb hts hi_dm_X11_hit_X11 hown hK hP 0 rfl rfl 11 (by decide) (hts (.fieldLink RX11 72 "TimeMachine$Timeline" "now" "I") (List.mem_of_getElem? (i := 2) rfl)) (fun _ h9 => h9) rfl dX11_hit_22 ?_
        exact nomatch h
      | some j6 =>
        have h := nd_mS h hrj6
        refine W.eq (g2 := F0 m 17 ls [.ref (a (0 + j6 * 9 + 86))]) (by first | rfl | (show F0 m _ ls (va_rf (Option.map (fun j => a (0 + j * 9 + 86)) (s0.2.1 2 (Int32.toNatClampNeg x2))) :: _) = _; rw [hrj6]; rfl)) ?_
        refine lv_aload_n hx hb dX11_hit_17 rfl (lv_at hl 0 rfl) ?_
        refine va_get (D := (dC, dI)) (ci := 12) (v := .ref (a 7)) (C := RX11) (T := TX11) (N := 16) hx hb hts hi_dm_X11_hit_X11 hown hK hP 0 rfl rfl 3 (by decide) (hts (.fieldLink RX11 30 "TimeMachine$Timeline" "machine" "LTimeMachine$Machine;") (List.mem_of_getElem? (i := 1) rfl)) (fun _ h9 => h9) rfl dX11_hit_18 ?_
        refine lv_aload_n hx hb dX11_hit_21 rfl (lv_at hl 0 rfl) ?_
        refine va_get (D := (dC, dI)) (ci := 12) (v := .int (sI s0.1 3)) (C := RX11) (T := TX11) (N := 16) hx hb hts hi_dm_X11_hit_X11 hown hK hP 0 rfl rfl 11 (by decide) (hts (.fieldLink RX11 72 "TimeMachine$Timeline" "now" "I") (List.mem_of_getElem? (i := 2) rfl)) (fun _ h9 => h9) rfl dX11_hit_22 ?_
        obtain ⟨l7, h⟩ := nd_lt_e h
        obtain ⟨q8, s9, hq, h⟩ := nd_b2_e h
        have hPc := dp_wX11_X2m_8 l7 hP
        have hDc := dd_wX11_X2m_8 l7 hD
        have hKc := dy_wX11_X2m_8 l7 hK
        have hFc := nd_rs hDc hS hA
        have hzA : ∀ q : Nat, H.size ≤ q → A q := fun q h => hA q (Nat.le_trans hS.1 h)
        refine nd_cVl (As := [.ref (a 7), .int (sI s0.1 3)]) (rest := []) (q := q8) (w' := dw_X2m (fun k => a (if k < 9 then k - 0 + j6 * 9 + 86 else k - 9 + 7)) (fun k => ac (if k < 9 then k - 0 + j6 * 9 + 86 else k - 9 + 7)) s9) ⟨hx, hb, hml, hown, hts⟩ (fun sz => dm_X2_worth l hlt dC dI (fun k => a (if k < 9 then k - 0 + j6 * 9 + 86 else k - 9 + 7)) (fun k => ac (if k < 9 then k - 0 + j6 * 9 + 86 else k - 9 + 7)) n ((sI s0.1 3)) (nd_st0, (s0.2.2.2.2.2.2.1 j6), s0.2.2.1.2.2) hq sz) (cwV 2 hts gi_dm_X11_hit_0 rfl rfl rfl (by decide +kernel) ⟨Nat.le_of_ble_eq_true rfl, Nat.le_of_ble_eq_true rfl⟩) hPc hDc hKc hS hA hN (va_recv hKc hPc (ci := 3) (q0 := 0) rfl rfl) rfl hl.1 rfl (Nat.le_of_ble_eq_true rfl) dX11_hit_25 (fun H locs hP1 hD1 hk1 hS => ?_)
        obtain ⟨hP, hD⟩ := dn_wX11_X2m_8 l7 hP hD hzA hk1 hP1 hD1
        obtain ⟨s11, es11, h⟩ := nd_let_e h
        have hP : va_P (dC, dI) vwCl (dw_X11 a ac s11) H := by rw [es11]; exact hP
        have hD : va_D A (dw_X11 a ac s11) := by rw [es11]; exact hD
        refine lv_lconst (v := 0) hx hb dX11_hit_28 (by decide) ?_
        refine W.lcmp hx hb dX11_hit_29 ?_
        refine lv_if_eq (tgt := 40) hx hb dX11_hit_30 (by decide) (fun c12 => ?_) (fun c12 => ?_)
        · have h := nd_pos h c12
          exact (db_X11_hit_40 C K J2) (x2) s11 _ _ _ h hP hD hS (lv_sub hl [0, 1, 2] rfl)
        · have h := nd_neg h c12
          refine lv_iconst (v := 3) hx hb dX11_hit_33 (by decide) ?_
          refine lv_bipush (v := 8) hx hb dX11_hit_34 (by decide) ?_
          refine lv_iload_n hx hb dX11_hit_36 rfl (lv_at hl 2 rfl) ?_
          refine lv_imul hx hb dX11_hit_37 ?_
          refine lv_iadd hx hb dX11_hit_38 ?_
          exact K _ _ _ _ _ _ dX11_hit_39 rfl (Option.some.inj h).symm hP hD hS
set_option maxHeartbeats 40000000 in
set_option maxRecDepth 100000 in
theorem db_X11_hit_2 {p : Program} {l : Launch} {e : Env} {s : State} {m : MethodId} {args : Array Value} {below : List Frame} {meth : Method} {c : Code} {Q : State → Prop} {A : Nat → Prop} {dC : Nat → ClassId} {dI : Nat → Nat → Nat} {a : Nat → Nat} {ac : Nat → ClassId} {n : Nat} {r : Int32 × (St × Rw × (St × (St × (St × (St)))) × (St) × (St) × (Nat → St) × (Nat → St) × (Nat → St × (St)))} (C : nd_C p l s m args c A (dC, dI) cX11_hit 3 RX11 ow_dm_X11_hit (dk_X11 ac)) (K : nd_Ki p l e (headSpec ow_dm_X11_hit ({ frames := 5, cells := 0, slots := 0, locals := 126 })).room s m args below meth c Q A (dC, dI) cX11_hit .int (St × Rw × (St × (St × (St × (St)))) × (St) × (St) × (Nat → St) × (Nat → St) × (Nat → St × (St))) (dw_X11 a ac) r) (k : Nat) : dj_X11_hit_2 p l e s m args below meth c Q A dC dI a ac (df_X11_hit_2 n k) r := by
  induction k with
  | zero => intro x2 s0 H locs ls h; exact nomatch (show (none : Option (Int32 × (St × Rw × (St × (St × (St × (St)))) × (St) × (St) × (Nat → St) × (Nat → St) × (Nat → St × (St))))) = some r from h)
  | succ k ih => exact dB_X11_hit_2 C K ih
set_option maxHeartbeats 40000000 in
set_option maxRecDepth 100000 in
theorem db_X11_hit_0 {p : Program} {l : Launch} {e : Env} {s : State} {m : MethodId} {args : Array Value} {below : List Frame} {meth : Method} {c : Code} {Q : State → Prop} {A : Nat → Prop} {dC : Nat → ClassId} {dI : Nat → Nat → Nat} {a : Nat → Nat} {ac : Nat → ClassId} {n : Nat} {r : Int32 × (St × Rw × (St × (St × (St × (St)))) × (St) × (St) × (Nat → St) × (Nat → St) × (Nat → St × (St)))} (C : nd_C p l s m args c A (dC, dI) cX11_hit 3 RX11 ow_dm_X11_hit (dk_X11 ac)) (K : nd_Ki p l e (headSpec ow_dm_X11_hit ({ frames := 5, cells := 0, slots := 0, locals := 126 })).room s m args below meth c Q A (dC, dI) cX11_hit .int (St × Rw × (St × (St × (St × (St)))) × (St) × (St) × (Nat → St) × (Nat → St) × (Nat → St × (St))) (dw_X11 a ac) r) : dj_X11_hit_0 p l e s m args below meth c Q A dC dI a ac (df_X11_hit_0 n) r := by
  obtain ⟨hlt, hx, hb, hml, hown, hts, hN, hA, hK⟩ := id C
  intro s0 H locs ls h hP hD hS hl
  unfold df_X11_hit_0 at h
  refine lv_iconst (v := 0) hx hb dX11_hit_0 (by decide) ?_
  refine lv_istore_n (lv' := [(2, .int 0), (0, .ref (a 0)), (1, .ref (a 39))]) hx hb dX11_hit_1 rfl hl (by decide) rfl (fun ls hl => ?_)
  exact (db_X11_hit_2 C K n) (0) s0 _ _ _ h hP hD hS (lv_sub hl [1, 2, 0] rfl)
set_option maxHeartbeats 40000000 in
set_option maxRecDepth 100000 in
theorem dm_X11_hit (l : Launch) (hlt : l.stackTraces = false) (dC : Nat → ClassId) (dI : Nat → Nat → Nat) (a : Nat → Nat) (ac : Nat → ClassId) (n : Nat) (s0 : St × Rw × (St × (St × (St × (St)))) × (St) × (St) × (Nat → St) × (Nat → St) × (Nat → St × (St))) {r : Int32 × (St × Rw × (St × (St × (St × (St)))) × (St) × (St) × (Nat → St) × (Nat → St) × (Nat → St × (St)))} (h : df_X11_hit n s0 = some r) (sz : Nat) : Met l yX11_hit ow_dm_X11_hit ({ frames := 5, cells := 0, slots := 0, locals := 126 }) (va_Pc [.ref (a 0), .ref (a 39)] (fun U => U.heap.size = sz ∧ va_P (dC, dI) vwCl (dw_X11 a ac s0) U.heap ∧ va_K (dC, dI) vwCl (dk_X11 ac) U ∧ va_D (fun _ => True) (dw_X11 a ac s0) ∧ nv_E dI (va_A (dw_X11 a ac s0) sz) U)) (va_Qi (fun x _ => x = r.1) (fun (_ : Unit) t => va_P (dC, dI) vwCl (dw_X11 a ac r.2) t.heap ∧ va_K (dC, dI) vwCl (dk_X11 ac) t ∧ va_D (va_A (dw_X11 a ac s0) sz) (dw_X11 a ac r.2)) (va_A (dw_X11 a ac s0) sz)) 0 0 (va_A (dw_X11 a ac s0) sz) := by
  refine Met.ofW (cc := cX11_hit) (maxL := 3) (ret := (some .int)) (by decide) rfl ?_
  intro p e s m args below meth c s₁ B hml hv
  obtain ⟨rfl, hsz, hP, hK, hD0, hN⟩ := hv
  have hx := B.exec
  have hb := B.bytes
  have hr := B.returns
  have hts := atoms_spec (ws := ow_dm_X11_hit) B.pre
  have hown : s.vm.findClass RX11 = some m.cls := findClass_of_methodNamed B.named
  have hlocks := B.notSynchronized
  subst hsz
  have hD := hD0.self (sz := s.heap.size)
  generalize hAe : va_A (dw_X11 a ac s0) s.heap.size = A at hD hN ⊢
  have hA : ∀ q : Nat, s.heap.size ≤ q → A q := fun q h => by rw [← hAe]; exact Or.inr h
  have hl := lv_entry ([.ref (a 0), .ref (a 39)]) (n := 3) (Nat.le_of_ble_eq_true rfl)
  rw [lg_entry_eq]
  generalize (lg_sl ([.ref (a 0), .ref (a 39)]) ++ List.replicate (3 - (lg_sl ([.ref (a 0), .ref (a 39)])).length) Slot.unset).toArray = ls at hl ⊢
  have hl : lv_has ls 3 [(0, .ref (a 0)), (1, .ref (a 39))] := hl
  exact db_X11_hit_0 (dC := dC) (dI := dI) (a := a) (ac := ac) (n := n) (r := r) ⟨hlt, hx, hb, hml, hown, hts, hN, hA, hK⟩ (fun pc v τ H locs ls d z er hP hD hS => by subst er; exact W.zret (v := v) hx hb hr z (fun t ht hW => ⟨⟨v, (), rfl, rfl, by rw [ht]; exact hP, va_K.moved hW.alike hK, hD⟩, hS.F ht⟩) hS.2.2 d) s0 _ _ _ h hP hD va_S.rf (lv_sub hl [0, 1] rfl)
def ow_dm_X11_ticks : List Cond := Cond.code yX11_ticks cX11_ticks 4 (some .int) :: ([Cond.fieldLink RX11 82 "TimeMachine$Timeline" "missed" "Z", Cond.fieldLink RX11 144 "TimeMachine$Timeline" "why" "I", Cond.methodLink RX11 147 yX11_stops, Cond.instanceMethod yX11_stops, Cond.selects RX11 yX11_stops yX11_stops, Cond.initialized RX11, Cond.methodLink RX11 151 yX11_rememberAll, Cond.instanceMethod yX11_rememberAll, Cond.selects RX11 yX11_rememberAll yX11_rememberAll, Cond.methodLink RX11 155 yX11_advance, Cond.instanceMethod yX11_advance, Cond.selects RX11 yX11_advance yX11_advance, Cond.methodLink RX11 158 yX11_hit, Cond.instanceMethod yX11_hit, Cond.selects RX11 yX11_hit yX11_hit] ++ (u_ws RX11 TX11 16 ++ (ow_dm_X11_stops ++ (ow_dm_X11_rememberAll ++ (ow_dm_X11_advance ++ (ow_dm_X11_hit ++ []))))))
theorem gd_dm_X11_ticks : ∀ w ∈ ow_dm_X11_ticks, (w.onTables && w.keeps) = true ∨ ∃ ty, w = Cond.arrayClass ty := List.forall_mem_cons.mpr ⟨good_of_word rfl, List.forall_mem_append.mpr ⟨fun w h => good_of_word (List.all_eq_true.mp (by decide +kernel) w h), List.forall_mem_append.mpr ⟨gu_X11, List.forall_mem_append.mpr ⟨gd_dm_X11_stops, List.forall_mem_append.mpr ⟨gd_dm_X11_rememberAll, List.forall_mem_append.mpr ⟨gd_dm_X11_advance, List.forall_mem_append.mpr ⟨gd_dm_X11_hit, fun _ h => nomatch h⟩⟩⟩⟩⟩⟩⟩
theorem hi_dm_X11_ticks_X11 : ∀ w ∈ u_ws RX11 TX11 16, w ∈ ow_dm_X11_ticks := fun w h => List.mem_cons_of_mem _ (List.mem_append_right _ (List.mem_append_left _ h))
theorem gi_dm_X11_ticks_0 : GoodIn ow_dm_X11_ticks (wsV RX11 147 RX11 yX11_stops ow_dm_X11_stops) := goodIn_app (goodIn_of _ (by decide +kernel)) (fun w h => ⟨List.mem_cons_of_mem _ (List.mem_append_right _ (List.mem_append_right _ (List.mem_append_left _ h))), gd_dm_X11_stops w h⟩)
theorem gi_dm_X11_ticks_1 : GoodIn ow_dm_X11_ticks (wsV RX11 151 RX11 yX11_rememberAll ow_dm_X11_rememberAll) := goodIn_app (goodIn_of _ (by decide +kernel)) (fun w h => ⟨List.mem_cons_of_mem _ (List.mem_append_right _ (List.mem_append_right _ (List.mem_append_right _ (List.mem_append_left _ h)))), gd_dm_X11_rememberAll w h⟩)
theorem gi_dm_X11_ticks_2 : GoodIn ow_dm_X11_ticks (wsV RX11 155 RX11 yX11_advance ow_dm_X11_advance) := goodIn_app (goodIn_of _ (by decide +kernel)) (fun w h => ⟨List.mem_cons_of_mem _ (List.mem_append_right _ (List.mem_append_right _ (List.mem_append_right _ (List.mem_append_right _ (List.mem_append_left _ h))))), gd_dm_X11_advance w h⟩)
theorem gi_dm_X11_ticks_3 : GoodIn ow_dm_X11_ticks (wsV RX11 158 RX11 yX11_hit ow_dm_X11_hit) := goodIn_app (goodIn_of _ (by decide +kernel)) (fun w h => ⟨List.mem_cons_of_mem _ (List.mem_append_right _ (List.mem_append_right _ (List.mem_append_right _ (List.mem_append_right _ (List.mem_append_right _ (List.mem_append_left _ h)))))), gd_dm_X11_hit w h⟩)
def dj_X11_ticks_69 (p : Program) (l : Launch) (e : Env) (s : State) (m : MethodId) (args : Array Value) (below : List Frame) (meth : Method) (c : Code) (Q : State → Prop) (A : Nat → Prop) (dC : Nat → ClassId) (dI : Nat → Nat → Nat) (a : Nat → Nat) (ac : Nat → ClassId) (g : Int32 → Int32 → Int32 → (St × Rw × (St × (St × (St × (St)))) × (St) × (St) × (Nat → St) × (Nat → St) × (Nat → St × (St))) → Option (Int32 × (St × Rw × (St × (St × (St × (St)))) × (St) × (St) × (Nat → St) × (Nat → St) × (Nat → St × (St))))) (r : Int32 × (St × Rw × (St × (St × (St × (St)))) × (St) × (St) × (Nat → St) × (Nat → St) × (Nat → St × (St)))) : Prop := ∀ (x1 : Int32) (x3 : Int32) (y1 : Int32) (s0 : St × Rw × (St × (St × (St × (St)))) × (St) × (St) × (Nat → St) × (Nat → St) × (Nat → St × (St))) (H : Heap) (locs : List Loc) (ls : Array Slot), g x1 x3 y1 s0 = some r → va_P (dC, dI) vwCl (dw_X11 a ac s0) H → va_D A (dw_X11 a ac s0) → va_S A s.heap H locs → lv_has ls 4 [(0, .ref (a 0)), (1, .int x1), (2, .ref (a 39)), (3, .int x3)] → W p l e (headSpec ow_dm_X11_ticks ({ frames := 8, cells := 0, slots := 0, locals := 182 })).room s m args below meth c H locs 0 0 Q (F0 m 69 ls [.int y1, .ref (a 0)])
def dj_X11_ticks_21 (p : Program) (l : Launch) (e : Env) (s : State) (m : MethodId) (args : Array Value) (below : List Frame) (meth : Method) (c : Code) (Q : State → Prop) (A : Nat → Prop) (dC : Nat → ClassId) (dI : Nat → Nat → Nat) (a : Nat → Nat) (ac : Nat → ClassId) (g : Int32 → Int32 → (St × Rw × (St × (St × (St × (St)))) × (St) × (St) × (Nat → St) × (Nat → St) × (Nat → St × (St))) → Option (Int32 × (St × Rw × (St × (St × (St × (St)))) × (St) × (St) × (Nat → St) × (Nat → St) × (Nat → St × (St))))) (r : Int32 × (St × Rw × (St × (St × (St × (St)))) × (St) × (St) × (Nat → St) × (Nat → St) × (Nat → St × (St)))) : Prop := ∀ (x1 : Int32) (x3 : Int32) (s0 : St × Rw × (St × (St × (St × (St)))) × (St) × (St) × (Nat → St) × (Nat → St) × (Nat → St × (St))) (H : Heap) (locs : List Loc) (ls : Array Slot), g x1 x3 s0 = some r → va_P (dC, dI) vwCl (dw_X11 a ac s0) H → va_D A (dw_X11 a ac s0) → va_S A s.heap H locs → lv_has ls 4 [(0, .ref (a 0)), (1, .int x1), (2, .ref (a 39)), (3, .int x3)] → W p l e (headSpec ow_dm_X11_ticks ({ frames := 8, cells := 0, slots := 0, locals := 182 })).room s m args below meth c H locs 0 0 Q (F0 m 21 ls [])
def dj_X11_ticks_0 (p : Program) (l : Launch) (e : Env) (s : State) (m : MethodId) (args : Array Value) (below : List Frame) (meth : Method) (c : Code) (Q : State → Prop) (A : Nat → Prop) (dC : Nat → ClassId) (dI : Nat → Nat → Nat) (a : Nat → Nat) (ac : Nat → ClassId) (g : Int32 → (St × Rw × (St × (St × (St × (St)))) × (St) × (St) × (Nat → St) × (Nat → St) × (Nat → St × (St))) → Option (Int32 × (St × Rw × (St × (St × (St × (St)))) × (St) × (St) × (Nat → St) × (Nat → St) × (Nat → St × (St))))) (r : Int32 × (St × Rw × (St × (St × (St × (St)))) × (St) × (St) × (Nat → St) × (Nat → St) × (Nat → St × (St)))) : Prop := ∀ (v0 : Int32) (s0 : St × Rw × (St × (St × (St × (St)))) × (St) × (St) × (Nat → St) × (Nat → St) × (Nat → St × (St))) (H : Heap) (locs : List Loc) (ls : Array Slot), g v0 s0 = some r → va_P (dC, dI) vwCl (dw_X11 a ac s0) H → va_D A (dw_X11 a ac s0) → va_S A s.heap H locs → lv_has ls 4 [(0, .ref (a 0)), (1, .int v0), (2, .ref (a 39))] → W p l e (headSpec ow_dm_X11_ticks ({ frames := 8, cells := 0, slots := 0, locals := 182 })).room s m args below meth c H locs 0 0 Q (F0 m 0 ls [])
set_option maxHeartbeats 40000000 in
set_option maxRecDepth 100000 in
theorem db_X11_ticks_69 {p : Program} {l : Launch} {e : Env} {s : State} {m : MethodId} {args : Array Value} {below : List Frame} {meth : Method} {c : Code} {Q : State → Prop} {A : Nat → Prop} {dC : Nat → ClassId} {dI : Nat → Nat → Nat} {a : Nat → Nat} {ac : Nat → ClassId} {n : Nat} {r : Int32 × (St × Rw × (St × (St × (St × (St)))) × (St) × (St) × (Nat → St) × (Nat → St) × (Nat → St × (St)))} (C : nd_C p l s m args c A (dC, dI) cX11_ticks 4 RX11 ow_dm_X11_ticks (dk_X11 ac)) (K : nd_Ki p l e (headSpec ow_dm_X11_ticks ({ frames := 8, cells := 0, slots := 0, locals := 182 })).room s m args below meth c Q A (dC, dI) cX11_ticks .int (St × Rw × (St × (St × (St × (St)))) × (St) × (St) × (Nat → St) × (Nat → St) × (Nat → St × (St))) (dw_X11 a ac) r) {g21 : Int32 → Int32 → (St × Rw × (St × (St × (St × (St)))) × (St) × (St) × (Nat → St) × (Nat → St) × (Nat → St × (St))) → Option (Int32 × (St × Rw × (St × (St × (St × (St)))) × (St) × (St) × (Nat → St) × (Nat → St) × (Nat → St × (St))))} (J21 : dj_X11_ticks_21 p l e s m args below meth c Q A dC dI a ac g21 r) : dj_X11_ticks_69 p l e s m args below meth c Q A dC dI a ac (df_X11_ticks_69 n g21) r := by
  obtain ⟨hlt, hx, hb, hml, hown, hts, hN, hA, hK⟩ := id C
  intro x1 x3 y1 s0 H locs ls h hP hD hS hl
  unfold df_X11_ticks_69 at h
  refine va_put (D := (dC, dI)) (ci := 12) (v := .int y1) (ty := .int) (C := RX11) (T := TX11) (N := 16) hx hb hts hi_dm_X11_ticks_X11 tyX11 tyX11_ok nmX11 hown hK hP hD hS 0 rfl rfl 15 (by decide) (hts (.fieldLink RX11 144 "TimeMachine$Timeline" "why" "I") (List.mem_of_getElem? (i := 2) rfl)) (fun _ h9 => h9) rfl (by decide +kernel) rfl rfl (Nat.le_of_ble_eq_true rfl) dX11_ticks_69 (fun H locs hP hD hS => ?_)
  obtain ⟨s19, es19, h⟩ := nd_let_e h
  have hP : va_P (dC, dI) vwCl (dw_X11 a ac s19) H := by rw [es19]; exact hP
  have hD : va_D A (dw_X11 a ac s19) := by rw [es19]; exact hD
  refine lv_aload_n hx hb dX11_ticks_72 rfl (lv_at hl 0 rfl) ?_
  refine lv_iconst (v := 0) hx hb dX11_ticks_73 (by decide) ?_
  refine va_put (D := (dC, dI)) (ci := 12) (v := .int 0) (ty := .boolean) (C := RX11) (T := TX11) (N := 16) hx hb hts hi_dm_X11_ticks_X11 tyX11 tyX11_ok nmX11 hown hK hP hD hS 0 rfl rfl 14 (by decide) (hts (.fieldLink RX11 82 "TimeMachine$Timeline" "missed" "Z") (List.mem_of_getElem? (i := 1) rfl)) (fun _ h9 => h9) rfl (by decide +kernel) (by first | rfl | decide) rfl (Nat.le_of_ble_eq_true rfl) dX11_ticks_74 (fun H locs hP hD hS => ?_)
  obtain ⟨s20, es20, h⟩ := nd_let_e h
  have hP : va_P (dC, dI) vwCl (dw_X11 a ac s20) H := by rw [es20]; exact hP
  have hD : va_D A (dw_X11 a ac s20) := by rw [es20]; exact hD
  refine lv_aload_n hx hb dX11_ticks_77 rfl (lv_at hl 0 rfl) ?_
  refine va_get (D := (dC, dI)) (ci := 12) (v := .int (sI s20.1 7)) (C := RX11) (T := TX11) (N := 16) hx hb hts hi_dm_X11_ticks_X11 hown hK hP 0 rfl rfl 15 (by decide) (hts (.fieldLink RX11 144 "TimeMachine$Timeline" "why" "I") (List.mem_of_getElem? (i := 2) rfl)) (fun _ h9 => h9) rfl dX11_ticks_78 ?_
  refine lv_if_eq (tgt := 88) hx hb dX11_ticks_81 (by decide) (fun c21 => ?_) (fun c21 => ?_)
  · have h := nd_pos h c21
    obtain ⟨z22, ez22, h⟩ := nd_let_e h
    refine lv_iinc (v := z22) (lv' := [(3, .int z22), (0, .ref (a 0)), (1, .int x1), (2, .ref (a 39))]) hx hb dX11_ticks_88 hl (k := 3) rfl (by rw [ez22]) (by decide) rfl (fun ls hl => ?_)
    refine lv_goto (tgt := 21) hx hb dX11_ticks_91 (by decide) ?_
    exact (J21) (x1) (z22) s20 _ _ _ h hP hD hS (lv_sub hl [1, 2, 3, 0] rfl)
  · have h := nd_neg h c21
    refine lv_iload_n hx hb dX11_ticks_84 rfl (lv_at hl 3 rfl) ?_
    refine lv_iconst (v := 1) hx hb dX11_ticks_85 (by decide) ?_
    refine lv_iadd hx hb dX11_ticks_86 ?_
    exact K _ _ _ _ _ _ dX11_ticks_87 rfl (Option.some.inj h).symm hP hD hS
set_option maxHeartbeats 40000000 in
set_option maxRecDepth 100000 in
theorem dB_X11_ticks_21 {p : Program} {l : Launch} {e : Env} {s : State} {m : MethodId} {args : Array Value} {below : List Frame} {meth : Method} {c : Code} {Q : State → Prop} {A : Nat → Prop} {dC : Nat → ClassId} {dI : Nat → Nat → Nat} {a : Nat → Nat} {ac : Nat → ClassId} {n : Nat} {r : Int32 × (St × Rw × (St × (St × (St × (St)))) × (St) × (St) × (Nat → St) × (Nat → St) × (Nat → St × (St)))} (C : nd_C p l s m args c A (dC, dI) cX11_ticks 4 RX11 ow_dm_X11_ticks (dk_X11 ac)) (K : nd_Ki p l e (headSpec ow_dm_X11_ticks ({ frames := 8, cells := 0, slots := 0, locals := 182 })).room s m args below meth c Q A (dC, dI) cX11_ticks .int (St × Rw × (St × (St × (St × (St)))) × (St) × (St) × (Nat → St) × (Nat → St) × (Nat → St × (St))) (dw_X11 a ac) r) {g21 : Int32 → Int32 → (St × Rw × (St × (St × (St × (St)))) × (St) × (St) × (Nat → St) × (Nat → St) × (Nat → St × (St))) → Option (Int32 × (St × Rw × (St × (St × (St × (St)))) × (St) × (St) × (Nat → St) × (Nat → St) × (Nat → St × (St))))} (J21 : dj_X11_ticks_21 p l e s m args below meth c Q A dC dI a ac g21 r) : dj_X11_ticks_21 p l e s m args below meth c Q A dC dI a ac (dF_X11_ticks_21 n g21) r := by
  obtain ⟨hlt, hx, hb, hml, hown, hts, hN, hA, hK⟩ := id C
  intro x1 x3 s0 H locs ls h hP hD hS hl
  unfold dF_X11_ticks_21 at h
  refine lv_iload_n hx hb dX11_ticks_21 rfl (lv_at hl 3 rfl) ?_
  refine lv_iload_n hx hb dX11_ticks_22 rfl (lv_at hl 1 rfl) ?_
  refine lv_icmp_ge (tgt := 94) hx hb dX11_ticks_23 (by decide) (fun c2 => ?_) (fun c2 => ?_)
  · have h := nd_pos h c2
    refine lv_aload_n hx hb dX11_ticks_94 rfl (lv_at hl 0 rfl) ?_
    refine lv_iconst (v := 0) hx hb dX11_ticks_95 (by decide) ?_
    refine va_put (D := (dC, dI)) (ci := 12) (v := .int 0) (ty := .int) (C := RX11) (T := TX11) (N := 16) hx hb hts hi_dm_X11_ticks_X11 tyX11 tyX11_ok nmX11 hown hK hP hD hS 0 rfl rfl 15 (by decide) (hts (.fieldLink RX11 144 "TimeMachine$Timeline" "why" "I") (List.mem_of_getElem? (i := 2) rfl)) (fun _ h9 => h9) rfl (by decide +kernel) rfl rfl (Nat.le_of_ble_eq_true rfl) dX11_ticks_96 (fun H locs hP hD hS => ?_)
    obtain ⟨s3, es3, h⟩ := nd_let_e h
    have hP : va_P (dC, dI) vwCl (dw_X11 a ac s3) H := by rw [es3]; exact hP
    have hD : va_D A (dw_X11 a ac s3) := by rw [es3]; exact hD
    refine lv_iload_n hx hb dX11_ticks_99 rfl (lv_at hl 1 rfl) ?_
    exact K _ _ _ _ _ _ dX11_ticks_100 rfl (Option.some.inj h).symm hP hD hS
  · have h := nd_neg h c2
    refine lv_aload_n hx hb dX11_ticks_26 rfl (lv_at hl 0 rfl) ?_
    refine lv_aload_n hx hb dX11_ticks_27 rfl (lv_at hl 0 rfl) ?_
    obtain ⟨q4, s5, hq, h⟩ := nd_b2_e h
    have hPc := hP
    have hDc := hD
    have hKc := hK
    have hFc := nd_rs hD hS hA
    refine nd_cVi (As := []) (rest := [.ref (a 0)]) (q := q4) (w' := dw_X11 a ac s5) ⟨hx, hb, hml, hown, hts⟩ (fun sz => dm_X11_stops l hlt dC dI a ac n  s0 hq sz) (cwV 0 hts gi_dm_X11_ticks_0 rfl rfl rfl (by decide +kernel) ⟨Nat.le_of_ble_eq_true rfl, Nat.le_of_ble_eq_true rfl⟩) hPc hDc hKc hS hA hN (va_recv hKc hPc (ci := 12) (q0 := 0) rfl rfl) rfl hl.1 rfl (Nat.le_of_ble_eq_true rfl) dX11_ticks_28 (fun H locs hP1 hD1 hk1 hS => ?_)
    have hP := hP1
    have hD := hD1.weaken (fun k q _ h => hFc q.1 h)
    refine va_put (D := (dC, dI)) (ci := 12) (v := .int q4) (ty := .int) (C := RX11) (T := TX11) (N := 16) hx hb hts hi_dm_X11_ticks_X11 tyX11 tyX11_ok nmX11 hown hK hP hD hS 0 rfl rfl 15 (by decide) (hts (.fieldLink RX11 144 "TimeMachine$Timeline" "why" "I") (List.mem_of_getElem? (i := 2) rfl)) (fun _ h9 => h9) rfl (by decide +kernel) rfl rfl (Nat.le_of_ble_eq_true rfl) dX11_ticks_31 (fun H locs hP hD hS => ?_)
    obtain ⟨s7, es7, h⟩ := nd_let_e h
    have hP : va_P (dC, dI) vwCl (dw_X11 a ac s7) H := by rw [es7]; exact hP
    have hD : va_D A (dw_X11 a ac s7) := by rw [es7]; exact hD
    refine lv_aload_n hx hb dX11_ticks_34 rfl (lv_at hl 0 rfl) ?_
    refine va_get (D := (dC, dI)) (ci := 12) (v := .int (sI s7.1 7)) (C := RX11) (T := TX11) (N := 16) hx hb hts hi_dm_X11_ticks_X11 hown hK hP 0 rfl rfl 15 (by decide) (hts (.fieldLink RX11 144 "TimeMachine$Timeline" "why" "I") (List.mem_of_getElem? (i := 2) rfl)) (fun _ h9 => h9) rfl dX11_ticks_35 ?_
    refine lv_if_eq (tgt := 43) hx hb dX11_ticks_38 (by decide) (fun c8 => ?_) (fun c8 => ?_)
    · have h := nd_pos h c8
      refine lv_aload_n hx hb dX11_ticks_43 rfl (lv_at hl 0 rfl) ?_
      refine lv_aload_n hx hb dX11_ticks_44 rfl (lv_at hl 2 rfl) ?_
      obtain ⟨s10, hq, h⟩ := nd_b1_e h
      have hPc := hP
      have hDc := hD
      have hKc := hK
      have hFc := nd_rs hD hS hA
      refine nd_cVv (As := [.ref (a 39)]) (rest := []) (w' := dw_X11 a ac s10) ⟨hx, hb, hml, hown, hts⟩ (fun sz => dm_X11_rememberAll l hlt dC dI a ac n  s7 hq sz) (cwV 1 hts gi_dm_X11_ticks_1 rfl rfl rfl (by decide +kernel) ⟨Nat.le_of_ble_eq_true rfl, Nat.le_of_ble_eq_true rfl⟩) hPc hDc hKc hS hA hN (va_recv hKc hPc (ci := 12) (q0 := 0) rfl rfl) rfl hl.1 rfl (Nat.le_of_ble_eq_true rfl) dX11_ticks_45 (fun H locs hP1 hD1 hk1 hS => ?_)
      have hP := hP1
      have hD := hD1.weaken (fun k q _ h => hFc q.1 h)
      refine lv_aload_n hx hb dX11_ticks_48 rfl (lv_at hl 0 rfl) ?_
      obtain ⟨s13, hq, h⟩ := nd_b1_e h
      have hPc := hP
      have hDc := hD
      have hKc := hK
      have hFc := nd_rs hD hS hA
      refine nd_cVv (As := []) (rest := []) (w' := dw_X11 a ac s13) ⟨hx, hb, hml, hown, hts⟩ (fun sz => dm_X11_advance l hlt dC dI a ac n  s10 hq sz) (cwV 0 hts gi_dm_X11_ticks_2 rfl rfl rfl (by decide +kernel) ⟨Nat.le_of_ble_eq_true rfl, Nat.le_of_ble_eq_true rfl⟩) hPc hDc hKc hS hA hN (va_recv hKc hPc (ci := 12) (q0 := 0) rfl rfl) rfl hl.1 rfl (Nat.le_of_ble_eq_true rfl) dX11_ticks_49 (fun H locs hP1 hD1 hk1 hS => ?_)
      have hP := hP1
      have hD := hD1.weaken (fun k q _ h => hFc q.1 h)
      refine lv_aload_n hx hb dX11_ticks_52 rfl (lv_at hl 0 rfl) ?_
      refine lv_aload_n hx hb dX11_ticks_53 rfl (lv_at hl 0 rfl) ?_
      refine va_get (D := (dC, dI)) (ci := 12) (v := .int (sI s13.1 6)) (C := RX11) (T := TX11) (N := 16) hx hb hts hi_dm_X11_ticks_X11 hown hK hP 0 rfl rfl 14 (by decide) (hts (.fieldLink RX11 82 "TimeMachine$Timeline" "missed" "Z") (List.mem_of_getElem? (i := 1) rfl)) (fun _ h9 => h9) rfl dX11_ticks_54 ?_
      refine lv_if_eq (tgt := 64) hx hb dX11_ticks_57 (by decide) (fun c15 => ?_) (fun c15 => ?_)
      · have h := nd_pos h c15
        refine lv_aload_n hx hb dX11_ticks_64 rfl (lv_at hl 0 rfl) ?_
        refine lv_aload_n hx hb dX11_ticks_65 rfl (lv_at hl 2 rfl) ?_
        obtain ⟨q16, s17, hq, h⟩ := nd_b2_e h
        have hPc := hP
        have hDc := hD
        have hKc := hK
        have hFc := nd_rs hD hS hA
        refine nd_cVi (As := [.ref (a 39)]) (rest := [.ref (a 0)]) (q := q16) (w' := dw_X11 a ac s17) ⟨hx, hb, hml, hown, hts⟩ (fun sz => dm_X11_hit l hlt dC dI a ac n  s13 hq sz) (cwV 1 hts gi_dm_X11_ticks_3 rfl rfl rfl (by decide +kernel) ⟨Nat.le_of_ble_eq_true rfl, Nat.le_of_ble_eq_true rfl⟩) hPc hDc hKc hS hA hN (va_recv hKc hPc (ci := 12) (q0 := 0) rfl rfl) rfl hl.1 rfl (Nat.le_of_ble_eq_true rfl) dX11_ticks_66 (fun H locs hP1 hD1 hk1 hS => ?_)
        have hP := hP1
        have hD := hD1.weaken (fun k q _ h => hFc q.1 h)
        exact (db_X11_ticks_69 C K J21) (x1) (x3) (q16) s17 _ _ _ h hP hD hS (lv_sub hl [0, 1, 2, 3] rfl)
      · have h := nd_neg h c15
        refine lv_iconst (v := 5) hx hb dX11_ticks_60 (by decide) ?_
        refine lv_goto (tgt := 69) hx hb dX11_ticks_61 (by decide) ?_
        exact (db_X11_ticks_69 C K J21) (x1) (x3) (5) s13 _ _ _ h hP hD hS (lv_sub hl [0, 1, 2, 3] rfl)
    · have h := nd_neg h c8
      refine lv_iload_n hx hb dX11_ticks_41 rfl (lv_at hl 3 rfl) ?_
      exact K _ _ _ _ _ _ dX11_ticks_42 rfl (Option.some.inj h).symm hP hD hS
set_option maxHeartbeats 40000000 in
set_option maxRecDepth 100000 in
theorem db_X11_ticks_21 {p : Program} {l : Launch} {e : Env} {s : State} {m : MethodId} {args : Array Value} {below : List Frame} {meth : Method} {c : Code} {Q : State → Prop} {A : Nat → Prop} {dC : Nat → ClassId} {dI : Nat → Nat → Nat} {a : Nat → Nat} {ac : Nat → ClassId} {n : Nat} {r : Int32 × (St × Rw × (St × (St × (St × (St)))) × (St) × (St) × (Nat → St) × (Nat → St) × (Nat → St × (St)))} (C : nd_C p l s m args c A (dC, dI) cX11_ticks 4 RX11 ow_dm_X11_ticks (dk_X11 ac)) (K : nd_Ki p l e (headSpec ow_dm_X11_ticks ({ frames := 8, cells := 0, slots := 0, locals := 182 })).room s m args below meth c Q A (dC, dI) cX11_ticks .int (St × Rw × (St × (St × (St × (St)))) × (St) × (St) × (Nat → St) × (Nat → St) × (Nat → St × (St))) (dw_X11 a ac) r) (k : Nat) : dj_X11_ticks_21 p l e s m args below meth c Q A dC dI a ac (df_X11_ticks_21 n k) r := by
  induction k with
  | zero => intro x1 x3 s0 H locs ls h; exact nomatch (show (none : Option (Int32 × (St × Rw × (St × (St × (St × (St)))) × (St) × (St) × (Nat → St) × (Nat → St) × (Nat → St × (St))))) = some r from h)
  | succ k ih => exact dB_X11_ticks_21 C K ih
set_option maxHeartbeats 40000000 in
set_option maxRecDepth 100000 in
theorem db_X11_ticks_0 {p : Program} {l : Launch} {e : Env} {s : State} {m : MethodId} {args : Array Value} {below : List Frame} {meth : Method} {c : Code} {Q : State → Prop} {A : Nat → Prop} {dC : Nat → ClassId} {dI : Nat → Nat → Nat} {a : Nat → Nat} {ac : Nat → ClassId} {n : Nat} {r : Int32 × (St × Rw × (St × (St × (St × (St)))) × (St) × (St) × (Nat → St) × (Nat → St) × (Nat → St × (St)))} (C : nd_C p l s m args c A (dC, dI) cX11_ticks 4 RX11 ow_dm_X11_ticks (dk_X11 ac)) (K : nd_Ki p l e (headSpec ow_dm_X11_ticks ({ frames := 8, cells := 0, slots := 0, locals := 182 })).room s m args below meth c Q A (dC, dI) cX11_ticks .int (St × Rw × (St × (St × (St × (St)))) × (St) × (St) × (Nat → St) × (Nat → St) × (Nat → St × (St))) (dw_X11 a ac) r) : dj_X11_ticks_0 p l e s m args below meth c Q A dC dI a ac (df_X11_ticks_0 n) r := by
  obtain ⟨hlt, hx, hb, hml, hown, hts, hN, hA, hK⟩ := id C
  intro v0 s0 H locs ls h hP hD hS hl
  unfold df_X11_ticks_0 at h
  refine lv_aload_n hx hb dX11_ticks_0 rfl (lv_at hl 0 rfl) ?_
  refine va_get (D := (dC, dI)) (ci := 12) (v := .int (sI s0.1 6)) (C := RX11) (T := TX11) (N := 16) hx hb hts hi_dm_X11_ticks_X11 hown hK hP 0 rfl rfl 14 (by decide) (hts (.fieldLink RX11 82 "TimeMachine$Timeline" "missed" "Z") (List.mem_of_getElem? (i := 1) rfl)) (fun _ h9 => h9) rfl dX11_ticks_1 ?_
  refine lv_if_eq (tgt := 19) hx hb dX11_ticks_4 (by decide) (fun c1 => ?_) (fun c1 => ?_)
  · have h := nd_pos h c1
    refine lv_iconst (v := 0) hx hb dX11_ticks_19 (by decide) ?_
    refine lv_istore_n (lv' := [(3, .int 0), (0, .ref (a 0)), (1, .int v0), (2, .ref (a 39))]) hx hb dX11_ticks_20 rfl hl (by decide) rfl (fun ls hl => ?_)
    exact (db_X11_ticks_21 C K n) (v0) (0) s0 _ _ _ h hP hD hS (lv_sub hl [1, 2, 3, 0] rfl)
  · have h := nd_neg h c1
    refine lv_aload_n hx hb dX11_ticks_7 rfl (lv_at hl 0 rfl) ?_
    refine lv_iconst (v := 0) hx hb dX11_ticks_8 (by decide) ?_
    refine va_put (D := (dC, dI)) (ci := 12) (v := .int 0) (ty := .boolean) (C := RX11) (T := TX11) (N := 16) hx hb hts hi_dm_X11_ticks_X11 tyX11 tyX11_ok nmX11 hown hK hP hD hS 0 rfl rfl 14 (by decide) (hts (.fieldLink RX11 82 "TimeMachine$Timeline" "missed" "Z") (List.mem_of_getElem? (i := 1) rfl)) (fun _ h9 => h9) rfl (by decide +kernel) (by first | rfl | decide) rfl (Nat.le_of_ble_eq_true rfl) dX11_ticks_9 (fun H locs hP hD hS => ?_)
    obtain ⟨s23, es23, h⟩ := nd_let_e h
    have hP : va_P (dC, dI) vwCl (dw_X11 a ac s23) H := by rw [es23]; exact hP
    have hD : va_D A (dw_X11 a ac s23) := by rw [es23]; exact hD
    refine lv_aload_n hx hb dX11_ticks_12 rfl (lv_at hl 0 rfl) ?_
    refine lv_iconst (v := 5) hx hb dX11_ticks_13 (by decide) ?_
    refine va_put (D := (dC, dI)) (ci := 12) (v := .int 5) (ty := .int) (C := RX11) (T := TX11) (N := 16) hx hb hts hi_dm_X11_ticks_X11 tyX11 tyX11_ok nmX11 hown hK hP hD hS 0 rfl rfl 15 (by decide) (hts (.fieldLink RX11 144 "TimeMachine$Timeline" "why" "I") (List.mem_of_getElem? (i := 2) rfl)) (fun _ h9 => h9) rfl (by decide +kernel) rfl rfl (Nat.le_of_ble_eq_true rfl) dX11_ticks_14 (fun H locs hP hD hS => ?_)
    obtain ⟨s24, es24, h⟩ := nd_let_e h
    have hP : va_P (dC, dI) vwCl (dw_X11 a ac s24) H := by rw [es24]; exact hP
    have hD : va_D A (dw_X11 a ac s24) := by rw [es24]; exact hD
    refine lv_iconst (v := 0) hx hb dX11_ticks_17 (by decide) ?_
    exact K _ _ _ _ _ _ dX11_ticks_18 rfl (Option.some.inj h).symm hP hD hS
set_option maxHeartbeats 40000000 in
set_option maxRecDepth 100000 in
theorem dm_X11_ticks (l : Launch) (hlt : l.stackTraces = false) (dC : Nat → ClassId) (dI : Nat → Nat → Nat) (a : Nat → Nat) (ac : Nat → ClassId) (n : Nat) (v0 : Int32) (s0 : St × Rw × (St × (St × (St × (St)))) × (St) × (St) × (Nat → St) × (Nat → St) × (Nat → St × (St))) {r : Int32 × (St × Rw × (St × (St × (St × (St)))) × (St) × (St) × (Nat → St) × (Nat → St) × (Nat → St × (St)))} (h : df_X11_ticks n v0 s0 = some r) (sz : Nat) : Met l yX11_ticks ow_dm_X11_ticks ({ frames := 8, cells := 0, slots := 0, locals := 182 }) (va_Pc [.ref (a 0), .int v0, .ref (a 39)] (fun U => U.heap.size = sz ∧ va_P (dC, dI) vwCl (dw_X11 a ac s0) U.heap ∧ va_K (dC, dI) vwCl (dk_X11 ac) U ∧ va_D (fun _ => True) (dw_X11 a ac s0) ∧ nv_E dI (va_A (dw_X11 a ac s0) sz) U)) (va_Qi (fun x _ => x = r.1) (fun (_ : Unit) t => va_P (dC, dI) vwCl (dw_X11 a ac r.2) t.heap ∧ va_K (dC, dI) vwCl (dk_X11 ac) t ∧ va_D (va_A (dw_X11 a ac s0) sz) (dw_X11 a ac r.2)) (va_A (dw_X11 a ac s0) sz)) 0 0 (va_A (dw_X11 a ac s0) sz) := by
  refine Met.ofW (cc := cX11_ticks) (maxL := 4) (ret := (some .int)) (by decide) rfl ?_
  intro p e s m args below meth c s₁ B hml hv
  obtain ⟨rfl, hsz, hP, hK, hD0, hN⟩ := hv
  have hx := B.exec
  have hb := B.bytes
  have hr := B.returns
  have hts := atoms_spec (ws := ow_dm_X11_ticks) B.pre
  have hown : s.vm.findClass RX11 = some m.cls := findClass_of_methodNamed B.named
  have hlocks := B.notSynchronized
  subst hsz
  have hD := hD0.self (sz := s.heap.size)
  generalize hAe : va_A (dw_X11 a ac s0) s.heap.size = A at hD hN ⊢
  have hA : ∀ q : Nat, s.heap.size ≤ q → A q := fun q h => by rw [← hAe]; exact Or.inr h
  have hl := lv_entry ([.ref (a 0), .int v0, .ref (a 39)]) (n := 4) (Nat.le_of_ble_eq_true rfl)
  rw [lg_entry_eq]
  generalize (lg_sl ([.ref (a 0), .int v0, .ref (a 39)]) ++ List.replicate (4 - (lg_sl ([.ref (a 0), .int v0, .ref (a 39)])).length) Slot.unset).toArray = ls at hl ⊢
  have hl : lv_has ls 4 [(0, .ref (a 0)), (1, .int v0), (2, .ref (a 39))] := hl
  exact db_X11_ticks_0 (dC := dC) (dI := dI) (a := a) (ac := ac) (n := n) (r := r) ⟨hlt, hx, hb, hml, hown, hts, hN, hA, hK⟩ (fun pc v τ H locs ls d z er hP hD hS => by subst er; exact W.zret (v := v) hx hb hr z (fun t ht hW => ⟨⟨v, (), rfl, rfl, by rw [ht]; exact hP, va_K.moved hW.alike hK, hD⟩, hS.F ht⟩) hS.2.2 d) v0 s0 _ _ _ h hP hD va_S.rf (lv_sub hl [0, 1, 2] rfl)
def ow_dm_X11_copyUpTo : List Cond := Cond.code yX11_copyUpTo cX11_copyUpTo 3 (some .int) :: ([Cond.fieldLink RX11 85 "TimeMachine$Timeline" "copies" "I", Cond.methodLink RX11 104 Lib.Math.max.name, Cond.static Lib.Math.max.name, Cond.initialized "java/lang/Math", Cond.code Lib.Math.max.name Lib.Math.max.code 2 (some .int), Cond.fieldLink RX11 52 "TimeMachine$Timeline" "copyAt" "[I"] ++ (u_ws RX11 TX11 16 ++ []))
theorem gd_dm_X11_copyUpTo : ∀ w ∈ ow_dm_X11_copyUpTo, (w.onTables && w.keeps) = true ∨ ∃ ty, w = Cond.arrayClass ty := List.forall_mem_cons.mpr ⟨good_of_word rfl, List.forall_mem_append.mpr ⟨fun w h => good_of_word (List.all_eq_true.mp (by decide +kernel) w h), List.forall_mem_append.mpr ⟨gu_X11, fun _ h => nomatch h⟩⟩⟩
theorem hi_dm_X11_copyUpTo_X11 : ∀ w ∈ u_ws RX11 TX11 16, w ∈ ow_dm_X11_copyUpTo := fun w h => List.mem_cons_of_mem _ (List.mem_append_right _ (List.mem_append_left _ h))
def dj_X11_copyUpTo_27 (p : Program) (l : Launch) (e : Env) (s : State) (m : MethodId) (args : Array Value) (below : List Frame) (meth : Method) (c : Code) (Q : State → Prop) (A : Nat → Prop) (dC : Nat → ClassId) (dI : Nat → Nat → Nat) (a : Nat → Nat) (ac : Nat → ClassId) (g : Int32 → (St × Rw × (St × (St × (St × (St)))) × (St) × (St) × (Nat → St) × (Nat → St) × (Nat → St × (St))) → Option (Int32 × (St × Rw × (St × (St × (St × (St)))) × (St) × (St) × (Nat → St) × (Nat → St) × (Nat → St × (St))))) (r : Int32 × (St × Rw × (St × (St × (St × (St)))) × (St) × (St) × (Nat → St) × (Nat → St) × (Nat → St × (St)))) : Prop := ∀ (x2 : Int32) (s0 : St × Rw × (St × (St × (St × (St)))) × (St) × (St) × (Nat → St) × (Nat → St) × (Nat → St × (St))) (H : Heap) (locs : List Loc) (ls : Array Slot), g x2 s0 = some r → va_P (dC, dI) vwCl (dw_X11 a ac s0) H → va_D A (dw_X11 a ac s0) → va_S A s.heap H locs → lv_has ls 3 [(2, .int x2)] → W p l e (headSpec ow_dm_X11_copyUpTo ({ frames := 1, cells := 0, slots := 0, locals := 13 })).room s m args below meth c H locs 0 0 Q (F0 m 27 ls [])
def dj_X11_copyUpTo_7 (p : Program) (l : Launch) (e : Env) (s : State) (m : MethodId) (args : Array Value) (below : List Frame) (meth : Method) (c : Code) (Q : State → Prop) (A : Nat → Prop) (dC : Nat → ClassId) (dI : Nat → Nat → Nat) (a : Nat → Nat) (ac : Nat → ClassId) (g : Int32 → Int32 → (St × Rw × (St × (St × (St × (St)))) × (St) × (St) × (Nat → St) × (Nat → St) × (Nat → St × (St))) → Option (Int32 × (St × Rw × (St × (St × (St × (St)))) × (St) × (St) × (Nat → St) × (Nat → St) × (Nat → St × (St))))) (r : Int32 × (St × Rw × (St × (St × (St × (St)))) × (St) × (St) × (Nat → St) × (Nat → St) × (Nat → St × (St)))) : Prop := ∀ (x1 : Int32) (x2 : Int32) (s0 : St × Rw × (St × (St × (St × (St)))) × (St) × (St) × (Nat → St) × (Nat → St) × (Nat → St × (St))) (H : Heap) (locs : List Loc) (ls : Array Slot), g x1 x2 s0 = some r → va_P (dC, dI) vwCl (dw_X11 a ac s0) H → va_D A (dw_X11 a ac s0) → va_S A s.heap H locs → lv_has ls 3 [(0, .ref (a 0)), (1, .int x1), (2, .int x2)] → W p l e (headSpec ow_dm_X11_copyUpTo ({ frames := 1, cells := 0, slots := 0, locals := 13 })).room s m args below meth c H locs 0 0 Q (F0 m 7 ls [])
def dj_X11_copyUpTo_0 (p : Program) (l : Launch) (e : Env) (s : State) (m : MethodId) (args : Array Value) (below : List Frame) (meth : Method) (c : Code) (Q : State → Prop) (A : Nat → Prop) (dC : Nat → ClassId) (dI : Nat → Nat → Nat) (a : Nat → Nat) (ac : Nat → ClassId) (g : Int32 → (St × Rw × (St × (St × (St × (St)))) × (St) × (St) × (Nat → St) × (Nat → St) × (Nat → St × (St))) → Option (Int32 × (St × Rw × (St × (St × (St × (St)))) × (St) × (St) × (Nat → St) × (Nat → St) × (Nat → St × (St))))) (r : Int32 × (St × Rw × (St × (St × (St × (St)))) × (St) × (St) × (Nat → St) × (Nat → St) × (Nat → St × (St)))) : Prop := ∀ (v0 : Int32) (s0 : St × Rw × (St × (St × (St × (St)))) × (St) × (St) × (Nat → St) × (Nat → St) × (Nat → St × (St))) (H : Heap) (locs : List Loc) (ls : Array Slot), g v0 s0 = some r → va_P (dC, dI) vwCl (dw_X11 a ac s0) H → va_D A (dw_X11 a ac s0) → va_S A s.heap H locs → lv_has ls 3 [(0, .ref (a 0)), (1, .int v0)] → W p l e (headSpec ow_dm_X11_copyUpTo ({ frames := 1, cells := 0, slots := 0, locals := 13 })).room s m args below meth c H locs 0 0 Q (F0 m 0 ls [])
set_option maxHeartbeats 40000000 in
set_option maxRecDepth 100000 in
theorem db_X11_copyUpTo_27 {p : Program} {l : Launch} {e : Env} {s : State} {m : MethodId} {args : Array Value} {below : List Frame} {meth : Method} {c : Code} {Q : State → Prop} {A : Nat → Prop} {dC : Nat → ClassId} {dI : Nat → Nat → Nat} {a : Nat → Nat} {ac : Nat → ClassId} {n : Nat} {r : Int32 × (St × Rw × (St × (St × (St × (St)))) × (St) × (St) × (Nat → St) × (Nat → St) × (Nat → St × (St)))} (C : nd_C p l s m args c A (dC, dI) cX11_copyUpTo 3 RX11 ow_dm_X11_copyUpTo (dk_X11 ac)) (K : nd_Ki p l e (headSpec ow_dm_X11_copyUpTo ({ frames := 1, cells := 0, slots := 0, locals := 13 })).room s m args below meth c Q A (dC, dI) cX11_copyUpTo .int (St × Rw × (St × (St × (St × (St)))) × (St) × (St) × (Nat → St) × (Nat → St) × (Nat → St × (St))) (dw_X11 a ac) r) : dj_X11_copyUpTo_27 p l e s m args below meth c Q A dC dI a ac (df_X11_copyUpTo_27 n) r := by
  obtain ⟨hlt, hx, hb, hml, hown, hts, hN, hA, hK⟩ := id C
  intro x2 s0 H locs ls h hP hD hS hl
  unfold df_X11_copyUpTo_27 at h
  refine lv_iconst (v := 0) hx hb dX11_copyUpTo_27 (by decide) ?_
  refine lv_iload_n hx hb dX11_copyUpTo_28 rfl (lv_at hl 0 rfl) ?_
  refine va_mmax hx hb (by rw [hml]; exact hl.1.symm) hown (hts (.methodLink RX11 104 Lib.Math.max.name) (List.mem_of_getElem? (i := 2) rfl)) (hts (.static Lib.Math.max.name) (List.mem_of_getElem? (i := 3) rfl)) (hts (.initialized "java/lang/Math") (List.mem_of_getElem? (i := 4) rfl)) (hts (.code Lib.Math.max.name Lib.Math.max.code 2 (some .int)) (List.mem_of_getElem? (i := 5) rfl)) (Nat.le_of_ble_eq_true rfl) (Nat.le_of_ble_eq_true rfl) (by decide +kernel) (by decide +kernel) dX11_copyUpTo_29 ?_
  exact K _ _ _ _ _ _ dX11_copyUpTo_32 rfl (Option.some.inj h).symm hP hD hS
set_option maxHeartbeats 40000000 in
set_option maxRecDepth 100000 in
theorem dB_X11_copyUpTo_7 {p : Program} {l : Launch} {e : Env} {s : State} {m : MethodId} {args : Array Value} {below : List Frame} {meth : Method} {c : Code} {Q : State → Prop} {A : Nat → Prop} {dC : Nat → ClassId} {dI : Nat → Nat → Nat} {a : Nat → Nat} {ac : Nat → ClassId} {n : Nat} {r : Int32 × (St × Rw × (St × (St × (St × (St)))) × (St) × (St) × (Nat → St) × (Nat → St) × (Nat → St × (St)))} (C : nd_C p l s m args c A (dC, dI) cX11_copyUpTo 3 RX11 ow_dm_X11_copyUpTo (dk_X11 ac)) (K : nd_Ki p l e (headSpec ow_dm_X11_copyUpTo ({ frames := 1, cells := 0, slots := 0, locals := 13 })).room s m args below meth c Q A (dC, dI) cX11_copyUpTo .int (St × Rw × (St × (St × (St × (St)))) × (St) × (St) × (Nat → St) × (Nat → St) × (Nat → St × (St))) (dw_X11 a ac) r) {g7 : Int32 → Int32 → (St × Rw × (St × (St × (St × (St)))) × (St) × (St) × (Nat → St) × (Nat → St) × (Nat → St × (St))) → Option (Int32 × (St × Rw × (St × (St × (St × (St)))) × (St) × (St) × (Nat → St) × (Nat → St) × (Nat → St × (St))))} (J7 : dj_X11_copyUpTo_7 p l e s m args below meth c Q A dC dI a ac g7 r) : dj_X11_copyUpTo_7 p l e s m args below meth c Q A dC dI a ac (dF_X11_copyUpTo_7 n g7) r := by
  obtain ⟨hlt, hx, hb, hml, hown, hts, hN, hA, hK⟩ := id C
  intro x1 x2 s0 H locs ls h hP hD hS hl
  unfold dF_X11_copyUpTo_7 at h
  refine lv_iload_n hx hb dX11_copyUpTo_7 rfl (lv_at hl 2 rfl) ?_
  refine lv_if_le (tgt := 27) hx hb dX11_copyUpTo_8 (by decide) (fun c2 => ?_) (fun c2 => ?_)
  · have h := nd_pos h c2
    exact (db_X11_copyUpTo_27 C K) (x2) s0 _ _ _ h hP hD hS (lv_sub hl [2] rfl)
  · have h := nd_neg h c2
    refine lv_aload_n hx hb dX11_copyUpTo_11 rfl (lv_at hl 0 rfl) ?_
    refine va_get (D := (dC, dI)) (ci := 12) (v := .ref (a 2)) (C := RX11) (T := TX11) (N := 16) hx hb hts hi_dm_X11_copyUpTo_X11 hown hK hP 0 rfl rfl 8 (by decide) (hts (.fieldLink RX11 52 "TimeMachine$Timeline" "copyAt" "[I") (List.mem_of_getElem? (i := 6) rfl)) (fun _ h9 => h9) rfl dX11_copyUpTo_12 ?_
    refine lv_iload_n hx hb dX11_copyUpTo_15 rfl (lv_at hl 2 rfl) ?_
    obtain ⟨i3, h⟩ := nd_ck_e h
    refine va_iald (i := x2) hx hb hK hP 2 1 rfl rfl i3 dX11_copyUpTo_16 ?_
    refine lv_iload_n hx hb dX11_copyUpTo_17 rfl (lv_at hl 1 rfl) ?_
    refine lv_icmp_le (tgt := 27) hx hb dX11_copyUpTo_18 (by decide) (fun c4 => ?_) (fun c4 => ?_)
    · have h := nd_pos h c4
      exact (db_X11_copyUpTo_27 C K) (x2) s0 _ _ _ h hP hD hS (lv_sub hl [2] rfl)
    · have h := nd_neg h c4
      obtain ⟨z5, ez5, h⟩ := nd_let_e h
      refine lv_iinc (v := z5) (lv' := [(2, .int z5), (0, .ref (a 0)), (1, .int x1)]) hx hb dX11_copyUpTo_21 hl (k := 2) rfl (by rw [ez5]) (by decide) rfl (fun ls hl => ?_)
      refine lv_goto (tgt := 7) hx hb dX11_copyUpTo_24 (by decide) ?_
      exact (J7) (x1) (z5) s0 _ _ _ h hP hD hS (lv_sub hl [1, 2, 0] rfl)
set_option maxHeartbeats 40000000 in
set_option maxRecDepth 100000 in
theorem db_X11_copyUpTo_7 {p : Program} {l : Launch} {e : Env} {s : State} {m : MethodId} {args : Array Value} {below : List Frame} {meth : Method} {c : Code} {Q : State → Prop} {A : Nat → Prop} {dC : Nat → ClassId} {dI : Nat → Nat → Nat} {a : Nat → Nat} {ac : Nat → ClassId} {n : Nat} {r : Int32 × (St × Rw × (St × (St × (St × (St)))) × (St) × (St) × (Nat → St) × (Nat → St) × (Nat → St × (St)))} (C : nd_C p l s m args c A (dC, dI) cX11_copyUpTo 3 RX11 ow_dm_X11_copyUpTo (dk_X11 ac)) (K : nd_Ki p l e (headSpec ow_dm_X11_copyUpTo ({ frames := 1, cells := 0, slots := 0, locals := 13 })).room s m args below meth c Q A (dC, dI) cX11_copyUpTo .int (St × Rw × (St × (St × (St × (St)))) × (St) × (St) × (Nat → St) × (Nat → St) × (Nat → St × (St))) (dw_X11 a ac) r) (k : Nat) : dj_X11_copyUpTo_7 p l e s m args below meth c Q A dC dI a ac (df_X11_copyUpTo_7 n k) r := by
  induction k with
  | zero => intro x1 x2 s0 H locs ls h; exact nomatch (show (none : Option (Int32 × (St × Rw × (St × (St × (St × (St)))) × (St) × (St) × (Nat → St) × (Nat → St) × (Nat → St × (St))))) = some r from h)
  | succ k ih => exact dB_X11_copyUpTo_7 C K ih
set_option maxHeartbeats 40000000 in
set_option maxRecDepth 100000 in
theorem db_X11_copyUpTo_0 {p : Program} {l : Launch} {e : Env} {s : State} {m : MethodId} {args : Array Value} {below : List Frame} {meth : Method} {c : Code} {Q : State → Prop} {A : Nat → Prop} {dC : Nat → ClassId} {dI : Nat → Nat → Nat} {a : Nat → Nat} {ac : Nat → ClassId} {n : Nat} {r : Int32 × (St × Rw × (St × (St × (St × (St)))) × (St) × (St) × (Nat → St) × (Nat → St) × (Nat → St × (St)))} (C : nd_C p l s m args c A (dC, dI) cX11_copyUpTo 3 RX11 ow_dm_X11_copyUpTo (dk_X11 ac)) (K : nd_Ki p l e (headSpec ow_dm_X11_copyUpTo ({ frames := 1, cells := 0, slots := 0, locals := 13 })).room s m args below meth c Q A (dC, dI) cX11_copyUpTo .int (St × Rw × (St × (St × (St × (St)))) × (St) × (St) × (Nat → St) × (Nat → St) × (Nat → St × (St))) (dw_X11 a ac) r) : dj_X11_copyUpTo_0 p l e s m args below meth c Q A dC dI a ac (df_X11_copyUpTo_0 n) r := by
  obtain ⟨hlt, hx, hb, hml, hown, hts, hN, hA, hK⟩ := id C
  intro v0 s0 H locs ls h hP hD hS hl
  unfold df_X11_copyUpTo_0 at h
  refine lv_aload_n hx hb dX11_copyUpTo_0 rfl (lv_at hl 0 rfl) ?_
  refine va_get (D := (dC, dI)) (ci := 12) (v := .int (sI s0.1 1)) (C := RX11) (T := TX11) (N := 16) hx hb hts hi_dm_X11_copyUpTo_X11 hown hK hP 0 rfl rfl 9 (by decide) (hts (.fieldLink RX11 85 "TimeMachine$Timeline" "copies" "I") (List.mem_of_getElem? (i := 1) rfl)) (fun _ h9 => h9) rfl dX11_copyUpTo_1 ?_
  refine lv_iconst (v := 1) hx hb dX11_copyUpTo_4 (by decide) ?_
  refine lv_isub hx hb dX11_copyUpTo_5 ?_
  refine lv_topi (fun z1 ez1 => ?_)
  have h := nd_at h ez1
  refine lv_istore_n (lv' := [(2, .int z1), (0, .ref (a 0)), (1, .int v0)]) hx hb dX11_copyUpTo_6 rfl hl (by decide) rfl (fun ls hl => ?_)
  exact (db_X11_copyUpTo_7 C K n) (v0) (z1) s0 _ _ _ h hP hD hS (lv_sub hl [1, 2, 0] rfl)
set_option maxHeartbeats 40000000 in
set_option maxRecDepth 100000 in
theorem dm_X11_copyUpTo (l : Launch) (hlt : l.stackTraces = false) (dC : Nat → ClassId) (dI : Nat → Nat → Nat) (a : Nat → Nat) (ac : Nat → ClassId) (n : Nat) (v0 : Int32) (s0 : St × Rw × (St × (St × (St × (St)))) × (St) × (St) × (Nat → St) × (Nat → St) × (Nat → St × (St))) {r : Int32 × (St × Rw × (St × (St × (St × (St)))) × (St) × (St) × (Nat → St) × (Nat → St) × (Nat → St × (St)))} (h : df_X11_copyUpTo n v0 s0 = some r) (sz : Nat) : Met l yX11_copyUpTo ow_dm_X11_copyUpTo ({ frames := 1, cells := 0, slots := 0, locals := 13 }) (va_Pc [.ref (a 0), .int v0] (fun U => U.heap.size = sz ∧ va_P (dC, dI) vwCl (dw_X11 a ac s0) U.heap ∧ va_K (dC, dI) vwCl (dk_X11 ac) U ∧ va_D (fun _ => True) (dw_X11 a ac s0) ∧ nv_E dI (va_A (dw_X11 a ac s0) sz) U)) (va_Qi (fun x _ => x = r.1) (fun (_ : Unit) t => va_P (dC, dI) vwCl (dw_X11 a ac r.2) t.heap ∧ va_K (dC, dI) vwCl (dk_X11 ac) t ∧ va_D (va_A (dw_X11 a ac s0) sz) (dw_X11 a ac r.2)) (va_A (dw_X11 a ac s0) sz)) 0 0 (va_A (dw_X11 a ac s0) sz) := by
  refine Met.ofW (cc := cX11_copyUpTo) (maxL := 3) (ret := (some .int)) (by decide) rfl ?_
  intro p e s m args below meth c s₁ B hml hv
  obtain ⟨rfl, hsz, hP, hK, hD0, hN⟩ := hv
  have hx := B.exec
  have hb := B.bytes
  have hr := B.returns
  have hts := atoms_spec (ws := ow_dm_X11_copyUpTo) B.pre
  have hown : s.vm.findClass RX11 = some m.cls := findClass_of_methodNamed B.named
  have hlocks := B.notSynchronized
  subst hsz
  have hD := hD0.self (sz := s.heap.size)
  generalize hAe : va_A (dw_X11 a ac s0) s.heap.size = A at hD hN ⊢
  have hA : ∀ q : Nat, s.heap.size ≤ q → A q := fun q h => by rw [← hAe]; exact Or.inr h
  have hl := lv_entry ([.ref (a 0), .int v0]) (n := 3) (Nat.le_of_ble_eq_true rfl)
  rw [lg_entry_eq]
  generalize (lg_sl ([.ref (a 0), .int v0]) ++ List.replicate (3 - (lg_sl ([.ref (a 0), .int v0])).length) Slot.unset).toArray = ls at hl ⊢
  have hl : lv_has ls 3 [(0, .ref (a 0)), (1, .int v0)] := hl
  exact db_X11_copyUpTo_0 (dC := dC) (dI := dI) (a := a) (ac := ac) (n := n) (r := r) ⟨hlt, hx, hb, hml, hown, hts, hN, hA, hK⟩ (fun pc v τ H locs ls d z er hP hD hS => by subst er; exact W.zret (v := v) hx hb hr z (fun t ht hW => ⟨⟨v, (), rfl, rfl, by rw [ht]; exact hP, va_K.moved hW.alike hK, hD⟩, hS.F ht⟩) hS.2.2 d) v0 s0 _ _ _ h hP hD va_S.rf (lv_sub hl [0, 1] rfl)
set_option maxHeartbeats 40000000 in
set_option maxRecDepth 100000 in
theorem de_wX11_X6m_9 {a : Nat → Nat} {ac : Nat → ClassId} {j1 : Nat} {τ : St × (St × (St)) × (St × (St))} : ([dwo_X6 (fun k => a (k + 7)) (fun k => ac (k + 7)) (τ.2.1.1), dw_X10 (fun k => a (k + 17)) (fun k => ac (k + 17)) (τ.2.1.2), dw_X6 (fun k => a (k + j1 * 20 + 167)) (fun k => ac (k + j1 * 20 + 167)) (τ.2.2)] : List va_W).flatten = dw_X6m (fun k => a (if k < 20 then k - 0 + 7 else k - 20 + j1 * 20 + 167)) (fun k => ac (if k < 20 then k - 0 + 7 else k - 20 + j1 * 20 + 167)) τ := by
  first
  | (simp only [List.flatten_cons, List.flatten_nil, List.append_nil]; done)
  | (simp only [List.flatten_cons, List.flatten_nil, List.append_nil]; rfl)
set_option maxHeartbeats 40000000 in
set_option maxRecDepth 100000 in
theorem dp_wX11_X6m_9 {D : va_G} {H : Heap} {a : Nat → Nat} {ac : Nat → ClassId} {σ : St × Rw × (St × (St × (St × (St)))) × (St) × (St) × (Nat → St) × (Nat → St) × (Nat → St × (St))} {j1 : Nat} (hj1 : j1 < 8) (h : va_P D vwCl (dw_X11 a ac σ) H) : va_P D vwCl (dw_X6m (fun k => a (if k < 20 then k - 0 + 7 else k - 20 + j1 * 20 + 167)) (fun k => ac (if k < 20 then k - 0 + 7 else k - 20 + j1 * 20 + 167)) (nd_st0, σ.2.2.1.2.2, (σ.2.2.2.2.2.2.2 j1))) H := by
  have h2 := nd_vp (segs := dg_X11 a ac σ) (ix := [3, 4, 29 + j1]) (old := [dwo_X6 (fun k => a (k + 7)) (fun k => ac (k + 7)) (σ.2.2.1.2.2.1), dw_X10 (fun k => a (k + 17)) (fun k => ac (k + 17)) (σ.2.2.1.2.2.2), dw_X6 (fun k => a (k + j1 * 20 + 167)) (fun k => ac (k + j1 * 20 + 167)) (σ.2.2.2.2.2.2.2 j1)]) h (nd_co rfl (nd_co rfl (nd_co (dx_X11_C6 hj1) rfl)))
  have e := de_wX11_X6m_9 (a := a) (ac := ac) (j1 := j1) (τ := (nd_st0, σ.2.2.1.2.2, (σ.2.2.2.2.2.2.2 j1)))
  exact e ▸ h2
set_option maxHeartbeats 40000000 in
set_option maxRecDepth 100000 in
theorem dd_wX11_X6m_9 {A : Nat → Prop} {a : Nat → Nat} {ac : Nat → ClassId} {σ : St × Rw × (St × (St × (St × (St)))) × (St) × (St) × (Nat → St) × (Nat → St) × (Nat → St × (St))} {j1 : Nat} (hj1 : j1 < 8) (h : va_D A (dw_X11 a ac σ)) : va_D A (dw_X6m (fun k => a (if k < 20 then k - 0 + 7 else k - 20 + j1 * 20 + 167)) (fun k => ac (if k < 20 then k - 0 + 7 else k - 20 + j1 * 20 + 167)) (nd_st0, σ.2.2.1.2.2, (σ.2.2.2.2.2.2.2 j1))) := by
  have h2 := nd_vd (segs := dg_X11 a ac σ) (ix := [3, 4, 29 + j1]) (old := [dwo_X6 (fun k => a (k + 7)) (fun k => ac (k + 7)) (σ.2.2.1.2.2.1), dw_X10 (fun k => a (k + 17)) (fun k => ac (k + 17)) (σ.2.2.1.2.2.2), dw_X6 (fun k => a (k + j1 * 20 + 167)) (fun k => ac (k + j1 * 20 + 167)) (σ.2.2.2.2.2.2.2 j1)]) h (nd_co rfl (nd_co rfl (nd_co (dx_X11_C6 hj1) rfl))) (by simp only [List.nodup_cons, List.mem_cons, List.not_mem_nil, List.nodup_nil, or_false, not_false_eq_true, and_true, true_and] <;> omega)
  have e := de_wX11_X6m_9 (a := a) (ac := ac) (j1 := j1) (τ := (nd_st0, σ.2.2.1.2.2, (σ.2.2.2.2.2.2.2 j1)))
  exact e ▸ h2
set_option maxHeartbeats 40000000 in
set_option maxRecDepth 100000 in
theorem dy_wX11_X6m_9 {D : va_G} {U : State} {ac : Nat → ClassId} {j1 : Nat} (hj1 : j1 < 8) (h : va_K D vwCl (dk_X11 ac) U) : va_K D vwCl (dk_X6m (fun k => ac (if k < 20 then k - 0 + 7 else k - 20 + j1 * 20 + 167))) U := (va_K.app (nd_ks h (fun q hq => absurd hq List.not_mem_nil)) (va_K.app (h.sub [4, 5, 6, 7, 8, 9, 10, 11, 12, 13, 14, 15, 16, 17, 18, 19, 20, 21] rfl) (dq_X11_C6 hj1 h)))
set_option maxHeartbeats 40000000 in
set_option maxRecDepth 100000 in
theorem dn_wX11_X6m_9 {A0 : Nat → Prop} {D : va_G} {H H1 : Heap} {a : Nat → Nat} {ac : Nat → ClassId} {σ : St × Rw × (St × (St × (St × (St)))) × (St) × (St) × (Nat → St) × (Nat → St) × (Nat → St × (St))} {τ : St × (St × (St)) × (St × (St))} {j1 : Nat} (hj1 : j1 < 8) (hP : va_P D vwCl (dw_X11 a ac σ) H) (hD : va_D A0 (dw_X11 a ac σ)) (hA : ∀ q : Nat, H.size ≤ q → A0 q) (hk : ∀ q : Nat, q < H.size → ¬ va_A (dw_X6m (fun k => a (if k < 20 then k - 0 + 7 else k - 20 + j1 * 20 + 167)) (fun k => ac (if k < 20 then k - 0 + 7 else k - 20 + j1 * 20 + 167)) (nd_st0, σ.2.2.1.2.2, (σ.2.2.2.2.2.2.2 j1))) H.size q → H1[q]? = H[q]?) (h1 : va_P D vwCl (dw_X6m (fun k => a (if k < 20 then k - 0 + 7 else k - 20 + j1 * 20 + 167)) (fun k => ac (if k < 20 then k - 0 + 7 else k - 20 + j1 * 20 + 167)) τ) H1) (h2 : va_D (va_A (dw_X6m (fun k => a (if k < 20 then k - 0 + 7 else k - 20 + j1 * 20 + 167)) (fun k => ac (if k < 20 then k - 0 + 7 else k - 20 + j1 * 20 + 167)) (nd_st0, σ.2.2.1.2.2, (σ.2.2.2.2.2.2.2 j1))) H.size) (dw_X6m (fun k => a (if k < 20 then k - 0 + 7 else k - 20 + j1 * 20 + 167)) (fun k => ac (if k < 20 then k - 0 + 7 else k - 20 + j1 * 20 + 167)) τ)) : va_P D vwCl (dw_X11 a ac ((σ.1, (σ.2.1, ((σ.2.2.1.1, (σ.2.2.1.2.1, τ.2.1)), σ.2.2.2))).1, ((σ.1, (σ.2.1, ((σ.2.2.1.1, (σ.2.2.1.2.1, τ.2.1)), σ.2.2.2))).2.1, ((σ.1, (σ.2.1, ((σ.2.2.1.1, (σ.2.2.1.2.1, τ.2.1)), σ.2.2.2))).2.2.1, ((σ.1, (σ.2.1, ((σ.2.2.1.1, (σ.2.2.1.2.1, τ.2.1)), σ.2.2.2))).2.2.2.1, ((σ.1, (σ.2.1, ((σ.2.2.1.1, (σ.2.2.1.2.1, τ.2.1)), σ.2.2.2))).2.2.2.2.1, ((σ.1, (σ.2.1, ((σ.2.2.1.1, (σ.2.2.1.2.1, τ.2.1)), σ.2.2.2))).2.2.2.2.2.1, ((σ.1, (σ.2.1, ((σ.2.2.1.1, (σ.2.2.1.2.1, τ.2.1)), σ.2.2.2))).2.2.2.2.2.2.1, (fun i => if i = j1 then τ.2.2 else (σ.1, (σ.2.1, ((σ.2.2.1.1, (σ.2.2.1.2.1, τ.2.1)), σ.2.2.2))).2.2.2.2.2.2.2 i))))))))) H1 ∧ va_D A0 (dw_X11 a ac ((σ.1, (σ.2.1, ((σ.2.2.1.1, (σ.2.2.1.2.1, τ.2.1)), σ.2.2.2))).1, ((σ.1, (σ.2.1, ((σ.2.2.1.1, (σ.2.2.1.2.1, τ.2.1)), σ.2.2.2))).2.1, ((σ.1, (σ.2.1, ((σ.2.2.1.1, (σ.2.2.1.2.1, τ.2.1)), σ.2.2.2))).2.2.1, ((σ.1, (σ.2.1, ((σ.2.2.1.1, (σ.2.2.1.2.1, τ.2.1)), σ.2.2.2))).2.2.2.1, ((σ.1, (σ.2.1, ((σ.2.2.1.1, (σ.2.2.1.2.1, τ.2.1)), σ.2.2.2))).2.2.2.2.1, ((σ.1, (σ.2.1, ((σ.2.2.1.1, (σ.2.2.1.2.1, τ.2.1)), σ.2.2.2))).2.2.2.2.2.1, ((σ.1, (σ.2.1, ((σ.2.2.1.1, (σ.2.2.1.2.1, τ.2.1)), σ.2.2.2))).2.2.2.2.2.2.1, (fun i => if i = j1 then τ.2.2 else (σ.1, (σ.2.1, ((σ.2.2.1.1, (σ.2.2.1.2.1, τ.2.1)), σ.2.2.2))).2.2.2.2.2.2.2 i))))))))) := by
  have eo := de_wX11_X6m_9 (a := a) (ac := ac) (j1 := j1) (τ := (nd_st0, σ.2.2.1.2.2, (σ.2.2.2.2.2.2.2 j1)))
  have en := de_wX11_X6m_9 (a := a) (ac := ac) (j1 := j1) (τ := τ)
  have h := nd_vn (segs := dg_X11 a ac σ) (ix := [3, 4, 29 + j1]) (old := [dwo_X6 (fun k => a (k + 7)) (fun k => ac (k + 7)) (σ.2.2.1.2.2.1), dw_X10 (fun k => a (k + 17)) (fun k => ac (k + 17)) (σ.2.2.1.2.2.2), dw_X6 (fun k => a (k + j1 * 20 + 167)) (fun k => ac (k + j1 * 20 + 167)) (σ.2.2.2.2.2.2.2 j1)]) (new := [dwo_X6 (fun k => a (k + 7)) (fun k => ac (k + 7)) (τ.2.1.1), dw_X10 (fun k => a (k + 17)) (fun k => ac (k + 17)) (τ.2.1.2), dw_X6 (fun k => a (k + j1 * 20 + 167)) (fun k => ac (k + j1 * 20 + 167)) (τ.2.2)]) hP hD (nd_co rfl (nd_co rfl (nd_co (dx_X11_C6 hj1) rfl))) rfl (fun q z y => hk q z (fun w => y (eo ▸ w))) (en ▸ h1)
  have e1 : ((dg_X11 a ac σ).set 3 (dwo_X6 (fun k => a (k + 7)) (fun k => ac (k + 7)) (τ.2.1.1))).set 4 (dw_X10 (fun k => a (k + 17)) (fun k => ac (k + 17)) (τ.2.1.2)) = dg_X11 a ac ((σ.1, (σ.2.1, ((σ.2.2.1.1, (σ.2.2.1.2.1, ((τ.2.1.1), σ.2.2.1.2.2.2))), σ.2.2.2))).1, ((σ.1, (σ.2.1, ((σ.2.2.1.1, (σ.2.2.1.2.1, ((τ.2.1.1), σ.2.2.1.2.2.2))), σ.2.2.2))).2.1, (((σ.1, (σ.2.1, ((σ.2.2.1.1, (σ.2.2.1.2.1, ((τ.2.1.1), σ.2.2.1.2.2.2))), σ.2.2.2))).2.2.1.1, ((σ.1, (σ.2.1, ((σ.2.2.1.1, (σ.2.2.1.2.1, ((τ.2.1.1), σ.2.2.1.2.2.2))), σ.2.2.2))).2.2.1.2.1, ((σ.1, (σ.2.1, ((σ.2.2.1.1, (σ.2.2.1.2.1, ((τ.2.1.1), σ.2.2.1.2.2.2))), σ.2.2.2))).2.2.1.2.2.1, (τ.2.1.2)))), (σ.1, (σ.2.1, ((σ.2.2.1.1, (σ.2.2.1.2.1, ((τ.2.1.1), σ.2.2.1.2.2.2))), σ.2.2.2))).2.2.2))) := rfl
  have e2 : (dg_X11 a ac ((σ.1, (σ.2.1, ((σ.2.2.1.1, (σ.2.2.1.2.1, ((τ.2.1.1), σ.2.2.1.2.2.2))), σ.2.2.2))).1, ((σ.1, (σ.2.1, ((σ.2.2.1.1, (σ.2.2.1.2.1, ((τ.2.1.1), σ.2.2.1.2.2.2))), σ.2.2.2))).2.1, (((σ.1, (σ.2.1, ((σ.2.2.1.1, (σ.2.2.1.2.1, ((τ.2.1.1), σ.2.2.1.2.2.2))), σ.2.2.2))).2.2.1.1, ((σ.1, (σ.2.1, ((σ.2.2.1.1, (σ.2.2.1.2.1, ((τ.2.1.1), σ.2.2.1.2.2.2))), σ.2.2.2))).2.2.1.2.1, ((σ.1, (σ.2.1, ((σ.2.2.1.1, (σ.2.2.1.2.1, ((τ.2.1.1), σ.2.2.1.2.2.2))), σ.2.2.2))).2.2.1.2.2.1, (τ.2.1.2)))), (σ.1, (σ.2.1, ((σ.2.2.1.1, (σ.2.2.1.2.1, ((τ.2.1.1), σ.2.2.1.2.2.2))), σ.2.2.2))).2.2.2)))).set (29 + j1) (dw_X6 (fun k => a (k + j1 * 20 + 167)) (fun k => ac (k + j1 * 20 + 167)) (τ.2.2)) = dg_X11 a ac (((σ.1, (σ.2.1, ((σ.2.2.1.1, (σ.2.2.1.2.1, ((τ.2.1.1), σ.2.2.1.2.2.2))), σ.2.2.2))).1, ((σ.1, (σ.2.1, ((σ.2.2.1.1, (σ.2.2.1.2.1, ((τ.2.1.1), σ.2.2.1.2.2.2))), σ.2.2.2))).2.1, (((σ.1, (σ.2.1, ((σ.2.2.1.1, (σ.2.2.1.2.1, ((τ.2.1.1), σ.2.2.1.2.2.2))), σ.2.2.2))).2.2.1.1, ((σ.1, (σ.2.1, ((σ.2.2.1.1, (σ.2.2.1.2.1, ((τ.2.1.1), σ.2.2.1.2.2.2))), σ.2.2.2))).2.2.1.2.1, ((σ.1, (σ.2.1, ((σ.2.2.1.1, (σ.2.2.1.2.1, ((τ.2.1.1), σ.2.2.1.2.2.2))), σ.2.2.2))).2.2.1.2.2.1, (τ.2.1.2)))), (σ.1, (σ.2.1, ((σ.2.2.1.1, (σ.2.2.1.2.1, ((τ.2.1.1), σ.2.2.1.2.2.2))), σ.2.2.2))).2.2.2))).1, (((σ.1, (σ.2.1, ((σ.2.2.1.1, (σ.2.2.1.2.1, ((τ.2.1.1), σ.2.2.1.2.2.2))), σ.2.2.2))).1, ((σ.1, (σ.2.1, ((σ.2.2.1.1, (σ.2.2.1.2.1, ((τ.2.1.1), σ.2.2.1.2.2.2))), σ.2.2.2))).2.1, (((σ.1, (σ.2.1, ((σ.2.2.1.1, (σ.2.2.1.2.1, ((τ.2.1.1), σ.2.2.1.2.2.2))), σ.2.2.2))).2.2.1.1, ((σ.1, (σ.2.1, ((σ.2.2.1.1, (σ.2.2.1.2.1, ((τ.2.1.1), σ.2.2.1.2.2.2))), σ.2.2.2))).2.2.1.2.1, ((σ.1, (σ.2.1, ((σ.2.2.1.1, (σ.2.2.1.2.1, ((τ.2.1.1), σ.2.2.1.2.2.2))), σ.2.2.2))).2.2.1.2.2.1, (τ.2.1.2)))), (σ.1, (σ.2.1, ((σ.2.2.1.1, (σ.2.2.1.2.1, ((τ.2.1.1), σ.2.2.1.2.2.2))), σ.2.2.2))).2.2.2))).2.1, (((σ.1, (σ.2.1, ((σ.2.2.1.1, (σ.2.2.1.2.1, ((τ.2.1.1), σ.2.2.1.2.2.2))), σ.2.2.2))).1, ((σ.1, (σ.2.1, ((σ.2.2.1.1, (σ.2.2.1.2.1, ((τ.2.1.1), σ.2.2.1.2.2.2))), σ.2.2.2))).2.1, (((σ.1, (σ.2.1, ((σ.2.2.1.1, (σ.2.2.1.2.1, ((τ.2.1.1), σ.2.2.1.2.2.2))), σ.2.2.2))).2.2.1.1, ((σ.1, (σ.2.1, ((σ.2.2.1.1, (σ.2.2.1.2.1, ((τ.2.1.1), σ.2.2.1.2.2.2))), σ.2.2.2))).2.2.1.2.1, ((σ.1, (σ.2.1, ((σ.2.2.1.1, (σ.2.2.1.2.1, ((τ.2.1.1), σ.2.2.1.2.2.2))), σ.2.2.2))).2.2.1.2.2.1, (τ.2.1.2)))), (σ.1, (σ.2.1, ((σ.2.2.1.1, (σ.2.2.1.2.1, ((τ.2.1.1), σ.2.2.1.2.2.2))), σ.2.2.2))).2.2.2))).2.2.1, (((σ.1, (σ.2.1, ((σ.2.2.1.1, (σ.2.2.1.2.1, ((τ.2.1.1), σ.2.2.1.2.2.2))), σ.2.2.2))).1, ((σ.1, (σ.2.1, ((σ.2.2.1.1, (σ.2.2.1.2.1, ((τ.2.1.1), σ.2.2.1.2.2.2))), σ.2.2.2))).2.1, (((σ.1, (σ.2.1, ((σ.2.2.1.1, (σ.2.2.1.2.1, ((τ.2.1.1), σ.2.2.1.2.2.2))), σ.2.2.2))).2.2.1.1, ((σ.1, (σ.2.1, ((σ.2.2.1.1, (σ.2.2.1.2.1, ((τ.2.1.1), σ.2.2.1.2.2.2))), σ.2.2.2))).2.2.1.2.1, ((σ.1, (σ.2.1, ((σ.2.2.1.1, (σ.2.2.1.2.1, ((τ.2.1.1), σ.2.2.1.2.2.2))), σ.2.2.2))).2.2.1.2.2.1, (τ.2.1.2)))), (σ.1, (σ.2.1, ((σ.2.2.1.1, (σ.2.2.1.2.1, ((τ.2.1.1), σ.2.2.1.2.2.2))), σ.2.2.2))).2.2.2))).2.2.2.1, (((σ.1, (σ.2.1, ((σ.2.2.1.1, (σ.2.2.1.2.1, ((τ.2.1.1), σ.2.2.1.2.2.2))), σ.2.2.2))).1, ((σ.1, (σ.2.1, ((σ.2.2.1.1, (σ.2.2.1.2.1, ((τ.2.1.1), σ.2.2.1.2.2.2))), σ.2.2.2))).2.1, (((σ.1, (σ.2.1, ((σ.2.2.1.1, (σ.2.2.1.2.1, ((τ.2.1.1), σ.2.2.1.2.2.2))), σ.2.2.2))).2.2.1.1, ((σ.1, (σ.2.1, ((σ.2.2.1.1, (σ.2.2.1.2.1, ((τ.2.1.1), σ.2.2.1.2.2.2))), σ.2.2.2))).2.2.1.2.1, ((σ.1, (σ.2.1, ((σ.2.2.1.1, (σ.2.2.1.2.1, ((τ.2.1.1), σ.2.2.1.2.2.2))), σ.2.2.2))).2.2.1.2.2.1, (τ.2.1.2)))), (σ.1, (σ.2.1, ((σ.2.2.1.1, (σ.2.2.1.2.1, ((τ.2.1.1), σ.2.2.1.2.2.2))), σ.2.2.2))).2.2.2))).2.2.2.2.1, (((σ.1, (σ.2.1, ((σ.2.2.1.1, (σ.2.2.1.2.1, ((τ.2.1.1), σ.2.2.1.2.2.2))), σ.2.2.2))).1, ((σ.1, (σ.2.1, ((σ.2.2.1.1, (σ.2.2.1.2.1, ((τ.2.1.1), σ.2.2.1.2.2.2))), σ.2.2.2))).2.1, (((σ.1, (σ.2.1, ((σ.2.2.1.1, (σ.2.2.1.2.1, ((τ.2.1.1), σ.2.2.1.2.2.2))), σ.2.2.2))).2.2.1.1, ((σ.1, (σ.2.1, ((σ.2.2.1.1, (σ.2.2.1.2.1, ((τ.2.1.1), σ.2.2.1.2.2.2))), σ.2.2.2))).2.2.1.2.1, ((σ.1, (σ.2.1, ((σ.2.2.1.1, (σ.2.2.1.2.1, ((τ.2.1.1), σ.2.2.1.2.2.2))), σ.2.2.2))).2.2.1.2.2.1, (τ.2.1.2)))), (σ.1, (σ.2.1, ((σ.2.2.1.1, (σ.2.2.1.2.1, ((τ.2.1.1), σ.2.2.1.2.2.2))), σ.2.2.2))).2.2.2))).2.2.2.2.2.1, (((σ.1, (σ.2.1, ((σ.2.2.1.1, (σ.2.2.1.2.1, ((τ.2.1.1), σ.2.2.1.2.2.2))), σ.2.2.2))).1, ((σ.1, (σ.2.1, ((σ.2.2.1.1, (σ.2.2.1.2.1, ((τ.2.1.1), σ.2.2.1.2.2.2))), σ.2.2.2))).2.1, (((σ.1, (σ.2.1, ((σ.2.2.1.1, (σ.2.2.1.2.1, ((τ.2.1.1), σ.2.2.1.2.2.2))), σ.2.2.2))).2.2.1.1, ((σ.1, (σ.2.1, ((σ.2.2.1.1, (σ.2.2.1.2.1, ((τ.2.1.1), σ.2.2.1.2.2.2))), σ.2.2.2))).2.2.1.2.1, ((σ.1, (σ.2.1, ((σ.2.2.1.1, (σ.2.2.1.2.1, ((τ.2.1.1), σ.2.2.1.2.2.2))), σ.2.2.2))).2.2.1.2.2.1, (τ.2.1.2)))), (σ.1, (σ.2.1, ((σ.2.2.1.1, (σ.2.2.1.2.1, ((τ.2.1.1), σ.2.2.1.2.2.2))), σ.2.2.2))).2.2.2))).2.2.2.2.2.2.1, (fun i => if i = j1 then (τ.2.2) else ((σ.1, (σ.2.1, ((σ.2.2.1.1, (σ.2.2.1.2.1, ((τ.2.1.1), σ.2.2.1.2.2.2))), σ.2.2.2))).1, ((σ.1, (σ.2.1, ((σ.2.2.1.1, (σ.2.2.1.2.1, ((τ.2.1.1), σ.2.2.1.2.2.2))), σ.2.2.2))).2.1, (((σ.1, (σ.2.1, ((σ.2.2.1.1, (σ.2.2.1.2.1, ((τ.2.1.1), σ.2.2.1.2.2.2))), σ.2.2.2))).2.2.1.1, ((σ.1, (σ.2.1, ((σ.2.2.1.1, (σ.2.2.1.2.1, ((τ.2.1.1), σ.2.2.1.2.2.2))), σ.2.2.2))).2.2.1.2.1, ((σ.1, (σ.2.1, ((σ.2.2.1.1, (σ.2.2.1.2.1, ((τ.2.1.1), σ.2.2.1.2.2.2))), σ.2.2.2))).2.2.1.2.2.1, (τ.2.1.2)))), (σ.1, (σ.2.1, ((σ.2.2.1.1, (σ.2.2.1.2.1, ((τ.2.1.1), σ.2.2.1.2.2.2))), σ.2.2.2))).2.2.2))).2.2.2.2.2.2.2 i)))))))) := dz_X11_C6 hj1
  have ee : nd_sets (dg_X11 a ac σ) [3, 4, 29 + j1] [dwo_X6 (fun k => a (k + 7)) (fun k => ac (k + 7)) (τ.2.1.1), dw_X10 (fun k => a (k + 17)) (fun k => ac (k + 17)) (τ.2.1.2), dw_X6 (fun k => a (k + j1 * 20 + 167)) (fun k => ac (k + j1 * 20 + 167)) (τ.2.2)] = dg_X11 a ac (((σ.1, (σ.2.1, ((σ.2.2.1.1, (σ.2.2.1.2.1, ((τ.2.1.1), σ.2.2.1.2.2.2))), σ.2.2.2))).1, ((σ.1, (σ.2.1, ((σ.2.2.1.1, (σ.2.2.1.2.1, ((τ.2.1.1), σ.2.2.1.2.2.2))), σ.2.2.2))).2.1, (((σ.1, (σ.2.1, ((σ.2.2.1.1, (σ.2.2.1.2.1, ((τ.2.1.1), σ.2.2.1.2.2.2))), σ.2.2.2))).2.2.1.1, ((σ.1, (σ.2.1, ((σ.2.2.1.1, (σ.2.2.1.2.1, ((τ.2.1.1), σ.2.2.1.2.2.2))), σ.2.2.2))).2.2.1.2.1, ((σ.1, (σ.2.1, ((σ.2.2.1.1, (σ.2.2.1.2.1, ((τ.2.1.1), σ.2.2.1.2.2.2))), σ.2.2.2))).2.2.1.2.2.1, (τ.2.1.2)))), (σ.1, (σ.2.1, ((σ.2.2.1.1, (σ.2.2.1.2.1, ((τ.2.1.1), σ.2.2.1.2.2.2))), σ.2.2.2))).2.2.2))).1, (((σ.1, (σ.2.1, ((σ.2.2.1.1, (σ.2.2.1.2.1, ((τ.2.1.1), σ.2.2.1.2.2.2))), σ.2.2.2))).1, ((σ.1, (σ.2.1, ((σ.2.2.1.1, (σ.2.2.1.2.1, ((τ.2.1.1), σ.2.2.1.2.2.2))), σ.2.2.2))).2.1, (((σ.1, (σ.2.1, ((σ.2.2.1.1, (σ.2.2.1.2.1, ((τ.2.1.1), σ.2.2.1.2.2.2))), σ.2.2.2))).2.2.1.1, ((σ.1, (σ.2.1, ((σ.2.2.1.1, (σ.2.2.1.2.1, ((τ.2.1.1), σ.2.2.1.2.2.2))), σ.2.2.2))).2.2.1.2.1, ((σ.1, (σ.2.1, ((σ.2.2.1.1, (σ.2.2.1.2.1, ((τ.2.1.1), σ.2.2.1.2.2.2))), σ.2.2.2))).2.2.1.2.2.1, (τ.2.1.2)))), (σ.1, (σ.2.1, ((σ.2.2.1.1, (σ.2.2.1.2.1, ((τ.2.1.1), σ.2.2.1.2.2.2))), σ.2.2.2))).2.2.2))).2.1, (((σ.1, (σ.2.1, ((σ.2.2.1.1, (σ.2.2.1.2.1, ((τ.2.1.1), σ.2.2.1.2.2.2))), σ.2.2.2))).1, ((σ.1, (σ.2.1, ((σ.2.2.1.1, (σ.2.2.1.2.1, ((τ.2.1.1), σ.2.2.1.2.2.2))), σ.2.2.2))).2.1, (((σ.1, (σ.2.1, ((σ.2.2.1.1, (σ.2.2.1.2.1, ((τ.2.1.1), σ.2.2.1.2.2.2))), σ.2.2.2))).2.2.1.1, ((σ.1, (σ.2.1, ((σ.2.2.1.1, (σ.2.2.1.2.1, ((τ.2.1.1), σ.2.2.1.2.2.2))), σ.2.2.2))).2.2.1.2.1, ((σ.1, (σ.2.1, ((σ.2.2.1.1, (σ.2.2.1.2.1, ((τ.2.1.1), σ.2.2.1.2.2.2))), σ.2.2.2))).2.2.1.2.2.1, (τ.2.1.2)))), (σ.1, (σ.2.1, ((σ.2.2.1.1, (σ.2.2.1.2.1, ((τ.2.1.1), σ.2.2.1.2.2.2))), σ.2.2.2))).2.2.2))).2.2.1, (((σ.1, (σ.2.1, ((σ.2.2.1.1, (σ.2.2.1.2.1, ((τ.2.1.1), σ.2.2.1.2.2.2))), σ.2.2.2))).1, ((σ.1, (σ.2.1, ((σ.2.2.1.1, (σ.2.2.1.2.1, ((τ.2.1.1), σ.2.2.1.2.2.2))), σ.2.2.2))).2.1, (((σ.1, (σ.2.1, ((σ.2.2.1.1, (σ.2.2.1.2.1, ((τ.2.1.1), σ.2.2.1.2.2.2))), σ.2.2.2))).2.2.1.1, ((σ.1, (σ.2.1, ((σ.2.2.1.1, (σ.2.2.1.2.1, ((τ.2.1.1), σ.2.2.1.2.2.2))), σ.2.2.2))).2.2.1.2.1, ((σ.1, (σ.2.1, ((σ.2.2.1.1, (σ.2.2.1.2.1, ((τ.2.1.1), σ.2.2.1.2.2.2))), σ.2.2.2))).2.2.1.2.2.1, (τ.2.1.2)))), (σ.1, (σ.2.1, ((σ.2.2.1.1, (σ.2.2.1.2.1, ((τ.2.1.1), σ.2.2.1.2.2.2))), σ.2.2.2))).2.2.2))).2.2.2.1, (((σ.1, (σ.2.1, ((σ.2.2.1.1, (σ.2.2.1.2.1, ((τ.2.1.1), σ.2.2.1.2.2.2))), σ.2.2.2))).1, ((σ.1, (σ.2.1, ((σ.2.2.1.1, (σ.2.2.1.2.1, ((τ.2.1.1), σ.2.2.1.2.2.2))), σ.2.2.2))).2.1, (((σ.1, (σ.2.1, ((σ.2.2.1.1, (σ.2.2.1.2.1, ((τ.2.1.1), σ.2.2.1.2.2.2))), σ.2.2.2))).2.2.1.1, ((σ.1, (σ.2.1, ((σ.2.2.1.1, (σ.2.2.1.2.1, ((τ.2.1.1), σ.2.2.1.2.2.2))), σ.2.2.2))).2.2.1.2.1, ((σ.1, (σ.2.1, ((σ.2.2.1.1, (σ.2.2.1.2.1, ((τ.2.1.1), σ.2.2.1.2.2.2))), σ.2.2.2))).2.2.1.2.2.1, (τ.2.1.2)))), (σ.1, (σ.2.1, ((σ.2.2.1.1, (σ.2.2.1.2.1, ((τ.2.1.1), σ.2.2.1.2.2.2))), σ.2.2.2))).2.2.2))).2.2.2.2.1, (((σ.1, (σ.2.1, ((σ.2.2.1.1, (σ.2.2.1.2.1, ((τ.2.1.1), σ.2.2.1.2.2.2))), σ.2.2.2))).1, ((σ.1, (σ.2.1, ((σ.2.2.1.1, (σ.2.2.1.2.1, ((τ.2.1.1), σ.2.2.1.2.2.2))), σ.2.2.2))).2.1, (((σ.1, (σ.2.1, ((σ.2.2.1.1, (σ.2.2.1.2.1, ((τ.2.1.1), σ.2.2.1.2.2.2))), σ.2.2.2))).2.2.1.1, ((σ.1, (σ.2.1, ((σ.2.2.1.1, (σ.2.2.1.2.1, ((τ.2.1.1), σ.2.2.1.2.2.2))), σ.2.2.2))).2.2.1.2.1, ((σ.1, (σ.2.1, ((σ.2.2.1.1, (σ.2.2.1.2.1, ((τ.2.1.1), σ.2.2.1.2.2.2))), σ.2.2.2))).2.2.1.2.2.1, (τ.2.1.2)))), (σ.1, (σ.2.1, ((σ.2.2.1.1, (σ.2.2.1.2.1, ((τ.2.1.1), σ.2.2.1.2.2.2))), σ.2.2.2))).2.2.2))).2.2.2.2.2.1, (((σ.1, (σ.2.1, ((σ.2.2.1.1, (σ.2.2.1.2.1, ((τ.2.1.1), σ.2.2.1.2.2.2))), σ.2.2.2))).1, ((σ.1, (σ.2.1, ((σ.2.2.1.1, (σ.2.2.1.2.1, ((τ.2.1.1), σ.2.2.1.2.2.2))), σ.2.2.2))).2.1, (((σ.1, (σ.2.1, ((σ.2.2.1.1, (σ.2.2.1.2.1, ((τ.2.1.1), σ.2.2.1.2.2.2))), σ.2.2.2))).2.2.1.1, ((σ.1, (σ.2.1, ((σ.2.2.1.1, (σ.2.2.1.2.1, ((τ.2.1.1), σ.2.2.1.2.2.2))), σ.2.2.2))).2.2.1.2.1, ((σ.1, (σ.2.1, ((σ.2.2.1.1, (σ.2.2.1.2.1, ((τ.2.1.1), σ.2.2.1.2.2.2))), σ.2.2.2))).2.2.1.2.2.1, (τ.2.1.2)))), (σ.1, (σ.2.1, ((σ.2.2.1.1, (σ.2.2.1.2.1, ((τ.2.1.1), σ.2.2.1.2.2.2))), σ.2.2.2))).2.2.2))).2.2.2.2.2.2.1, (fun i => if i = j1 then (τ.2.2) else ((σ.1, (σ.2.1, ((σ.2.2.1.1, (σ.2.2.1.2.1, ((τ.2.1.1), σ.2.2.1.2.2.2))), σ.2.2.2))).1, ((σ.1, (σ.2.1, ((σ.2.2.1.1, (σ.2.2.1.2.1, ((τ.2.1.1), σ.2.2.1.2.2.2))), σ.2.2.2))).2.1, (((σ.1, (σ.2.1, ((σ.2.2.1.1, (σ.2.2.1.2.1, ((τ.2.1.1), σ.2.2.1.2.2.2))), σ.2.2.2))).2.2.1.1, ((σ.1, (σ.2.1, ((σ.2.2.1.1, (σ.2.2.1.2.1, ((τ.2.1.1), σ.2.2.1.2.2.2))), σ.2.2.2))).2.2.1.2.1, ((σ.1, (σ.2.1, ((σ.2.2.1.1, (σ.2.2.1.2.1, ((τ.2.1.1), σ.2.2.1.2.2.2))), σ.2.2.2))).2.2.1.2.2.1, (τ.2.1.2)))), (σ.1, (σ.2.1, ((σ.2.2.1.1, (σ.2.2.1.2.1, ((τ.2.1.1), σ.2.2.1.2.2.2))), σ.2.2.2))).2.2.2))).2.2.2.2.2.2.2 i)))))))) := by
    show (((dg_X11 a ac σ).set 3 (dwo_X6 (fun k => a (k + 7)) (fun k => ac (k + 7)) (τ.2.1.1))).set 4 (dw_X10 (fun k => a (k + 17)) (fun k => ac (k + 17)) (τ.2.1.2))).set (29 + j1) (dw_X6 (fun k => a (k + j1 * 20 + 167)) (fun k => ac (k + j1 * 20 + 167)) (τ.2.2)) = _
    rw [e1, e2]
  have hz : va_P D vwCl (dg_X11 a ac (((σ.1, (σ.2.1, ((σ.2.2.1.1, (σ.2.2.1.2.1, ((τ.2.1.1), σ.2.2.1.2.2.2))), σ.2.2.2))).1, ((σ.1, (σ.2.1, ((σ.2.2.1.1, (σ.2.2.1.2.1, ((τ.2.1.1), σ.2.2.1.2.2.2))), σ.2.2.2))).2.1, (((σ.1, (σ.2.1, ((σ.2.2.1.1, (σ.2.2.1.2.1, ((τ.2.1.1), σ.2.2.1.2.2.2))), σ.2.2.2))).2.2.1.1, ((σ.1, (σ.2.1, ((σ.2.2.1.1, (σ.2.2.1.2.1, ((τ.2.1.1), σ.2.2.1.2.2.2))), σ.2.2.2))).2.2.1.2.1, ((σ.1, (σ.2.1, ((σ.2.2.1.1, (σ.2.2.1.2.1, ((τ.2.1.1), σ.2.2.1.2.2.2))), σ.2.2.2))).2.2.1.2.2.1, (τ.2.1.2)))), (σ.1, (σ.2.1, ((σ.2.2.1.1, (σ.2.2.1.2.1, ((τ.2.1.1), σ.2.2.1.2.2.2))), σ.2.2.2))).2.2.2))).1, (((σ.1, (σ.2.1, ((σ.2.2.1.1, (σ.2.2.1.2.1, ((τ.2.1.1), σ.2.2.1.2.2.2))), σ.2.2.2))).1, ((σ.1, (σ.2.1, ((σ.2.2.1.1, (σ.2.2.1.2.1, ((τ.2.1.1), σ.2.2.1.2.2.2))), σ.2.2.2))).2.1, (((σ.1, (σ.2.1, ((σ.2.2.1.1, (σ.2.2.1.2.1, ((τ.2.1.1), σ.2.2.1.2.2.2))), σ.2.2.2))).2.2.1.1, ((σ.1, (σ.2.1, ((σ.2.2.1.1, (σ.2.2.1.2.1, ((τ.2.1.1), σ.2.2.1.2.2.2))), σ.2.2.2))).2.2.1.2.1, ((σ.1, (σ.2.1, ((σ.2.2.1.1, (σ.2.2.1.2.1, ((τ.2.1.1), σ.2.2.1.2.2.2))), σ.2.2.2))).2.2.1.2.2.1, (τ.2.1.2)))), (σ.1, (σ.2.1, ((σ.2.2.1.1, (σ.2.2.1.2.1, ((τ.2.1.1), σ.2.2.1.2.2.2))), σ.2.2.2))).2.2.2))).2.1, (((σ.1, (σ.2.1, ((σ.2.2.1.1, (σ.2.2.1.2.1, ((τ.2.1.1), σ.2.2.1.2.2.2))), σ.2.2.2))).1, ((σ.1, (σ.2.1, ((σ.2.2.1.1, (σ.2.2.1.2.1, ((τ.2.1.1), σ.2.2.1.2.2.2))), σ.2.2.2))).2.1, (((σ.1, (σ.2.1, ((σ.2.2.1.1, (σ.2.2.1.2.1, ((τ.2.1.1), σ.2.2.1.2.2.2))), σ.2.2.2))).2.2.1.1, ((σ.1, (σ.2.1, ((σ.2.2.1.1, (σ.2.2.1.2.1, ((τ.2.1.1), σ.2.2.1.2.2.2))), σ.2.2.2))).2.2.1.2.1, ((σ.1, (σ.2.1, ((σ.2.2.1.1, (σ.2.2.1.2.1, ((τ.2.1.1), σ.2.2.1.2.2.2))), σ.2.2.2))).2.2.1.2.2.1, (τ.2.1.2)))), (σ.1, (σ.2.1, ((σ.2.2.1.1, (σ.2.2.1.2.1, ((τ.2.1.1), σ.2.2.1.2.2.2))), σ.2.2.2))).2.2.2))).2.2.1, (((σ.1, (σ.2.1, ((σ.2.2.1.1, (σ.2.2.1.2.1, ((τ.2.1.1), σ.2.2.1.2.2.2))), σ.2.2.2))).1, ((σ.1, (σ.2.1, ((σ.2.2.1.1, (σ.2.2.1.2.1, ((τ.2.1.1), σ.2.2.1.2.2.2))), σ.2.2.2))).2.1, (((σ.1, (σ.2.1, ((σ.2.2.1.1, (σ.2.2.1.2.1, ((τ.2.1.1), σ.2.2.1.2.2.2))), σ.2.2.2))).2.2.1.1, ((σ.1, (σ.2.1, ((σ.2.2.1.1, (σ.2.2.1.2.1, ((τ.2.1.1), σ.2.2.1.2.2.2))), σ.2.2.2))).2.2.1.2.1, ((σ.1, (σ.2.1, ((σ.2.2.1.1, (σ.2.2.1.2.1, ((τ.2.1.1), σ.2.2.1.2.2.2))), σ.2.2.2))).2.2.1.2.2.1, (τ.2.1.2)))), (σ.1, (σ.2.1, ((σ.2.2.1.1, (σ.2.2.1.2.1, ((τ.2.1.1), σ.2.2.1.2.2.2))), σ.2.2.2))).2.2.2))).2.2.2.1, (((σ.1, (σ.2.1, ((σ.2.2.1.1, (σ.2.2.1.2.1, ((τ.2.1.1), σ.2.2.1.2.2.2))), σ.2.2.2))).1, ((σ.1, (σ.2.1, ((σ.2.2.1.1, (σ.2.2.1.2.1, ((τ.2.1.1), σ.2.2.1.2.2.2))), σ.2.2.2))).2.1, (((σ.1, (σ.2.1, ((σ.2.2.1.1, (σ.2.2.1.2.1, ((τ.2.1.1), σ.2.2.1.2.2.2))), σ.2.2.2))).2.2.1.1, ((σ.1, (σ.2.1, ((σ.2.2.1.1, (σ.2.2.1.2.1, ((τ.2.1.1), σ.2.2.1.2.2.2))), σ.2.2.2))).2.2.1.2.1, ((σ.1, (σ.2.1, ((σ.2.2.1.1, (σ.2.2.1.2.1, ((τ.2.1.1), σ.2.2.1.2.2.2))), σ.2.2.2))).2.2.1.2.2.1, (τ.2.1.2)))), (σ.1, (σ.2.1, ((σ.2.2.1.1, (σ.2.2.1.2.1, ((τ.2.1.1), σ.2.2.1.2.2.2))), σ.2.2.2))).2.2.2))).2.2.2.2.1, (((σ.1, (σ.2.1, ((σ.2.2.1.1, (σ.2.2.1.2.1, ((τ.2.1.1), σ.2.2.1.2.2.2))), σ.2.2.2))).1, ((σ.1, (σ.2.1, ((σ.2.2.1.1, (σ.2.2.1.2.1, ((τ.2.1.1), σ.2.2.1.2.2.2))), σ.2.2.2))).2.1, (((σ.1, (σ.2.1, ((σ.2.2.1.1, (σ.2.2.1.2.1, ((τ.2.1.1), σ.2.2.1.2.2.2))), σ.2.2.2))).2.2.1.1, ((σ.1, (σ.2.1, ((σ.2.2.1.1, (σ.2.2.1.2.1, ((τ.2.1.1), σ.2.2.1.2.2.2))), σ.2.2.2))).2.2.1.2.1, ((σ.1, (σ.2.1, ((σ.2.2.1.1, (σ.2.2.1.2.1, ((τ.2.1.1), σ.2.2.1.2.2.2))), σ.2.2.2))).2.2.1.2.2.1, (τ.2.1.2)))), (σ.1, (σ.2.1, ((σ.2.2.1.1, (σ.2.2.1.2.1, ((τ.2.1.1), σ.2.2.1.2.2.2))), σ.2.2.2))).2.2.2))).2.2.2.2.2.1, (((σ.1, (σ.2.1, ((σ.2.2.1.1, (σ.2.2.1.2.1, ((τ.2.1.1), σ.2.2.1.2.2.2))), σ.2.2.2))).1, ((σ.1, (σ.2.1, ((σ.2.2.1.1, (σ.2.2.1.2.1, ((τ.2.1.1), σ.2.2.1.2.2.2))), σ.2.2.2))).2.1, (((σ.1, (σ.2.1, ((σ.2.2.1.1, (σ.2.2.1.2.1, ((τ.2.1.1), σ.2.2.1.2.2.2))), σ.2.2.2))).2.2.1.1, ((σ.1, (σ.2.1, ((σ.2.2.1.1, (σ.2.2.1.2.1, ((τ.2.1.1), σ.2.2.1.2.2.2))), σ.2.2.2))).2.2.1.2.1, ((σ.1, (σ.2.1, ((σ.2.2.1.1, (σ.2.2.1.2.1, ((τ.2.1.1), σ.2.2.1.2.2.2))), σ.2.2.2))).2.2.1.2.2.1, (τ.2.1.2)))), (σ.1, (σ.2.1, ((σ.2.2.1.1, (σ.2.2.1.2.1, ((τ.2.1.1), σ.2.2.1.2.2.2))), σ.2.2.2))).2.2.2))).2.2.2.2.2.2.1, (fun i => if i = j1 then (τ.2.2) else ((σ.1, (σ.2.1, ((σ.2.2.1.1, (σ.2.2.1.2.1, ((τ.2.1.1), σ.2.2.1.2.2.2))), σ.2.2.2))).1, ((σ.1, (σ.2.1, ((σ.2.2.1.1, (σ.2.2.1.2.1, ((τ.2.1.1), σ.2.2.1.2.2.2))), σ.2.2.2))).2.1, (((σ.1, (σ.2.1, ((σ.2.2.1.1, (σ.2.2.1.2.1, ((τ.2.1.1), σ.2.2.1.2.2.2))), σ.2.2.2))).2.2.1.1, ((σ.1, (σ.2.1, ((σ.2.2.1.1, (σ.2.2.1.2.1, ((τ.2.1.1), σ.2.2.1.2.2.2))), σ.2.2.2))).2.2.1.2.1, ((σ.1, (σ.2.1, ((σ.2.2.1.1, (σ.2.2.1.2.1, ((τ.2.1.1), σ.2.2.1.2.2.2))), σ.2.2.2))).2.2.1.2.2.1, (τ.2.1.2)))), (σ.1, (σ.2.1, ((σ.2.2.1.1, (σ.2.2.1.2.1, ((τ.2.1.1), σ.2.2.1.2.2.2))), σ.2.2.2))).2.2.2))).2.2.2.2.2.2.2 i))))))))).flatten H1 := by rw [← ee]; exact h
  exact ⟨hz, nd_Da hD dA_X11⟩
def ow_dm_X11_restore : List Cond := Cond.code yX11_restore cX11_restore 2 none :: ([Cond.fieldLink RX11 30 "TimeMachine$Timeline" "machine" "LTimeMachine$Machine;", Cond.fieldLink RX11 48 "TimeMachine$Timeline" "copy" "[LTimeMachine$Machine;", Cond.methodLink RX11 94 yX6_become, Cond.instanceMethod yX6_become, Cond.selects RX6 yX6_become yX6_become, Cond.initialized RX6, Cond.fieldLink RX11 52 "TimeMachine$Timeline" "copyAt" "[I", Cond.fieldLink RX11 72 "TimeMachine$Timeline" "now" "I", Cond.fieldLink RX11 20 "TimeMachine$Timeline" "events" "LTimeMachine$Events;", Cond.methodLink RX11 186 yX3_recordedBefore, Cond.instanceMethod yX3_recordedBefore, Cond.selects RX3 yX3_recordedBefore yX3_recordedBefore, Cond.initialized RX3, Cond.fieldLink RX11 79 "TimeMachine$Timeline" "came" "I", Cond.methodLink RX11 113 yX11_takeRecorded, Cond.instanceMethod yX11_takeRecorded, Cond.selects RX11 yX11_takeRecorded yX11_takeRecorded, Cond.initialized RX11] ++ (u_ws RX11 TX11 16 ++ (ow_dm_X6_become ++ (ow_dm_X3_recordedBefore ++ (ow_dm_X11_takeRecorded ++ [])))))
theorem gd_dm_X11_restore : ∀ w ∈ ow_dm_X11_restore, (w.onTables && w.keeps) = true ∨ ∃ ty, w = Cond.arrayClass ty := List.forall_mem_cons.mpr ⟨good_of_word rfl, List.forall_mem_append.mpr ⟨fun w h => good_of_word (List.all_eq_true.mp (by decide +kernel) w h), List.forall_mem_append.mpr ⟨gu_X11, List.forall_mem_append.mpr ⟨gd_dm_X6_become, List.forall_mem_append.mpr ⟨gd_dm_X3_recordedBefore, List.forall_mem_append.mpr ⟨gd_dm_X11_takeRecorded, fun _ h => nomatch h⟩⟩⟩⟩⟩⟩
theorem hi_dm_X11_restore_X11 : ∀ w ∈ u_ws RX11 TX11 16, w ∈ ow_dm_X11_restore := fun w h => List.mem_cons_of_mem _ (List.mem_append_right _ (List.mem_append_left _ h))
theorem gi_dm_X11_restore_0 : GoodIn ow_dm_X11_restore (wsV RX11 94 RX6 yX6_become ow_dm_X6_become) := goodIn_app (goodIn_of _ (by decide +kernel)) (fun w h => ⟨List.mem_cons_of_mem _ (List.mem_append_right _ (List.mem_append_right _ (List.mem_append_left _ h))), gd_dm_X6_become w h⟩)
theorem gi_dm_X11_restore_1 : GoodIn ow_dm_X11_restore (wsV RX11 186 RX3 yX3_recordedBefore ow_dm_X3_recordedBefore) := goodIn_app (goodIn_of _ (by decide +kernel)) (fun w h => ⟨List.mem_cons_of_mem _ (List.mem_append_right _ (List.mem_append_right _ (List.mem_append_right _ (List.mem_append_left _ h)))), gd_dm_X3_recordedBefore w h⟩)
theorem gi_dm_X11_restore_2 : GoodIn ow_dm_X11_restore (wsV RX11 113 RX11 yX11_takeRecorded ow_dm_X11_takeRecorded) := goodIn_app (goodIn_of _ (by decide +kernel)) (fun w h => ⟨List.mem_cons_of_mem _ (List.mem_append_right _ (List.mem_append_right _ (List.mem_append_right _ (List.mem_append_right _ (List.mem_append_left _ h))))), gd_dm_X11_takeRecorded w h⟩)
def dj_X11_restore_0 (p : Program) (l : Launch) (e : Env) (s : State) (m : MethodId) (args : Array Value) (below : List Frame) (meth : Method) (c : Code) (Q : State → Prop) (A : Nat → Prop) (dC : Nat → ClassId) (dI : Nat → Nat → Nat) (a : Nat → Nat) (ac : Nat → ClassId) (g : Int32 → (St × Rw × (St × (St × (St × (St)))) × (St) × (St) × (Nat → St) × (Nat → St) × (Nat → St × (St))) → Option (St × Rw × (St × (St × (St × (St)))) × (St) × (St) × (Nat → St) × (Nat → St) × (Nat → St × (St)))) (r : St × Rw × (St × (St × (St × (St)))) × (St) × (St) × (Nat → St) × (Nat → St) × (Nat → St × (St))) : Prop := ∀ (v0 : Int32) (s0 : St × Rw × (St × (St × (St × (St)))) × (St) × (St) × (Nat → St) × (Nat → St) × (Nat → St × (St))) (H : Heap) (locs : List Loc) (ls : Array Slot), g v0 s0 = some r → va_P (dC, dI) vwCl (dw_X11 a ac s0) H → va_D A (dw_X11 a ac s0) → va_S A s.heap H locs → lv_has ls 2 [(0, .ref (a 0)), (1, .int v0)] → W p l e (headSpec ow_dm_X11_restore ({ frames := 5, cells := 0, slots := 0, locals := 115 })).room s m args below meth c H locs 0 0 Q (F0 m 0 ls [])
set_option maxHeartbeats 40000000 in
set_option maxRecDepth 100000 in
theorem db_X11_restore_0 {p : Program} {l : Launch} {e : Env} {s : State} {m : MethodId} {args : Array Value} {below : List Frame} {meth : Method} {c : Code} {Q : State → Prop} {A : Nat → Prop} {dC : Nat → ClassId} {dI : Nat → Nat → Nat} {a : Nat → Nat} {ac : Nat → ClassId} {n : Nat} {r : St × Rw × (St × (St × (St × (St)))) × (St) × (St) × (Nat → St) × (Nat → St) × (Nat → St × (St))} (C : nd_C p l s m args c A (dC, dI) cX11_restore 2 RX11 ow_dm_X11_restore (dk_X11 ac)) (K : nd_Kv p l e (headSpec ow_dm_X11_restore ({ frames := 5, cells := 0, slots := 0, locals := 115 })).room s m args below meth c Q A (dC, dI) cX11_restore (St × Rw × (St × (St × (St × (St)))) × (St) × (St) × (Nat → St) × (Nat → St) × (Nat → St × (St))) (dw_X11 a ac) r) : dj_X11_restore_0 p l e s m args below meth c Q A dC dI a ac (df_X11_restore_0 n) r := by
  obtain ⟨hlt, hx, hb, hml, hown, hts, hN, hA, hK⟩ := id C
  intro v0 s0 H locs ls h hP hD hS hl
  unfold df_X11_restore_0 at h
  refine lv_aload_n hx hb dX11_restore_0 rfl (lv_at hl 0 rfl) ?_
  refine va_get (D := (dC, dI)) (ci := 12) (v := .ref (a 7)) (C := RX11) (T := TX11) (N := 16) hx hb hts hi_dm_X11_restore_X11 hown hK hP 0 rfl rfl 3 (by decide) (hts (.fieldLink RX11 30 "TimeMachine$Timeline" "machine" "LTimeMachine$Machine;") (List.mem_of_getElem? (i := 1) rfl)) (fun _ h9 => h9) rfl dX11_restore_1 ?_
  refine lv_aload_n hx hb dX11_restore_4 rfl (lv_at hl 0 rfl) ?_
  refine va_get (D := (dC, dI)) (ci := 12) (v := .ref (a 40)) (C := RX11) (T := TX11) (N := 16) hx hb hts hi_dm_X11_restore_X11 hown hK hP 0 rfl rfl 7 (by decide) (hts (.fieldLink RX11 48 "TimeMachine$Timeline" "copy" "[LTimeMachine$Machine;") (List.mem_of_getElem? (i := 2) rfl)) (fun _ h9 => h9) rfl dX11_restore_5 ?_
  refine lv_iload_n hx hb dX11_restore_8 rfl (lv_at hl 1 rfl) ?_
  obtain ⟨i1, h⟩ := nd_ck_e h
  refine va_aldq (i := v0) hx hb hK hP 40 33 rfl rfl i1 dX11_restore_9 ?_
  cases hrj2 : s0.2.1 3 (Int32.toNatClampNeg v0) with
  | none =>
    have h := nd_mN h hrj2
    refine W.eq (g2 := F0 m 10 ls [.null, .ref (a 7)]) (by first | rfl | (show F0 m _ ls (va_rf (Option.map (fun j => a (0 + j * 20 + 167)) (s0.2.1 3 (Int32.toNatClampNeg v0))) :: _) = _; rw [hrj2]; rfl)) ?_
    exact nomatch h
  | some j2 =>
    have h := nd_mS h hrj2
    refine W.eq (g2 := F0 m 10 ls [.ref (a (0 + j2 * 20 + 167)), .ref (a 7)]) (by first | rfl | (show F0 m _ ls (va_rf (Option.map (fun j => a (0 + j * 20 + 167)) (s0.2.1 3 (Int32.toNatClampNeg v0))) :: _) = _; rw [hrj2]; rfl)) ?_
    obtain ⟨l3, h⟩ := nd_lt_e h
    obtain ⟨s5, hq, h⟩ := nd_b1_e h
    have hPc := dp_wX11_X6m_9 l3 hP
    have hDc := dd_wX11_X6m_9 l3 hD
    have hKc := dy_wX11_X6m_9 l3 hK
    have hFc := nd_rs hDc hS hA
    have hzA : ∀ q : Nat, H.size ≤ q → A q := fun q h => hA q (Nat.le_trans hS.1 h)
    refine nd_cVv (As := [.ref (a (0 + j2 * 20 + 167))]) (rest := []) (w' := dw_X6m (fun k => a (if k < 20 then k - 0 + 7 else k - 20 + j2 * 20 + 167)) (fun k => ac (if k < 20 then k - 0 + 7 else k - 20 + j2 * 20 + 167)) s5) ⟨hx, hb, hml, hown, hts⟩ (fun sz => dm_X6_become l hlt dC dI (fun k => a (if k < 20 then k - 0 + 7 else k - 20 + j2 * 20 + 167)) (fun k => ac (if k < 20 then k - 0 + 7 else k - 20 + j2 * 20 + 167)) n  (nd_st0, s0.2.2.1.2.2, (s0.2.2.2.2.2.2.2 j2)) hq sz) (cwV 1 hts gi_dm_X11_restore_0 rfl rfl rfl (by decide +kernel) ⟨Nat.le_of_ble_eq_true rfl, Nat.le_of_ble_eq_true rfl⟩) hPc hDc hKc hS hA hN (va_recv hKc hPc (ci := 7) (q0 := 0) rfl rfl) rfl hl.1 rfl (Nat.le_of_ble_eq_true rfl) dX11_restore_10 (fun H locs hP1 hD1 hk1 hS => ?_)
    obtain ⟨hP, hD⟩ := dn_wX11_X6m_9 l3 hP hD hzA hk1 hP1 hD1
    obtain ⟨s7, es7, h⟩ := nd_let_e h
    have hP : va_P (dC, dI) vwCl (dw_X11 a ac s7) H := by rw [es7]; exact hP
    have hD : va_D A (dw_X11 a ac s7) := by rw [es7]; exact hD
    refine lv_aload_n hx hb dX11_restore_13 rfl (lv_at hl 0 rfl) ?_
    refine lv_aload_n hx hb dX11_restore_14 rfl (lv_at hl 0 rfl) ?_
    refine va_get (D := (dC, dI)) (ci := 12) (v := .ref (a 2)) (C := RX11) (T := TX11) (N := 16) hx hb hts hi_dm_X11_restore_X11 hown hK hP 0 rfl rfl 8 (by decide) (hts (.fieldLink RX11 52 "TimeMachine$Timeline" "copyAt" "[I") (List.mem_of_getElem? (i := 7) rfl)) (fun _ h9 => h9) rfl dX11_restore_15 ?_
    refine lv_iload_n hx hb dX11_restore_18 rfl (lv_at hl 1 rfl) ?_
    obtain ⟨i8, h⟩ := nd_ck_e h
    refine va_iald (i := v0) hx hb hK hP 2 1 rfl rfl i8 dX11_restore_19 ?_
    refine va_put (D := (dC, dI)) (ci := 12) (v := .int (sR s7.1 1 (Int32.toNatClampNeg v0))) (ty := .int) (C := RX11) (T := TX11) (N := 16) hx hb hts hi_dm_X11_restore_X11 tyX11 tyX11_ok nmX11 hown hK hP hD hS 0 rfl rfl 11 (by decide) (hts (.fieldLink RX11 72 "TimeMachine$Timeline" "now" "I") (List.mem_of_getElem? (i := 8) rfl)) (fun _ h9 => h9) rfl (by decide +kernel) rfl rfl (Nat.le_of_ble_eq_true rfl) dX11_restore_20 (fun H locs hP hD hS => ?_)
    obtain ⟨s9, es9, h⟩ := nd_let_e h
    have hP : va_P (dC, dI) vwCl (dw_X11 a ac s9) H := by rw [es9]; exact hP
    have hD : va_D A (dw_X11 a ac s9) := by rw [es9]; exact hD
    refine lv_aload_n hx hb dX11_restore_23 rfl (lv_at hl 0 rfl) ?_
    refine lv_aload_n hx hb dX11_restore_24 rfl (lv_at hl 0 rfl) ?_
    by_cases o10 : sO s9.1 0 = some 27
    · have h := nd_pos h o10
      refine va_get (D := (dC, dI)) (ci := 12) (v := .ref (a 27)) (C := RX11) (T := TX11) (N := 16) hx hb hts hi_dm_X11_restore_X11 hown hK hP 0 rfl rfl 1 (by decide) (hts (.fieldLink RX11 20 "TimeMachine$Timeline" "events" "LTimeMachine$Events;") (List.mem_of_getElem? (i := 9) rfl)) (fun _ h9 => h9) (congrArg (fun z => some (va_rf (Option.map a z))) o10) dX11_restore_25 ?_
      refine lv_aload_n hx hb dX11_restore_28 rfl (lv_at hl 0 rfl) ?_
      refine va_get (D := (dC, dI)) (ci := 12) (v := .int (sI s9.1 3)) (C := RX11) (T := TX11) (N := 16) hx hb hts hi_dm_X11_restore_X11 hown hK hP 0 rfl rfl 11 (by decide) (hts (.fieldLink RX11 72 "TimeMachine$Timeline" "now" "I") (List.mem_of_getElem? (i := 8) rfl)) (fun _ h9 => h9) rfl dX11_restore_29 ?_
      obtain ⟨q11, s12, hq, h⟩ := nd_b2_e h
      have hPc := dp_wX11_X3c_5 hP
      have hDc := dd_wX11_X3c_5 hD
      have hKc := dy_wX11_X3c_5 hK
      have hFc := nd_rs hDc hS hA
      have hzA : ∀ q : Nat, H.size ≤ q → A q := fun q h => hA q (Nat.le_trans hS.1 h)
      refine nd_cVi (As := [.int (sI s9.1 3)]) (rest := [.ref (a 0)]) (q := q11) (w' := dw_X3c (fun k => a (k + 27)) (fun k => ac (k + 27)) s12) ⟨hx, hb, hml, hown, hts⟩ (fun sz => dm_X3_recordedBefore l hlt dC dI (fun k => a (k + 27)) (fun k => ac (k + 27)) n ((sI s9.1 3)) s9.2.2.2.1 hq sz) (cwV 1 hts gi_dm_X11_restore_1 rfl rfl rfl (by decide +kernel) ⟨Nat.le_of_ble_eq_true rfl, Nat.le_of_ble_eq_true rfl⟩) hPc hDc hKc hS hA hN (va_recv hKc hPc (ci := 4) (q0 := 0) rfl rfl) rfl hl.1 rfl (Nat.le_of_ble_eq_true rfl) dX11_restore_32 (fun H locs hP1 hD1 hk1 hS => ?_)
      obtain ⟨hP, hD⟩ := dn_wX11_X3c_5 hP hD hzA hk1 hP1 hD1
      obtain ⟨s14, es14, h⟩ := nd_let_e h
      have hP : va_P (dC, dI) vwCl (dw_X11 a ac s14) H := by rw [es14]; exact hP
      have hD : va_D A (dw_X11 a ac s14) := by rw [es14]; exact hD
      have o10 : sO s14.1 0 = some 27 := by rw [es14]; exact o10
      refine va_put (D := (dC, dI)) (ci := 12) (v := .int q11) (ty := .int) (C := RX11) (T := TX11) (N := 16) hx hb hts hi_dm_X11_restore_X11 tyX11 tyX11_ok nmX11 hown hK hP hD hS 0 rfl rfl 13 (by decide) (hts (.fieldLink RX11 79 "TimeMachine$Timeline" "came" "I") (List.mem_of_getElem? (i := 14) rfl)) (fun _ h9 => h9) rfl (by decide +kernel) rfl rfl (Nat.le_of_ble_eq_true rfl) dX11_restore_35 (fun H locs hP hD hS => ?_)
      obtain ⟨s15, es15, h⟩ := nd_let_e h
      have hP : va_P (dC, dI) vwCl (dw_X11 a ac s15) H := by rw [es15]; exact hP
      have hD : va_D A (dw_X11 a ac s15) := by rw [es15]; exact hD
      have o10 : sO s15.1 0 = some 27 := by rw [es15]; exact o10
      refine lv_aload_n hx hb dX11_restore_38 rfl (lv_at hl 0 rfl) ?_
      obtain ⟨s17, hq, h⟩ := nd_b1_e h
      have hPc := hP
      have hDc := hD
      have hKc := hK
      have hFc := nd_rs hD hS hA
      refine nd_cVv (As := []) (rest := []) (w' := dw_X11 a ac s17) ⟨hx, hb, hml, hown, hts⟩ (fun sz => dm_X11_takeRecorded l hlt dC dI a ac n  s15 hq sz) (cwV 0 hts gi_dm_X11_restore_2 rfl rfl rfl (by decide +kernel) ⟨Nat.le_of_ble_eq_true rfl, Nat.le_of_ble_eq_true rfl⟩) hPc hDc hKc hS hA hN (va_recv hKc hPc (ci := 12) (q0 := 0) rfl rfl) rfl hl.1 rfl (Nat.le_of_ble_eq_true rfl) dX11_restore_39 (fun H locs hP1 hD1 hk1 hS => ?_)
      have hP := hP1
      have hD := hD1.weaken (fun k q _ h => hFc q.1 h)
      exact K _ _ _ _ _ dX11_restore_42 (Option.some.inj h).symm hP hD hS
    have h := nd_neg h o10
    by_cases o19 : sO s9.1 0 = some 32
    · have h := nd_pos h o19
      refine va_get (D := (dC, dI)) (ci := 12) (v := .ref (a 32)) (C := RX11) (T := TX11) (N := 16) hx hb hts hi_dm_X11_restore_X11 hown hK hP 0 rfl rfl 1 (by decide) (hts (.fieldLink RX11 20 "TimeMachine$Timeline" "events" "LTimeMachine$Events;") (List.mem_of_getElem? (i := 9) rfl)) (fun _ h9 => h9) (congrArg (fun z => some (va_rf (Option.map a z))) o19) dX11_restore_25 ?_
      refine lv_aload_n hx hb dX11_restore_28 rfl (lv_at hl 0 rfl) ?_
      refine va_get (D := (dC, dI)) (ci := 12) (v := .int (sI s9.1 3)) (C := RX11) (T := TX11) (N := 16) hx hb hts hi_dm_X11_restore_X11 hown hK hP 0 rfl rfl 11 (by decide) (hts (.fieldLink RX11 72 "TimeMachine$Timeline" "now" "I") (List.mem_of_getElem? (i := 8) rfl)) (fun _ h9 => h9) rfl dX11_restore_29 ?_
      obtain ⟨q20, s21, hq, h⟩ := nd_b2_e h
      have hPc := dp_wX11_X3c_7 hP
      have hDc := dd_wX11_X3c_7 hD
      have hKc := dy_wX11_X3c_7 hK
      have hFc := nd_rs hDc hS hA
      have hzA : ∀ q : Nat, H.size ≤ q → A q := fun q h => hA q (Nat.le_trans hS.1 h)
      refine nd_cVi (As := [.int (sI s9.1 3)]) (rest := [.ref (a 0)]) (q := q20) (w' := dw_X3c (fun k => a (k + 32)) (fun k => ac (k + 32)) s21) ⟨hx, hb, hml, hown, hts⟩ (fun sz => dm_X3_recordedBefore l hlt dC dI (fun k => a (k + 32)) (fun k => ac (k + 32)) n ((sI s9.1 3)) s9.2.2.2.2.1 hq sz) (cwV 1 hts gi_dm_X11_restore_1 rfl rfl rfl (by decide +kernel) ⟨Nat.le_of_ble_eq_true rfl, Nat.le_of_ble_eq_true rfl⟩) hPc hDc hKc hS hA hN (va_recv hKc hPc (ci := 4) (q0 := 0) rfl rfl) rfl hl.1 rfl (Nat.le_of_ble_eq_true rfl) dX11_restore_32 (fun H locs hP1 hD1 hk1 hS => ?_)
      obtain ⟨hP, hD⟩ := dn_wX11_X3c_7 hP hD hzA hk1 hP1 hD1
      obtain ⟨s23, es23, h⟩ := nd_let_e h
      have hP : va_P (dC, dI) vwCl (dw_X11 a ac s23) H := by rw [es23]; exact hP
      have hD : va_D A (dw_X11 a ac s23) := by rw [es23]; exact hD
      have o19 : sO s23.1 0 = some 32 := by rw [es23]; exact o19
      refine va_put (D := (dC, dI)) (ci := 12) (v := .int q20) (ty := .int) (C := RX11) (T := TX11) (N := 16) hx hb hts hi_dm_X11_restore_X11 tyX11 tyX11_ok nmX11 hown hK hP hD hS 0 rfl rfl 13 (by decide) (hts (.fieldLink RX11 79 "TimeMachine$Timeline" "came" "I") (List.mem_of_getElem? (i := 14) rfl)) (fun _ h9 => h9) rfl (by decide +kernel) rfl rfl (Nat.le_of_ble_eq_true rfl) dX11_restore_35 (fun H locs hP hD hS => ?_)
      obtain ⟨s24, es24, h⟩ := nd_let_e h
      have hP : va_P (dC, dI) vwCl (dw_X11 a ac s24) H := by rw [es24]; exact hP
      have hD : va_D A (dw_X11 a ac s24) := by rw [es24]; exact hD
      have o19 : sO s24.1 0 = some 32 := by rw [es24]; exact o19
      refine lv_aload_n hx hb dX11_restore_38 rfl (lv_at hl 0 rfl) ?_
      obtain ⟨s26, hq, h⟩ := nd_b1_e h
      have hPc := hP
      have hDc := hD
      have hKc := hK
      have hFc := nd_rs hD hS hA
      refine nd_cVv (As := []) (rest := []) (w' := dw_X11 a ac s26) ⟨hx, hb, hml, hown, hts⟩ (fun sz => dm_X11_takeRecorded l hlt dC dI a ac n  s24 hq sz) (cwV 0 hts gi_dm_X11_restore_2 rfl rfl rfl (by decide +kernel) ⟨Nat.le_of_ble_eq_true rfl, Nat.le_of_ble_eq_true rfl⟩) hPc hDc hKc hS hA hN (va_recv hKc hPc (ci := 12) (q0 := 0) rfl rfl) rfl hl.1 rfl (Nat.le_of_ble_eq_true rfl) dX11_restore_39 (fun H locs hP1 hD1 hk1 hS => ?_)
      have hP := hP1
      have hD := hD1.weaken (fun k q _ h => hFc q.1 h)
      exact K _ _ _ _ _ dX11_restore_42 (Option.some.inj h).symm hP hD hS
    have h := nd_neg h o19
    exact nomatch h
set_option maxHeartbeats 40000000 in
set_option maxRecDepth 100000 in
theorem dm_X11_restore (l : Launch) (hlt : l.stackTraces = false) (dC : Nat → ClassId) (dI : Nat → Nat → Nat) (a : Nat → Nat) (ac : Nat → ClassId) (n : Nat) (v0 : Int32) (s0 : St × Rw × (St × (St × (St × (St)))) × (St) × (St) × (Nat → St) × (Nat → St) × (Nat → St × (St))) {r : St × Rw × (St × (St × (St × (St)))) × (St) × (St) × (Nat → St) × (Nat → St) × (Nat → St × (St))} (h : df_X11_restore n v0 s0 = some r) (sz : Nat) : Met l yX11_restore ow_dm_X11_restore ({ frames := 5, cells := 0, slots := 0, locals := 115 }) (va_Pc [.ref (a 0), .int v0] (fun U => U.heap.size = sz ∧ va_P (dC, dI) vwCl (dw_X11 a ac s0) U.heap ∧ va_K (dC, dI) vwCl (dk_X11 ac) U ∧ va_D (fun _ => True) (dw_X11 a ac s0) ∧ nv_E dI (va_A (dw_X11 a ac s0) sz) U)) (va_Qv (fun _ => True) (fun (_ : Unit) t => va_P (dC, dI) vwCl (dw_X11 a ac r) t.heap ∧ va_K (dC, dI) vwCl (dk_X11 ac) t ∧ va_D (va_A (dw_X11 a ac s0) sz) (dw_X11 a ac r)) (va_A (dw_X11 a ac s0) sz)) 0 0 (va_A (dw_X11 a ac s0) sz) := by
  refine Met.ofW (cc := cX11_restore) (maxL := 2) (ret := none) (by decide) rfl ?_
  intro p e s m args below meth c s₁ B hml hv
  obtain ⟨rfl, hsz, hP, hK, hD0, hN⟩ := hv
  have hx := B.exec
  have hb := B.bytes
  have hr := B.returns
  have hts := atoms_spec (ws := ow_dm_X11_restore) B.pre
  have hown : s.vm.findClass RX11 = some m.cls := findClass_of_methodNamed B.named
  have hlocks := B.notSynchronized
  subst hsz
  have hD := hD0.self (sz := s.heap.size)
  generalize hAe : va_A (dw_X11 a ac s0) s.heap.size = A at hD hN ⊢
  have hA : ∀ q : Nat, s.heap.size ≤ q → A q := fun q h => by rw [← hAe]; exact Or.inr h
  have hl := lv_entry ([.ref (a 0), .int v0]) (n := 2) (Nat.le_of_ble_eq_true rfl)
  rw [lg_entry_eq]
  generalize (lg_sl ([.ref (a 0), .int v0]) ++ List.replicate (2 - (lg_sl ([.ref (a 0), .int v0])).length) Slot.unset).toArray = ls at hl ⊢
  have hl : lv_has ls 2 [(0, .ref (a 0)), (1, .int v0)] := hl
  exact db_X11_restore_0 (dC := dC) (dI := dI) (a := a) (ac := ac) (n := n) (r := r) ⟨hlt, hx, hb, hml, hown, hts, hN, hA, hK⟩ (fun pc τ H locs ls d er hP hD hS => by subst er; exact W.vret hx hb hr (fun t ht hW => ⟨⟨(), rfl, trivial, by rw [ht]; exact hP, va_K.moved hW.alike hK, hD⟩, hS.F ht⟩) hS.2.2 d) v0 s0 _ _ _ h hP hD va_S.rf (lv_sub hl [0, 1] rfl)
def ow_dm_X11_moveTo : List Cond := Cond.code yX11_moveTo cX11_moveTo 4 none :: ([Cond.methodLink RX11 178 yX11_copyUpTo, Cond.instanceMethod yX11_copyUpTo, Cond.selects RX11 yX11_copyUpTo yX11_copyUpTo, Cond.initialized RX11, Cond.fieldLink RX11 72 "TimeMachine$Timeline" "now" "I", Cond.methodLink RX11 182 yX11_restore, Cond.instanceMethod yX11_restore, Cond.selects RX11 yX11_restore yX11_restore, Cond.methodLink RX11 155 yX11_advance, Cond.instanceMethod yX11_advance, Cond.selects RX11 yX11_advance yX11_advance, Cond.fieldLink RX11 52 "TimeMachine$Timeline" "copyAt" "[I"] ++ (u_ws RX11 TX11 16 ++ (ow_dm_X11_copyUpTo ++ (ow_dm_X11_restore ++ (ow_dm_X11_advance ++ [])))))
theorem gd_dm_X11_moveTo : ∀ w ∈ ow_dm_X11_moveTo, (w.onTables && w.keeps) = true ∨ ∃ ty, w = Cond.arrayClass ty := List.forall_mem_cons.mpr ⟨good_of_word rfl, List.forall_mem_append.mpr ⟨fun w h => good_of_word (List.all_eq_true.mp (by decide +kernel) w h), List.forall_mem_append.mpr ⟨gu_X11, List.forall_mem_append.mpr ⟨gd_dm_X11_copyUpTo, List.forall_mem_append.mpr ⟨gd_dm_X11_restore, List.forall_mem_append.mpr ⟨gd_dm_X11_advance, fun _ h => nomatch h⟩⟩⟩⟩⟩⟩
theorem hi_dm_X11_moveTo_X11 : ∀ w ∈ u_ws RX11 TX11 16, w ∈ ow_dm_X11_moveTo := fun w h => List.mem_cons_of_mem _ (List.mem_append_right _ (List.mem_append_left _ h))
theorem gi_dm_X11_moveTo_0 : GoodIn ow_dm_X11_moveTo (wsV RX11 178 RX11 yX11_copyUpTo ow_dm_X11_copyUpTo) := goodIn_app (goodIn_of _ (by decide +kernel)) (fun w h => ⟨List.mem_cons_of_mem _ (List.mem_append_right _ (List.mem_append_right _ (List.mem_append_left _ h))), gd_dm_X11_copyUpTo w h⟩)
theorem gi_dm_X11_moveTo_1 : GoodIn ow_dm_X11_moveTo (wsV RX11 182 RX11 yX11_restore ow_dm_X11_restore) := goodIn_app (goodIn_of _ (by decide +kernel)) (fun w h => ⟨List.mem_cons_of_mem _ (List.mem_append_right _ (List.mem_append_right _ (List.mem_append_right _ (List.mem_append_left _ h)))), gd_dm_X11_restore w h⟩)
theorem gi_dm_X11_moveTo_2 : GoodIn ow_dm_X11_moveTo (wsV RX11 155 RX11 yX11_advance ow_dm_X11_advance) := goodIn_app (goodIn_of _ (by decide +kernel)) (fun w h => ⟨List.mem_cons_of_mem _ (List.mem_append_right _ (List.mem_append_right _ (List.mem_append_right _ (List.mem_append_right _ (List.mem_append_left _ h))))), gd_dm_X11_advance w h⟩)
def dj_X11_moveTo_39 (p : Program) (l : Launch) (e : Env) (s : State) (m : MethodId) (args : Array Value) (below : List Frame) (meth : Method) (c : Code) (Q : State → Prop) (A : Nat → Prop) (dC : Nat → ClassId) (dI : Nat → Nat → Nat) (a : Nat → Nat) (ac : Nat → ClassId) (g : Int32 → (St × Rw × (St × (St × (St × (St)))) × (St) × (St) × (Nat → St) × (Nat → St) × (Nat → St × (St))) → Option (St × Rw × (St × (St × (St × (St)))) × (St) × (St) × (Nat → St) × (Nat → St) × (Nat → St × (St)))) (r : St × Rw × (St × (St × (St × (St)))) × (St) × (St) × (Nat → St) × (Nat → St) × (Nat → St × (St))) : Prop := ∀ (x3 : Int32) (s0 : St × Rw × (St × (St × (St × (St)))) × (St) × (St) × (Nat → St) × (Nat → St) × (Nat → St × (St))) (H : Heap) (locs : List Loc) (ls : Array Slot), g x3 s0 = some r → va_P (dC, dI) vwCl (dw_X11 a ac s0) H → va_D A (dw_X11 a ac s0) → va_S A s.heap H locs → lv_has ls 4 [(0, .ref (a 0)), (3, .int x3)] → W p l e (headSpec ow_dm_X11_moveTo ({ frames := 8, cells := 0, slots := 0, locals := 182 })).room s m args below meth c H locs 0 0 Q (F0 m 39 ls [])
def dj_X11_moveTo_32 (p : Program) (l : Launch) (e : Env) (s : State) (m : MethodId) (args : Array Value) (below : List Frame) (meth : Method) (c : Code) (Q : State → Prop) (A : Nat → Prop) (dC : Nat → ClassId) (dI : Nat → Nat → Nat) (a : Nat → Nat) (ac : Nat → ClassId) (g : Int32 → (St × Rw × (St × (St × (St × (St)))) × (St) × (St) × (Nat → St) × (Nat → St) × (Nat → St × (St))) → Option (St × Rw × (St × (St × (St × (St)))) × (St) × (St) × (Nat → St) × (Nat → St) × (Nat → St × (St)))) (r : St × Rw × (St × (St × (St × (St)))) × (St) × (St) × (Nat → St) × (Nat → St) × (Nat → St × (St))) : Prop := ∀ (x1 : Int32) (s0 : St × Rw × (St × (St × (St × (St)))) × (St) × (St) × (Nat → St) × (Nat → St) × (Nat → St × (St))) (H : Heap) (locs : List Loc) (ls : Array Slot), g x1 s0 = some r → va_P (dC, dI) vwCl (dw_X11 a ac s0) H → va_D A (dw_X11 a ac s0) → va_S A s.heap H locs → lv_has ls 4 [(0, .ref (a 0)), (1, .int x1)] → W p l e (headSpec ow_dm_X11_moveTo ({ frames := 8, cells := 0, slots := 0, locals := 182 })).room s m args below meth c H locs 0 0 Q (F0 m 32 ls [])
def dj_X11_moveTo_27 (p : Program) (l : Launch) (e : Env) (s : State) (m : MethodId) (args : Array Value) (below : List Frame) (meth : Method) (c : Code) (Q : State → Prop) (A : Nat → Prop) (dC : Nat → ClassId) (dI : Nat → Nat → Nat) (a : Nat → Nat) (ac : Nat → ClassId) (g : Int32 → Int32 → (St × Rw × (St × (St × (St × (St)))) × (St) × (St) × (Nat → St) × (Nat → St) × (Nat → St × (St))) → Option (St × Rw × (St × (St × (St × (St)))) × (St) × (St) × (Nat → St) × (Nat → St) × (Nat → St × (St)))) (r : St × Rw × (St × (St × (St × (St)))) × (St) × (St) × (Nat → St) × (Nat → St) × (Nat → St × (St))) : Prop := ∀ (x1 : Int32) (x2 : Int32) (s0 : St × Rw × (St × (St × (St × (St)))) × (St) × (St) × (Nat → St) × (Nat → St) × (Nat → St × (St))) (H : Heap) (locs : List Loc) (ls : Array Slot), g x1 x2 s0 = some r → va_P (dC, dI) vwCl (dw_X11 a ac s0) H → va_D A (dw_X11 a ac s0) → va_S A s.heap H locs → lv_has ls 4 [(0, .ref (a 0)), (1, .int x1), (2, .int x2)] → W p l e (headSpec ow_dm_X11_moveTo ({ frames := 8, cells := 0, slots := 0, locals := 182 })).room s m args below meth c H locs 0 0 Q (F0 m 27 ls [])
def dj_X11_moveTo_0 (p : Program) (l : Launch) (e : Env) (s : State) (m : MethodId) (args : Array Value) (below : List Frame) (meth : Method) (c : Code) (Q : State → Prop) (A : Nat → Prop) (dC : Nat → ClassId) (dI : Nat → Nat → Nat) (a : Nat → Nat) (ac : Nat → ClassId) (g : Int32 → (St × Rw × (St × (St × (St × (St)))) × (St) × (St) × (Nat → St) × (Nat → St) × (Nat → St × (St))) → Option (St × Rw × (St × (St × (St × (St)))) × (St) × (St) × (Nat → St) × (Nat → St) × (Nat → St × (St)))) (r : St × Rw × (St × (St × (St × (St)))) × (St) × (St) × (Nat → St) × (Nat → St) × (Nat → St × (St))) : Prop := ∀ (v0 : Int32) (s0 : St × Rw × (St × (St × (St × (St)))) × (St) × (St) × (Nat → St) × (Nat → St) × (Nat → St × (St))) (H : Heap) (locs : List Loc) (ls : Array Slot), g v0 s0 = some r → va_P (dC, dI) vwCl (dw_X11 a ac s0) H → va_D A (dw_X11 a ac s0) → va_S A s.heap H locs → lv_has ls 4 [(0, .ref (a 0)), (1, .int v0)] → W p l e (headSpec ow_dm_X11_moveTo ({ frames := 8, cells := 0, slots := 0, locals := 182 })).room s m args below meth c H locs 0 0 Q (F0 m 0 ls [])
set_option maxHeartbeats 40000000 in
set_option maxRecDepth 100000 in
theorem dB_X11_moveTo_39 {p : Program} {l : Launch} {e : Env} {s : State} {m : MethodId} {args : Array Value} {below : List Frame} {meth : Method} {c : Code} {Q : State → Prop} {A : Nat → Prop} {dC : Nat → ClassId} {dI : Nat → Nat → Nat} {a : Nat → Nat} {ac : Nat → ClassId} {n : Nat} {r : St × Rw × (St × (St × (St × (St)))) × (St) × (St) × (Nat → St) × (Nat → St) × (Nat → St × (St))} (C : nd_C p l s m args c A (dC, dI) cX11_moveTo 4 RX11 ow_dm_X11_moveTo (dk_X11 ac)) (K : nd_Kv p l e (headSpec ow_dm_X11_moveTo ({ frames := 8, cells := 0, slots := 0, locals := 182 })).room s m args below meth c Q A (dC, dI) cX11_moveTo (St × Rw × (St × (St × (St × (St)))) × (St) × (St) × (Nat → St) × (Nat → St) × (Nat → St × (St))) (dw_X11 a ac) r) {g39 : Int32 → (St × Rw × (St × (St × (St × (St)))) × (St) × (St) × (Nat → St) × (Nat → St) × (Nat → St × (St))) → Option (St × Rw × (St × (St × (St × (St)))) × (St) × (St) × (Nat → St) × (Nat → St) × (Nat → St × (St)))} (J39 : dj_X11_moveTo_39 p l e s m args below meth c Q A dC dI a ac g39 r) : dj_X11_moveTo_39 p l e s m args below meth c Q A dC dI a ac (dF_X11_moveTo_39 n g39) r := by
  obtain ⟨hlt, hx, hb, hml, hown, hts, hN, hA, hK⟩ := id C
  intro x3 s0 H locs ls h hP hD hS hl
  unfold dF_X11_moveTo_39 at h
  refine lv_iload_n hx hb dX11_moveTo_39 rfl (lv_at hl 1 rfl) ?_
  refine lv_if_le (tgt := 53) hx hb dX11_moveTo_40 (by decide) (fun c9 => ?_) (fun c9 => ?_)
  · have h := nd_pos h c9
    exact K _ _ _ _ _ dX11_moveTo_53 (Option.some.inj h).symm hP hD hS
  · have h := nd_neg h c9
    refine lv_aload_n hx hb dX11_moveTo_43 rfl (lv_at hl 0 rfl) ?_
    obtain ⟨s11, hq, h⟩ := nd_b1_e h
    have hPc := hP
    have hDc := hD
    have hKc := hK
    have hFc := nd_rs hD hS hA
    refine nd_cVv (As := []) (rest := []) (w' := dw_X11 a ac s11) ⟨hx, hb, hml, hown, hts⟩ (fun sz => dm_X11_advance l hlt dC dI a ac n  s0 hq sz) (cwV 0 hts gi_dm_X11_moveTo_2 rfl rfl rfl (by decide +kernel) ⟨Nat.le_of_ble_eq_true rfl, Nat.le_of_ble_eq_true rfl⟩) hPc hDc hKc hS hA hN (va_recv hKc hPc (ci := 12) (q0 := 0) rfl rfl) rfl hl.1 rfl (Nat.le_of_ble_eq_true rfl) dX11_moveTo_44 (fun H locs hP1 hD1 hk1 hS => ?_)
    have hP := hP1
    have hD := hD1.weaken (fun k q _ h => hFc q.1 h)
    obtain ⟨z13, ez13, h⟩ := nd_let_e h
    refine lv_iinc (v := z13) (lv' := [(3, .int z13), (0, .ref (a 0))]) hx hb dX11_moveTo_47 hl (k := 1) rfl (by rw [ez13]) (by decide) rfl (fun ls hl => ?_)
    refine lv_goto (tgt := 39) hx hb dX11_moveTo_50 (by decide) ?_
    exact (J39) (z13) s11 _ _ _ h hP hD hS (lv_sub hl [1, 0] rfl)
set_option maxHeartbeats 40000000 in
set_option maxRecDepth 100000 in
theorem db_X11_moveTo_39 {p : Program} {l : Launch} {e : Env} {s : State} {m : MethodId} {args : Array Value} {below : List Frame} {meth : Method} {c : Code} {Q : State → Prop} {A : Nat → Prop} {dC : Nat → ClassId} {dI : Nat → Nat → Nat} {a : Nat → Nat} {ac : Nat → ClassId} {n : Nat} {r : St × Rw × (St × (St × (St × (St)))) × (St) × (St) × (Nat → St) × (Nat → St) × (Nat → St × (St))} (C : nd_C p l s m args c A (dC, dI) cX11_moveTo 4 RX11 ow_dm_X11_moveTo (dk_X11 ac)) (K : nd_Kv p l e (headSpec ow_dm_X11_moveTo ({ frames := 8, cells := 0, slots := 0, locals := 182 })).room s m args below meth c Q A (dC, dI) cX11_moveTo (St × Rw × (St × (St × (St × (St)))) × (St) × (St) × (Nat → St) × (Nat → St) × (Nat → St × (St))) (dw_X11 a ac) r) (k : Nat) : dj_X11_moveTo_39 p l e s m args below meth c Q A dC dI a ac (df_X11_moveTo_39 n k) r := by
  induction k with
  | zero => intro x3 s0 H locs ls h; exact nomatch (show (none : Option (St × Rw × (St × (St × (St × (St)))) × (St) × (St) × (Nat → St) × (Nat → St) × (Nat → St × (St)))) = some r from h)
  | succ k ih => exact dB_X11_moveTo_39 C K ih
set_option maxHeartbeats 40000000 in
set_option maxRecDepth 100000 in
theorem db_X11_moveTo_32 {p : Program} {l : Launch} {e : Env} {s : State} {m : MethodId} {args : Array Value} {below : List Frame} {meth : Method} {c : Code} {Q : State → Prop} {A : Nat → Prop} {dC : Nat → ClassId} {dI : Nat → Nat → Nat} {a : Nat → Nat} {ac : Nat → ClassId} {n : Nat} {r : St × Rw × (St × (St × (St × (St)))) × (St) × (St) × (Nat → St) × (Nat → St) × (Nat → St × (St))} (C : nd_C p l s m args c A (dC, dI) cX11_moveTo 4 RX11 ow_dm_X11_moveTo (dk_X11 ac)) (K : nd_Kv p l e (headSpec ow_dm_X11_moveTo ({ frames := 8, cells := 0, slots := 0, locals := 182 })).room s m args below meth c Q A (dC, dI) cX11_moveTo (St × Rw × (St × (St × (St × (St)))) × (St) × (St) × (Nat → St) × (Nat → St) × (Nat → St × (St))) (dw_X11 a ac) r) : dj_X11_moveTo_32 p l e s m args below meth c Q A dC dI a ac (df_X11_moveTo_32 n) r := by
  obtain ⟨hlt, hx, hb, hml, hown, hts, hN, hA, hK⟩ := id C
  intro x1 s0 H locs ls h hP hD hS hl
  unfold df_X11_moveTo_32 at h
  refine lv_iload_n hx hb dX11_moveTo_32 rfl (lv_at hl 1 rfl) ?_
  refine lv_aload_n hx hb dX11_moveTo_33 rfl (lv_at hl 0 rfl) ?_
  refine va_get (D := (dC, dI)) (ci := 12) (v := .int (sI s0.1 3)) (C := RX11) (T := TX11) (N := 16) hx hb hts hi_dm_X11_moveTo_X11 hown hK hP 0 rfl rfl 11 (by decide) (hts (.fieldLink RX11 72 "TimeMachine$Timeline" "now" "I") (List.mem_of_getElem? (i := 5) rfl)) (fun _ h9 => h9) rfl dX11_moveTo_34 ?_
  refine lv_isub hx hb dX11_moveTo_37 ?_
  refine lv_topi (fun z8 ez8 => ?_)
  have h := nd_at h ez8
  refine lv_istore_n (lv' := [(3, .int z8), (0, .ref (a 0)), (1, .int x1)]) hx hb dX11_moveTo_38 rfl hl (by decide) rfl (fun ls hl => ?_)
  exact (db_X11_moveTo_39 C K n) (z8) s0 _ _ _ h hP hD hS (lv_sub hl [1, 0] rfl)
set_option maxHeartbeats 40000000 in
set_option maxRecDepth 100000 in
theorem db_X11_moveTo_27 {p : Program} {l : Launch} {e : Env} {s : State} {m : MethodId} {args : Array Value} {below : List Frame} {meth : Method} {c : Code} {Q : State → Prop} {A : Nat → Prop} {dC : Nat → ClassId} {dI : Nat → Nat → Nat} {a : Nat → Nat} {ac : Nat → ClassId} {n : Nat} {r : St × Rw × (St × (St × (St × (St)))) × (St) × (St) × (Nat → St) × (Nat → St) × (Nat → St × (St))} (C : nd_C p l s m args c A (dC, dI) cX11_moveTo 4 RX11 ow_dm_X11_moveTo (dk_X11 ac)) (K : nd_Kv p l e (headSpec ow_dm_X11_moveTo ({ frames := 8, cells := 0, slots := 0, locals := 182 })).room s m args below meth c Q A (dC, dI) cX11_moveTo (St × Rw × (St × (St × (St × (St)))) × (St) × (St) × (Nat → St) × (Nat → St) × (Nat → St × (St))) (dw_X11 a ac) r) : dj_X11_moveTo_27 p l e s m args below meth c Q A dC dI a ac (df_X11_moveTo_27 n) r := by
  obtain ⟨hlt, hx, hb, hml, hown, hts, hN, hA, hK⟩ := id C
  intro x1 x2 s0 H locs ls h hP hD hS hl
  unfold df_X11_moveTo_27 at h
  refine lv_aload_n hx hb dX11_moveTo_27 rfl (lv_at hl 0 rfl) ?_
  refine lv_iload_n hx hb dX11_moveTo_28 rfl (lv_at hl 2 rfl) ?_
  obtain ⟨s6, hq, h⟩ := nd_b1_e h
  have hPc := hP
  have hDc := hD
  have hKc := hK
  have hFc := nd_rs hD hS hA
  refine nd_cVv (As := [.int x2]) (rest := []) (w' := dw_X11 a ac s6) ⟨hx, hb, hml, hown, hts⟩ (fun sz => dm_X11_restore l hlt dC dI a ac n (x2) s0 hq sz) (cwV 1 hts gi_dm_X11_moveTo_1 rfl rfl rfl (by decide +kernel) ⟨Nat.le_of_ble_eq_true rfl, Nat.le_of_ble_eq_true rfl⟩) hPc hDc hKc hS hA hN (va_recv hKc hPc (ci := 12) (q0 := 0) rfl rfl) rfl hl.1 rfl (Nat.le_of_ble_eq_true rfl) dX11_moveTo_29 (fun H locs hP1 hD1 hk1 hS => ?_)
  have hP := hP1
  have hD := hD1.weaken (fun k q _ h => hFc q.1 h)
  exact (db_X11_moveTo_32 C K) (x1) s6 _ _ _ h hP hD hS (lv_sub hl [0, 1] rfl)
set_option maxHeartbeats 40000000 in
set_option maxRecDepth 100000 in
theorem db_X11_moveTo_0 {p : Program} {l : Launch} {e : Env} {s : State} {m : MethodId} {args : Array Value} {below : List Frame} {meth : Method} {c : Code} {Q : State → Prop} {A : Nat → Prop} {dC : Nat → ClassId} {dI : Nat → Nat → Nat} {a : Nat → Nat} {ac : Nat → ClassId} {n : Nat} {r : St × Rw × (St × (St × (St × (St)))) × (St) × (St) × (Nat → St) × (Nat → St) × (Nat → St × (St))} (C : nd_C p l s m args c A (dC, dI) cX11_moveTo 4 RX11 ow_dm_X11_moveTo (dk_X11 ac)) (K : nd_Kv p l e (headSpec ow_dm_X11_moveTo ({ frames := 8, cells := 0, slots := 0, locals := 182 })).room s m args below meth c Q A (dC, dI) cX11_moveTo (St × Rw × (St × (St × (St × (St)))) × (St) × (St) × (Nat → St) × (Nat → St) × (Nat → St × (St))) (dw_X11 a ac) r) : dj_X11_moveTo_0 p l e s m args below meth c Q A dC dI a ac (df_X11_moveTo_0 n) r := by
  obtain ⟨hlt, hx, hb, hml, hown, hts, hN, hA, hK⟩ := id C
  intro v0 s0 H locs ls h hP hD hS hl
  unfold df_X11_moveTo_0 at h
  refine lv_aload_n hx hb dX11_moveTo_0 rfl (lv_at hl 0 rfl) ?_
  refine lv_iload_n hx hb dX11_moveTo_1 rfl (lv_at hl 1 rfl) ?_
  obtain ⟨q1, s2, hq, h⟩ := nd_b2_e h
  have hPc := hP
  have hDc := hD
  have hKc := hK
  have hFc := nd_rs hD hS hA
  refine nd_cVi (As := [.int v0]) (rest := []) (q := q1) (w' := dw_X11 a ac s2) ⟨hx, hb, hml, hown, hts⟩ (fun sz => dm_X11_copyUpTo l hlt dC dI a ac n (v0) s0 hq sz) (cwV 1 hts gi_dm_X11_moveTo_0 rfl rfl rfl (by decide +kernel) ⟨Nat.le_of_ble_eq_true rfl, Nat.le_of_ble_eq_true rfl⟩) hPc hDc hKc hS hA hN (va_recv hKc hPc (ci := 12) (q0 := 0) rfl rfl) rfl hl.1 rfl (Nat.le_of_ble_eq_true rfl) dX11_moveTo_2 (fun H locs hP1 hD1 hk1 hS => ?_)
  have hP := hP1
  have hD := hD1.weaken (fun k q _ h => hFc q.1 h)
  refine lv_istore_n (lv' := [(2, .int q1), (0, .ref (a 0)), (1, .int v0)]) hx hb dX11_moveTo_5 rfl hl (by decide) rfl (fun ls hl => ?_)
  refine lv_iload_n hx hb dX11_moveTo_6 rfl (lv_at hl 2 rfl) ?_
  refine lv_aload_n hx hb dX11_moveTo_7 rfl (lv_at hl 1 rfl) ?_
  refine va_get (D := (dC, dI)) (ci := 12) (v := .int (sI s2.1 3)) (C := RX11) (T := TX11) (N := 16) hx hb hts hi_dm_X11_moveTo_X11 hown hK hP 0 rfl rfl 11 (by decide) (hts (.fieldLink RX11 72 "TimeMachine$Timeline" "now" "I") (List.mem_of_getElem? (i := 5) rfl)) (fun _ h9 => h9) rfl dX11_moveTo_8 ?_
  refine lv_icmp_lt (tgt := 27) hx hb dX11_moveTo_11 (by decide) (fun c4 => ?_) (fun c4 => ?_)
  · have h := nd_pos h c4
    exact (db_X11_moveTo_27 C K) (v0) (q1) s2 _ _ _ h hP hD hS (lv_sub hl [1, 2, 0] rfl)
  · have h := nd_neg h c4
    refine lv_aload_n hx hb dX11_moveTo_14 rfl (lv_at hl 1 rfl) ?_
    refine va_get (D := (dC, dI)) (ci := 12) (v := .ref (a 2)) (C := RX11) (T := TX11) (N := 16) hx hb hts hi_dm_X11_moveTo_X11 hown hK hP 0 rfl rfl 8 (by decide) (hts (.fieldLink RX11 52 "TimeMachine$Timeline" "copyAt" "[I") (List.mem_of_getElem? (i := 12) rfl)) (fun _ h9 => h9) rfl dX11_moveTo_15 ?_
    refine lv_iload_n hx hb dX11_moveTo_18 rfl (lv_at hl 0 rfl) ?_
    obtain ⟨i14, h⟩ := nd_ck_e h
    refine va_iald (i := q1) hx hb hK hP 2 1 rfl rfl i14 dX11_moveTo_19 ?_
    refine lv_aload_n hx hb dX11_moveTo_20 rfl (lv_at hl 1 rfl) ?_
    refine va_get (D := (dC, dI)) (ci := 12) (v := .int (sI s2.1 3)) (C := RX11) (T := TX11) (N := 16) hx hb hts hi_dm_X11_moveTo_X11 hown hK hP 0 rfl rfl 11 (by decide) (hts (.fieldLink RX11 72 "TimeMachine$Timeline" "now" "I") (List.mem_of_getElem? (i := 5) rfl)) (fun _ h9 => h9) rfl dX11_moveTo_21 ?_
    refine lv_icmp_le (tgt := 32) hx hb dX11_moveTo_24 (by decide) (fun c15 => ?_) (fun c15 => ?_)
    · have h := nd_pos h c15
      exact (db_X11_moveTo_32 C K) (v0) s2 _ _ _ h hP hD hS (lv_sub hl [1, 2] rfl)
    · have h := nd_neg h c15
      exact (db_X11_moveTo_27 C K) (v0) (q1) s2 _ _ _ h hP hD hS (lv_sub hl [1, 2, 0] rfl)
set_option maxHeartbeats 40000000 in
set_option maxRecDepth 100000 in
theorem dm_X11_moveTo (l : Launch) (hlt : l.stackTraces = false) (dC : Nat → ClassId) (dI : Nat → Nat → Nat) (a : Nat → Nat) (ac : Nat → ClassId) (n : Nat) (v0 : Int32) (s0 : St × Rw × (St × (St × (St × (St)))) × (St) × (St) × (Nat → St) × (Nat → St) × (Nat → St × (St))) {r : St × Rw × (St × (St × (St × (St)))) × (St) × (St) × (Nat → St) × (Nat → St) × (Nat → St × (St))} (h : df_X11_moveTo n v0 s0 = some r) (sz : Nat) : Met l yX11_moveTo ow_dm_X11_moveTo ({ frames := 8, cells := 0, slots := 0, locals := 182 }) (va_Pc [.ref (a 0), .int v0] (fun U => U.heap.size = sz ∧ va_P (dC, dI) vwCl (dw_X11 a ac s0) U.heap ∧ va_K (dC, dI) vwCl (dk_X11 ac) U ∧ va_D (fun _ => True) (dw_X11 a ac s0) ∧ nv_E dI (va_A (dw_X11 a ac s0) sz) U)) (va_Qv (fun _ => True) (fun (_ : Unit) t => va_P (dC, dI) vwCl (dw_X11 a ac r) t.heap ∧ va_K (dC, dI) vwCl (dk_X11 ac) t ∧ va_D (va_A (dw_X11 a ac s0) sz) (dw_X11 a ac r)) (va_A (dw_X11 a ac s0) sz)) 0 0 (va_A (dw_X11 a ac s0) sz) := by
  refine Met.ofW (cc := cX11_moveTo) (maxL := 4) (ret := none) (by decide) rfl ?_
  intro p e s m args below meth c s₁ B hml hv
  obtain ⟨rfl, hsz, hP, hK, hD0, hN⟩ := hv
  have hx := B.exec
  have hb := B.bytes
  have hr := B.returns
  have hts := atoms_spec (ws := ow_dm_X11_moveTo) B.pre
  have hown : s.vm.findClass RX11 = some m.cls := findClass_of_methodNamed B.named
  have hlocks := B.notSynchronized
  subst hsz
  have hD := hD0.self (sz := s.heap.size)
  generalize hAe : va_A (dw_X11 a ac s0) s.heap.size = A at hD hN ⊢
  have hA : ∀ q : Nat, s.heap.size ≤ q → A q := fun q h => by rw [← hAe]; exact Or.inr h
  have hl := lv_entry ([.ref (a 0), .int v0]) (n := 4) (Nat.le_of_ble_eq_true rfl)
  rw [lg_entry_eq]
  generalize (lg_sl ([.ref (a 0), .int v0]) ++ List.replicate (4 - (lg_sl ([.ref (a 0), .int v0])).length) Slot.unset).toArray = ls at hl ⊢
  have hl : lv_has ls 4 [(0, .ref (a 0)), (1, .int v0)] := hl
  exact db_X11_moveTo_0 (dC := dC) (dI := dI) (a := a) (ac := ac) (n := n) (r := r) ⟨hlt, hx, hb, hml, hown, hts, hN, hA, hK⟩ (fun pc τ H locs ls d er hP hD hS => by subst er; exact W.vret hx hb hr (fun t ht hW => ⟨⟨(), rfl, trivial, by rw [ht]; exact hP, va_K.moved hW.alike hK, hD⟩, hS.F ht⟩) hS.2.2 d) v0 s0 _ _ _ h hP hD va_S.rf (lv_sub hl [0, 1] rfl)
def ow_dm_X11_forgetBehind : List Cond := Cond.code yX11_forgetBehind cX11_forgetBehind 2 (some .int) :: ([Cond.fieldLink RX11 76 "TimeMachine$Timeline" "end" "I", Cond.fieldLink RX11 72 "TimeMachine$Timeline" "now" "I", Cond.fieldLink RX11 20 "TimeMachine$Timeline" "events" "LTimeMachine$Events;", Cond.fieldLink RX11 79 "TimeMachine$Timeline" "came" "I", Cond.fieldLink RX11 116 "TimeMachine$Events" "recorded" "I", Cond.fieldLink RX11 137 "TimeMachine$Events" "total" "I", Cond.fieldLink RX11 82 "TimeMachine$Timeline" "missed" "Z", Cond.methodLink RX11 178 yX11_copyUpTo, Cond.instanceMethod yX11_copyUpTo, Cond.selects RX11 yX11_copyUpTo yX11_copyUpTo, Cond.initialized RX11, Cond.fieldLink RX11 85 "TimeMachine$Timeline" "copies" "I"] ++ (u_ws RX11 TX11 16 ++ (u_ws RX3 TX3 11 ++ (ow_dm_X11_copyUpTo ++ []))))
theorem gd_dm_X11_forgetBehind : ∀ w ∈ ow_dm_X11_forgetBehind, (w.onTables && w.keeps) = true ∨ ∃ ty, w = Cond.arrayClass ty := List.forall_mem_cons.mpr ⟨good_of_word rfl, List.forall_mem_append.mpr ⟨fun w h => good_of_word (List.all_eq_true.mp (by decide +kernel) w h), List.forall_mem_append.mpr ⟨gu_X11, List.forall_mem_append.mpr ⟨gu_X3, List.forall_mem_append.mpr ⟨gd_dm_X11_copyUpTo, fun _ h => nomatch h⟩⟩⟩⟩⟩
theorem hi_dm_X11_forgetBehind_X11 : ∀ w ∈ u_ws RX11 TX11 16, w ∈ ow_dm_X11_forgetBehind := fun w h => List.mem_cons_of_mem _ (List.mem_append_right _ (List.mem_append_left _ h))
theorem hi_dm_X11_forgetBehind_X3 : ∀ w ∈ u_ws RX3 TX3 11, w ∈ ow_dm_X11_forgetBehind := fun w h => List.mem_cons_of_mem _ (List.mem_append_right _ (List.mem_append_right _ (List.mem_append_left _ h)))
theorem gi_dm_X11_forgetBehind_0 : GoodIn ow_dm_X11_forgetBehind (wsV RX11 178 RX11 yX11_copyUpTo ow_dm_X11_copyUpTo) := goodIn_app (goodIn_of _ (by decide +kernel)) (fun w h => ⟨List.mem_cons_of_mem _ (List.mem_append_right _ (List.mem_append_right _ (List.mem_append_right _ (List.mem_append_left _ h)))), gd_dm_X11_copyUpTo w h⟩)
def dj_X11_forgetBehind_0 (p : Program) (l : Launch) (e : Env) (s : State) (m : MethodId) (args : Array Value) (below : List Frame) (meth : Method) (c : Code) (Q : State → Prop) (A : Nat → Prop) (dC : Nat → ClassId) (dI : Nat → Nat → Nat) (a : Nat → Nat) (ac : Nat → ClassId) (g : (St × Rw × (St × (St × (St × (St)))) × (St) × (St) × (Nat → St) × (Nat → St) × (Nat → St × (St))) → Option (Int32 × (St × Rw × (St × (St × (St × (St)))) × (St) × (St) × (Nat → St) × (Nat → St) × (Nat → St × (St))))) (r : Int32 × (St × Rw × (St × (St × (St × (St)))) × (St) × (St) × (Nat → St) × (Nat → St) × (Nat → St × (St)))) : Prop := ∀ (s0 : St × Rw × (St × (St × (St × (St)))) × (St) × (St) × (Nat → St) × (Nat → St) × (Nat → St × (St))) (H : Heap) (locs : List Loc) (ls : Array Slot), g s0 = some r → va_P (dC, dI) vwCl (dw_X11 a ac s0) H → va_D A (dw_X11 a ac s0) → va_S A s.heap H locs → lv_has ls 2 [(0, .ref (a 0))] → W p l e (headSpec ow_dm_X11_forgetBehind ({ frames := 2, cells := 0, slots := 0, locals := 35 })).room s m args below meth c H locs 0 0 Q (F0 m 0 ls [])
set_option maxHeartbeats 40000000 in
set_option maxRecDepth 100000 in
theorem db_X11_forgetBehind_0 {p : Program} {l : Launch} {e : Env} {s : State} {m : MethodId} {args : Array Value} {below : List Frame} {meth : Method} {c : Code} {Q : State → Prop} {A : Nat → Prop} {dC : Nat → ClassId} {dI : Nat → Nat → Nat} {a : Nat → Nat} {ac : Nat → ClassId} {n : Nat} {r : Int32 × (St × Rw × (St × (St × (St × (St)))) × (St) × (St) × (Nat → St) × (Nat → St) × (Nat → St × (St)))} (C : nd_C p l s m args c A (dC, dI) cX11_forgetBehind 2 RX11 ow_dm_X11_forgetBehind (dk_X11 ac)) (K : nd_Ki p l e (headSpec ow_dm_X11_forgetBehind ({ frames := 2, cells := 0, slots := 0, locals := 35 })).room s m args below meth c Q A (dC, dI) cX11_forgetBehind .int (St × Rw × (St × (St × (St × (St)))) × (St) × (St) × (Nat → St) × (Nat → St) × (Nat → St × (St))) (dw_X11 a ac) r) : dj_X11_forgetBehind_0 p l e s m args below meth c Q A dC dI a ac (df_X11_forgetBehind_0 n) r := by
  obtain ⟨hlt, hx, hb, hml, hown, hts, hN, hA, hK⟩ := id C
  intro s0 H locs ls h hP hD hS hl
  unfold df_X11_forgetBehind_0 at h
  refine lv_aload_n hx hb dX11_forgetBehind_0 rfl (lv_at hl 0 rfl) ?_
  refine va_get (D := (dC, dI)) (ci := 12) (v := .int (sI s0.1 4)) (C := RX11) (T := TX11) (N := 16) hx hb hts hi_dm_X11_forgetBehind_X11 hown hK hP 0 rfl rfl 12 (by decide) (hts (.fieldLink RX11 76 "TimeMachine$Timeline" "end" "I") (List.mem_of_getElem? (i := 1) rfl)) (fun _ h9 => h9) rfl dX11_forgetBehind_1 ?_
  refine lv_aload_n hx hb dX11_forgetBehind_4 rfl (lv_at hl 0 rfl) ?_
  refine va_get (D := (dC, dI)) (ci := 12) (v := .int (sI s0.1 3)) (C := RX11) (T := TX11) (N := 16) hx hb hts hi_dm_X11_forgetBehind_X11 hown hK hP 0 rfl rfl 11 (by decide) (hts (.fieldLink RX11 72 "TimeMachine$Timeline" "now" "I") (List.mem_of_getElem? (i := 2) rfl)) (fun _ h9 => h9) rfl dX11_forgetBehind_5 ?_
  refine lv_isub hx hb dX11_forgetBehind_8 ?_
  refine lv_topi (fun z1 ez1 => ?_)
  have h := nd_at h ez1
  refine lv_istore_n (lv' := [(1, .int z1), (0, .ref (a 0))]) hx hb dX11_forgetBehind_9 rfl hl (by decide) rfl (fun ls hl => ?_)
  refine lv_aload_n hx hb dX11_forgetBehind_10 rfl (lv_at hl 1 rfl) ?_
  refine lv_aload_n hx hb dX11_forgetBehind_11 rfl (lv_at hl 1 rfl) ?_
  refine va_get (D := (dC, dI)) (ci := 12) (v := .int (sI s0.1 3)) (C := RX11) (T := TX11) (N := 16) hx hb hts hi_dm_X11_forgetBehind_X11 hown hK hP 0 rfl rfl 11 (by decide) (hts (.fieldLink RX11 72 "TimeMachine$Timeline" "now" "I") (List.mem_of_getElem? (i := 2) rfl)) (fun _ h9 => h9) rfl dX11_forgetBehind_12 ?_
  refine va_put (D := (dC, dI)) (ci := 12) (v := .int (sI s0.1 3)) (ty := .int) (C := RX11) (T := TX11) (N := 16) hx hb hts hi_dm_X11_forgetBehind_X11 tyX11 tyX11_ok nmX11 hown hK hP hD hS 0 rfl rfl 12 (by decide) (hts (.fieldLink RX11 76 "TimeMachine$Timeline" "end" "I") (List.mem_of_getElem? (i := 1) rfl)) (fun _ h9 => h9) rfl (by decide +kernel) rfl rfl (Nat.le_of_ble_eq_true rfl) dX11_forgetBehind_15 (fun H locs hP hD hS => ?_)
  obtain ⟨s2, es2, h⟩ := nd_let_e h
  have hP : va_P (dC, dI) vwCl (dw_X11 a ac s2) H := by rw [es2]; exact hP
  have hD : va_D A (dw_X11 a ac s2) := by rw [es2]; exact hD
  refine lv_aload_n hx hb dX11_forgetBehind_18 rfl (lv_at hl 1 rfl) ?_
  by_cases o3 : sO s2.1 0 = some 27
  · have h := nd_pos h o3
    refine va_get (D := (dC, dI)) (ci := 12) (v := .ref (a 27)) (C := RX11) (T := TX11) (N := 16) hx hb hts hi_dm_X11_forgetBehind_X11 hown hK hP 0 rfl rfl 1 (by decide) (hts (.fieldLink RX11 20 "TimeMachine$Timeline" "events" "LTimeMachine$Events;") (List.mem_of_getElem? (i := 3) rfl)) (fun _ h9 => h9) (congrArg (fun z => some (va_rf (Option.map a z))) o3) dX11_forgetBehind_19 ?_
    refine lv_aload_n hx hb dX11_forgetBehind_22 rfl (lv_at hl 1 rfl) ?_
    refine va_get (D := (dC, dI)) (ci := 12) (v := .int (sI s2.1 5)) (C := RX11) (T := TX11) (N := 16) hx hb hts hi_dm_X11_forgetBehind_X11 hown hK hP 0 rfl rfl 13 (by decide) (hts (.fieldLink RX11 79 "TimeMachine$Timeline" "came" "I") (List.mem_of_getElem? (i := 4) rfl)) (fun _ h9 => h9) rfl dX11_forgetBehind_23 ?_
    refine va_put (D := (dC, dI)) (ci := 4) (v := .int (sI s2.1 5)) (ty := .int) (C := RX3) (T := TX3) (N := 11) hx hb hts hi_dm_X11_forgetBehind_X3 tyX3 tyX3_ok nmX3 hown hK hP hD hS 27 rfl rfl 4 (by decide) (hts (.fieldLink RX11 116 "TimeMachine$Events" "recorded" "I") (List.mem_of_getElem? (i := 5) rfl)) (fun _ h9 => h9) rfl (by decide +kernel) rfl rfl (Nat.le_of_ble_eq_true rfl) dX11_forgetBehind_26 (fun H locs hP hD hS => ?_)
    obtain ⟨s4, es4, h⟩ := nd_let_e h
    have hP : va_P (dC, dI) vwCl (dw_X11 a ac s4) H := by rw [es4]; exact hP
    have hD : va_D A (dw_X11 a ac s4) := by rw [es4]; exact hD
    have o3 : sO s4.1 0 = some 27 := by rw [es4]; exact o3
    refine lv_aload_n hx hb dX11_forgetBehind_29 rfl (lv_at hl 1 rfl) ?_
    refine va_get (D := (dC, dI)) (ci := 12) (v := .ref (a 27)) (C := RX11) (T := TX11) (N := 16) hx hb hts hi_dm_X11_forgetBehind_X11 hown hK hP 0 rfl rfl 1 (by decide) (hts (.fieldLink RX11 20 "TimeMachine$Timeline" "events" "LTimeMachine$Events;") (List.mem_of_getElem? (i := 3) rfl)) (fun _ h9 => h9) (congrArg (fun z => some (va_rf (Option.map a z))) o3) dX11_forgetBehind_30 ?_
    refine lv_aload_n hx hb dX11_forgetBehind_33 rfl (lv_at hl 1 rfl) ?_
    refine va_get (D := (dC, dI)) (ci := 12) (v := .int (sI s4.1 5)) (C := RX11) (T := TX11) (N := 16) hx hb hts hi_dm_X11_forgetBehind_X11 hown hK hP 0 rfl rfl 13 (by decide) (hts (.fieldLink RX11 79 "TimeMachine$Timeline" "came" "I") (List.mem_of_getElem? (i := 4) rfl)) (fun _ h9 => h9) rfl dX11_forgetBehind_34 ?_
    refine va_put (D := (dC, dI)) (ci := 4) (v := .int (sI s4.1 5)) (ty := .int) (C := RX3) (T := TX3) (N := 11) hx hb hts hi_dm_X11_forgetBehind_X3 tyX3 tyX3_ok nmX3 hown hK hP hD hS 27 rfl rfl 5 (by decide) (hts (.fieldLink RX11 137 "TimeMachine$Events" "total" "I") (List.mem_of_getElem? (i := 6) rfl)) (fun _ h9 => h9) rfl (by decide +kernel) rfl rfl (Nat.le_of_ble_eq_true rfl) dX11_forgetBehind_37 (fun H locs hP hD hS => ?_)
    obtain ⟨s5, es5, h⟩ := nd_let_e h
    have hP : va_P (dC, dI) vwCl (dw_X11 a ac s5) H := by rw [es5]; exact hP
    have hD : va_D A (dw_X11 a ac s5) := by rw [es5]; exact hD
    have o3 : sO s5.1 0 = some 27 := by rw [es5]; exact o3
    refine lv_aload_n hx hb dX11_forgetBehind_40 rfl (lv_at hl 1 rfl) ?_
    refine lv_iconst (v := 0) hx hb dX11_forgetBehind_41 (by decide) ?_
    refine va_put (D := (dC, dI)) (ci := 12) (v := .int 0) (ty := .boolean) (C := RX11) (T := TX11) (N := 16) hx hb hts hi_dm_X11_forgetBehind_X11 tyX11 tyX11_ok nmX11 hown hK hP hD hS 0 rfl rfl 14 (by decide) (hts (.fieldLink RX11 82 "TimeMachine$Timeline" "missed" "Z") (List.mem_of_getElem? (i := 7) rfl)) (fun _ h9 => h9) rfl (by decide +kernel) (by first | rfl | decide) rfl (Nat.le_of_ble_eq_true rfl) dX11_forgetBehind_42 (fun H locs hP hD hS => ?_)
    obtain ⟨s6, es6, h⟩ := nd_let_e h
    have hP : va_P (dC, dI) vwCl (dw_X11 a ac s6) H := by rw [es6]; exact hP
    have hD : va_D A (dw_X11 a ac s6) := by rw [es6]; exact hD
    have o3 : sO s6.1 0 = some 27 := by rw [es6]; exact o3
    refine lv_aload_n hx hb dX11_forgetBehind_45 rfl (lv_at hl 1 rfl) ?_
    refine lv_aload_n hx hb dX11_forgetBehind_46 rfl (lv_at hl 1 rfl) ?_
    refine lv_aload_n hx hb dX11_forgetBehind_47 rfl (lv_at hl 1 rfl) ?_
    refine va_get (D := (dC, dI)) (ci := 12) (v := .int (sI s6.1 3)) (C := RX11) (T := TX11) (N := 16) hx hb hts hi_dm_X11_forgetBehind_X11 hown hK hP 0 rfl rfl 11 (by decide) (hts (.fieldLink RX11 72 "TimeMachine$Timeline" "now" "I") (List.mem_of_getElem? (i := 2) rfl)) (fun _ h9 => h9) rfl dX11_forgetBehind_48 ?_
    obtain ⟨q7, s8, hq, h⟩ := nd_b2_e h
    have hPc := hP
    have hDc := hD
    have hKc := hK
    have hFc := nd_rs hD hS hA
    refine nd_cVi (As := [.int (sI s6.1 3)]) (rest := [.ref (a 0)]) (q := q7) (w' := dw_X11 a ac s8) ⟨hx, hb, hml, hown, hts⟩ (fun sz => dm_X11_copyUpTo l hlt dC dI a ac n ((sI s6.1 3)) s6 hq sz) (cwV 1 hts gi_dm_X11_forgetBehind_0 rfl rfl rfl (by decide +kernel) ⟨Nat.le_of_ble_eq_true rfl, Nat.le_of_ble_eq_true rfl⟩) hPc hDc hKc hS hA hN (va_recv hKc hPc (ci := 12) (q0 := 0) rfl rfl) rfl hl.1 rfl (Nat.le_of_ble_eq_true rfl) dX11_forgetBehind_51 (fun H locs hP1 hD1 hk1 hS => ?_)
    have hP := hP1
    have hD := hD1.weaken (fun k q _ h => hFc q.1 h)
    refine lv_iconst (v := 1) hx hb dX11_forgetBehind_54 (by decide) ?_
    refine lv_iadd hx hb dX11_forgetBehind_55 ?_
    refine va_put (D := (dC, dI)) (ci := 12) (v := .int (q7 + 1)) (ty := .int) (C := RX11) (T := TX11) (N := 16) hx hb hts hi_dm_X11_forgetBehind_X11 tyX11 tyX11_ok nmX11 hown hK hP hD hS 0 rfl rfl 9 (by decide) (hts (.fieldLink RX11 85 "TimeMachine$Timeline" "copies" "I") (List.mem_of_getElem? (i := 12) rfl)) (fun _ h9 => h9) rfl (by decide +kernel) rfl rfl (Nat.le_of_ble_eq_true rfl) dX11_forgetBehind_56 (fun H locs hP hD hS => ?_)
    obtain ⟨s10, es10, h⟩ := nd_let_e h
    have hP : va_P (dC, dI) vwCl (dw_X11 a ac s10) H := by rw [es10]; exact hP
    have hD : va_D A (dw_X11 a ac s10) := by rw [es10]; exact hD
    refine lv_iload_n hx hb dX11_forgetBehind_59 rfl (lv_at hl 0 rfl) ?_
    exact K _ _ _ _ _ _ dX11_forgetBehind_60 rfl (Option.some.inj h).symm hP hD hS
  have h := nd_neg h o3
  by_cases o11 : sO s2.1 0 = some 32
  · have h := nd_pos h o11
    refine va_get (D := (dC, dI)) (ci := 12) (v := .ref (a 32)) (C := RX11) (T := TX11) (N := 16) hx hb hts hi_dm_X11_forgetBehind_X11 hown hK hP 0 rfl rfl 1 (by decide) (hts (.fieldLink RX11 20 "TimeMachine$Timeline" "events" "LTimeMachine$Events;") (List.mem_of_getElem? (i := 3) rfl)) (fun _ h9 => h9) (congrArg (fun z => some (va_rf (Option.map a z))) o11) dX11_forgetBehind_19 ?_
    refine lv_aload_n hx hb dX11_forgetBehind_22 rfl (lv_at hl 1 rfl) ?_
    refine va_get (D := (dC, dI)) (ci := 12) (v := .int (sI s2.1 5)) (C := RX11) (T := TX11) (N := 16) hx hb hts hi_dm_X11_forgetBehind_X11 hown hK hP 0 rfl rfl 13 (by decide) (hts (.fieldLink RX11 79 "TimeMachine$Timeline" "came" "I") (List.mem_of_getElem? (i := 4) rfl)) (fun _ h9 => h9) rfl dX11_forgetBehind_23 ?_
    refine va_put (D := (dC, dI)) (ci := 4) (v := .int (sI s2.1 5)) (ty := .int) (C := RX3) (T := TX3) (N := 11) hx hb hts hi_dm_X11_forgetBehind_X3 tyX3 tyX3_ok nmX3 hown hK hP hD hS 32 rfl rfl 4 (by decide) (hts (.fieldLink RX11 116 "TimeMachine$Events" "recorded" "I") (List.mem_of_getElem? (i := 5) rfl)) (fun _ h9 => h9) rfl (by decide +kernel) rfl rfl (Nat.le_of_ble_eq_true rfl) dX11_forgetBehind_26 (fun H locs hP hD hS => ?_)
    obtain ⟨s12, es12, h⟩ := nd_let_e h
    have hP : va_P (dC, dI) vwCl (dw_X11 a ac s12) H := by rw [es12]; exact hP
    have hD : va_D A (dw_X11 a ac s12) := by rw [es12]; exact hD
    have o11 : sO s12.1 0 = some 32 := by rw [es12]; exact o11
    refine lv_aload_n hx hb dX11_forgetBehind_29 rfl (lv_at hl 1 rfl) ?_
    refine va_get (D := (dC, dI)) (ci := 12) (v := .ref (a 32)) (C := RX11) (T := TX11) (N := 16) hx hb hts hi_dm_X11_forgetBehind_X11 hown hK hP 0 rfl rfl 1 (by decide) (hts (.fieldLink RX11 20 "TimeMachine$Timeline" "events" "LTimeMachine$Events;") (List.mem_of_getElem? (i := 3) rfl)) (fun _ h9 => h9) (congrArg (fun z => some (va_rf (Option.map a z))) o11) dX11_forgetBehind_30 ?_
    refine lv_aload_n hx hb dX11_forgetBehind_33 rfl (lv_at hl 1 rfl) ?_
    refine va_get (D := (dC, dI)) (ci := 12) (v := .int (sI s12.1 5)) (C := RX11) (T := TX11) (N := 16) hx hb hts hi_dm_X11_forgetBehind_X11 hown hK hP 0 rfl rfl 13 (by decide) (hts (.fieldLink RX11 79 "TimeMachine$Timeline" "came" "I") (List.mem_of_getElem? (i := 4) rfl)) (fun _ h9 => h9) rfl dX11_forgetBehind_34 ?_
    refine va_put (D := (dC, dI)) (ci := 4) (v := .int (sI s12.1 5)) (ty := .int) (C := RX3) (T := TX3) (N := 11) hx hb hts hi_dm_X11_forgetBehind_X3 tyX3 tyX3_ok nmX3 hown hK hP hD hS 32 rfl rfl 5 (by decide) (hts (.fieldLink RX11 137 "TimeMachine$Events" "total" "I") (List.mem_of_getElem? (i := 6) rfl)) (fun _ h9 => h9) rfl (by decide +kernel) rfl rfl (Nat.le_of_ble_eq_true rfl) dX11_forgetBehind_37 (fun H locs hP hD hS => ?_)
    obtain ⟨s13, es13, h⟩ := nd_let_e h
    have hP : va_P (dC, dI) vwCl (dw_X11 a ac s13) H := by rw [es13]; exact hP
    have hD : va_D A (dw_X11 a ac s13) := by rw [es13]; exact hD
    have o11 : sO s13.1 0 = some 32 := by rw [es13]; exact o11
    refine lv_aload_n hx hb dX11_forgetBehind_40 rfl (lv_at hl 1 rfl) ?_
    refine lv_iconst (v := 0) hx hb dX11_forgetBehind_41 (by decide) ?_
    refine va_put (D := (dC, dI)) (ci := 12) (v := .int 0) (ty := .boolean) (C := RX11) (T := TX11) (N := 16) hx hb hts hi_dm_X11_forgetBehind_X11 tyX11 tyX11_ok nmX11 hown hK hP hD hS 0 rfl rfl 14 (by decide) (hts (.fieldLink RX11 82 "TimeMachine$Timeline" "missed" "Z") (List.mem_of_getElem? (i := 7) rfl)) (fun _ h9 => h9) rfl (by decide +kernel) (by first | rfl | decide) rfl (Nat.le_of_ble_eq_true rfl) dX11_forgetBehind_42 (fun H locs hP hD hS => ?_)
    obtain ⟨s14, es14, h⟩ := nd_let_e h
    have hP : va_P (dC, dI) vwCl (dw_X11 a ac s14) H := by rw [es14]; exact hP
    have hD : va_D A (dw_X11 a ac s14) := by rw [es14]; exact hD
    have o11 : sO s14.1 0 = some 32 := by rw [es14]; exact o11
    refine lv_aload_n hx hb dX11_forgetBehind_45 rfl (lv_at hl 1 rfl) ?_
    refine lv_aload_n hx hb dX11_forgetBehind_46 rfl (lv_at hl 1 rfl) ?_
    refine lv_aload_n hx hb dX11_forgetBehind_47 rfl (lv_at hl 1 rfl) ?_
    refine va_get (D := (dC, dI)) (ci := 12) (v := .int (sI s14.1 3)) (C := RX11) (T := TX11) (N := 16) hx hb hts hi_dm_X11_forgetBehind_X11 hown hK hP 0 rfl rfl 11 (by decide) (hts (.fieldLink RX11 72 "TimeMachine$Timeline" "now" "I") (List.mem_of_getElem? (i := 2) rfl)) (fun _ h9 => h9) rfl dX11_forgetBehind_48 ?_
    obtain ⟨q15, s16, hq, h⟩ := nd_b2_e h
    have hPc := hP
    have hDc := hD
    have hKc := hK
    have hFc := nd_rs hD hS hA
    refine nd_cVi (As := [.int (sI s14.1 3)]) (rest := [.ref (a 0)]) (q := q15) (w' := dw_X11 a ac s16) ⟨hx, hb, hml, hown, hts⟩ (fun sz => dm_X11_copyUpTo l hlt dC dI a ac n ((sI s14.1 3)) s14 hq sz) (cwV 1 hts gi_dm_X11_forgetBehind_0 rfl rfl rfl (by decide +kernel) ⟨Nat.le_of_ble_eq_true rfl, Nat.le_of_ble_eq_true rfl⟩) hPc hDc hKc hS hA hN (va_recv hKc hPc (ci := 12) (q0 := 0) rfl rfl) rfl hl.1 rfl (Nat.le_of_ble_eq_true rfl) dX11_forgetBehind_51 (fun H locs hP1 hD1 hk1 hS => ?_)
    have hP := hP1
    have hD := hD1.weaken (fun k q _ h => hFc q.1 h)
    refine lv_iconst (v := 1) hx hb dX11_forgetBehind_54 (by decide) ?_
    refine lv_iadd hx hb dX11_forgetBehind_55 ?_
    refine va_put (D := (dC, dI)) (ci := 12) (v := .int (q15 + 1)) (ty := .int) (C := RX11) (T := TX11) (N := 16) hx hb hts hi_dm_X11_forgetBehind_X11 tyX11 tyX11_ok nmX11 hown hK hP hD hS 0 rfl rfl 9 (by decide) (hts (.fieldLink RX11 85 "TimeMachine$Timeline" "copies" "I") (List.mem_of_getElem? (i := 12) rfl)) (fun _ h9 => h9) rfl (by decide +kernel) rfl rfl (Nat.le_of_ble_eq_true rfl) dX11_forgetBehind_56 (fun H locs hP hD hS => ?_)
    obtain ⟨s18, es18, h⟩ := nd_let_e h
    have hP : va_P (dC, dI) vwCl (dw_X11 a ac s18) H := by rw [es18]; exact hP
    have hD : va_D A (dw_X11 a ac s18) := by rw [es18]; exact hD
    refine lv_iload_n hx hb dX11_forgetBehind_59 rfl (lv_at hl 0 rfl) ?_
    exact K _ _ _ _ _ _ dX11_forgetBehind_60 rfl (Option.some.inj h).symm hP hD hS
  have h := nd_neg h o11
  exact nomatch h
set_option maxHeartbeats 40000000 in
set_option maxRecDepth 100000 in
theorem dm_X11_forgetBehind (l : Launch) (hlt : l.stackTraces = false) (dC : Nat → ClassId) (dI : Nat → Nat → Nat) (a : Nat → Nat) (ac : Nat → ClassId) (n : Nat) (s0 : St × Rw × (St × (St × (St × (St)))) × (St) × (St) × (Nat → St) × (Nat → St) × (Nat → St × (St))) {r : Int32 × (St × Rw × (St × (St × (St × (St)))) × (St) × (St) × (Nat → St) × (Nat → St) × (Nat → St × (St)))} (h : df_X11_forgetBehind n s0 = some r) (sz : Nat) : Met l yX11_forgetBehind ow_dm_X11_forgetBehind ({ frames := 2, cells := 0, slots := 0, locals := 35 }) (va_Pc [.ref (a 0)] (fun U => U.heap.size = sz ∧ va_P (dC, dI) vwCl (dw_X11 a ac s0) U.heap ∧ va_K (dC, dI) vwCl (dk_X11 ac) U ∧ va_D (fun _ => True) (dw_X11 a ac s0) ∧ nv_E dI (va_A (dw_X11 a ac s0) sz) U)) (va_Qi (fun x _ => x = r.1) (fun (_ : Unit) t => va_P (dC, dI) vwCl (dw_X11 a ac r.2) t.heap ∧ va_K (dC, dI) vwCl (dk_X11 ac) t ∧ va_D (va_A (dw_X11 a ac s0) sz) (dw_X11 a ac r.2)) (va_A (dw_X11 a ac s0) sz)) 0 0 (va_A (dw_X11 a ac s0) sz) := by
  refine Met.ofW (cc := cX11_forgetBehind) (maxL := 2) (ret := (some .int)) (by decide) rfl ?_
  intro p e s m args below meth c s₁ B hml hv
  obtain ⟨rfl, hsz, hP, hK, hD0, hN⟩ := hv
  have hx := B.exec
  have hb := B.bytes
  have hr := B.returns
  have hts := atoms_spec (ws := ow_dm_X11_forgetBehind) B.pre
  have hown : s.vm.findClass RX11 = some m.cls := findClass_of_methodNamed B.named
  have hlocks := B.notSynchronized
  subst hsz
  have hD := hD0.self (sz := s.heap.size)
  generalize hAe : va_A (dw_X11 a ac s0) s.heap.size = A at hD hN ⊢
  have hA : ∀ q : Nat, s.heap.size ≤ q → A q := fun q h => by rw [← hAe]; exact Or.inr h
  have hl := lv_entry ([.ref (a 0)]) (n := 2) (Nat.le_of_ble_eq_true rfl)
  rw [lg_entry_eq]
  generalize (lg_sl ([.ref (a 0)]) ++ List.replicate (2 - (lg_sl ([.ref (a 0)])).length) Slot.unset).toArray = ls at hl ⊢
  have hl : lv_has ls 2 [(0, .ref (a 0))] := hl
  exact db_X11_forgetBehind_0 (dC := dC) (dI := dI) (a := a) (ac := ac) (n := n) (r := r) ⟨hlt, hx, hb, hml, hown, hts, hN, hA, hK⟩ (fun pc v τ H locs ls d z er hP hD hS => by subst er; exact W.zret (v := v) hx hb hr z (fun t ht hW => ⟨⟨v, (), rfl, rfl, by rw [ht]; exact hP, va_K.moved hW.alike hK, hD⟩, hS.F ht⟩) hS.2.2 d) s0 _ _ _ h hP hD va_S.rf (lv_sub hl [0] rfl)
def ow_dm_X11_holdsAtFirst : List Cond := Cond.code yX11_holdsAtFirst cX11_holdsAtFirst 2 (some .boolean) :: ([Cond.fieldLink RX11 30 "TimeMachine$Timeline" "machine" "LTimeMachine$Machine;", Cond.fieldLink RX11 72 "TimeMachine$Timeline" "now" "I", Cond.methodLink RX11 174 yX2_remember, Cond.instanceMethod yX2_remember, Cond.selects RX2 yX2_remember yX2_remember, Cond.initialized RX2, Cond.methodLink RX11 168 yX2_worth, Cond.instanceMethod yX2_worth, Cond.selects RX2 yX2_worth yX2_worth] ++ (u_ws RX11 TX11 16 ++ (ow_dm_X2_remember ++ (ow_dm_X2_worth ++ []))))
theorem gd_dm_X11_holdsAtFirst : ∀ w ∈ ow_dm_X11_holdsAtFirst, (w.onTables && w.keeps) = true ∨ ∃ ty, w = Cond.arrayClass ty := List.forall_mem_cons.mpr ⟨good_of_word rfl, List.forall_mem_append.mpr ⟨fun w h => good_of_word (List.all_eq_true.mp (by decide +kernel) w h), List.forall_mem_append.mpr ⟨gu_X11, List.forall_mem_append.mpr ⟨gd_dm_X2_remember, List.forall_mem_append.mpr ⟨gd_dm_X2_worth, fun _ h => nomatch h⟩⟩⟩⟩⟩
theorem hi_dm_X11_holdsAtFirst_X11 : ∀ w ∈ u_ws RX11 TX11 16, w ∈ ow_dm_X11_holdsAtFirst := fun w h => List.mem_cons_of_mem _ (List.mem_append_right _ (List.mem_append_left _ h))
theorem gi_dm_X11_holdsAtFirst_0 : GoodIn ow_dm_X11_holdsAtFirst (wsV RX11 174 RX2 yX2_remember ow_dm_X2_remember) := goodIn_app (goodIn_of _ (by decide +kernel)) (fun w h => ⟨List.mem_cons_of_mem _ (List.mem_append_right _ (List.mem_append_right _ (List.mem_append_left _ h))), gd_dm_X2_remember w h⟩)
theorem gi_dm_X11_holdsAtFirst_1 : GoodIn ow_dm_X11_holdsAtFirst (wsV RX11 168 RX2 yX2_worth ow_dm_X2_worth) := goodIn_app (goodIn_of _ (by decide +kernel)) (fun w h => ⟨List.mem_cons_of_mem _ (List.mem_append_right _ (List.mem_append_right _ (List.mem_append_right _ (List.mem_append_left _ h)))), gd_dm_X2_worth w h⟩)
def dj_X11_holdsAtFirst_34 (p : Program) (l : Launch) (e : Env) (s : State) (m : MethodId) (args : Array Value) (below : List Frame) (meth : Method) (c : Code) (Q : State → Prop) (A : Nat → Prop) (dC : Nat → ClassId) (dI : Nat → Nat → Nat) (a : Nat → Nat) (ac : Nat → ClassId) (g : Int32 → (St × Rw × (St × (St × (St × (St)))) × (St) × (St) × (Nat → St) × (Nat → St) × (Nat → St × (St))) → Option (Int32 × (St × Rw × (St × (St × (St × (St)))) × (St) × (St) × (Nat → St) × (Nat → St) × (Nat → St × (St))))) (r : Int32 × (St × Rw × (St × (St × (St × (St)))) × (St) × (St) × (Nat → St) × (Nat → St) × (Nat → St × (St)))) : Prop := ∀ (y0 : Int32) (s0 : St × Rw × (St × (St × (St × (St)))) × (St) × (St) × (Nat → St) × (Nat → St) × (Nat → St × (St))) (H : Heap) (locs : List Loc) (ls : Array Slot), g y0 s0 = some r → va_P (dC, dI) vwCl (dw_X11 a ac s0) H → va_D A (dw_X11 a ac s0) → va_S A s.heap H locs → lv_has ls 2 [] → W p l e (headSpec ow_dm_X11_holdsAtFirst ({ frames := 5, cells := 0, slots := 0, locals := 127 })).room s m args below meth c H locs 0 0 Q (F0 m 34 ls [.int y0])
def dj_X11_holdsAtFirst_0 (p : Program) (l : Launch) (e : Env) (s : State) (m : MethodId) (args : Array Value) (below : List Frame) (meth : Method) (c : Code) (Q : State → Prop) (A : Nat → Prop) (dC : Nat → ClassId) (dI : Nat → Nat → Nat) (a : Nat → Nat) (ac : Nat → ClassId) (g : Nat → (St × Rw × (St × (St × (St × (St)))) × (St) × (St) × (Nat → St) × (Nat → St) × (Nat → St × (St))) → Option (Int32 × (St × Rw × (St × (St × (St × (St)))) × (St) × (St) × (Nat → St) × (Nat → St) × (Nat → St × (St))))) (r : Int32 × (St × Rw × (St × (St × (St × (St)))) × (St) × (St) × (Nat → St) × (Nat → St) × (Nat → St × (St)))) : Prop := ∀ (v0 : Nat) (s0 : St × Rw × (St × (St × (St × (St)))) × (St) × (St) × (Nat → St) × (Nat → St) × (Nat → St × (St))) (H : Heap) (locs : List Loc) (ls : Array Slot), g v0 s0 = some r → va_P (dC, dI) vwCl (dw_X11 a ac s0) H → va_D A (dw_X11 a ac s0) → va_S A s.heap H locs → lv_has ls 2 [(0, .ref (a 0)), (1, .ref (a (0 + v0 * 9 + 86)))] → W p l e (headSpec ow_dm_X11_holdsAtFirst ({ frames := 5, cells := 0, slots := 0, locals := 127 })).room s m args below meth c H locs 0 0 Q (F0 m 0 ls [])
set_option maxHeartbeats 40000000 in
set_option maxRecDepth 100000 in
theorem db_X11_holdsAtFirst_34 {p : Program} {l : Launch} {e : Env} {s : State} {m : MethodId} {args : Array Value} {below : List Frame} {meth : Method} {c : Code} {Q : State → Prop} {A : Nat → Prop} {dC : Nat → ClassId} {dI : Nat → Nat → Nat} {a : Nat → Nat} {ac : Nat → ClassId} {n : Nat} {r : Int32 × (St × Rw × (St × (St × (St × (St)))) × (St) × (St) × (Nat → St) × (Nat → St) × (Nat → St × (St)))} (C : nd_C p l s m args c A (dC, dI) cX11_holdsAtFirst 2 RX11 ow_dm_X11_holdsAtFirst (dk_X11 ac)) (K : nd_Ki p l e (headSpec ow_dm_X11_holdsAtFirst ({ frames := 5, cells := 0, slots := 0, locals := 127 })).room s m args below meth c Q A (dC, dI) cX11_holdsAtFirst .boolean (St × Rw × (St × (St × (St × (St)))) × (St) × (St) × (Nat → St) × (Nat → St) × (Nat → St × (St))) (dw_X11 a ac) r) : dj_X11_holdsAtFirst_34 p l e s m args below meth c Q A dC dI a ac (df_X11_holdsAtFirst_34 n) r := by
  obtain ⟨hlt, hx, hb, hml, hown, hts, hN, hA, hK⟩ := id C
  intro y0 s0 H locs ls h hP hD hS hl
  unfold df_X11_holdsAtFirst_34 at h
  obtain ⟨n11, h⟩ := nd_z_e ⟨_, rfl⟩ h
  exact K _ _ _ _ _ _ dX11_holdsAtFirst_34 n11 (Option.some.inj h).symm hP hD hS
set_option maxHeartbeats 40000000 in
set_option maxRecDepth 100000 in
theorem db_X11_holdsAtFirst_0 {p : Program} {l : Launch} {e : Env} {s : State} {m : MethodId} {args : Array Value} {below : List Frame} {meth : Method} {c : Code} {Q : State → Prop} {A : Nat → Prop} {dC : Nat → ClassId} {dI : Nat → Nat → Nat} {a : Nat → Nat} {ac : Nat → ClassId} {n : Nat} {r : Int32 × (St × Rw × (St × (St × (St × (St)))) × (St) × (St) × (Nat → St) × (Nat → St) × (Nat → St × (St)))} (C : nd_C p l s m args c A (dC, dI) cX11_holdsAtFirst 2 RX11 ow_dm_X11_holdsAtFirst (dk_X11 ac)) (K : nd_Ki p l e (headSpec ow_dm_X11_holdsAtFirst ({ frames := 5, cells := 0, slots := 0, locals := 127 })).room s m args below meth c Q A (dC, dI) cX11_holdsAtFirst .boolean (St × Rw × (St × (St × (St × (St)))) × (St) × (St) × (Nat → St) × (Nat → St) × (Nat → St × (St))) (dw_X11 a ac) r) : dj_X11_holdsAtFirst_0 p l e s m args below meth c Q A dC dI a ac (df_X11_holdsAtFirst_0 n) r := by
  obtain ⟨hlt, hx, hb, hml, hown, hts, hN, hA, hK⟩ := id C
  intro v0 s0 H locs ls h hP hD hS hl
  unfold df_X11_holdsAtFirst_0 at h
  refine lv_aload_n hx hb dX11_holdsAtFirst_0 rfl (lv_at hl 1 rfl) ?_
  refine lv_aload_n hx hb dX11_holdsAtFirst_1 rfl (lv_at hl 0 rfl) ?_
  refine va_get (D := (dC, dI)) (ci := 12) (v := .ref (a 7)) (C := RX11) (T := TX11) (N := 16) hx hb hts hi_dm_X11_holdsAtFirst_X11 hown hK hP 0 rfl rfl 3 (by decide) (hts (.fieldLink RX11 30 "TimeMachine$Timeline" "machine" "LTimeMachine$Machine;") (List.mem_of_getElem? (i := 1) rfl)) (fun _ h9 => h9) rfl dX11_holdsAtFirst_2 ?_
  refine lv_aload_n hx hb dX11_holdsAtFirst_5 rfl (lv_at hl 0 rfl) ?_
  refine va_get (D := (dC, dI)) (ci := 12) (v := .int (sI s0.1 3)) (C := RX11) (T := TX11) (N := 16) hx hb hts hi_dm_X11_holdsAtFirst_X11 hown hK hP 0 rfl rfl 11 (by decide) (hts (.fieldLink RX11 72 "TimeMachine$Timeline" "now" "I") (List.mem_of_getElem? (i := 2) rfl)) (fun _ h9 => h9) rfl dX11_holdsAtFirst_6 ?_
  obtain ⟨l1, h⟩ := nd_lt_e h
  obtain ⟨s3, hq, h⟩ := nd_b1_e h
  have hPc := dp_wX11_X2m_8 l1 hP
  have hDc := dd_wX11_X2m_8 l1 hD
  have hKc := dy_wX11_X2m_8 l1 hK
  have hFc := nd_rs hDc hS hA
  have hzA : ∀ q : Nat, H.size ≤ q → A q := fun q h => hA q (Nat.le_trans hS.1 h)
  refine nd_cVv (As := [.ref (a 7), .int (sI s0.1 3)]) (rest := []) (w' := dw_X2m (fun k => a (if k < 9 then k - 0 + v0 * 9 + 86 else k - 9 + 7)) (fun k => ac (if k < 9 then k - 0 + v0 * 9 + 86 else k - 9 + 7)) s3) ⟨hx, hb, hml, hown, hts⟩ (fun sz => dm_X2_remember l hlt dC dI (fun k => a (if k < 9 then k - 0 + v0 * 9 + 86 else k - 9 + 7)) (fun k => ac (if k < 9 then k - 0 + v0 * 9 + 86 else k - 9 + 7)) n ((sI s0.1 3)) (nd_st0, (s0.2.2.2.2.2.2.1 v0), s0.2.2.1.2.2) hq sz) (cwV 2 hts gi_dm_X11_holdsAtFirst_0 rfl rfl rfl (by decide +kernel) ⟨Nat.le_of_ble_eq_true rfl, Nat.le_of_ble_eq_true rfl⟩) hPc hDc hKc hS hA hN (va_recv hKc hPc (ci := 3) (q0 := 0) rfl rfl) rfl hl.1 rfl (Nat.le_of_ble_eq_true rfl) dX11_holdsAtFirst_9 (fun H locs hP1 hD1 hk1 hS => ?_)
  obtain ⟨hP, hD⟩ := dn_wX11_X2m_8 l1 hP hD hzA hk1 hP1 hD1
  obtain ⟨s5, es5, h⟩ := nd_let_e h
  have hP : va_P (dC, dI) vwCl (dw_X11 a ac s5) H := by rw [es5]; exact hP
  have hD : va_D A (dw_X11 a ac s5) := by rw [es5]; exact hD
  refine lv_aload_n hx hb dX11_holdsAtFirst_12 rfl (lv_at hl 1 rfl) ?_
  refine lv_aload_n hx hb dX11_holdsAtFirst_13 rfl (lv_at hl 0 rfl) ?_
  refine va_get (D := (dC, dI)) (ci := 12) (v := .ref (a 7)) (C := RX11) (T := TX11) (N := 16) hx hb hts hi_dm_X11_holdsAtFirst_X11 hown hK hP 0 rfl rfl 3 (by decide) (hts (.fieldLink RX11 30 "TimeMachine$Timeline" "machine" "LTimeMachine$Machine;") (List.mem_of_getElem? (i := 1) rfl)) (fun _ h9 => h9) rfl dX11_holdsAtFirst_14 ?_
  refine lv_aload_n hx hb dX11_holdsAtFirst_17 rfl (lv_at hl 0 rfl) ?_
  refine va_get (D := (dC, dI)) (ci := 12) (v := .int (sI s5.1 3)) (C := RX11) (T := TX11) (N := 16) hx hb hts hi_dm_X11_holdsAtFirst_X11 hown hK hP 0 rfl rfl 11 (by decide) (hts (.fieldLink RX11 72 "TimeMachine$Timeline" "now" "I") (List.mem_of_getElem? (i := 2) rfl)) (fun _ h9 => h9) rfl dX11_holdsAtFirst_18 ?_
  obtain ⟨q6, s7, hq, h⟩ := nd_b2_e h
  have hPc := dp_wX11_X2m_8 l1 hP
  have hDc := dd_wX11_X2m_8 l1 hD
  have hKc := dy_wX11_X2m_8 l1 hK
  have hFc := nd_rs hDc hS hA
  have hzA : ∀ q : Nat, H.size ≤ q → A q := fun q h => hA q (Nat.le_trans hS.1 h)
  refine nd_cVl (As := [.ref (a 7), .int (sI s5.1 3)]) (rest := []) (q := q6) (w' := dw_X2m (fun k => a (if k < 9 then k - 0 + v0 * 9 + 86 else k - 9 + 7)) (fun k => ac (if k < 9 then k - 0 + v0 * 9 + 86 else k - 9 + 7)) s7) ⟨hx, hb, hml, hown, hts⟩ (fun sz => dm_X2_worth l hlt dC dI (fun k => a (if k < 9 then k - 0 + v0 * 9 + 86 else k - 9 + 7)) (fun k => ac (if k < 9 then k - 0 + v0 * 9 + 86 else k - 9 + 7)) n ((sI s5.1 3)) (nd_st0, (s5.2.2.2.2.2.2.1 v0), s5.2.2.1.2.2) hq sz) (cwV 2 hts gi_dm_X11_holdsAtFirst_1 rfl rfl rfl (by decide +kernel) ⟨Nat.le_of_ble_eq_true rfl, Nat.le_of_ble_eq_true rfl⟩) hPc hDc hKc hS hA hN (va_recv hKc hPc (ci := 3) (q0 := 0) rfl rfl) rfl hl.1 rfl (Nat.le_of_ble_eq_true rfl) dX11_holdsAtFirst_21 (fun H locs hP1 hD1 hk1 hS => ?_)
  obtain ⟨hP, hD⟩ := dn_wX11_X2m_8 l1 hP hD hzA hk1 hP1 hD1
  obtain ⟨s9, es9, h⟩ := nd_let_e h
  have hP : va_P (dC, dI) vwCl (dw_X11 a ac s9) H := by rw [es9]; exact hP
  have hD : va_D A (dw_X11 a ac s9) := by rw [es9]; exact hD
  refine lv_lconst (v := 0) hx hb dX11_holdsAtFirst_24 (by decide) ?_
  refine W.lcmp hx hb dX11_holdsAtFirst_25 ?_
  refine lv_if_eq (tgt := 33) hx hb dX11_holdsAtFirst_26 (by decide) (fun c10 => ?_) (fun c10 => ?_)
  · have h := nd_pos h c10
    refine lv_iconst (v := 0) hx hb dX11_holdsAtFirst_33 (by decide) ?_
    exact (db_X11_holdsAtFirst_34 C K) (0) s9 _ _ _ h hP hD hS (lv_sub hl [] rfl)
  · have h := nd_neg h c10
    refine lv_iconst (v := 1) hx hb dX11_holdsAtFirst_29 (by decide) ?_
    refine lv_goto (tgt := 34) hx hb dX11_holdsAtFirst_30 (by decide) ?_
    exact (db_X11_holdsAtFirst_34 C K) (1) s9 _ _ _ h hP hD hS (lv_sub hl [] rfl)
set_option maxHeartbeats 40000000 in
set_option maxRecDepth 100000 in
theorem dm_X11_holdsAtFirst (l : Launch) (hlt : l.stackTraces = false) (dC : Nat → ClassId) (dI : Nat → Nat → Nat) (a : Nat → Nat) (ac : Nat → ClassId) (n : Nat) (v0 : Nat) (s0 : St × Rw × (St × (St × (St × (St)))) × (St) × (St) × (Nat → St) × (Nat → St) × (Nat → St × (St))) {r : Int32 × (St × Rw × (St × (St × (St × (St)))) × (St) × (St) × (Nat → St) × (Nat → St) × (Nat → St × (St)))} (h : df_X11_holdsAtFirst n v0 s0 = some r) (sz : Nat) : Met l yX11_holdsAtFirst ow_dm_X11_holdsAtFirst ({ frames := 5, cells := 0, slots := 0, locals := 127 }) (va_Pc [.ref (a 0), .ref (a (0 + v0 * 9 + 86))] (fun U => U.heap.size = sz ∧ va_P (dC, dI) vwCl (dw_X11 a ac s0) U.heap ∧ va_K (dC, dI) vwCl (dk_X11 ac) U ∧ va_D (fun _ => True) (dw_X11 a ac s0) ∧ nv_E dI (va_A (dw_X11 a ac s0) sz) U)) (va_Qi (fun x _ => x = r.1) (fun (_ : Unit) t => va_P (dC, dI) vwCl (dw_X11 a ac r.2) t.heap ∧ va_K (dC, dI) vwCl (dk_X11 ac) t ∧ va_D (va_A (dw_X11 a ac s0) sz) (dw_X11 a ac r.2)) (va_A (dw_X11 a ac s0) sz)) 0 0 (va_A (dw_X11 a ac s0) sz) := by
  refine Met.ofW (cc := cX11_holdsAtFirst) (maxL := 2) (ret := (some .boolean)) (by decide) rfl ?_
  intro p e s m args below meth c s₁ B hml hv
  obtain ⟨rfl, hsz, hP, hK, hD0, hN⟩ := hv
  have hx := B.exec
  have hb := B.bytes
  have hr := B.returns
  have hts := atoms_spec (ws := ow_dm_X11_holdsAtFirst) B.pre
  have hown : s.vm.findClass RX11 = some m.cls := findClass_of_methodNamed B.named
  have hlocks := B.notSynchronized
  subst hsz
  have hD := hD0.self (sz := s.heap.size)
  generalize hAe : va_A (dw_X11 a ac s0) s.heap.size = A at hD hN ⊢
  have hA : ∀ q : Nat, s.heap.size ≤ q → A q := fun q h => by rw [← hAe]; exact Or.inr h
  have hl := lv_entry ([.ref (a 0), .ref (a (0 + v0 * 9 + 86))]) (n := 2) (Nat.le_of_ble_eq_true rfl)
  rw [lg_entry_eq]
  generalize (lg_sl ([.ref (a 0), .ref (a (0 + v0 * 9 + 86))]) ++ List.replicate (2 - (lg_sl ([.ref (a 0), .ref (a (0 + v0 * 9 + 86))])).length) Slot.unset).toArray = ls at hl ⊢
  have hl : lv_has ls 2 [(0, .ref (a 0)), (1, .ref (a (0 + v0 * 9 + 86)))] := hl
  exact db_X11_holdsAtFirst_0 (dC := dC) (dI := dI) (a := a) (ac := ac) (n := n) (r := r) ⟨hlt, hx, hb, hml, hown, hts, hN, hA, hK⟩ (fun pc v τ H locs ls d z er hP hD hS => by subst er; exact W.zret (v := v) hx hb hr z (fun t ht hW => ⟨⟨v, (), rfl, rfl, by rw [ht]; exact hP, va_K.moved hW.alike hK, hD⟩, hS.F ht⟩) hS.2.2 d) v0 s0 _ _ _ h hP hD va_S.rf (lv_sub hl [0, 1] rfl)
def ow_dm_X11_latest : List Cond := Cond.code yX11_latest cX11_latest 8 (some .int) :: ([Cond.fieldLink RX11 72 "TimeMachine$Timeline" "now" "I", Cond.methodLink RX11 104 Lib.Math.max.name, Cond.static Lib.Math.max.name, Cond.initialized "java/lang/Math", Cond.code Lib.Math.max.name Lib.Math.max.code 2 (some .int), Cond.methodLink RX11 178 yX11_copyUpTo, Cond.instanceMethod yX11_copyUpTo, Cond.selects RX11 yX11_copyUpTo yX11_copyUpTo, Cond.initialized RX11, Cond.methodLink RX11 182 yX11_restore, Cond.instanceMethod yX11_restore, Cond.selects RX11 yX11_restore yX11_restore, Cond.fieldLink RX11 30 "TimeMachine$Timeline" "machine" "LTimeMachine$Machine;", Cond.methodLink RX11 174 yX2_remember, Cond.instanceMethod yX2_remember, Cond.selects RX2 yX2_remember yX2_remember, Cond.initialized RX2, Cond.methodLink RX11 155 yX11_advance, Cond.instanceMethod yX11_advance, Cond.selects RX11 yX11_advance yX11_advance, Cond.methodLink RX11 168 yX2_worth, Cond.instanceMethod yX2_worth, Cond.selects RX2 yX2_worth yX2_worth, Cond.methodLink RX11 189 yX11_holdsAtFirst, Cond.instanceMethod yX11_holdsAtFirst, Cond.selects RX11 yX11_holdsAtFirst yX11_holdsAtFirst] ++ (u_ws RX11 TX11 16 ++ (ow_dm_X11_copyUpTo ++ (ow_dm_X11_restore ++ (ow_dm_X2_remember ++ (ow_dm_X11_advance ++ (ow_dm_X2_worth ++ (ow_dm_X11_holdsAtFirst ++ []))))))))
theorem gd_dm_X11_latest : ∀ w ∈ ow_dm_X11_latest, (w.onTables && w.keeps) = true ∨ ∃ ty, w = Cond.arrayClass ty := List.forall_mem_cons.mpr ⟨good_of_word rfl, List.forall_mem_append.mpr ⟨fun w h => good_of_word (List.all_eq_true.mp (by decide +kernel) w h), List.forall_mem_append.mpr ⟨gu_X11, List.forall_mem_append.mpr ⟨gd_dm_X11_copyUpTo, List.forall_mem_append.mpr ⟨gd_dm_X11_restore, List.forall_mem_append.mpr ⟨gd_dm_X2_remember, List.forall_mem_append.mpr ⟨gd_dm_X11_advance, List.forall_mem_append.mpr ⟨gd_dm_X2_worth, List.forall_mem_append.mpr ⟨gd_dm_X11_holdsAtFirst, fun _ h => nomatch h⟩⟩⟩⟩⟩⟩⟩⟩⟩
theorem hi_dm_X11_latest_X11 : ∀ w ∈ u_ws RX11 TX11 16, w ∈ ow_dm_X11_latest := fun w h => List.mem_cons_of_mem _ (List.mem_append_right _ (List.mem_append_left _ h))
theorem gi_dm_X11_latest_0 : GoodIn ow_dm_X11_latest (wsV RX11 178 RX11 yX11_copyUpTo ow_dm_X11_copyUpTo) := goodIn_app (goodIn_of _ (by decide +kernel)) (fun w h => ⟨List.mem_cons_of_mem _ (List.mem_append_right _ (List.mem_append_right _ (List.mem_append_left _ h))), gd_dm_X11_copyUpTo w h⟩)
theorem gi_dm_X11_latest_1 : GoodIn ow_dm_X11_latest (wsV RX11 182 RX11 yX11_restore ow_dm_X11_restore) := goodIn_app (goodIn_of _ (by decide +kernel)) (fun w h => ⟨List.mem_cons_of_mem _ (List.mem_append_right _ (List.mem_append_right _ (List.mem_append_right _ (List.mem_append_left _ h)))), gd_dm_X11_restore w h⟩)
theorem gi_dm_X11_latest_2 : GoodIn ow_dm_X11_latest (wsV RX11 174 RX2 yX2_remember ow_dm_X2_remember) := goodIn_app (goodIn_of _ (by decide +kernel)) (fun w h => ⟨List.mem_cons_of_mem _ (List.mem_append_right _ (List.mem_append_right _ (List.mem_append_right _ (List.mem_append_right _ (List.mem_append_left _ h))))), gd_dm_X2_remember w h⟩)
theorem gi_dm_X11_latest_3 : GoodIn ow_dm_X11_latest (wsV RX11 155 RX11 yX11_advance ow_dm_X11_advance) := goodIn_app (goodIn_of _ (by decide +kernel)) (fun w h => ⟨List.mem_cons_of_mem _ (List.mem_append_right _ (List.mem_append_right _ (List.mem_append_right _ (List.mem_append_right _ (List.mem_append_right _ (List.mem_append_left _ h)))))), gd_dm_X11_advance w h⟩)
theorem gi_dm_X11_latest_4 : GoodIn ow_dm_X11_latest (wsV RX11 168 RX2 yX2_worth ow_dm_X2_worth) := goodIn_app (goodIn_of _ (by decide +kernel)) (fun w h => ⟨List.mem_cons_of_mem _ (List.mem_append_right _ (List.mem_append_right _ (List.mem_append_right _ (List.mem_append_right _ (List.mem_append_right _ (List.mem_append_right _ (List.mem_append_left _ h))))))), gd_dm_X2_worth w h⟩)
theorem gi_dm_X11_latest_5 : GoodIn ow_dm_X11_latest (wsV RX11 189 RX11 yX11_holdsAtFirst ow_dm_X11_holdsAtFirst) := goodIn_app (goodIn_of _ (by decide +kernel)) (fun w h => ⟨List.mem_cons_of_mem _ (List.mem_append_right _ (List.mem_append_right _ (List.mem_append_right _ (List.mem_append_right _ (List.mem_append_right _ (List.mem_append_right _ (List.mem_append_right _ (List.mem_append_left _ h)))))))), gd_dm_X11_holdsAtFirst w h⟩)
def dj_X11_latest_147 (p : Program) (l : Launch) (e : Env) (s : State) (m : MethodId) (args : Array Value) (below : List Frame) (meth : Method) (c : Code) (Q : State → Prop) (A : Nat → Prop) (dC : Nat → ClassId) (dI : Nat → Nat → Nat) (a : Nat → Nat) (ac : Nat → ClassId) (g : (St × Rw × (St × (St × (St × (St)))) × (St) × (St) × (Nat → St) × (Nat → St) × (Nat → St × (St))) → Option (Int32 × (St × Rw × (St × (St × (St × (St)))) × (St) × (St) × (Nat → St) × (Nat → St) × (Nat → St × (St))))) (r : Int32 × (St × Rw × (St × (St × (St × (St)))) × (St) × (St) × (Nat → St) × (Nat → St) × (Nat → St × (St)))) : Prop := ∀ (s0 : St × Rw × (St × (St × (St × (St)))) × (St) × (St) × (Nat → St) × (Nat → St) × (Nat → St × (St))) (H : Heap) (locs : List Loc) (ls : Array Slot), g s0 = some r → va_P (dC, dI) vwCl (dw_X11 a ac s0) H → va_D A (dw_X11 a ac s0) → va_S A s.heap H locs → lv_has ls 8 [] → W p l e (headSpec ow_dm_X11_latest ({ frames := 8, cells := 0, slots := 0, locals := 182 })).room s m args below meth c H locs 0 0 Q (F0 m 147 ls [])
def dj_X11_latest_140 (p : Program) (l : Launch) (e : Env) (s : State) (m : MethodId) (args : Array Value) (below : List Frame) (meth : Method) (c : Code) (Q : State → Prop) (A : Nat → Prop) (dC : Nat → ClassId) (dI : Nat → Nat → Nat) (a : Nat → Nat) (ac : Nat → ClassId) (g : Nat → Int32 → Int32 → (St × Rw × (St × (St × (St × (St)))) × (St) × (St) × (Nat → St) × (Nat → St) × (Nat → St × (St))) → Option (Int32 × (St × Rw × (St × (St × (St × (St)))) × (St) × (St) × (Nat → St) × (Nat → St) × (Nat → St × (St))))) (r : Int32 × (St × Rw × (St × (St × (St × (St)))) × (St) × (St) × (Nat → St) × (Nat → St) × (Nat → St × (St)))) : Prop := ∀ (x1 : Nat) (x3 : Int32) (y0 : Int32) (s0 : St × Rw × (St × (St × (St × (St)))) × (St) × (St) × (Nat → St) × (Nat → St) × (Nat → St × (St))) (H : Heap) (locs : List Loc) (ls : Array Slot), g x1 x3 y0 s0 = some r → va_P (dC, dI) vwCl (dw_X11 a ac s0) H → va_D A (dw_X11 a ac s0) → va_S A s.heap H locs → lv_has ls 8 [(0, .ref (a 0)), (1, .ref (a (0 + x1 * 9 + 86))), (3, .int x3)] → W p l e (headSpec ow_dm_X11_latest ({ frames := 8, cells := 0, slots := 0, locals := 182 })).room s m args below meth c H locs 0 0 Q (F0 m 140 ls [.int y0])
def dj_X11_latest_115 (p : Program) (l : Launch) (e : Env) (s : State) (m : MethodId) (args : Array Value) (below : List Frame) (meth : Method) (c : Code) (Q : State → Prop) (A : Nat → Prop) (dC : Nat → ClassId) (dI : Nat → Nat → Nat) (a : Nat → Nat) (ac : Nat → ClassId) (g : Nat → Int32 → Int32 → Int32 → Int32 → (St × Rw × (St × (St × (St × (St)))) × (St) × (St) × (Nat → St) × (Nat → St) × (Nat → St × (St))) → Option (Int32 × (St × Rw × (St × (St × (St × (St)))) × (St) × (St) × (Nat → St) × (Nat → St) × (Nat → St × (St))))) (r : Int32 × (St × Rw × (St × (St × (St × (St)))) × (St) × (St) × (Nat → St) × (Nat → St) × (Nat → St × (St)))) : Prop := ∀ (x1 : Nat) (x3 : Int32) (x5 : Int32) (x6 : Int32) (x7 : Int32) (s0 : St × Rw × (St × (St × (St × (St)))) × (St) × (St) × (Nat → St) × (Nat → St) × (Nat → St × (St))) (H : Heap) (locs : List Loc) (ls : Array Slot), g x1 x3 x5 x6 x7 s0 = some r → va_P (dC, dI) vwCl (dw_X11 a ac s0) H → va_D A (dw_X11 a ac s0) → va_S A s.heap H locs → lv_has ls 8 [(0, .ref (a 0)), (1, .ref (a (0 + x1 * 9 + 86))), (3, .int x3), (5, .int x5), (6, .int x6), (7, .int x7)] → W p l e (headSpec ow_dm_X11_latest ({ frames := 8, cells := 0, slots := 0, locals := 182 })).room s m args below meth c H locs 0 0 Q (F0 m 115 ls [])
def dj_X11_latest_71 (p : Program) (l : Launch) (e : Env) (s : State) (m : MethodId) (args : Array Value) (below : List Frame) (meth : Method) (c : Code) (Q : State → Prop) (A : Nat → Prop) (dC : Nat → ClassId) (dI : Nat → Nat → Nat) (a : Nat → Nat) (ac : Nat → ClassId) (g : Nat → Int32 → Int32 → Int32 → Int32 → (St × Rw × (St × (St × (St × (St)))) × (St) × (St) × (Nat → St) × (Nat → St) × (Nat → St × (St))) → Option (Int32 × (St × Rw × (St × (St × (St × (St)))) × (St) × (St) × (Nat → St) × (Nat → St) × (Nat → St × (St))))) (r : Int32 × (St × Rw × (St × (St × (St × (St)))) × (St) × (St) × (Nat → St) × (Nat → St) × (Nat → St × (St)))) : Prop := ∀ (x1 : Nat) (x3 : Int32) (x5 : Int32) (x6 : Int32) (x7 : Int32) (s0 : St × Rw × (St × (St × (St × (St)))) × (St) × (St) × (Nat → St) × (Nat → St) × (Nat → St × (St))) (H : Heap) (locs : List Loc) (ls : Array Slot), g x1 x3 x5 x6 x7 s0 = some r → va_P (dC, dI) vwCl (dw_X11 a ac s0) H → va_D A (dw_X11 a ac s0) → va_S A s.heap H locs → lv_has ls 8 [(0, .ref (a 0)), (1, .ref (a (0 + x1 * 9 + 86))), (3, .int x3), (5, .int x5), (6, .int x6), (7, .int x7)] → W p l e (headSpec ow_dm_X11_latest ({ frames := 8, cells := 0, slots := 0, locals := 182 })).room s m args below meth c H locs 0 0 Q (F0 m 71 ls [])
def dj_X11_latest_61 (p : Program) (l : Launch) (e : Env) (s : State) (m : MethodId) (args : Array Value) (below : List Frame) (meth : Method) (c : Code) (Q : State → Prop) (A : Nat → Prop) (dC : Nat → ClassId) (dI : Nat → Nat → Nat) (a : Nat → Nat) (ac : Nat → ClassId) (g : Nat → Int32 → Int32 → Int32 → Int32 → (St × Rw × (St × (St × (St × (St)))) × (St) × (St) × (Nat → St) × (Nat → St) × (Nat → St × (St))) → Option (Int32 × (St × Rw × (St × (St × (St × (St)))) × (St) × (St) × (Nat → St) × (Nat → St) × (Nat → St × (St))))) (r : Int32 × (St × Rw × (St × (St × (St × (St)))) × (St) × (St) × (Nat → St) × (Nat → St) × (Nat → St × (St)))) : Prop := ∀ (x1 : Nat) (x2 : Int32) (x3 : Int32) (x5 : Int32) (y0 : Int32) (s0 : St × Rw × (St × (St × (St × (St)))) × (St) × (St) × (Nat → St) × (Nat → St) × (Nat → St × (St))) (H : Heap) (locs : List Loc) (ls : Array Slot), g x1 x2 x3 x5 y0 s0 = some r → va_P (dC, dI) vwCl (dw_X11 a ac s0) H → va_D A (dw_X11 a ac s0) → va_S A s.heap H locs → lv_has ls 8 [(0, .ref (a 0)), (1, .ref (a (0 + x1 * 9 + 86))), (2, .int x2), (3, .int x3), (5, .int x5)] → W p l e (headSpec ow_dm_X11_latest ({ frames := 8, cells := 0, slots := 0, locals := 182 })).room s m args below meth c H locs 0 0 Q (F0 m 61 ls [.int y0])
def dj_X11_latest_60 (p : Program) (l : Launch) (e : Env) (s : State) (m : MethodId) (args : Array Value) (below : List Frame) (meth : Method) (c : Code) (Q : State → Prop) (A : Nat → Prop) (dC : Nat → ClassId) (dI : Nat → Nat → Nat) (a : Nat → Nat) (ac : Nat → ClassId) (g : Nat → Int32 → Int32 → Int32 → (St × Rw × (St × (St × (St × (St)))) × (St) × (St) × (Nat → St) × (Nat → St) × (Nat → St × (St))) → Option (Int32 × (St × Rw × (St × (St × (St × (St)))) × (St) × (St) × (Nat → St) × (Nat → St) × (Nat → St × (St))))) (r : Int32 × (St × Rw × (St × (St × (St × (St)))) × (St) × (St) × (Nat → St) × (Nat → St) × (Nat → St × (St)))) : Prop := ∀ (x1 : Nat) (x2 : Int32) (x3 : Int32) (x5 : Int32) (s0 : St × Rw × (St × (St × (St × (St)))) × (St) × (St) × (Nat → St) × (Nat → St) × (Nat → St × (St))) (H : Heap) (locs : List Loc) (ls : Array Slot), g x1 x2 x3 x5 s0 = some r → va_P (dC, dI) vwCl (dw_X11 a ac s0) H → va_D A (dw_X11 a ac s0) → va_S A s.heap H locs → lv_has ls 8 [(0, .ref (a 0)), (1, .ref (a (0 + x1 * 9 + 86))), (2, .int x2), (3, .int x3), (5, .int x5)] → W p l e (headSpec ow_dm_X11_latest ({ frames := 8, cells := 0, slots := 0, locals := 182 })).room s m args below meth c H locs 0 0 Q (F0 m 60 ls [])
def dj_X11_latest_10 (p : Program) (l : Launch) (e : Env) (s : State) (m : MethodId) (args : Array Value) (below : List Frame) (meth : Method) (c : Code) (Q : State → Prop) (A : Nat → Prop) (dC : Nat → ClassId) (dI : Nat → Nat → Nat) (a : Nat → Nat) (ac : Nat → ClassId) (g : Nat → Int32 → Int32 → (St × Rw × (St × (St × (St × (St)))) × (St) × (St) × (Nat → St) × (Nat → St) × (Nat → St × (St))) → Option (Int32 × (St × Rw × (St × (St × (St × (St)))) × (St) × (St) × (Nat → St) × (Nat → St) × (Nat → St × (St))))) (r : Int32 × (St × Rw × (St × (St × (St × (St)))) × (St) × (St) × (Nat → St) × (Nat → St) × (Nat → St × (St)))) : Prop := ∀ (x1 : Nat) (x2 : Int32) (x3 : Int32) (s0 : St × Rw × (St × (St × (St × (St)))) × (St) × (St) × (Nat → St) × (Nat → St) × (Nat → St × (St))) (H : Heap) (locs : List Loc) (ls : Array Slot), g x1 x2 x3 s0 = some r → va_P (dC, dI) vwCl (dw_X11 a ac s0) H → va_D A (dw_X11 a ac s0) → va_S A s.heap H locs → lv_has ls 8 [(0, .ref (a 0)), (1, .ref (a (0 + x1 * 9 + 86))), (2, .int x2), (3, .int x3)] → W p l e (headSpec ow_dm_X11_latest ({ frames := 8, cells := 0, slots := 0, locals := 182 })).room s m args below meth c H locs 0 0 Q (F0 m 10 ls [])
def dj_X11_latest_0 (p : Program) (l : Launch) (e : Env) (s : State) (m : MethodId) (args : Array Value) (below : List Frame) (meth : Method) (c : Code) (Q : State → Prop) (A : Nat → Prop) (dC : Nat → ClassId) (dI : Nat → Nat → Nat) (a : Nat → Nat) (ac : Nat → ClassId) (g : Nat → (St × Rw × (St × (St × (St × (St)))) × (St) × (St) × (Nat → St) × (Nat → St) × (Nat → St × (St))) → Option (Int32 × (St × Rw × (St × (St × (St × (St)))) × (St) × (St) × (Nat → St) × (Nat → St) × (Nat → St × (St))))) (r : Int32 × (St × Rw × (St × (St × (St × (St)))) × (St) × (St) × (Nat → St) × (Nat → St) × (Nat → St × (St)))) : Prop := ∀ (v0 : Nat) (s0 : St × Rw × (St × (St × (St × (St)))) × (St) × (St) × (Nat → St) × (Nat → St) × (Nat → St × (St))) (H : Heap) (locs : List Loc) (ls : Array Slot), g v0 s0 = some r → va_P (dC, dI) vwCl (dw_X11 a ac s0) H → va_D A (dw_X11 a ac s0) → va_S A s.heap H locs → lv_has ls 8 [(0, .ref (a 0)), (1, .ref (a (0 + v0 * 9 + 86)))] → W p l e (headSpec ow_dm_X11_latest ({ frames := 8, cells := 0, slots := 0, locals := 182 })).room s m args below meth c H locs 0 0 Q (F0 m 0 ls [])
set_option maxHeartbeats 40000000 in
set_option maxRecDepth 100000 in
theorem db_X11_latest_147 {p : Program} {l : Launch} {e : Env} {s : State} {m : MethodId} {args : Array Value} {below : List Frame} {meth : Method} {c : Code} {Q : State → Prop} {A : Nat → Prop} {dC : Nat → ClassId} {dI : Nat → Nat → Nat} {a : Nat → Nat} {ac : Nat → ClassId} {n : Nat} {r : Int32 × (St × Rw × (St × (St × (St × (St)))) × (St) × (St) × (Nat → St) × (Nat → St) × (Nat → St × (St)))} (C : nd_C p l s m args c A (dC, dI) cX11_latest 8 RX11 ow_dm_X11_latest (dk_X11 ac)) (K : nd_Ki p l e (headSpec ow_dm_X11_latest ({ frames := 8, cells := 0, slots := 0, locals := 182 })).room s m args below meth c Q A (dC, dI) cX11_latest .int (St × Rw × (St × (St × (St × (St)))) × (St) × (St) × (Nat → St) × (Nat → St) × (Nat → St × (St))) (dw_X11 a ac) r) : dj_X11_latest_147 p l e s m args below meth c Q A dC dI a ac (df_X11_latest_147 n) r := by
  obtain ⟨hlt, hx, hb, hml, hown, hts, hN, hA, hK⟩ := id C
  intro s0 H locs ls h hP hD hS hl
  unfold df_X11_latest_147 at h
  refine lv_iconst (v := (-1)) hx hb dX11_latest_147 (by decide) ?_
  exact K _ _ _ _ _ _ dX11_latest_148 rfl (Option.some.inj h).symm hP hD hS
set_option maxHeartbeats 40000000 in
set_option maxRecDepth 100000 in
theorem db_X11_latest_140 {p : Program} {l : Launch} {e : Env} {s : State} {m : MethodId} {args : Array Value} {below : List Frame} {meth : Method} {c : Code} {Q : State → Prop} {A : Nat → Prop} {dC : Nat → ClassId} {dI : Nat → Nat → Nat} {a : Nat → Nat} {ac : Nat → ClassId} {n : Nat} {r : Int32 × (St × Rw × (St × (St × (St × (St)))) × (St) × (St) × (Nat → St) × (Nat → St) × (Nat → St × (St)))} (C : nd_C p l s m args c A (dC, dI) cX11_latest 8 RX11 ow_dm_X11_latest (dk_X11 ac)) (K : nd_Ki p l e (headSpec ow_dm_X11_latest ({ frames := 8, cells := 0, slots := 0, locals := 182 })).room s m args below meth c Q A (dC, dI) cX11_latest .int (St × Rw × (St × (St × (St × (St)))) × (St) × (St) × (Nat → St) × (Nat → St) × (Nat → St × (St))) (dw_X11 a ac) r) {g10 : Nat → Int32 → Int32 → (St × Rw × (St × (St × (St × (St)))) × (St) × (St) × (Nat → St) × (Nat → St) × (Nat → St × (St))) → Option (Int32 × (St × Rw × (St × (St × (St × (St)))) × (St) × (St) × (Nat → St) × (Nat → St) × (Nat → St × (St))))} (J10 : dj_X11_latest_10 p l e s m args below meth c Q A dC dI a ac g10 r) : dj_X11_latest_140 p l e s m args below meth c Q A dC dI a ac (df_X11_latest_140 n g10) r := by
  obtain ⟨hlt, hx, hb, hml, hown, hts, hN, hA, hK⟩ := id C
  intro x1 x3 y0 s0 H locs ls h hP hD hS hl
  unfold df_X11_latest_140 at h
  refine lv_istore_n (lv' := [(2, .int y0), (0, .ref (a 0)), (1, .ref (a (0 + x1 * 9 + 86))), (3, .int x3)]) hx hb dX11_latest_140 rfl hl (by decide) rfl (fun ls hl => ?_)
  obtain ⟨z16, ez16, h⟩ := nd_let_e h
  refine lv_iinc (v := z16) (lv' := [(3, .int z16), (2, .int y0), (0, .ref (a 0)), (1, .ref (a (0 + x1 * 9 + 86)))]) hx hb dX11_latest_141 hl (k := 3) rfl (by rw [ez16]) (by decide) rfl (fun ls hl => ?_)
  refine lv_goto (tgt := 10) hx hb dX11_latest_144 (by decide) ?_
  exact (J10) (x1) (y0) (z16) s0 _ _ _ h hP hD hS (lv_sub hl [2, 3, 1, 0] rfl)
set_option maxHeartbeats 40000000 in
set_option maxRecDepth 100000 in
theorem db_X11_latest_115 {p : Program} {l : Launch} {e : Env} {s : State} {m : MethodId} {args : Array Value} {below : List Frame} {meth : Method} {c : Code} {Q : State → Prop} {A : Nat → Prop} {dC : Nat → ClassId} {dI : Nat → Nat → Nat} {a : Nat → Nat} {ac : Nat → ClassId} {n : Nat} {r : Int32 × (St × Rw × (St × (St × (St × (St)))) × (St) × (St) × (Nat → St) × (Nat → St) × (Nat → St × (St)))} (C : nd_C p l s m args c A (dC, dI) cX11_latest 8 RX11 ow_dm_X11_latest (dk_X11 ac)) (K : nd_Ki p l e (headSpec ow_dm_X11_latest ({ frames := 8, cells := 0, slots := 0, locals := 182 })).room s m args below meth c Q A (dC, dI) cX11_latest .int (St × Rw × (St × (St × (St × (St)))) × (St) × (St) × (Nat → St) × (Nat → St) × (Nat → St × (St))) (dw_X11 a ac) r) {g10 : Nat → Int32 → Int32 → (St × Rw × (St × (St × (St × (St)))) × (St) × (St) × (Nat → St) × (Nat → St) × (Nat → St × (St))) → Option (Int32 × (St × Rw × (St × (St × (St × (St)))) × (St) × (St) × (Nat → St) × (Nat → St) × (Nat → St × (St))))} {g71 : Nat → Int32 → Int32 → Int32 → Int32 → (St × Rw × (St × (St × (St × (St)))) × (St) × (St) × (Nat → St) × (Nat → St) × (Nat → St × (St))) → Option (Int32 × (St × Rw × (St × (St × (St × (St)))) × (St) × (St) × (Nat → St) × (Nat → St) × (Nat → St × (St))))} (J10 : dj_X11_latest_10 p l e s m args below meth c Q A dC dI a ac g10 r) (J71 : dj_X11_latest_71 p l e s m args below meth c Q A dC dI a ac g71 r) : dj_X11_latest_115 p l e s m args below meth c Q A dC dI a ac (df_X11_latest_115 n g10 g71) r := by
  obtain ⟨hlt, hx, hb, hml, hown, hts, hN, hA, hK⟩ := id C
  intro x1 x3 x5 x6 x7 s0 H locs ls h hP hD hS hl
  unfold df_X11_latest_115 at h
  obtain ⟨z30, ez30, h⟩ := nd_let_e h
  refine lv_iinc (v := z30) (lv' := [(7, .int z30), (0, .ref (a 0)), (1, .ref (a (0 + x1 * 9 + 86))), (3, .int x3), (5, .int x5), (6, .int x6)]) hx hb dX11_latest_115 hl (k := 5) rfl (by rw [ez30]) (by decide) rfl (fun ls hl => ?_)
  refine lv_goto (tgt := 71) hx hb dX11_latest_118 (by decide) ?_
  exact (J71) (x1) (x3) (x5) (x6) (z30) s0 _ _ _ h hP hD hS (lv_sub hl [1, 2, 3, 4, 5, 0] rfl)
set_option maxHeartbeats 40000000 in
set_option maxRecDepth 100000 in
theorem dB_X11_latest_71 {p : Program} {l : Launch} {e : Env} {s : State} {m : MethodId} {args : Array Value} {below : List Frame} {meth : Method} {c : Code} {Q : State → Prop} {A : Nat → Prop} {dC : Nat → ClassId} {dI : Nat → Nat → Nat} {a : Nat → Nat} {ac : Nat → ClassId} {n : Nat} {r : Int32 × (St × Rw × (St × (St × (St × (St)))) × (St) × (St) × (Nat → St) × (Nat → St) × (Nat → St × (St)))} (C : nd_C p l s m args c A (dC, dI) cX11_latest 8 RX11 ow_dm_X11_latest (dk_X11 ac)) (K : nd_Ki p l e (headSpec ow_dm_X11_latest ({ frames := 8, cells := 0, slots := 0, locals := 182 })).room s m args below meth c Q A (dC, dI) cX11_latest .int (St × Rw × (St × (St × (St × (St)))) × (St) × (St) × (Nat → St) × (Nat → St) × (Nat → St × (St))) (dw_X11 a ac) r) {g10 : Nat → Int32 → Int32 → (St × Rw × (St × (St × (St × (St)))) × (St) × (St) × (Nat → St) × (Nat → St) × (Nat → St × (St))) → Option (Int32 × (St × Rw × (St × (St × (St × (St)))) × (St) × (St) × (Nat → St) × (Nat → St) × (Nat → St × (St))))} (J10 : dj_X11_latest_10 p l e s m args below meth c Q A dC dI a ac g10 r) {g71 : Nat → Int32 → Int32 → Int32 → Int32 → (St × Rw × (St × (St × (St × (St)))) × (St) × (St) × (Nat → St) × (Nat → St) × (Nat → St × (St))) → Option (Int32 × (St × Rw × (St × (St × (St × (St)))) × (St) × (St) × (Nat → St) × (Nat → St) × (Nat → St × (St))))} (J71 : dj_X11_latest_71 p l e s m args below meth c Q A dC dI a ac g71 r) : dj_X11_latest_71 p l e s m args below meth c Q A dC dI a ac (dF_X11_latest_71 n g10 g71) r := by
  obtain ⟨hlt, hx, hb, hml, hown, hts, hN, hA, hK⟩ := id C
  intro x1 x3 x5 x6 x7 s0 H locs ls h hP hD hS hl
  unfold dF_X11_latest_71 at h
  refine lv_iload hx hb dX11_latest_71 (lv_at hl 5 rfl) ?_
  refine lv_if_le (tgt := 121) hx hb dX11_latest_73 (by decide) (fun c13 => ?_) (fun c13 => ?_)
  · have h := nd_pos h c13
    refine lv_iload hx hb dX11_latest_121 (lv_at hl 4 rfl) ?_
    refine lv_if_lt (tgt := 129) hx hb dX11_latest_123 (by decide) (fun c14 => ?_) (fun c14 => ?_)
    · have h := nd_pos h c14
      refine lv_iload hx hb dX11_latest_129 (lv_at hl 3 rfl) ?_
      refine lv_if_ne (tgt := 138) hx hb dX11_latest_131 (by decide) (fun c15 => ?_) (fun c15 => ?_)
      · have h := nd_neg h c15
        refine lv_iload hx hb dX11_latest_138 (lv_at hl 3 rfl) ?_
        exact (db_X11_latest_140 C K J10) (x1) (x3) (x5) s0 _ _ _ h hP hD hS (lv_sub hl [0, 1, 2] rfl)
      · have h := nd_pos h c15
        refine lv_iconst (v := (-1)) hx hb dX11_latest_134 (by decide) ?_
        refine lv_goto (tgt := 140) hx hb dX11_latest_135 (by decide) ?_
        exact (db_X11_latest_140 C K J10) (x1) (x3) ((-1)) s0 _ _ _ h hP hD hS (lv_sub hl [0, 1, 2] rfl)
    · have h := nd_neg h c14
      refine lv_iload hx hb dX11_latest_126 (lv_at hl 4 rfl) ?_
      exact K _ _ _ _ _ _ dX11_latest_128 rfl (Option.some.inj h).symm hP hD hS
  · have h := nd_neg h c13
    refine lv_aload_n hx hb dX11_latest_76 rfl (lv_at hl 1 rfl) ?_
    refine lv_aload_n hx hb dX11_latest_77 rfl (lv_at hl 0 rfl) ?_
    refine va_get (D := (dC, dI)) (ci := 12) (v := .ref (a 7)) (C := RX11) (T := TX11) (N := 16) hx hb hts hi_dm_X11_latest_X11 hown hK hP 0 rfl rfl 3 (by decide) (hts (.fieldLink RX11 30 "TimeMachine$Timeline" "machine" "LTimeMachine$Machine;") (List.mem_of_getElem? (i := 13) rfl)) (fun _ h9 => h9) rfl dX11_latest_78 ?_
    refine lv_aload_n hx hb dX11_latest_81 rfl (lv_at hl 0 rfl) ?_
    refine va_get (D := (dC, dI)) (ci := 12) (v := .int (sI s0.1 3)) (C := RX11) (T := TX11) (N := 16) hx hb hts hi_dm_X11_latest_X11 hown hK hP 0 rfl rfl 11 (by decide) (hts (.fieldLink RX11 72 "TimeMachine$Timeline" "now" "I") (List.mem_of_getElem? (i := 1) rfl)) (fun _ h9 => h9) rfl dX11_latest_82 ?_
    obtain ⟨l17, h⟩ := nd_lt_e h
    obtain ⟨s19, hq, h⟩ := nd_b1_e h
    have hPc := dp_wX11_X2m_8 l17 hP
    have hDc := dd_wX11_X2m_8 l17 hD
    have hKc := dy_wX11_X2m_8 l17 hK
    have hFc := nd_rs hDc hS hA
    have hzA : ∀ q : Nat, H.size ≤ q → A q := fun q h => hA q (Nat.le_trans hS.1 h)
    refine nd_cVv (As := [.ref (a 7), .int (sI s0.1 3)]) (rest := []) (w' := dw_X2m (fun k => a (if k < 9 then k - 0 + x1 * 9 + 86 else k - 9 + 7)) (fun k => ac (if k < 9 then k - 0 + x1 * 9 + 86 else k - 9 + 7)) s19) ⟨hx, hb, hml, hown, hts⟩ (fun sz => dm_X2_remember l hlt dC dI (fun k => a (if k < 9 then k - 0 + x1 * 9 + 86 else k - 9 + 7)) (fun k => ac (if k < 9 then k - 0 + x1 * 9 + 86 else k - 9 + 7)) n ((sI s0.1 3)) (nd_st0, (s0.2.2.2.2.2.2.1 x1), s0.2.2.1.2.2) hq sz) (cwV 2 hts gi_dm_X11_latest_2 rfl rfl rfl (by decide +kernel) ⟨Nat.le_of_ble_eq_true rfl, Nat.le_of_ble_eq_true rfl⟩) hPc hDc hKc hS hA hN (va_recv hKc hPc (ci := 3) (q0 := 0) rfl rfl) rfl hl.1 rfl (Nat.le_of_ble_eq_true rfl) dX11_latest_85 (fun H locs hP1 hD1 hk1 hS => ?_)
    obtain ⟨hP, hD⟩ := dn_wX11_X2m_8 l17 hP hD hzA hk1 hP1 hD1
    obtain ⟨s21, es21, h⟩ := nd_let_e h
    have hP : va_P (dC, dI) vwCl (dw_X11 a ac s21) H := by rw [es21]; exact hP
    have hD : va_D A (dw_X11 a ac s21) := by rw [es21]; exact hD
    refine lv_aload_n hx hb dX11_latest_88 rfl (lv_at hl 0 rfl) ?_
    obtain ⟨s23, hq, h⟩ := nd_b1_e h
    have hPc := hP
    have hDc := hD
    have hKc := hK
    have hFc := nd_rs hD hS hA
    refine nd_cVv (As := []) (rest := []) (w' := dw_X11 a ac s23) ⟨hx, hb, hml, hown, hts⟩ (fun sz => dm_X11_advance l hlt dC dI a ac n  s21 hq sz) (cwV 0 hts gi_dm_X11_latest_3 rfl rfl rfl (by decide +kernel) ⟨Nat.le_of_ble_eq_true rfl, Nat.le_of_ble_eq_true rfl⟩) hPc hDc hKc hS hA hN (va_recv hKc hPc (ci := 12) (q0 := 0) rfl rfl) rfl hl.1 rfl (Nat.le_of_ble_eq_true rfl) dX11_latest_89 (fun H locs hP1 hD1 hk1 hS => ?_)
    have hP := hP1
    have hD := hD1.weaken (fun k q _ h => hFc q.1 h)
    refine lv_aload_n hx hb dX11_latest_92 rfl (lv_at hl 1 rfl) ?_
    refine lv_aload_n hx hb dX11_latest_93 rfl (lv_at hl 0 rfl) ?_
    refine va_get (D := (dC, dI)) (ci := 12) (v := .ref (a 7)) (C := RX11) (T := TX11) (N := 16) hx hb hts hi_dm_X11_latest_X11 hown hK hP 0 rfl rfl 3 (by decide) (hts (.fieldLink RX11 30 "TimeMachine$Timeline" "machine" "LTimeMachine$Machine;") (List.mem_of_getElem? (i := 13) rfl)) (fun _ h9 => h9) rfl dX11_latest_94 ?_
    refine lv_aload_n hx hb dX11_latest_97 rfl (lv_at hl 0 rfl) ?_
    refine va_get (D := (dC, dI)) (ci := 12) (v := .int (sI s23.1 3)) (C := RX11) (T := TX11) (N := 16) hx hb hts hi_dm_X11_latest_X11 hown hK hP 0 rfl rfl 11 (by decide) (hts (.fieldLink RX11 72 "TimeMachine$Timeline" "now" "I") (List.mem_of_getElem? (i := 1) rfl)) (fun _ h9 => h9) rfl dX11_latest_98 ?_
    obtain ⟨q25, s26, hq, h⟩ := nd_b2_e h
    have hPc := dp_wX11_X2m_8 l17 hP
    have hDc := dd_wX11_X2m_8 l17 hD
    have hKc := dy_wX11_X2m_8 l17 hK
    have hFc := nd_rs hDc hS hA
    have hzA : ∀ q : Nat, H.size ≤ q → A q := fun q h => hA q (Nat.le_trans hS.1 h)
    refine nd_cVl (As := [.ref (a 7), .int (sI s23.1 3)]) (rest := []) (q := q25) (w' := dw_X2m (fun k => a (if k < 9 then k - 0 + x1 * 9 + 86 else k - 9 + 7)) (fun k => ac (if k < 9 then k - 0 + x1 * 9 + 86 else k - 9 + 7)) s26) ⟨hx, hb, hml, hown, hts⟩ (fun sz => dm_X2_worth l hlt dC dI (fun k => a (if k < 9 then k - 0 + x1 * 9 + 86 else k - 9 + 7)) (fun k => ac (if k < 9 then k - 0 + x1 * 9 + 86 else k - 9 + 7)) n ((sI s23.1 3)) (nd_st0, (s23.2.2.2.2.2.2.1 x1), s23.2.2.1.2.2) hq sz) (cwV 2 hts gi_dm_X11_latest_4 rfl rfl rfl (by decide +kernel) ⟨Nat.le_of_ble_eq_true rfl, Nat.le_of_ble_eq_true rfl⟩) hPc hDc hKc hS hA hN (va_recv hKc hPc (ci := 3) (q0 := 0) rfl rfl) rfl hl.1 rfl (Nat.le_of_ble_eq_true rfl) dX11_latest_101 (fun H locs hP1 hD1 hk1 hS => ?_)
    obtain ⟨hP, hD⟩ := dn_wX11_X2m_8 l17 hP hD hzA hk1 hP1 hD1
    obtain ⟨s28, es28, h⟩ := nd_let_e h
    have hP : va_P (dC, dI) vwCl (dw_X11 a ac s28) H := by rw [es28]; exact hP
    have hD : va_D A (dw_X11 a ac s28) := by rw [es28]; exact hD
    refine lv_lconst (v := 0) hx hb dX11_latest_104 (by decide) ?_
    refine W.lcmp hx hb dX11_latest_105 ?_
    refine lv_if_eq (tgt := 115) hx hb dX11_latest_106 (by decide) (fun c29 => ?_) (fun c29 => ?_)
    · have h := nd_pos h c29
      exact (db_X11_latest_115 C K J10 J71) (x1) (x3) (x5) (x6) (x7) s28 _ _ _ h hP hD hS (lv_sub hl [0, 1, 2, 3, 4, 5] rfl)
    · have h := nd_neg h c29
      refine lv_aload_n hx hb dX11_latest_109 rfl (lv_at hl 0 rfl) ?_
      refine va_get (D := (dC, dI)) (ci := 12) (v := .int (sI s28.1 3)) (C := RX11) (T := TX11) (N := 16) hx hb hts hi_dm_X11_latest_X11 hown hK hP 0 rfl rfl 11 (by decide) (hts (.fieldLink RX11 72 "TimeMachine$Timeline" "now" "I") (List.mem_of_getElem? (i := 1) rfl)) (fun _ h9 => h9) rfl dX11_latest_110 ?_
      refine lv_topi (fun z31 ez31 => ?_)
      have h := nd_at h ez31
      refine lv_istore (lv' := [(6, .int z31), (0, .ref (a 0)), (1, .ref (a (0 + x1 * 9 + 86))), (3, .int x3), (5, .int x5), (7, .int x7)]) hx hb dX11_latest_113 hl (by decide) rfl (fun ls hl => ?_)
      exact (db_X11_latest_115 C K J10 J71) (x1) (x3) (x5) (z31) (x7) s28 _ _ _ h hP hD hS (lv_sub hl [1, 2, 3, 4, 0, 5] rfl)
set_option maxHeartbeats 40000000 in
set_option maxRecDepth 100000 in
theorem db_X11_latest_71 {p : Program} {l : Launch} {e : Env} {s : State} {m : MethodId} {args : Array Value} {below : List Frame} {meth : Method} {c : Code} {Q : State → Prop} {A : Nat → Prop} {dC : Nat → ClassId} {dI : Nat → Nat → Nat} {a : Nat → Nat} {ac : Nat → ClassId} {n : Nat} {r : Int32 × (St × Rw × (St × (St × (St × (St)))) × (St) × (St) × (Nat → St) × (Nat → St) × (Nat → St × (St)))} (C : nd_C p l s m args c A (dC, dI) cX11_latest 8 RX11 ow_dm_X11_latest (dk_X11 ac)) (K : nd_Ki p l e (headSpec ow_dm_X11_latest ({ frames := 8, cells := 0, slots := 0, locals := 182 })).room s m args below meth c Q A (dC, dI) cX11_latest .int (St × Rw × (St × (St × (St × (St)))) × (St) × (St) × (Nat → St) × (Nat → St) × (Nat → St × (St))) (dw_X11 a ac) r) {g10 : Nat → Int32 → Int32 → (St × Rw × (St × (St × (St × (St)))) × (St) × (St) × (Nat → St) × (Nat → St) × (Nat → St × (St))) → Option (Int32 × (St × Rw × (St × (St × (St × (St)))) × (St) × (St) × (Nat → St) × (Nat → St) × (Nat → St × (St))))} (J10 : dj_X11_latest_10 p l e s m args below meth c Q A dC dI a ac g10 r) (k : Nat) : dj_X11_latest_71 p l e s m args below meth c Q A dC dI a ac (df_X11_latest_71 n g10 k) r := by
  induction k with
  | zero => intro x1 x3 x5 x6 x7 s0 H locs ls h; exact nomatch (show (none : Option (Int32 × (St × Rw × (St × (St × (St × (St)))) × (St) × (St) × (Nat → St) × (Nat → St) × (Nat → St × (St))))) = some r from h)
  | succ k ih => exact dB_X11_latest_71 C K J10 ih
set_option maxHeartbeats 40000000 in
set_option maxRecDepth 100000 in
theorem db_X11_latest_61 {p : Program} {l : Launch} {e : Env} {s : State} {m : MethodId} {args : Array Value} {below : List Frame} {meth : Method} {c : Code} {Q : State → Prop} {A : Nat → Prop} {dC : Nat → ClassId} {dI : Nat → Nat → Nat} {a : Nat → Nat} {ac : Nat → ClassId} {n : Nat} {r : Int32 × (St × Rw × (St × (St × (St × (St)))) × (St) × (St) × (Nat → St) × (Nat → St) × (Nat → St × (St)))} (C : nd_C p l s m args c A (dC, dI) cX11_latest 8 RX11 ow_dm_X11_latest (dk_X11 ac)) (K : nd_Ki p l e (headSpec ow_dm_X11_latest ({ frames := 8, cells := 0, slots := 0, locals := 182 })).room s m args below meth c Q A (dC, dI) cX11_latest .int (St × Rw × (St × (St × (St × (St)))) × (St) × (St) × (Nat → St) × (Nat → St) × (Nat → St × (St))) (dw_X11 a ac) r) {g10 : Nat → Int32 → Int32 → (St × Rw × (St × (St × (St × (St)))) × (St) × (St) × (Nat → St) × (Nat → St) × (Nat → St × (St))) → Option (Int32 × (St × Rw × (St × (St × (St × (St)))) × (St) × (St) × (Nat → St) × (Nat → St) × (Nat → St × (St))))} (J10 : dj_X11_latest_10 p l e s m args below meth c Q A dC dI a ac g10 r) : dj_X11_latest_61 p l e s m args below meth c Q A dC dI a ac (df_X11_latest_61 n g10) r := by
  obtain ⟨hlt, hx, hb, hml, hown, hts, hN, hA, hK⟩ := id C
  intro x1 x2 x3 x5 y0 s0 H locs ls h hP hD hS hl
  unfold df_X11_latest_61 at h
  refine lv_istore (lv' := [(6, .int y0), (0, .ref (a 0)), (1, .ref (a (0 + x1 * 9 + 86))), (2, .int x2), (3, .int x3), (5, .int x5)]) hx hb dX11_latest_61 hl (by decide) rfl (fun ls hl => ?_)
  refine lv_iload_n hx hb dX11_latest_63 rfl (lv_at hl 3 rfl) ?_
  refine lv_aload_n hx hb dX11_latest_64 rfl (lv_at hl 1 rfl) ?_
  refine va_get (D := (dC, dI)) (ci := 12) (v := .int (sI s0.1 3)) (C := RX11) (T := TX11) (N := 16) hx hb hts hi_dm_X11_latest_X11 hown hK hP 0 rfl rfl 11 (by decide) (hts (.fieldLink RX11 72 "TimeMachine$Timeline" "now" "I") (List.mem_of_getElem? (i := 1) rfl)) (fun _ h9 => h9) rfl dX11_latest_65 ?_
  refine lv_isub hx hb dX11_latest_68 ?_
  refine lv_topi (fun z12 ez12 => ?_)
  have h := nd_at h ez12
  refine lv_istore (lv' := [(7, .int z12), (6, .int y0), (0, .ref (a 0)), (1, .ref (a (0 + x1 * 9 + 86))), (2, .int x2), (3, .int x3), (5, .int x5)]) hx hb dX11_latest_69 hl (by decide) rfl (fun ls hl => ?_)
  exact (db_X11_latest_71 C K J10 n) (x1) (x3) (x5) (y0) (z12) s0 _ _ _ h hP hD hS (lv_sub hl [2, 3, 5, 6, 1, 0] rfl)
set_option maxHeartbeats 40000000 in
set_option maxRecDepth 100000 in
theorem db_X11_latest_60 {p : Program} {l : Launch} {e : Env} {s : State} {m : MethodId} {args : Array Value} {below : List Frame} {meth : Method} {c : Code} {Q : State → Prop} {A : Nat → Prop} {dC : Nat → ClassId} {dI : Nat → Nat → Nat} {a : Nat → Nat} {ac : Nat → ClassId} {n : Nat} {r : Int32 × (St × Rw × (St × (St × (St × (St)))) × (St) × (St) × (Nat → St) × (Nat → St) × (Nat → St × (St)))} (C : nd_C p l s m args c A (dC, dI) cX11_latest 8 RX11 ow_dm_X11_latest (dk_X11 ac)) (K : nd_Ki p l e (headSpec ow_dm_X11_latest ({ frames := 8, cells := 0, slots := 0, locals := 182 })).room s m args below meth c Q A (dC, dI) cX11_latest .int (St × Rw × (St × (St × (St × (St)))) × (St) × (St) × (Nat → St) × (Nat → St) × (Nat → St × (St))) (dw_X11 a ac) r) {g10 : Nat → Int32 → Int32 → (St × Rw × (St × (St × (St × (St)))) × (St) × (St) × (Nat → St) × (Nat → St) × (Nat → St × (St))) → Option (Int32 × (St × Rw × (St × (St × (St × (St)))) × (St) × (St) × (Nat → St) × (Nat → St) × (Nat → St × (St))))} (J10 : dj_X11_latest_10 p l e s m args below meth c Q A dC dI a ac g10 r) : dj_X11_latest_60 p l e s m args below meth c Q A dC dI a ac (df_X11_latest_60 n g10) r := by
  obtain ⟨hlt, hx, hb, hml, hown, hts, hN, hA, hK⟩ := id C
  intro x1 x2 x3 x5 s0 H locs ls h hP hD hS hl
  unfold df_X11_latest_60 at h
  refine lv_iconst (v := (-1)) hx hb dX11_latest_60 (by decide) ?_
  exact (db_X11_latest_61 C K J10) (x1) (x2) (x3) (x5) ((-1)) s0 _ _ _ h hP hD hS (lv_sub hl [0, 1, 2, 3, 4] rfl)
set_option maxHeartbeats 40000000 in
set_option maxRecDepth 100000 in
theorem dB_X11_latest_10 {p : Program} {l : Launch} {e : Env} {s : State} {m : MethodId} {args : Array Value} {below : List Frame} {meth : Method} {c : Code} {Q : State → Prop} {A : Nat → Prop} {dC : Nat → ClassId} {dI : Nat → Nat → Nat} {a : Nat → Nat} {ac : Nat → ClassId} {n : Nat} {r : Int32 × (St × Rw × (St × (St × (St × (St)))) × (St) × (St) × (Nat → St) × (Nat → St) × (Nat → St × (St)))} (C : nd_C p l s m args c A (dC, dI) cX11_latest 8 RX11 ow_dm_X11_latest (dk_X11 ac)) (K : nd_Ki p l e (headSpec ow_dm_X11_latest ({ frames := 8, cells := 0, slots := 0, locals := 182 })).room s m args below meth c Q A (dC, dI) cX11_latest .int (St × Rw × (St × (St × (St × (St)))) × (St) × (St) × (Nat → St) × (Nat → St) × (Nat → St × (St))) (dw_X11 a ac) r) {g10 : Nat → Int32 → Int32 → (St × Rw × (St × (St × (St × (St)))) × (St) × (St) × (Nat → St) × (Nat → St) × (Nat → St × (St))) → Option (Int32 × (St × Rw × (St × (St × (St × (St)))) × (St) × (St) × (Nat → St) × (Nat → St) × (Nat → St × (St))))} (J10 : dj_X11_latest_10 p l e s m args below meth c Q A dC dI a ac g10 r) : dj_X11_latest_10 p l e s m args below meth c Q A dC dI a ac (dF_X11_latest_10 n g10) r := by
  obtain ⟨hlt, hx, hb, hml, hown, hts, hN, hA, hK⟩ := id C
  intro x1 x2 x3 s0 H locs ls h hP hD hS hl
  unfold dF_X11_latest_10 at h
  refine lv_iload_n hx hb dX11_latest_10 rfl (lv_at hl 3 rfl) ?_
  refine lv_if_le (tgt := 147) hx hb dX11_latest_11 (by decide) (fun c2 => ?_) (fun c2 => ?_)
  · have h := nd_pos h c2
    exact (db_X11_latest_147 C K)  s0 _ _ _ h hP hD hS (lv_sub hl [] rfl)
  · have h := nd_neg h c2
    refine lv_iload_n hx hb dX11_latest_14 rfl (lv_at hl 2 rfl) ?_
    refine lv_if_lt (tgt := 147) hx hb dX11_latest_15 (by decide) (fun c3 => ?_) (fun c3 => ?_)
    · have h := nd_pos h c3
      exact (db_X11_latest_147 C K)  s0 _ _ _ h hP hD hS (lv_sub hl [] rfl)
    · have h := nd_neg h c3
      refine lv_aload_n hx hb dX11_latest_18 rfl (lv_at hl 0 rfl) ?_
      refine lv_iconst (v := 0) hx hb dX11_latest_19 (by decide) ?_
      refine lv_iload_n hx hb dX11_latest_20 rfl (lv_at hl 2 rfl) ?_
      refine lv_iconst (v := 1) hx hb dX11_latest_21 (by decide) ?_
      refine lv_isub hx hb dX11_latest_22 ?_
      refine va_mmax hx hb (by rw [hml]; exact hl.1.symm) hown (hts (.methodLink RX11 104 Lib.Math.max.name) (List.mem_of_getElem? (i := 2) rfl)) (hts (.static Lib.Math.max.name) (List.mem_of_getElem? (i := 3) rfl)) (hts (.initialized "java/lang/Math") (List.mem_of_getElem? (i := 4) rfl)) (hts (.code Lib.Math.max.name Lib.Math.max.code 2 (some .int)) (List.mem_of_getElem? (i := 5) rfl)) (Nat.le_of_ble_eq_true rfl) (Nat.le_of_ble_eq_true rfl) (by decide +kernel) (by decide +kernel) dX11_latest_23 ?_
      obtain ⟨q4, s5, hq, h⟩ := nd_b2_e h
      have hPc := hP
      have hDc := hD
      have hKc := hK
      have hFc := nd_rs hD hS hA
      refine nd_cVi (As := [.int (if (0 : Int32) < (x2 - 1) then (x2 - 1) else 0)]) (rest := []) (q := q4) (w' := dw_X11 a ac s5) ⟨hx, hb, hml, hown, hts⟩ (fun sz => dm_X11_copyUpTo l hlt dC dI a ac n ((if (0 : Int32) < (x2 - 1) then (x2 - 1) else 0)) s0 hq sz) (cwV 1 hts gi_dm_X11_latest_0 rfl rfl rfl (by decide +kernel) ⟨Nat.le_of_ble_eq_true rfl, Nat.le_of_ble_eq_true rfl⟩) hPc hDc hKc hS hA hN (va_recv hKc hPc (ci := 12) (q0 := 0) rfl rfl) rfl hl.1 rfl (Nat.le_of_ble_eq_true rfl) dX11_latest_26 (fun H locs hP1 hD1 hk1 hS => ?_)
      have hP := hP1
      have hD := hD1.weaken (fun k q _ h => hFc q.1 h)
      refine lv_istore (lv' := [(4, .int q4), (0, .ref (a 0)), (1, .ref (a (0 + x1 * 9 + 86))), (2, .int x2), (3, .int x3)]) hx hb dX11_latest_29 hl (by decide) rfl (fun ls hl => ?_)
      refine lv_aload_n hx hb dX11_latest_31 rfl (lv_at hl 1 rfl) ?_
      refine lv_iload hx hb dX11_latest_32 (lv_at hl 0 rfl) ?_
      obtain ⟨s8, hq, h⟩ := nd_b1_e h
      have hPc := hP
      have hDc := hD
      have hKc := hK
      have hFc := nd_rs hD hS hA
      refine nd_cVv (As := [.int q4]) (rest := []) (w' := dw_X11 a ac s8) ⟨hx, hb, hml, hown, hts⟩ (fun sz => dm_X11_restore l hlt dC dI a ac n (q4) s5 hq sz) (cwV 1 hts gi_dm_X11_latest_1 rfl rfl rfl (by decide +kernel) ⟨Nat.le_of_ble_eq_true rfl, Nat.le_of_ble_eq_true rfl⟩) hPc hDc hKc hS hA hN (va_recv hKc hPc (ci := 12) (q0 := 0) rfl rfl) rfl hl.1 rfl (Nat.le_of_ble_eq_true rfl) dX11_latest_34 (fun H locs hP1 hD1 hk1 hS => ?_)
      have hP := hP1
      have hD := hD1.weaken (fun k q _ h => hFc q.1 h)
      refine lv_aload_n hx hb dX11_latest_37 rfl (lv_at hl 1 rfl) ?_
      refine va_get (D := (dC, dI)) (ci := 12) (v := .int (sI s8.1 3)) (C := RX11) (T := TX11) (N := 16) hx hb hts hi_dm_X11_latest_X11 hown hK hP 0 rfl rfl 11 (by decide) (hts (.fieldLink RX11 72 "TimeMachine$Timeline" "now" "I") (List.mem_of_getElem? (i := 1) rfl)) (fun _ h9 => h9) rfl dX11_latest_38 ?_
      refine lv_topi (fun z10 ez10 => ?_)
      have h := nd_at h ez10
      refine lv_istore (lv' := [(5, .int z10), (4, .int q4), (0, .ref (a 0)), (1, .ref (a (0 + x1 * 9 + 86))), (2, .int x2), (3, .int x3)]) hx hb dX11_latest_41 hl (by decide) rfl (fun ls hl => ?_)
      refine lv_iload hx hb dX11_latest_43 (lv_at hl 0 rfl) ?_
      refine lv_if_ne (tgt := 60) hx hb dX11_latest_45 (by decide) (fun c11 => ?_) (fun c11 => ?_)
      · have h := nd_neg h c11
        exact (db_X11_latest_60 C K J10) (x1) (x2) (x3) (z10) s8 _ _ _ h hP hD hS (lv_sub hl [2, 3, 4, 5, 0] rfl)
      · have h := nd_pos h c11
        refine lv_aload_n hx hb dX11_latest_48 rfl (lv_at hl 2 rfl) ?_
        refine lv_aload_n hx hb dX11_latest_49 rfl (lv_at hl 3 rfl) ?_
        obtain ⟨q32, s33, hq, h⟩ := nd_b2_e h
        have hPc := hP
        have hDc := hD
        have hKc := hK
        have hFc := nd_rs hD hS hA
        refine nd_cVi (As := [.ref (a (0 + x1 * 9 + 86))]) (rest := []) (q := q32) (w' := dw_X11 a ac s33) ⟨hx, hb, hml, hown, hts⟩ (fun sz => dm_X11_holdsAtFirst l hlt dC dI a ac n (x1) s8 hq sz) (cwV 1 hts gi_dm_X11_latest_5 rfl rfl rfl (by decide +kernel) ⟨Nat.le_of_ble_eq_true rfl, Nat.le_of_ble_eq_true rfl⟩) hPc hDc hKc hS hA hN (va_recv hKc hPc (ci := 12) (q0 := 0) rfl rfl) rfl hl.1 rfl (Nat.le_of_ble_eq_true rfl) dX11_latest_50 (fun H locs hP1 hD1 hk1 hS => ?_)
        have hP := hP1
        have hD := hD1.weaken (fun k q _ h => hFc q.1 h)
        refine lv_if_eq (tgt := 60) hx hb dX11_latest_53 (by decide) (fun c35 => ?_) (fun c35 => ?_)
        · have h := nd_pos h c35
          exact (db_X11_latest_60 C K J10) (x1) (x2) (x3) (z10) s33 _ _ _ h hP hD hS (lv_sub hl [2, 3, 4, 5, 0] rfl)
        · have h := nd_neg h c35
          refine lv_iconst (v := 0) hx hb dX11_latest_56 (by decide) ?_
          refine lv_goto (tgt := 61) hx hb dX11_latest_57 (by decide) ?_
          exact (db_X11_latest_61 C K J10) (x1) (x2) (x3) (z10) (0) s33 _ _ _ h hP hD hS (lv_sub hl [2, 3, 4, 5, 0] rfl)
set_option maxHeartbeats 40000000 in
set_option maxRecDepth 100000 in
theorem db_X11_latest_10 {p : Program} {l : Launch} {e : Env} {s : State} {m : MethodId} {args : Array Value} {below : List Frame} {meth : Method} {c : Code} {Q : State → Prop} {A : Nat → Prop} {dC : Nat → ClassId} {dI : Nat → Nat → Nat} {a : Nat → Nat} {ac : Nat → ClassId} {n : Nat} {r : Int32 × (St × Rw × (St × (St × (St × (St)))) × (St) × (St) × (Nat → St) × (Nat → St) × (Nat → St × (St)))} (C : nd_C p l s m args c A (dC, dI) cX11_latest 8 RX11 ow_dm_X11_latest (dk_X11 ac)) (K : nd_Ki p l e (headSpec ow_dm_X11_latest ({ frames := 8, cells := 0, slots := 0, locals := 182 })).room s m args below meth c Q A (dC, dI) cX11_latest .int (St × Rw × (St × (St × (St × (St)))) × (St) × (St) × (Nat → St) × (Nat → St) × (Nat → St × (St))) (dw_X11 a ac) r) (k : Nat) : dj_X11_latest_10 p l e s m args below meth c Q A dC dI a ac (df_X11_latest_10 n k) r := by
  induction k with
  | zero => intro x1 x2 x3 s0 H locs ls h; exact nomatch (show (none : Option (Int32 × (St × Rw × (St × (St × (St × (St)))) × (St) × (St) × (Nat → St) × (Nat → St) × (Nat → St × (St))))) = some r from h)
  | succ k ih => exact dB_X11_latest_10 C K ih
set_option maxHeartbeats 40000000 in
set_option maxRecDepth 100000 in
theorem db_X11_latest_0 {p : Program} {l : Launch} {e : Env} {s : State} {m : MethodId} {args : Array Value} {below : List Frame} {meth : Method} {c : Code} {Q : State → Prop} {A : Nat → Prop} {dC : Nat → ClassId} {dI : Nat → Nat → Nat} {a : Nat → Nat} {ac : Nat → ClassId} {n : Nat} {r : Int32 × (St × Rw × (St × (St × (St × (St)))) × (St) × (St) × (Nat → St) × (Nat → St) × (Nat → St × (St)))} (C : nd_C p l s m args c A (dC, dI) cX11_latest 8 RX11 ow_dm_X11_latest (dk_X11 ac)) (K : nd_Ki p l e (headSpec ow_dm_X11_latest ({ frames := 8, cells := 0, slots := 0, locals := 182 })).room s m args below meth c Q A (dC, dI) cX11_latest .int (St × Rw × (St × (St × (St × (St)))) × (St) × (St) × (Nat → St) × (Nat → St) × (Nat → St × (St))) (dw_X11 a ac) r) : dj_X11_latest_0 p l e s m args below meth c Q A dC dI a ac (df_X11_latest_0 n) r := by
  obtain ⟨hlt, hx, hb, hml, hown, hts, hN, hA, hK⟩ := id C
  intro v0 s0 H locs ls h hP hD hS hl
  unfold df_X11_latest_0 at h
  refine lv_aload_n hx hb dX11_latest_0 rfl (lv_at hl 0 rfl) ?_
  refine va_get (D := (dC, dI)) (ci := 12) (v := .int (sI s0.1 3)) (C := RX11) (T := TX11) (N := 16) hx hb hts hi_dm_X11_latest_X11 hown hK hP 0 rfl rfl 11 (by decide) (hts (.fieldLink RX11 72 "TimeMachine$Timeline" "now" "I") (List.mem_of_getElem? (i := 1) rfl)) (fun _ h9 => h9) rfl dX11_latest_1 ?_
  refine lv_iconst (v := 1) hx hb dX11_latest_4 (by decide) ?_
  refine lv_isub hx hb dX11_latest_5 ?_
  refine lv_topi (fun z1 ez1 => ?_)
  have h := nd_at h ez1
  refine lv_istore_n (lv' := [(2, .int z1), (0, .ref (a 0)), (1, .ref (a (0 + v0 * 9 + 86)))]) hx hb dX11_latest_6 rfl hl (by decide) rfl (fun ls hl => ?_)
  refine lv_bipush (v := 8) hx hb dX11_latest_7 (by decide) ?_
  refine lv_istore_n (lv' := [(3, .int 8), (2, .int z1), (0, .ref (a 0)), (1, .ref (a (0 + v0 * 9 + 86)))]) hx hb dX11_latest_9 rfl hl (by decide) rfl (fun ls hl => ?_)
  exact (db_X11_latest_10 C K n) (v0) (z1) (8) s0 _ _ _ h hP hD hS (lv_sub hl [2, 3, 1, 0] rfl)
set_option maxHeartbeats 40000000 in
set_option maxRecDepth 100000 in
theorem dm_X11_latest (l : Launch) (hlt : l.stackTraces = false) (dC : Nat → ClassId) (dI : Nat → Nat → Nat) (a : Nat → Nat) (ac : Nat → ClassId) (n : Nat) (v0 : Nat) (s0 : St × Rw × (St × (St × (St × (St)))) × (St) × (St) × (Nat → St) × (Nat → St) × (Nat → St × (St))) {r : Int32 × (St × Rw × (St × (St × (St × (St)))) × (St) × (St) × (Nat → St) × (Nat → St) × (Nat → St × (St)))} (h : df_X11_latest n v0 s0 = some r) (sz : Nat) : Met l yX11_latest ow_dm_X11_latest ({ frames := 8, cells := 0, slots := 0, locals := 182 }) (va_Pc [.ref (a 0), .ref (a (0 + v0 * 9 + 86))] (fun U => U.heap.size = sz ∧ va_P (dC, dI) vwCl (dw_X11 a ac s0) U.heap ∧ va_K (dC, dI) vwCl (dk_X11 ac) U ∧ va_D (fun _ => True) (dw_X11 a ac s0) ∧ nv_E dI (va_A (dw_X11 a ac s0) sz) U)) (va_Qi (fun x _ => x = r.1) (fun (_ : Unit) t => va_P (dC, dI) vwCl (dw_X11 a ac r.2) t.heap ∧ va_K (dC, dI) vwCl (dk_X11 ac) t ∧ va_D (va_A (dw_X11 a ac s0) sz) (dw_X11 a ac r.2)) (va_A (dw_X11 a ac s0) sz)) 0 0 (va_A (dw_X11 a ac s0) sz) := by
  refine Met.ofW (cc := cX11_latest) (maxL := 8) (ret := (some .int)) (by decide) rfl ?_
  intro p e s m args below meth c s₁ B hml hv
  obtain ⟨rfl, hsz, hP, hK, hD0, hN⟩ := hv
  have hx := B.exec
  have hb := B.bytes
  have hr := B.returns
  have hts := atoms_spec (ws := ow_dm_X11_latest) B.pre
  have hown : s.vm.findClass RX11 = some m.cls := findClass_of_methodNamed B.named
  have hlocks := B.notSynchronized
  subst hsz
  have hD := hD0.self (sz := s.heap.size)
  generalize hAe : va_A (dw_X11 a ac s0) s.heap.size = A at hD hN ⊢
  have hA : ∀ q : Nat, s.heap.size ≤ q → A q := fun q h => by rw [← hAe]; exact Or.inr h
  have hl := lv_entry ([.ref (a 0), .ref (a (0 + v0 * 9 + 86))]) (n := 8) (Nat.le_of_ble_eq_true rfl)
  rw [lg_entry_eq]
  generalize (lg_sl ([.ref (a 0), .ref (a (0 + v0 * 9 + 86))]) ++ List.replicate (8 - (lg_sl ([.ref (a 0), .ref (a (0 + v0 * 9 + 86))])).length) Slot.unset).toArray = ls at hl ⊢
  have hl : lv_has ls 8 [(0, .ref (a 0)), (1, .ref (a (0 + v0 * 9 + 86)))] := hl
  exact db_X11_latest_0 (dC := dC) (dI := dI) (a := a) (ac := ac) (n := n) (r := r) ⟨hlt, hx, hb, hml, hown, hts, hN, hA, hK⟩ (fun pc v τ H locs ls d z er hP hD hS => by subst er; exact W.zret (v := v) hx hb hr z (fun t ht hW => ⟨⟨v, (), rfl, rfl, by rw [ht]; exact hP, va_K.moved hW.alike hK, hD⟩, hS.F ht⟩) hS.2.2 d) v0 s0 _ _ _ h hP hD va_S.rf (lv_sub hl [0, 1] rfl)
def ow_dm_X11_latestWrite : List Cond := Cond.code yX11_latestWrite cX11_latestWrite 5 (some .int) :: ([Cond.fieldLink RX11 72 "TimeMachine$Timeline" "now" "I", Cond.fieldLink RX11 44 "TimeMachine$Timeline" "writes" "[I", Cond.methodLink RX11 193 Lib.Math.min.name, Cond.static Lib.Math.min.name, Cond.initialized "java/lang/Math", Cond.code Lib.Math.min.name Lib.Math.min.code 2 (some .int), Cond.constant RX11 196 (65535)] ++ (u_ws RX11 TX11 16 ++ []))
theorem gd_dm_X11_latestWrite : ∀ w ∈ ow_dm_X11_latestWrite, (w.onTables && w.keeps) = true ∨ ∃ ty, w = Cond.arrayClass ty := List.forall_mem_cons.mpr ⟨good_of_word rfl, List.forall_mem_append.mpr ⟨fun w h => good_of_word (List.all_eq_true.mp (by decide +kernel) w h), List.forall_mem_append.mpr ⟨gu_X11, fun _ h => nomatch h⟩⟩⟩
theorem hi_dm_X11_latestWrite_X11 : ∀ w ∈ u_ws RX11 TX11 16, w ∈ ow_dm_X11_latestWrite := fun w h => List.mem_cons_of_mem _ (List.mem_append_right _ (List.mem_append_left _ h))
def dj_X11_latestWrite_71 (p : Program) (l : Launch) (e : Env) (s : State) (m : MethodId) (args : Array Value) (below : List Frame) (meth : Method) (c : Code) (Q : State → Prop) (A : Nat → Prop) (dC : Nat → ClassId) (dI : Nat → Nat → Nat) (a : Nat → Nat) (ac : Nat → ClassId) (g : Int32 → Int32 → Int32 → (St × Rw × (St × (St × (St × (St)))) × (St) × (St) × (Nat → St) × (Nat → St) × (Nat → St × (St))) → Option (Int32 × (St × Rw × (St × (St × (St × (St)))) × (St) × (St) × (Nat → St) × (Nat → St) × (Nat → St × (St))))) (r : Int32 × (St × Rw × (St × (St × (St × (St)))) × (St) × (St) × (Nat → St) × (Nat → St) × (Nat → St × (St)))) : Prop := ∀ (x1 : Int32) (x2 : Int32) (x3 : Int32) (s0 : St × Rw × (St × (St × (St × (St)))) × (St) × (St) × (Nat → St) × (Nat → St) × (Nat → St × (St))) (H : Heap) (locs : List Loc) (ls : Array Slot), g x1 x2 x3 s0 = some r → va_P (dC, dI) vwCl (dw_X11 a ac s0) H → va_D A (dw_X11 a ac s0) → va_S A s.heap H locs → lv_has ls 5 [(0, .ref (a 0)), (1, .int x1), (2, .int x2), (3, .int x3)] → W p l e (headSpec ow_dm_X11_latestWrite ({ frames := 1, cells := 0, slots := 0, locals := 13 })).room s m args below meth c H locs 0 0 Q (F0 m 71 ls [])
def dj_X11_latestWrite_15 (p : Program) (l : Launch) (e : Env) (s : State) (m : MethodId) (args : Array Value) (below : List Frame) (meth : Method) (c : Code) (Q : State → Prop) (A : Nat → Prop) (dC : Nat → ClassId) (dI : Nat → Nat → Nat) (a : Nat → Nat) (ac : Nat → ClassId) (g : Int32 → Int32 → Int32 → (St × Rw × (St × (St × (St × (St)))) × (St) × (St) × (Nat → St) × (Nat → St) × (Nat → St × (St))) → Option (Int32 × (St × Rw × (St × (St × (St × (St)))) × (St) × (St) × (Nat → St) × (Nat → St) × (Nat → St × (St))))) (r : Int32 × (St × Rw × (St × (St × (St × (St)))) × (St) × (St) × (Nat → St) × (Nat → St) × (Nat → St × (St)))) : Prop := ∀ (x1 : Int32) (x2 : Int32) (x3 : Int32) (s0 : St × Rw × (St × (St × (St × (St)))) × (St) × (St) × (Nat → St) × (Nat → St) × (Nat → St × (St))) (H : Heap) (locs : List Loc) (ls : Array Slot), g x1 x2 x3 s0 = some r → va_P (dC, dI) vwCl (dw_X11 a ac s0) H → va_D A (dw_X11 a ac s0) → va_S A s.heap H locs → lv_has ls 5 [(0, .ref (a 0)), (1, .int x1), (2, .int x2), (3, .int x3)] → W p l e (headSpec ow_dm_X11_latestWrite ({ frames := 1, cells := 0, slots := 0, locals := 13 })).room s m args below meth c H locs 0 0 Q (F0 m 15 ls [])
def dj_X11_latestWrite_0 (p : Program) (l : Launch) (e : Env) (s : State) (m : MethodId) (args : Array Value) (below : List Frame) (meth : Method) (c : Code) (Q : State → Prop) (A : Nat → Prop) (dC : Nat → ClassId) (dI : Nat → Nat → Nat) (a : Nat → Nat) (ac : Nat → ClassId) (g : Int32 → Int32 → (St × Rw × (St × (St × (St × (St)))) × (St) × (St) × (Nat → St) × (Nat → St) × (Nat → St × (St))) → Option (Int32 × (St × Rw × (St × (St × (St × (St)))) × (St) × (St) × (Nat → St) × (Nat → St) × (Nat → St × (St))))) (r : Int32 × (St × Rw × (St × (St × (St × (St)))) × (St) × (St) × (Nat → St) × (Nat → St) × (Nat → St × (St)))) : Prop := ∀ (v0 : Int32) (v1 : Int32) (s0 : St × Rw × (St × (St × (St × (St)))) × (St) × (St) × (Nat → St) × (Nat → St) × (Nat → St × (St))) (H : Heap) (locs : List Loc) (ls : Array Slot), g v0 v1 s0 = some r → va_P (dC, dI) vwCl (dw_X11 a ac s0) H → va_D A (dw_X11 a ac s0) → va_S A s.heap H locs → lv_has ls 5 [(0, .ref (a 0)), (1, .int v0), (2, .int v1)] → W p l e (headSpec ow_dm_X11_latestWrite ({ frames := 1, cells := 0, slots := 0, locals := 13 })).room s m args below meth c H locs 0 0 Q (F0 m 0 ls [])
set_option maxHeartbeats 40000000 in
set_option maxRecDepth 100000 in
theorem db_X11_latestWrite_71 {p : Program} {l : Launch} {e : Env} {s : State} {m : MethodId} {args : Array Value} {below : List Frame} {meth : Method} {c : Code} {Q : State → Prop} {A : Nat → Prop} {dC : Nat → ClassId} {dI : Nat → Nat → Nat} {a : Nat → Nat} {ac : Nat → ClassId} {n : Nat} {r : Int32 × (St × Rw × (St × (St × (St × (St)))) × (St) × (St) × (Nat → St) × (Nat → St) × (Nat → St × (St)))} (C : nd_C p l s m args c A (dC, dI) cX11_latestWrite 5 RX11 ow_dm_X11_latestWrite (dk_X11 ac)) (K : nd_Ki p l e (headSpec ow_dm_X11_latestWrite ({ frames := 1, cells := 0, slots := 0, locals := 13 })).room s m args below meth c Q A (dC, dI) cX11_latestWrite .int (St × Rw × (St × (St × (St × (St)))) × (St) × (St) × (Nat → St) × (Nat → St) × (Nat → St × (St))) (dw_X11 a ac) r) {g15 : Int32 → Int32 → Int32 → (St × Rw × (St × (St × (St × (St)))) × (St) × (St) × (Nat → St) × (Nat → St) × (Nat → St × (St))) → Option (Int32 × (St × Rw × (St × (St × (St × (St)))) × (St) × (St) × (Nat → St) × (Nat → St) × (Nat → St × (St))))} (J15 : dj_X11_latestWrite_15 p l e s m args below meth c Q A dC dI a ac g15 r) : dj_X11_latestWrite_71 p l e s m args below meth c Q A dC dI a ac (df_X11_latestWrite_71 n g15) r := by
  obtain ⟨hlt, hx, hb, hml, hown, hts, hN, hA, hK⟩ := id C
  intro x1 x2 x3 s0 H locs ls h hP hD hS hl
  unfold df_X11_latestWrite_71 at h
  obtain ⟨z7, ez7, h⟩ := nd_let_e h
  refine lv_iinc (v := z7) (lv' := [(3, .int z7), (0, .ref (a 0)), (1, .int x1), (2, .int x2)]) hx hb dX11_latestWrite_71 hl (k := 3) rfl (by rw [ez7]) (by decide) rfl (fun ls hl => ?_)
  refine lv_goto (tgt := 15) hx hb dX11_latestWrite_74 (by decide) ?_
  exact (J15) (x1) (x2) (z7) s0 _ _ _ h hP hD hS (lv_sub hl [1, 2, 3, 0] rfl)
set_option maxHeartbeats 40000000 in
set_option maxRecDepth 100000 in
theorem dB_X11_latestWrite_15 {p : Program} {l : Launch} {e : Env} {s : State} {m : MethodId} {args : Array Value} {below : List Frame} {meth : Method} {c : Code} {Q : State → Prop} {A : Nat → Prop} {dC : Nat → ClassId} {dI : Nat → Nat → Nat} {a : Nat → Nat} {ac : Nat → ClassId} {n : Nat} {r : Int32 × (St × Rw × (St × (St × (St × (St)))) × (St) × (St) × (Nat → St) × (Nat → St) × (Nat → St × (St)))} (C : nd_C p l s m args c A (dC, dI) cX11_latestWrite 5 RX11 ow_dm_X11_latestWrite (dk_X11 ac)) (K : nd_Ki p l e (headSpec ow_dm_X11_latestWrite ({ frames := 1, cells := 0, slots := 0, locals := 13 })).room s m args below meth c Q A (dC, dI) cX11_latestWrite .int (St × Rw × (St × (St × (St × (St)))) × (St) × (St) × (Nat → St) × (Nat → St) × (Nat → St × (St))) (dw_X11 a ac) r) {g15 : Int32 → Int32 → Int32 → (St × Rw × (St × (St × (St × (St)))) × (St) × (St) × (Nat → St) × (Nat → St) × (Nat → St × (St))) → Option (Int32 × (St × Rw × (St × (St × (St × (St)))) × (St) × (St) × (Nat → St) × (Nat → St) × (Nat → St × (St))))} (J15 : dj_X11_latestWrite_15 p l e s m args below meth c Q A dC dI a ac g15 r) : dj_X11_latestWrite_15 p l e s m args below meth c Q A dC dI a ac (dF_X11_latestWrite_15 n g15) r := by
  obtain ⟨hlt, hx, hb, hml, hown, hts, hN, hA, hK⟩ := id C
  intro x1 x2 x3 s0 H locs ls h hP hD hS hl
  unfold dF_X11_latestWrite_15 at h
  refine lv_iload_n hx hb dX11_latestWrite_15 rfl (lv_at hl 3 rfl) ?_
  refine lv_if_lt (tgt := 77) hx hb dX11_latestWrite_16 (by decide) (fun c2 => ?_) (fun c2 => ?_)
  · have h := nd_pos h c2
    refine lv_iconst (v := (-1)) hx hb dX11_latestWrite_77 (by decide) ?_
    exact K _ _ _ _ _ _ dX11_latestWrite_78 rfl (Option.some.inj h).symm hP hD hS
  · have h := nd_neg h c2
    refine lv_aload_n hx hb dX11_latestWrite_19 rfl (lv_at hl 0 rfl) ?_
    refine va_get (D := (dC, dI)) (ci := 12) (v := .ref (a 1)) (C := RX11) (T := TX11) (N := 16) hx hb hts hi_dm_X11_latestWrite_X11 hown hK hP 0 rfl rfl 5 (by decide) (hts (.fieldLink RX11 44 "TimeMachine$Timeline" "writes" "[I") (List.mem_of_getElem? (i := 2) rfl)) (fun _ h9 => h9) rfl dX11_latestWrite_20 ?_
    refine lv_iload_n hx hb dX11_latestWrite_23 rfl (lv_at hl 3 rfl) ?_
    obtain ⟨i3, h⟩ := nd_ck_e h
    refine va_iald (i := x3) hx hb hK hP 1 0 rfl rfl i3 dX11_latestWrite_24 ?_
    refine lv_bipush (v := 10) hx hb dX11_latestWrite_25 (by decide) ?_
    refine lv_ishr hx hb dX11_latestWrite_27 ?_
    refine lv_ldc hx hb hown (hts (.constant RX11 196 (65535)) (List.mem_of_getElem? (i := 7) rfl)) dX11_latestWrite_28 ?_
    refine lv_iand hx hb dX11_latestWrite_30 ?_
    refine lv_topi (fun z4 ez4 => ?_)
    have h := nd_at h ez4
    refine lv_istore (lv' := [(4, .int z4), (0, .ref (a 0)), (1, .int x1), (2, .int x2), (3, .int x3)]) hx hb dX11_latestWrite_31 hl (by decide) rfl (fun ls hl => ?_)
    refine lv_aload_n hx hb dX11_latestWrite_33 rfl (lv_at hl 1 rfl) ?_
    refine va_get (D := (dC, dI)) (ci := 12) (v := .ref (a 1)) (C := RX11) (T := TX11) (N := 16) hx hb hts hi_dm_X11_latestWrite_X11 hown hK hP 0 rfl rfl 5 (by decide) (hts (.fieldLink RX11 44 "TimeMachine$Timeline" "writes" "[I") (List.mem_of_getElem? (i := 2) rfl)) (fun _ h9 => h9) rfl dX11_latestWrite_34 ?_
    refine lv_iload_n hx hb dX11_latestWrite_37 rfl (lv_at hl 4 rfl) ?_
    obtain ⟨i5, h⟩ := nd_ck_e h
    refine va_iald (i := x3) hx hb hK hP 1 0 rfl rfl i5 dX11_latestWrite_38 ?_
    refine lv_bipush (v := 26) hx hb dX11_latestWrite_39 (by decide) ?_
    refine lv_ishr hx hb dX11_latestWrite_41 ?_
    refine lv_iload_n hx hb dX11_latestWrite_42 rfl (lv_at hl 2 rfl) ?_
    refine lv_icmp_ne (tgt := 71) hx hb dX11_latestWrite_43 (by decide) (fun c6 => ?_) (fun c6 => ?_)
    · have h := nd_neg h c6
      exact (db_X11_latestWrite_71 C K J15) (x1) (x2) (x3) s0 _ _ _ h hP hD hS (lv_sub hl [1, 2, 3, 4] rfl)
    · have h := nd_pos h c6
      refine lv_iload_n hx hb dX11_latestWrite_46 rfl (lv_at hl 3 rfl) ?_
      refine lv_iload hx hb dX11_latestWrite_47 (lv_at hl 0 rfl) ?_
      refine lv_icmp_lt (tgt := 71) hx hb dX11_latestWrite_49 (by decide) (fun c8 => ?_) (fun c8 => ?_)
      · have h := nd_pos h c8
        exact (db_X11_latestWrite_71 C K J15) (x1) (x2) (x3) s0 _ _ _ h hP hD hS (lv_sub hl [1, 2, 3, 4] rfl)
      · have h := nd_neg h c8
        refine lv_iload_n hx hb dX11_latestWrite_52 rfl (lv_at hl 3 rfl) ?_
        refine lv_iload hx hb dX11_latestWrite_53 (lv_at hl 0 rfl) ?_
        refine lv_aload_n hx hb dX11_latestWrite_55 rfl (lv_at hl 1 rfl) ?_
        refine va_get (D := (dC, dI)) (ci := 12) (v := .ref (a 1)) (C := RX11) (T := TX11) (N := 16) hx hb hts hi_dm_X11_latestWrite_X11 hown hK hP 0 rfl rfl 5 (by decide) (hts (.fieldLink RX11 44 "TimeMachine$Timeline" "writes" "[I") (List.mem_of_getElem? (i := 2) rfl)) (fun _ h9 => h9) rfl dX11_latestWrite_56 ?_
        refine lv_iload_n hx hb dX11_latestWrite_59 rfl (lv_at hl 4 rfl) ?_
        obtain ⟨i9, h⟩ := nd_ck_e h
        refine va_iald (i := x3) hx hb hK hP 1 0 rfl rfl i9 dX11_latestWrite_60 ?_
        refine lv_sipush (v := 1023) hx hb dX11_latestWrite_61 (by decide) ?_
        refine lv_iand hx hb dX11_latestWrite_64 ?_
        refine lv_iadd hx hb dX11_latestWrite_65 ?_
        refine lv_icmp_ge (tgt := 71) hx hb dX11_latestWrite_66 (by decide) (fun c10 => ?_) (fun c10 => ?_)
        · have h := nd_pos h c10
          exact (db_X11_latestWrite_71 C K J15) (x1) (x2) (x3) s0 _ _ _ h hP hD hS (lv_sub hl [1, 2, 3, 4] rfl)
        · have h := nd_neg h c10
          refine lv_iload_n hx hb dX11_latestWrite_69 rfl (lv_at hl 4 rfl) ?_
          exact K _ _ _ _ _ _ dX11_latestWrite_70 rfl (Option.some.inj h).symm hP hD hS
set_option maxHeartbeats 40000000 in
set_option maxRecDepth 100000 in
theorem db_X11_latestWrite_15 {p : Program} {l : Launch} {e : Env} {s : State} {m : MethodId} {args : Array Value} {below : List Frame} {meth : Method} {c : Code} {Q : State → Prop} {A : Nat → Prop} {dC : Nat → ClassId} {dI : Nat → Nat → Nat} {a : Nat → Nat} {ac : Nat → ClassId} {n : Nat} {r : Int32 × (St × Rw × (St × (St × (St × (St)))) × (St) × (St) × (Nat → St) × (Nat → St) × (Nat → St × (St)))} (C : nd_C p l s m args c A (dC, dI) cX11_latestWrite 5 RX11 ow_dm_X11_latestWrite (dk_X11 ac)) (K : nd_Ki p l e (headSpec ow_dm_X11_latestWrite ({ frames := 1, cells := 0, slots := 0, locals := 13 })).room s m args below meth c Q A (dC, dI) cX11_latestWrite .int (St × Rw × (St × (St × (St × (St)))) × (St) × (St) × (Nat → St) × (Nat → St) × (Nat → St × (St))) (dw_X11 a ac) r) (k : Nat) : dj_X11_latestWrite_15 p l e s m args below meth c Q A dC dI a ac (df_X11_latestWrite_15 n k) r := by
  induction k with
  | zero => intro x1 x2 x3 s0 H locs ls h; exact nomatch (show (none : Option (Int32 × (St × Rw × (St × (St × (St × (St)))) × (St) × (St) × (Nat → St) × (Nat → St) × (Nat → St × (St))))) = some r from h)
  | succ k ih => exact dB_X11_latestWrite_15 C K ih
set_option maxHeartbeats 40000000 in
set_option maxRecDepth 100000 in
theorem db_X11_latestWrite_0 {p : Program} {l : Launch} {e : Env} {s : State} {m : MethodId} {args : Array Value} {below : List Frame} {meth : Method} {c : Code} {Q : State → Prop} {A : Nat → Prop} {dC : Nat → ClassId} {dI : Nat → Nat → Nat} {a : Nat → Nat} {ac : Nat → ClassId} {n : Nat} {r : Int32 × (St × Rw × (St × (St × (St × (St)))) × (St) × (St) × (Nat → St) × (Nat → St) × (Nat → St × (St)))} (C : nd_C p l s m args c A (dC, dI) cX11_latestWrite 5 RX11 ow_dm_X11_latestWrite (dk_X11 ac)) (K : nd_Ki p l e (headSpec ow_dm_X11_latestWrite ({ frames := 1, cells := 0, slots := 0, locals := 13 })).room s m args below meth c Q A (dC, dI) cX11_latestWrite .int (St × Rw × (St × (St × (St × (St)))) × (St) × (St) × (Nat → St) × (Nat → St) × (Nat → St × (St))) (dw_X11 a ac) r) : dj_X11_latestWrite_0 p l e s m args below meth c Q A dC dI a ac (df_X11_latestWrite_0 n) r := by
  obtain ⟨hlt, hx, hb, hml, hown, hts, hN, hA, hK⟩ := id C
  intro v0 v1 s0 H locs ls h hP hD hS hl
  unfold df_X11_latestWrite_0 at h
  refine lv_aload_n hx hb dX11_latestWrite_0 rfl (lv_at hl 0 rfl) ?_
  refine va_get (D := (dC, dI)) (ci := 12) (v := .int (sI s0.1 3)) (C := RX11) (T := TX11) (N := 16) hx hb hts hi_dm_X11_latestWrite_X11 hown hK hP 0 rfl rfl 11 (by decide) (hts (.fieldLink RX11 72 "TimeMachine$Timeline" "now" "I") (List.mem_of_getElem? (i := 1) rfl)) (fun _ h9 => h9) rfl dX11_latestWrite_1 ?_
  refine lv_aload_n hx hb dX11_latestWrite_4 rfl (lv_at hl 0 rfl) ?_
  refine va_get (D := (dC, dI)) (ci := 12) (v := .ref (a 1)) (C := RX11) (T := TX11) (N := 16) hx hb hts hi_dm_X11_latestWrite_X11 hown hK hP 0 rfl rfl 5 (by decide) (hts (.fieldLink RX11 44 "TimeMachine$Timeline" "writes" "[I") (List.mem_of_getElem? (i := 2) rfl)) (fun _ h9 => h9) rfl dX11_latestWrite_5 ?_
  refine va_alen (v := 60000) hx hb hK hP 1 0 rfl rfl (show Int32.ofNat 60000 = 60000 by decide) dX11_latestWrite_8 ?_
  refine va_mmin hx hb (by rw [hml]; exact hl.1.symm) hown (hts (.methodLink RX11 193 Lib.Math.min.name) (List.mem_of_getElem? (i := 3) rfl)) (hts (.static Lib.Math.min.name) (List.mem_of_getElem? (i := 4) rfl)) (hts (.initialized "java/lang/Math") (List.mem_of_getElem? (i := 5) rfl)) (hts (.code Lib.Math.min.name Lib.Math.min.code 2 (some .int)) (List.mem_of_getElem? (i := 6) rfl)) (Nat.le_of_ble_eq_true rfl) (Nat.le_of_ble_eq_true rfl) (by decide +kernel) (by decide +kernel) dX11_latestWrite_9 ?_
  refine lv_iconst (v := 1) hx hb dX11_latestWrite_12 (by decide) ?_
  refine lv_isub hx hb dX11_latestWrite_13 ?_
  refine lv_topi (fun z1 ez1 => ?_)
  have h := nd_at h ez1
  refine lv_istore_n (lv' := [(3, .int z1), (0, .ref (a 0)), (1, .int v0), (2, .int v1)]) hx hb dX11_latestWrite_14 rfl hl (by decide) rfl (fun ls hl => ?_)
  exact (db_X11_latestWrite_15 C K n) (v0) (v1) (z1) s0 _ _ _ h hP hD hS (lv_sub hl [1, 2, 3, 0] rfl)
set_option maxHeartbeats 40000000 in
set_option maxRecDepth 100000 in
theorem dm_X11_latestWrite (l : Launch) (hlt : l.stackTraces = false) (dC : Nat → ClassId) (dI : Nat → Nat → Nat) (a : Nat → Nat) (ac : Nat → ClassId) (n : Nat) (v0 : Int32) (v1 : Int32) (s0 : St × Rw × (St × (St × (St × (St)))) × (St) × (St) × (Nat → St) × (Nat → St) × (Nat → St × (St))) {r : Int32 × (St × Rw × (St × (St × (St × (St)))) × (St) × (St) × (Nat → St) × (Nat → St) × (Nat → St × (St)))} (h : df_X11_latestWrite n v0 v1 s0 = some r) (sz : Nat) : Met l yX11_latestWrite ow_dm_X11_latestWrite ({ frames := 1, cells := 0, slots := 0, locals := 13 }) (va_Pc [.ref (a 0), .int v0, .int v1] (fun U => U.heap.size = sz ∧ va_P (dC, dI) vwCl (dw_X11 a ac s0) U.heap ∧ va_K (dC, dI) vwCl (dk_X11 ac) U ∧ va_D (fun _ => True) (dw_X11 a ac s0) ∧ nv_E dI (va_A (dw_X11 a ac s0) sz) U)) (va_Qi (fun x _ => x = r.1) (fun (_ : Unit) t => va_P (dC, dI) vwCl (dw_X11 a ac r.2) t.heap ∧ va_K (dC, dI) vwCl (dk_X11 ac) t ∧ va_D (va_A (dw_X11 a ac s0) sz) (dw_X11 a ac r.2)) (va_A (dw_X11 a ac s0) sz)) 0 0 (va_A (dw_X11 a ac s0) sz) := by
  refine Met.ofW (cc := cX11_latestWrite) (maxL := 5) (ret := (some .int)) (by decide) rfl ?_
  intro p e s m args below meth c s₁ B hml hv
  obtain ⟨rfl, hsz, hP, hK, hD0, hN⟩ := hv
  have hx := B.exec
  have hb := B.bytes
  have hr := B.returns
  have hts := atoms_spec (ws := ow_dm_X11_latestWrite) B.pre
  have hown : s.vm.findClass RX11 = some m.cls := findClass_of_methodNamed B.named
  have hlocks := B.notSynchronized
  subst hsz
  have hD := hD0.self (sz := s.heap.size)
  generalize hAe : va_A (dw_X11 a ac s0) s.heap.size = A at hD hN ⊢
  have hA : ∀ q : Nat, s.heap.size ≤ q → A q := fun q h => by rw [← hAe]; exact Or.inr h
  have hl := lv_entry ([.ref (a 0), .int v0, .int v1]) (n := 5) (Nat.le_of_ble_eq_true rfl)
  rw [lg_entry_eq]
  generalize (lg_sl ([.ref (a 0), .int v0, .int v1]) ++ List.replicate (5 - (lg_sl ([.ref (a 0), .int v0, .int v1])).length) Slot.unset).toArray = ls at hl ⊢
  have hl : lv_has ls 5 [(0, .ref (a 0)), (1, .int v0), (2, .int v1)] := hl
  exact db_X11_latestWrite_0 (dC := dC) (dI := dI) (a := a) (ac := ac) (n := n) (r := r) ⟨hlt, hx, hb, hml, hown, hts, hN, hA, hK⟩ (fun pc v τ H locs ls d z er hP hD hS => by subst er; exact W.zret (v := v) hx hb hr z (fun t ht hW => ⟨⟨v, (), rfl, rfl, by rw [ht]; exact hP, va_K.moved hW.alike hK, hD⟩, hS.F ht⟩) hS.2.2 d) v0 v1 s0 _ _ _ h hP hD va_S.rf (lv_sub hl [0, 1, 2] rfl)
def ow_dm_X11_told : List Cond := Cond.code yX11_told cX11_told 2 (some .long) :: ([Cond.fieldLink RX11 72 "TimeMachine$Timeline" "now" "I", Cond.fieldLink RX11 76 "TimeMachine$Timeline" "end" "I", Cond.fieldLink RX11 30 "TimeMachine$Timeline" "machine" "LTimeMachine$Machine;", Cond.fieldLink RX11 162 "TimeMachine$Machine" "current" "I", Cond.fieldLink RX11 20 "TimeMachine$Timeline" "events" "LTimeMachine$Events;", Cond.fieldLink RX11 116 "TimeMachine$Events" "recorded" "I", Cond.fieldLink RX11 79 "TimeMachine$Timeline" "came" "I", Cond.fieldLink RX11 137 "TimeMachine$Events" "total" "I"] ++ (u_ws RX11 TX11 16 ++ (u_ws RX6 TX6 20 ++ (u_ws RX3 TX3 11 ++ []))))
theorem gd_dm_X11_told : ∀ w ∈ ow_dm_X11_told, (w.onTables && w.keeps) = true ∨ ∃ ty, w = Cond.arrayClass ty := List.forall_mem_cons.mpr ⟨good_of_word rfl, List.forall_mem_append.mpr ⟨fun w h => good_of_word (List.all_eq_true.mp (by decide +kernel) w h), List.forall_mem_append.mpr ⟨gu_X11, List.forall_mem_append.mpr ⟨gu_X6, List.forall_mem_append.mpr ⟨gu_X3, fun _ h => nomatch h⟩⟩⟩⟩⟩
theorem hi_dm_X11_told_X11 : ∀ w ∈ u_ws RX11 TX11 16, w ∈ ow_dm_X11_told := fun w h => List.mem_cons_of_mem _ (List.mem_append_right _ (List.mem_append_left _ h))
theorem hi_dm_X11_told_X6 : ∀ w ∈ u_ws RX6 TX6 20, w ∈ ow_dm_X11_told := fun w h => List.mem_cons_of_mem _ (List.mem_append_right _ (List.mem_append_right _ (List.mem_append_left _ h)))
theorem hi_dm_X11_told_X3 : ∀ w ∈ u_ws RX3 TX3 11, w ∈ ow_dm_X11_told := fun w h => List.mem_cons_of_mem _ (List.mem_append_right _ (List.mem_append_right _ (List.mem_append_right _ (List.mem_append_left _ h))))
def dj_X11_told_0 (p : Program) (l : Launch) (e : Env) (s : State) (m : MethodId) (args : Array Value) (below : List Frame) (meth : Method) (c : Code) (Q : State → Prop) (A : Nat → Prop) (dC : Nat → ClassId) (dI : Nat → Nat → Nat) (a : Nat → Nat) (ac : Nat → ClassId) (g : Int32 → (St × Rw × (St × (St × (St × (St)))) × (St) × (St) × (Nat → St) × (Nat → St) × (Nat → St × (St))) → Option (Int64 × (St × Rw × (St × (St × (St × (St)))) × (St) × (St) × (Nat → St) × (Nat → St) × (Nat → St × (St))))) (r : Int64 × (St × Rw × (St × (St × (St × (St)))) × (St) × (St) × (Nat → St) × (Nat → St) × (Nat → St × (St)))) : Prop := ∀ (v0 : Int32) (s0 : St × Rw × (St × (St × (St × (St)))) × (St) × (St) × (Nat → St) × (Nat → St) × (Nat → St × (St))) (H : Heap) (locs : List Loc) (ls : Array Slot), g v0 s0 = some r → va_P (dC, dI) vwCl (dw_X11 a ac s0) H → va_D A (dw_X11 a ac s0) → va_S A s.heap H locs → lv_has ls 2 [(0, .ref (a 0)), (1, .int v0)] → W p l e (headSpec ow_dm_X11_told ({ frames := 0, cells := 0, slots := 0, locals := 0 })).room s m args below meth c H locs 0 0 Q (F0 m 0 ls [])
set_option maxHeartbeats 40000000 in
set_option maxRecDepth 100000 in
theorem db_X11_told_0 {p : Program} {l : Launch} {e : Env} {s : State} {m : MethodId} {args : Array Value} {below : List Frame} {meth : Method} {c : Code} {Q : State → Prop} {A : Nat → Prop} {dC : Nat → ClassId} {dI : Nat → Nat → Nat} {a : Nat → Nat} {ac : Nat → ClassId} {n : Nat} {r : Int64 × (St × Rw × (St × (St × (St × (St)))) × (St) × (St) × (Nat → St) × (Nat → St) × (Nat → St × (St)))} (C : nd_C p l s m args c A (dC, dI) cX11_told 2 RX11 ow_dm_X11_told (dk_X11 ac)) (K : nd_Kl p l e (headSpec ow_dm_X11_told ({ frames := 0, cells := 0, slots := 0, locals := 0 })).room s m args below meth c Q A (dC, dI) cX11_told (St × Rw × (St × (St × (St × (St)))) × (St) × (St) × (Nat → St) × (Nat → St) × (Nat → St × (St))) (dw_X11 a ac) r) : dj_X11_told_0 p l e s m args below meth c Q A dC dI a ac (df_X11_told_0 n) r := by
  obtain ⟨hlt, hx, hb, hml, hown, hts, hN, hA, hK⟩ := id C
  intro v0 s0 H locs ls h hP hD hS hl
  unfold df_X11_told_0 at h
  refine lv_iload_n hx hb dX11_told_0 rfl (lv_at hl 1 rfl) ?_
  by_cases c1 : v0 = 0
  · have h := nd_pos h c1
    refine lv_tableIn (off := 35) (tgt := 36) hx hb dX11_told_1 (by rw [c1]; decide) (by rw [c1]; decide) (by rw [c1]; decide) (by decide) ?_
    refine lv_aload_n hx hb dX11_told_36 rfl (lv_at hl 0 rfl) ?_
    refine va_get (D := (dC, dI)) (ci := 12) (v := .int (sI s0.1 3)) (C := RX11) (T := TX11) (N := 16) hx hb hts hi_dm_X11_told_X11 hown hK hP 0 rfl rfl 11 (by decide) (hts (.fieldLink RX11 72 "TimeMachine$Timeline" "now" "I") (List.mem_of_getElem? (i := 1) rfl)) (fun _ h9 => h9) rfl dX11_told_37 ?_
    refine lv_i2l hx hb dX11_told_40 rfl ?_
    exact K _ _ _ _ _ _ dX11_told_41 (Option.some.inj h).symm hP hD hS
  have h := nd_neg h c1
  by_cases c2 : v0 = 1
  · have h := nd_pos h c2
    refine lv_tableIn (off := 41) (tgt := 42) hx hb dX11_told_1 (by rw [c2]; decide) (by rw [c2]; decide) (by rw [c2]; decide) (by decide) ?_
    refine lv_aload_n hx hb dX11_told_42 rfl (lv_at hl 0 rfl) ?_
    refine va_get (D := (dC, dI)) (ci := 12) (v := .int (sI s0.1 4)) (C := RX11) (T := TX11) (N := 16) hx hb hts hi_dm_X11_told_X11 hown hK hP 0 rfl rfl 12 (by decide) (hts (.fieldLink RX11 76 "TimeMachine$Timeline" "end" "I") (List.mem_of_getElem? (i := 2) rfl)) (fun _ h9 => h9) rfl dX11_told_43 ?_
    refine lv_i2l hx hb dX11_told_46 rfl ?_
    exact K _ _ _ _ _ _ dX11_told_47 (Option.some.inj h).symm hP hD hS
  have h := nd_neg h c2
  by_cases c3 : v0 = 2
  · have h := nd_pos h c3
    refine lv_tableIn (off := 47) (tgt := 48) hx hb dX11_told_1 (by rw [c3]; decide) (by rw [c3]; decide) (by rw [c3]; decide) (by decide) ?_
    refine lv_aload_n hx hb dX11_told_48 rfl (lv_at hl 0 rfl) ?_
    refine va_get (D := (dC, dI)) (ci := 12) (v := .ref (a 7)) (C := RX11) (T := TX11) (N := 16) hx hb hts hi_dm_X11_told_X11 hown hK hP 0 rfl rfl 3 (by decide) (hts (.fieldLink RX11 30 "TimeMachine$Timeline" "machine" "LTimeMachine$Machine;") (List.mem_of_getElem? (i := 3) rfl)) (fun _ h9 => h9) rfl dX11_told_49 ?_
    refine va_get (D := (dC, dI)) (ci := 7) (v := .int (sI s0.2.2.1.2.2.1 3)) (C := RX6) (T := TX6) (N := 20) hx hb hts hi_dm_X11_told_X6 hown hK hP 7 rfl rfl 13 (by decide) (hts (.fieldLink RX11 162 "TimeMachine$Machine" "current" "I") (List.mem_of_getElem? (i := 4) rfl)) (fun _ h9 => h9) rfl dX11_told_52 ?_
    refine lv_i2l hx hb dX11_told_55 rfl ?_
    exact K _ _ _ _ _ _ dX11_told_56 (Option.some.inj h).symm hP hD hS
  have h := nd_neg h c3
  by_cases c4 : v0 = 3
  · have h := nd_pos h c4
    refine lv_tableIn (off := 56) (tgt := 57) hx hb dX11_told_1 (by rw [c4]; decide) (by rw [c4]; decide) (by rw [c4]; decide) (by decide) ?_
    refine lv_aload_n hx hb dX11_told_57 rfl (lv_at hl 0 rfl) ?_
    by_cases o5 : sO s0.1 0 = some 27
    · have h := nd_pos h o5
      refine va_get (D := (dC, dI)) (ci := 12) (v := .ref (a 27)) (C := RX11) (T := TX11) (N := 16) hx hb hts hi_dm_X11_told_X11 hown hK hP 0 rfl rfl 1 (by decide) (hts (.fieldLink RX11 20 "TimeMachine$Timeline" "events" "LTimeMachine$Events;") (List.mem_of_getElem? (i := 5) rfl)) (fun _ h9 => h9) (congrArg (fun z => some (va_rf (Option.map a z))) o5) dX11_told_58 ?_
      refine va_get (D := (dC, dI)) (ci := 4) (v := .int (sI s0.2.2.2.1 0)) (C := RX3) (T := TX3) (N := 11) hx hb hts hi_dm_X11_told_X3 hown hK hP 27 rfl rfl 4 (by decide) (hts (.fieldLink RX11 116 "TimeMachine$Events" "recorded" "I") (List.mem_of_getElem? (i := 6) rfl)) (fun _ h9 => h9) rfl dX11_told_61 ?_
      refine lv_i2l hx hb dX11_told_64 rfl ?_
      exact K _ _ _ _ _ _ dX11_told_65 (Option.some.inj h).symm hP hD hS
    have h := nd_neg h o5
    by_cases o6 : sO s0.1 0 = some 32
    · have h := nd_pos h o6
      refine va_get (D := (dC, dI)) (ci := 12) (v := .ref (a 32)) (C := RX11) (T := TX11) (N := 16) hx hb hts hi_dm_X11_told_X11 hown hK hP 0 rfl rfl 1 (by decide) (hts (.fieldLink RX11 20 "TimeMachine$Timeline" "events" "LTimeMachine$Events;") (List.mem_of_getElem? (i := 5) rfl)) (fun _ h9 => h9) (congrArg (fun z => some (va_rf (Option.map a z))) o6) dX11_told_58 ?_
      refine va_get (D := (dC, dI)) (ci := 4) (v := .int (sI s0.2.2.2.2.1 0)) (C := RX3) (T := TX3) (N := 11) hx hb hts hi_dm_X11_told_X3 hown hK hP 32 rfl rfl 4 (by decide) (hts (.fieldLink RX11 116 "TimeMachine$Events" "recorded" "I") (List.mem_of_getElem? (i := 6) rfl)) (fun _ h9 => h9) rfl dX11_told_61 ?_
      refine lv_i2l hx hb dX11_told_64 rfl ?_
      exact K _ _ _ _ _ _ dX11_told_65 (Option.some.inj h).symm hP hD hS
    have h := nd_neg h o6
    exact nomatch h
  have h := nd_neg h c4
  by_cases c7 : v0 = 4
  · have h := nd_pos h c7
    refine lv_tableIn (off := 65) (tgt := 66) hx hb dX11_told_1 (by rw [c7]; decide) (by rw [c7]; decide) (by rw [c7]; decide) (by decide) ?_
    refine lv_aload_n hx hb dX11_told_66 rfl (lv_at hl 0 rfl) ?_
    refine va_get (D := (dC, dI)) (ci := 12) (v := .int (sI s0.1 5)) (C := RX11) (T := TX11) (N := 16) hx hb hts hi_dm_X11_told_X11 hown hK hP 0 rfl rfl 13 (by decide) (hts (.fieldLink RX11 79 "TimeMachine$Timeline" "came" "I") (List.mem_of_getElem? (i := 7) rfl)) (fun _ h9 => h9) rfl dX11_told_67 ?_
    refine lv_i2l hx hb dX11_told_70 rfl ?_
    exact K _ _ _ _ _ _ dX11_told_71 (Option.some.inj h).symm hP hD hS
  have h := nd_neg h c7
  refine lv_tableOut (tgt := 72) hx hb dX11_told_1 (by have g0 := nv_nei c1 (k := 0) (by decide); have g1 := nv_nei c2 (k := 1) (by decide); have g2 := nv_nei c3 (k := 2) (by decide); have g3 := nv_nei c4 (k := 3) (by decide); have g4 := nv_nei c7 (k := 4) (by decide); omega) (by decide) ?_
  refine lv_aload_n hx hb dX11_told_72 rfl (lv_at hl 0 rfl) ?_
  by_cases o8 : sO s0.1 0 = some 27
  · have h := nd_pos h o8
    refine va_get (D := (dC, dI)) (ci := 12) (v := .ref (a 27)) (C := RX11) (T := TX11) (N := 16) hx hb hts hi_dm_X11_told_X11 hown hK hP 0 rfl rfl 1 (by decide) (hts (.fieldLink RX11 20 "TimeMachine$Timeline" "events" "LTimeMachine$Events;") (List.mem_of_getElem? (i := 5) rfl)) (fun _ h9 => h9) (congrArg (fun z => some (va_rf (Option.map a z))) o8) dX11_told_73 ?_
    refine va_get (D := (dC, dI)) (ci := 4) (v := .int (sI s0.2.2.2.1 1)) (C := RX3) (T := TX3) (N := 11) hx hb hts hi_dm_X11_told_X3 hown hK hP 27 rfl rfl 5 (by decide) (hts (.fieldLink RX11 137 "TimeMachine$Events" "total" "I") (List.mem_of_getElem? (i := 8) rfl)) (fun _ h9 => h9) rfl dX11_told_76 ?_
    refine lv_aload_n hx hb dX11_told_79 rfl (lv_at hl 0 rfl) ?_
    refine va_get (D := (dC, dI)) (ci := 12) (v := .ref (a 27)) (C := RX11) (T := TX11) (N := 16) hx hb hts hi_dm_X11_told_X11 hown hK hP 0 rfl rfl 1 (by decide) (hts (.fieldLink RX11 20 "TimeMachine$Timeline" "events" "LTimeMachine$Events;") (List.mem_of_getElem? (i := 5) rfl)) (fun _ h9 => h9) (congrArg (fun z => some (va_rf (Option.map a z))) o8) dX11_told_80 ?_
    refine va_get (D := (dC, dI)) (ci := 4) (v := .int (sI s0.2.2.2.1 0)) (C := RX3) (T := TX3) (N := 11) hx hb hts hi_dm_X11_told_X3 hown hK hP 27 rfl rfl 4 (by decide) (hts (.fieldLink RX11 116 "TimeMachine$Events" "recorded" "I") (List.mem_of_getElem? (i := 6) rfl)) (fun _ h9 => h9) rfl dX11_told_83 ?_
    refine lv_isub hx hb dX11_told_86 ?_
    refine lv_i2l hx hb dX11_told_87 rfl ?_
    exact K _ _ _ _ _ _ dX11_told_88 (Option.some.inj h).symm hP hD hS
  have h := nd_neg h o8
  by_cases o9 : sO s0.1 0 = some 32
  · have h := nd_pos h o9
    refine va_get (D := (dC, dI)) (ci := 12) (v := .ref (a 32)) (C := RX11) (T := TX11) (N := 16) hx hb hts hi_dm_X11_told_X11 hown hK hP 0 rfl rfl 1 (by decide) (hts (.fieldLink RX11 20 "TimeMachine$Timeline" "events" "LTimeMachine$Events;") (List.mem_of_getElem? (i := 5) rfl)) (fun _ h9 => h9) (congrArg (fun z => some (va_rf (Option.map a z))) o9) dX11_told_73 ?_
    refine va_get (D := (dC, dI)) (ci := 4) (v := .int (sI s0.2.2.2.2.1 1)) (C := RX3) (T := TX3) (N := 11) hx hb hts hi_dm_X11_told_X3 hown hK hP 32 rfl rfl 5 (by decide) (hts (.fieldLink RX11 137 "TimeMachine$Events" "total" "I") (List.mem_of_getElem? (i := 8) rfl)) (fun _ h9 => h9) rfl dX11_told_76 ?_
    refine lv_aload_n hx hb dX11_told_79 rfl (lv_at hl 0 rfl) ?_
    refine va_get (D := (dC, dI)) (ci := 12) (v := .ref (a 32)) (C := RX11) (T := TX11) (N := 16) hx hb hts hi_dm_X11_told_X11 hown hK hP 0 rfl rfl 1 (by decide) (hts (.fieldLink RX11 20 "TimeMachine$Timeline" "events" "LTimeMachine$Events;") (List.mem_of_getElem? (i := 5) rfl)) (fun _ h9 => h9) (congrArg (fun z => some (va_rf (Option.map a z))) o9) dX11_told_80 ?_
    refine va_get (D := (dC, dI)) (ci := 4) (v := .int (sI s0.2.2.2.2.1 0)) (C := RX3) (T := TX3) (N := 11) hx hb hts hi_dm_X11_told_X3 hown hK hP 32 rfl rfl 4 (by decide) (hts (.fieldLink RX11 116 "TimeMachine$Events" "recorded" "I") (List.mem_of_getElem? (i := 6) rfl)) (fun _ h9 => h9) rfl dX11_told_83 ?_
    refine lv_isub hx hb dX11_told_86 ?_
    refine lv_i2l hx hb dX11_told_87 rfl ?_
    exact K _ _ _ _ _ _ dX11_told_88 (Option.some.inj h).symm hP hD hS
  have h := nd_neg h o9
  exact nomatch h
set_option maxHeartbeats 40000000 in
set_option maxRecDepth 100000 in
theorem dm_X11_told (l : Launch) (hlt : l.stackTraces = false) (dC : Nat → ClassId) (dI : Nat → Nat → Nat) (a : Nat → Nat) (ac : Nat → ClassId) (n : Nat) (v0 : Int32) (s0 : St × Rw × (St × (St × (St × (St)))) × (St) × (St) × (Nat → St) × (Nat → St) × (Nat → St × (St))) {r : Int64 × (St × Rw × (St × (St × (St × (St)))) × (St) × (St) × (Nat → St) × (Nat → St) × (Nat → St × (St)))} (h : df_X11_told n v0 s0 = some r) (sz : Nat) : Met l yX11_told ow_dm_X11_told ({ frames := 0, cells := 0, slots := 0, locals := 0 }) (va_Pc [.ref (a 0), .int v0] (fun U => U.heap.size = sz ∧ va_P (dC, dI) vwCl (dw_X11 a ac s0) U.heap ∧ va_K (dC, dI) vwCl (dk_X11 ac) U ∧ va_D (fun _ => True) (dw_X11 a ac s0) ∧ nv_E dI (va_A (dw_X11 a ac s0) sz) U)) (va_Ql (fun x _ => x = r.1) (fun (_ : Unit) t => va_P (dC, dI) vwCl (dw_X11 a ac r.2) t.heap ∧ va_K (dC, dI) vwCl (dk_X11 ac) t ∧ va_D (va_A (dw_X11 a ac s0) sz) (dw_X11 a ac r.2)) (va_A (dw_X11 a ac s0) sz)) 0 0 (va_A (dw_X11 a ac s0) sz) := by
  refine Met.ofW (cc := cX11_told) (maxL := 2) (ret := (some .long)) (by decide) rfl ?_
  intro p e s m args below meth c s₁ B hml hv
  obtain ⟨rfl, hsz, hP, hK, hD0, hN⟩ := hv
  have hx := B.exec
  have hb := B.bytes
  have hr := B.returns
  have hts := atoms_spec (ws := ow_dm_X11_told) B.pre
  have hown : s.vm.findClass RX11 = some m.cls := findClass_of_methodNamed B.named
  have hlocks := B.notSynchronized
  subst hsz
  have hD := hD0.self (sz := s.heap.size)
  generalize hAe : va_A (dw_X11 a ac s0) s.heap.size = A at hD hN ⊢
  have hA : ∀ q : Nat, s.heap.size ≤ q → A q := fun q h => by rw [← hAe]; exact Or.inr h
  have hl := lv_entry ([.ref (a 0), .int v0]) (n := 2) (Nat.le_of_ble_eq_true rfl)
  rw [lg_entry_eq]
  generalize (lg_sl ([.ref (a 0), .int v0]) ++ List.replicate (2 - (lg_sl ([.ref (a 0), .int v0])).length) Slot.unset).toArray = ls at hl ⊢
  have hl : lv_has ls 2 [(0, .ref (a 0)), (1, .int v0)] := hl
  exact db_X11_told_0 (dC := dC) (dI := dI) (a := a) (ac := ac) (n := n) (r := r) ⟨hlt, hx, hb, hml, hown, hts, hN, hA, hK⟩ (fun pc v τ H locs ls d er hP hD hS => by subst er; exact W.lret (v := v) hx hb hr (fun t ht hW => ⟨⟨v, (), rfl, rfl, by rw [ht]; exact hP, va_K.moved hW.alike hK, hD⟩, hS.F ht⟩) hS.2.2 d) v0 s0 _ _ _ h hP hD va_S.rf (lv_sub hl [0, 1] rfl)

