set_option maxHeartbeats 40000000 in
set_option maxRecDepth 100000 in
theorem db_X13_stretch_89 {p : Program} {l : Launch} {e : Env} {s : State} {m : MethodId} {args : Array Value} {below : List Frame} {meth : Method} {c : Code} {Q : State → Prop} {A : Nat → Prop} {dC : Nat → ClassId} {dI : Nat → Nat → Nat} {a : Nat → Nat} {ac : Nat → ClassId} {n : Nat} {r : St} (C : nd_C p l s m args c A (dC, dI) cX13_stretch 3 RX13 ow_dm_X13_stretch (dk_X13 ac)) (K : nd_Kv p l e (headSpec ow_dm_X13_stretch ({ frames := 13, cells := 0, slots := 0, locals := 309 })).room s m args below meth c Q A (dC, dI) cX13_stretch (St) (dw_X13 a ac) r) {g7 : Int32 → (St) → Option (St)} {g19 : Int32 → Int32 → (St) → Option (St)} (J7 : dj_X13_stretch_7 p l e s m args below meth c Q A dC dI a ac g7 r) (J19 : dj_X13_stretch_19 p l e s m args below meth c Q A dC dI a ac g19 r) : dj_X13_stretch_89 p l e s m args below meth c Q A dC dI a ac (df_X13_stretch_89 n g7 g19) r := by
  obtain ⟨hlt, hx, hb, hml, hown, hts, hN, hA, hK⟩ := id C
  intro x1 x2 s0 H locs ls h hP hD hS hl
  unfold df_X13_stretch_89 at h
  obtain ⟨z17, ez17, h⟩ := nd_let_e h
  refine lv_iinc (v := z17) (lv' := [(2, .int z17), (0, .ref (a 0)), (1, .int x1)]) hx hb dX13_stretch_89 hl (k := 2) rfl (by rw [ez17]) (by decide) rfl (fun ls hl => ?_)
  refine lv_goto (tgt := 19) hx hb dX13_stretch_92 (by decide) ?_
  exact (J19) (x1) (z17) s0 _ _ _ h hP hD hS (lv_sub hl [1, 2, 0] rfl)
set_option maxHeartbeats 40000000 in
set_option maxRecDepth 100000 in
theorem db_X13_stretch_88 {p : Program} {l : Launch} {e : Env} {s : State} {m : MethodId} {args : Array Value} {below : List Frame} {meth : Method} {c : Code} {Q : State → Prop} {A : Nat → Prop} {dC : Nat → ClassId} {dI : Nat → Nat → Nat} {a : Nat → Nat} {ac : Nat → ClassId} {n : Nat} {r : St} (C : nd_C p l s m args c A (dC, dI) cX13_stretch 3 RX13 ow_dm_X13_stretch (dk_X13 ac)) (K : nd_Kv p l e (headSpec ow_dm_X13_stretch ({ frames := 13, cells := 0, slots := 0, locals := 309 })).room s m args below meth c Q A (dC, dI) cX13_stretch (St) (dw_X13 a ac) r) {g7 : Int32 → (St) → Option (St)} {g19 : Int32 → Int32 → (St) → Option (St)} (J7 : dj_X13_stretch_7 p l e s m args below meth c Q A dC dI a ac g7 r) (J19 : dj_X13_stretch_19 p l e s m args below meth c Q A dC dI a ac g19 r) : dj_X13_stretch_88 p l e s m args below meth c Q A dC dI a ac (df_X13_stretch_88 n g7 g19) r := by
  obtain ⟨hlt, hx, hb, hml, hown, hts, hN, hA, hK⟩ := id C
  intro x2 y0 s0 H locs ls h hP hD hS hl
  unfold df_X13_stretch_88 at h
  refine lv_istore_n (lv' := [(1, .int y0), (0, .ref (a 0)), (2, .int x2)]) hx hb dX13_stretch_88 rfl hl (by decide) rfl (fun ls hl => ?_)
  exact (db_X13_stretch_89 C K J7 J19) (y0) (x2) s0 _ _ _ h hP hD hS (lv_sub hl [1, 0, 2] rfl)
set_option maxHeartbeats 40000000 in
set_option maxRecDepth 100000 in
theorem db_X13_stretch_83 {p : Program} {l : Launch} {e : Env} {s : State} {m : MethodId} {args : Array Value} {below : List Frame} {meth : Method} {c : Code} {Q : State → Prop} {A : Nat → Prop} {dC : Nat → ClassId} {dI : Nat → Nat → Nat} {a : Nat → Nat} {ac : Nat → ClassId} {n : Nat} {r : St} (C : nd_C p l s m args c A (dC, dI) cX13_stretch 3 RX13 ow_dm_X13_stretch (dk_X13 ac)) (K : nd_Kv p l e (headSpec ow_dm_X13_stretch ({ frames := 13, cells := 0, slots := 0, locals := 309 })).room s m args below meth c Q A (dC, dI) cX13_stretch (St) (dw_X13 a ac) r) {g7 : Int32 → (St) → Option (St)} {g19 : Int32 → Int32 → (St) → Option (St)} (J7 : dj_X13_stretch_7 p l e s m args below meth c Q A dC dI a ac g7 r) (J19 : dj_X13_stretch_19 p l e s m args below meth c Q A dC dI a ac g19 r) : dj_X13_stretch_83 p l e s m args below meth c Q A dC dI a ac (df_X13_stretch_83 n g7 g19) r := by
  obtain ⟨hlt, hx, hb, hml, hown, hts, hN, hA, hK⟩ := id C
  intro x2 s0 H locs ls h hP hD hS hl
  unfold df_X13_stretch_83 at h
  refine lv_iconst (v := 1) hx hb dX13_stretch_83 (by decide) ?_
  refine lv_goto (tgt := 88) hx hb dX13_stretch_84 (by decide) ?_
  exact (db_X13_stretch_88 C K J7 J19) (x2) (1) s0 _ _ _ h hP hD hS (lv_sub hl [0, 1] rfl)
set_option maxHeartbeats 40000000 in
set_option maxRecDepth 100000 in
theorem db_X13_stretch_72 {p : Program} {l : Launch} {e : Env} {s : State} {m : MethodId} {args : Array Value} {below : List Frame} {meth : Method} {c : Code} {Q : State → Prop} {A : Nat → Prop} {dC : Nat → ClassId} {dI : Nat → Nat → Nat} {a : Nat → Nat} {ac : Nat → ClassId} {n : Nat} {r : St} (C : nd_C p l s m args c A (dC, dI) cX13_stretch 3 RX13 ow_dm_X13_stretch (dk_X13 ac)) (K : nd_Kv p l e (headSpec ow_dm_X13_stretch ({ frames := 13, cells := 0, slots := 0, locals := 309 })).room s m args below meth c Q A (dC, dI) cX13_stretch (St) (dw_X13 a ac) r) {g7 : Int32 → (St) → Option (St)} {g19 : Int32 → Int32 → (St) → Option (St)} (J7 : dj_X13_stretch_7 p l e s m args below meth c Q A dC dI a ac g7 r) (J19 : dj_X13_stretch_19 p l e s m args below meth c Q A dC dI a ac g19 r) : dj_X13_stretch_72 p l e s m args below meth c Q A dC dI a ac (df_X13_stretch_72 n g7 g19) r := by
  obtain ⟨hlt, hx, hb, hml, hown, hts, hN, hA, hK⟩ := id C
  intro x1 x2 s0 H locs ls h hP hD hS hl
  unfold df_X13_stretch_72 at h
  refine lv_iload_n hx hb dX13_stretch_72 rfl (lv_at hl 1 rfl) ?_
  refine lv_if_ne (tgt := 83) hx hb dX13_stretch_73 (by decide) (fun c16 => ?_) (fun c16 => ?_)
  · have h := nd_neg h c16
    exact (db_X13_stretch_83 C K J7 J19) (x2) s0 _ _ _ h hP hD hS (lv_sub hl [0, 2] rfl)
  · have h := nd_pos h c16
    refine lv_aload_n hx hb dX13_stretch_76 rfl (lv_at hl 0 rfl) ?_
    refine va_get (D := (dC, dI)) (ci := 14) (v := .int (sI s0 20)) (C := RX13) (T := TX13) (N := 37) hx hb hts hi_dm_X13_stretch_X13 hown hK hP 0 rfl rfl 30 (by decide) (hts (.fieldLink RX13 558 "TimeMachineModel$Assembler" "grows" "Z") (List.mem_of_getElem? (i := 8) rfl)) (fun _ h9 => h9) rfl dX13_stretch_77 ?_
    refine lv_if_eq (tgt := 87) hx hb dX13_stretch_80 (by decide) (fun c18 => ?_) (fun c18 => ?_)
    · have h := nd_pos h c18
      refine lv_iconst (v := 0) hx hb dX13_stretch_87 (by decide) ?_
      exact (db_X13_stretch_88 C K J7 J19) (x2) (0) s0 _ _ _ h hP hD hS (lv_sub hl [0, 2] rfl)
    · have h := nd_neg h c18
      exact (db_X13_stretch_83 C K J7 J19) (x2) s0 _ _ _ h hP hD hS (lv_sub hl [0, 2] rfl)
set_option maxHeartbeats 40000000 in
set_option maxRecDepth 100000 in
theorem dB_X13_stretch_19 {p : Program} {l : Launch} {e : Env} {s : State} {m : MethodId} {args : Array Value} {below : List Frame} {meth : Method} {c : Code} {Q : State → Prop} {A : Nat → Prop} {dC : Nat → ClassId} {dI : Nat → Nat → Nat} {a : Nat → Nat} {ac : Nat → ClassId} {n : Nat} {r : St} (C : nd_C p l s m args c A (dC, dI) cX13_stretch 3 RX13 ow_dm_X13_stretch (dk_X13 ac)) (K : nd_Kv p l e (headSpec ow_dm_X13_stretch ({ frames := 13, cells := 0, slots := 0, locals := 309 })).room s m args below meth c Q A (dC, dI) cX13_stretch (St) (dw_X13 a ac) r) {g7 : Int32 → (St) → Option (St)} (J7 : dj_X13_stretch_7 p l e s m args below meth c Q A dC dI a ac g7 r) {g19 : Int32 → Int32 → (St) → Option (St)} (J19 : dj_X13_stretch_19 p l e s m args below meth c Q A dC dI a ac g19 r) : dj_X13_stretch_19 p l e s m args below meth c Q A dC dI a ac (dF_X13_stretch_19 n g7 g19) r := by
  obtain ⟨hlt, hx, hb, hml, hown, hts, hN, hA, hK⟩ := id C
  intro x1 x2 s0 H locs ls h hP hD hS hl
  unfold dF_X13_stretch_19 at h
  refine lv_iload_n hx hb dX13_stretch_19 rfl (lv_at hl 2 rfl) ?_
  refine lv_aload_n hx hb dX13_stretch_20 rfl (lv_at hl 0 rfl) ?_
  refine va_get (D := (dC, dI)) (ci := 14) (v := .int (sI s0 2)) (C := RX13) (T := TX13) (N := 37) hx hb hts hi_dm_X13_stretch_X13 hown hK hP 0 rfl rfl 6 (by decide) (hts (.fieldLink RX13 673 "TimeMachineModel$Assembler" "statements" "I") (List.mem_of_getElem? (i := 6) rfl)) (fun _ h9 => h9) rfl dX13_stretch_21 ?_
  refine lv_icmp_ge (tgt := 95) hx hb dX13_stretch_24 (by decide) (fun c6 => ?_) (fun c6 => ?_)
  · have h := nd_pos h c6
    refine lv_aload_n hx hb dX13_stretch_95 rfl (lv_at hl 0 rfl) ?_
    refine lv_iload_n hx hb dX13_stretch_96 rfl (lv_at hl 1 rfl) ?_
    refine lv_if_eq (tgt := 109) hx hb dX13_stretch_97 (by decide) (fun c7 => ?_) (fun c7 => ?_)
    · have h := nd_pos h c7
      refine lv_aload_n hx hb dX13_stretch_109 rfl (lv_at hl 0 rfl) ?_
      refine va_get (D := (dC, dI)) (ci := 14) (v := .int (sI s0 6)) (C := RX13) (T := TX13) (N := 37) hx hb hts hi_dm_X13_stretch_X13 hown hK hP 0 rfl rfl 15 (by decide) (hts (.fieldLink RX13 694 "TimeMachineModel$Assembler" "rounds" "I") (List.mem_of_getElem? (i := 1) rfl)) (fun _ h9 => h9) rfl dX13_stretch_110 ?_
      exact (db_X13_stretch_113 C K J7) (x1) ((sI s0 6)) s0 _ _ _ h hP hD hS (lv_sub hl [0, 1] rfl)
    · have h := nd_neg h c7
      refine lv_aload_n hx hb dX13_stretch_100 rfl (lv_at hl 0 rfl) ?_
      refine va_get (D := (dC, dI)) (ci := 14) (v := .int (sI s0 6)) (C := RX13) (T := TX13) (N := 37) hx hb hts hi_dm_X13_stretch_X13 hown hK hP 0 rfl rfl 15 (by decide) (hts (.fieldLink RX13 694 "TimeMachineModel$Assembler" "rounds" "I") (List.mem_of_getElem? (i := 1) rfl)) (fun _ h9 => h9) rfl dX13_stretch_101 ?_
      refine lv_iconst (v := 1) hx hb dX13_stretch_104 (by decide) ?_
      refine lv_iadd hx hb dX13_stretch_105 ?_
      refine lv_goto (tgt := 113) hx hb dX13_stretch_106 (by decide) ?_
      exact (db_X13_stretch_113 C K J7) (x1) (((sI s0 6) + 1)) s0 _ _ _ h hP hD hS (lv_sub hl [0, 1] rfl)
  · have h := nd_neg h c6
    refine lv_aload_n hx hb dX13_stretch_27 rfl (lv_at hl 0 rfl) ?_
    refine va_get (D := (dC, dI)) (ci := 14) (v := .ref (a 5)) (C := RX13) (T := TX13) (N := 37) hx hb hts hi_dm_X13_stretch_X13 hown hK hP 0 rfl rfl 7 (by decide) (hts (.fieldLink RX13 328 "TimeMachineModel$Assembler" "place" "[I") (List.mem_of_getElem? (i := 7) rfl)) (fun _ h9 => h9) rfl dX13_stretch_28 ?_
    refine lv_iload_n hx hb dX13_stretch_31 rfl (lv_at hl 2 rfl) ?_
    obtain ⟨i9, h⟩ := nd_ck_e h
    refine va_iald (i := x2) hx hb hK hP 5 4 rfl rfl i9 dX13_stretch_32 ?_
    refine lv_bipush (v := 20) hx hb dX13_stretch_33 (by decide) ?_
    refine lv_ishr hx hb dX13_stretch_35 ?_
    refine lv_if_ne (tgt := 42) hx hb dX13_stretch_36 (by decide) (fun c10 => ?_) (fun c10 => ?_)
    · have h := nd_neg h c10
      refine lv_aload_n hx hb dX13_stretch_42 rfl (lv_at hl 0 rfl) ?_
      refine lv_iconst (v := 0) hx hb dX13_stretch_43 (by decide) ?_
      refine va_put (D := (dC, dI)) (ci := 14) (v := .int 0) (ty := .boolean) (C := RX13) (T := TX13) (N := 37) hx hb hts hi_dm_X13_stretch_X13 tyX13 tyX13_ok nmX13 hown hK hP hD hS 0 rfl rfl 30 (by decide) (hts (.fieldLink RX13 558 "TimeMachineModel$Assembler" "grows" "Z") (List.mem_of_getElem? (i := 8) rfl)) (fun _ h9 => h9) rfl (by decide +kernel) (by first | rfl | decide) rfl (Nat.le_of_ble_eq_true rfl) dX13_stretch_44 (fun H locs hP hD hS => ?_)
      obtain ⟨s11, es11, h⟩ := nd_let_e h
      have hP : va_P (dC, dI) vwCl (dw_X13 a ac s11) H := by rw [es11]; exact hP
      have hD : va_D A (dw_X13 a ac s11) := by rw [es11]; exact hD
      refine lv_aload_n hx hb dX13_stretch_47 rfl (lv_at hl 0 rfl) ?_
      refine lv_iload_n hx hb dX13_stretch_48 rfl (lv_at hl 2 rfl) ?_
      refine lv_iconst (v := 1) hx hb dX13_stretch_49 (by decide) ?_
      obtain ⟨s13, hq, h⟩ := nd_b1_e h
      have hPc := hP
      have hDc := hD
      have hKc := hK
      have hFc := nd_rs hD hS hA
      refine nd_cVv (As := [.int x2, .int 1]) (rest := []) (w' := dw_X13 a ac s13) ⟨hx, hb, hml, hown, hts⟩ (fun sz => dm_X13_again l hlt dC dI a ac n (x2) (1) s11 hq sz) (cwV 2 hts gi_dm_X13_stretch_1 rfl rfl rfl (by decide +kernel) ⟨Nat.le_of_ble_eq_true rfl, Nat.le_of_ble_eq_true rfl⟩) hPc hDc hKc hS hA hN (va_recv hKc hPc (ci := 14) (q0 := 0) rfl rfl) rfl hl.1 rfl (Nat.le_of_ble_eq_true rfl) dX13_stretch_50 (fun H locs hP1 hD1 hk1 hS => ?_)
      have hP := hP1
      have hD := hD1.weaken (fun k q _ h => hFc q.1 h)
      refine lv_aload_n hx hb dX13_stretch_53 rfl (lv_at hl 0 rfl) ?_
      refine va_get (D := (dC, dI)) (ci := 14) (v := .int (sI s13 20)) (C := RX13) (T := TX13) (N := 37) hx hb hts hi_dm_X13_stretch_X13 hown hK hP 0 rfl rfl 30 (by decide) (hts (.fieldLink RX13 558 "TimeMachineModel$Assembler" "grows" "Z") (List.mem_of_getElem? (i := 8) rfl)) (fun _ h9 => h9) rfl dX13_stretch_54 ?_
      refine lv_if_eq (tgt := 72) hx hb dX13_stretch_57 (by decide) (fun c15 => ?_) (fun c15 => ?_)
      · have h := nd_pos h c15
        exact (db_X13_stretch_72 C K J7 J19) (x1) (x2) s13 _ _ _ h hP hD hS (lv_sub hl [0, 1, 2] rfl)
      · have h := nd_neg h c15
        refine lv_aload_n hx hb dX13_stretch_60 rfl (lv_at hl 0 rfl) ?_
        refine va_get (D := (dC, dI)) (ci := 14) (v := .ref (a 5)) (C := RX13) (T := TX13) (N := 37) hx hb hts hi_dm_X13_stretch_X13 hown hK hP 0 rfl rfl 7 (by decide) (hts (.fieldLink RX13 328 "TimeMachineModel$Assembler" "place" "[I") (List.mem_of_getElem? (i := 7) rfl)) (fun _ h9 => h9) rfl dX13_stretch_61 ?_
        refine lv_iload_n hx hb dX13_stretch_64 rfl (lv_at hl 2 rfl) ?_
        refine lv_dup2_11 hx hb dX13_stretch_65 rfl rfl ?_
        obtain ⟨i19, h⟩ := nd_ck_e h
        refine va_iald (i := x2) hx hb hK hP 5 4 rfl rfl i19 dX13_stretch_66 ?_
        refine lv_ldcw hx hb hown (hts (.constant RX13 703 (131072)) (List.mem_of_getElem? (i := 12) rfl)) dX13_stretch_67 ?_
        refine lv_iadd hx hb dX13_stretch_70 ?_
        obtain ⟨i20, h⟩ := nd_ck_e h
        refine va_iast (i := x2) (x := ((sR s13 3 (Int32.toNatClampNeg x2)) + 131072)) hx hb hK hP hD hS 5 4 rfl rfl i20 dX13_stretch_71 (fun H locs hP hD hS => ?_)
        obtain ⟨s21, es21, h⟩ := nd_let_e h
        have hP : va_P (dC, dI) vwCl (dw_X13 a ac s21) H := by rw [es21]; exact hP
        have hD : va_D A (dw_X13 a ac s21) := by rw [es21]; exact hD
        exact (db_X13_stretch_72 C K J7 J19) (x1) (x2) s21 _ _ _ h hP hD hS (lv_sub hl [0, 1, 2] rfl)
    · have h := nd_pos h c10
      refine lv_goto (tgt := 89) hx hb dX13_stretch_39 (by decide) ?_
      exact (db_X13_stretch_89 C K J7 J19) (x1) (x2) s0 _ _ _ h hP hD hS (lv_sub hl [0, 1, 2] rfl)
set_option maxHeartbeats 40000000 in
set_option maxRecDepth 100000 in
theorem db_X13_stretch_19 {p : Program} {l : Launch} {e : Env} {s : State} {m : MethodId} {args : Array Value} {below : List Frame} {meth : Method} {c : Code} {Q : State → Prop} {A : Nat → Prop} {dC : Nat → ClassId} {dI : Nat → Nat → Nat} {a : Nat → Nat} {ac : Nat → ClassId} {n : Nat} {r : St} (C : nd_C p l s m args c A (dC, dI) cX13_stretch 3 RX13 ow_dm_X13_stretch (dk_X13 ac)) (K : nd_Kv p l e (headSpec ow_dm_X13_stretch ({ frames := 13, cells := 0, slots := 0, locals := 309 })).room s m args below meth c Q A (dC, dI) cX13_stretch (St) (dw_X13 a ac) r) {g7 : Int32 → (St) → Option (St)} (J7 : dj_X13_stretch_7 p l e s m args below meth c Q A dC dI a ac g7 r) (k : Nat) : dj_X13_stretch_19 p l e s m args below meth c Q A dC dI a ac (df_X13_stretch_19 n g7 k) r := by
  induction k with
  | zero => intro x1 x2 s0 H locs ls h; exact nomatch (show (none : Option (St)) = some r from h)
  | succ k ih => exact dB_X13_stretch_19 C K J7 ih
set_option maxHeartbeats 40000000 in
set_option maxRecDepth 100000 in
theorem dB_X13_stretch_7 {p : Program} {l : Launch} {e : Env} {s : State} {m : MethodId} {args : Array Value} {below : List Frame} {meth : Method} {c : Code} {Q : State → Prop} {A : Nat → Prop} {dC : Nat → ClassId} {dI : Nat → Nat → Nat} {a : Nat → Nat} {ac : Nat → ClassId} {n : Nat} {r : St} (C : nd_C p l s m args c A (dC, dI) cX13_stretch 3 RX13 ow_dm_X13_stretch (dk_X13 ac)) (K : nd_Kv p l e (headSpec ow_dm_X13_stretch ({ frames := 13, cells := 0, slots := 0, locals := 309 })).room s m args below meth c Q A (dC, dI) cX13_stretch (St) (dw_X13 a ac) r) {g7 : Int32 → (St) → Option (St)} (J7 : dj_X13_stretch_7 p l e s m args below meth c Q A dC dI a ac g7 r) : dj_X13_stretch_7 p l e s m args below meth c Q A dC dI a ac (dF_X13_stretch_7 n g7) r := by
  obtain ⟨hlt, hx, hb, hml, hown, hts, hN, hA, hK⟩ := id C
  intro x1 s0 H locs ls h hP hD hS hl
  unfold dF_X13_stretch_7 at h
  refine lv_iload_n hx hb dX13_stretch_7 rfl (lv_at hl 1 rfl) ?_
  refine lv_if_eq (tgt := 119) hx hb dX13_stretch_8 (by decide) (fun c2 => ?_) (fun c2 => ?_)
  · have h := nd_pos h c2
    exact K _ _ _ _ _ dX13_stretch_119 (Option.some.inj h).symm hP hD hS
  · have h := nd_neg h c2
    refine lv_iconst (v := 0) hx hb dX13_stretch_11 (by decide) ?_
    refine lv_istore_n (lv' := [(1, .int 0), (0, .ref (a 0))]) hx hb dX13_stretch_12 rfl hl (by decide) rfl (fun ls hl => ?_)
    refine lv_aload_n hx hb dX13_stretch_13 rfl (lv_at hl 1 rfl) ?_
    obtain ⟨s4, hq, h⟩ := nd_b1_e h
    have hPc := hP
    have hDc := hD
    have hKc := hK
    have hFc := nd_rs hD hS hA
    refine nd_cVv (As := []) (rest := []) (w' := dw_X13 a ac s4) ⟨hx, hb, hml, hown, hts⟩ (fun sz => dm_X13_layout l hlt dC dI a ac n  s0 hq sz) (cwV 0 hts gi_dm_X13_stretch_0 rfl rfl rfl (by decide +kernel) ⟨Nat.le_of_ble_eq_true rfl, Nat.le_of_ble_eq_true rfl⟩) hPc hDc hKc hS hA hN (va_recv hKc hPc (ci := 14) (q0 := 0) rfl rfl) rfl hl.1 rfl (Nat.le_of_ble_eq_true rfl) dX13_stretch_14 (fun H locs hP1 hD1 hk1 hS => ?_)
    have hP := hP1
    have hD := hD1.weaken (fun k q _ h => hFc q.1 h)
    refine lv_iconst (v := 0) hx hb dX13_stretch_17 (by decide) ?_
    refine lv_istore_n (lv' := [(2, .int 0), (1, .int 0), (0, .ref (a 0))]) hx hb dX13_stretch_18 rfl hl (by decide) rfl (fun ls hl => ?_)
    exact (db_X13_stretch_19 C K J7 n) (0) (0) s4 _ _ _ h hP hD hS (lv_sub hl [2, 1, 0] rfl)
set_option maxHeartbeats 40000000 in
set_option maxRecDepth 100000 in
theorem db_X13_stretch_7 {p : Program} {l : Launch} {e : Env} {s : State} {m : MethodId} {args : Array Value} {below : List Frame} {meth : Method} {c : Code} {Q : State → Prop} {A : Nat → Prop} {dC : Nat → ClassId} {dI : Nat → Nat → Nat} {a : Nat → Nat} {ac : Nat → ClassId} {n : Nat} {r : St} (C : nd_C p l s m args c A (dC, dI) cX13_stretch 3 RX13 ow_dm_X13_stretch (dk_X13 ac)) (K : nd_Kv p l e (headSpec ow_dm_X13_stretch ({ frames := 13, cells := 0, slots := 0, locals := 309 })).room s m args below meth c Q A (dC, dI) cX13_stretch (St) (dw_X13 a ac) r) (k : Nat) : dj_X13_stretch_7 p l e s m args below meth c Q A dC dI a ac (df_X13_stretch_7 n k) r := by
  induction k with
  | zero => intro x1 s0 H locs ls h; exact nomatch (show (none : Option (St)) = some r from h)
  | succ k ih => exact dB_X13_stretch_7 C K ih
set_option maxHeartbeats 40000000 in
set_option maxRecDepth 100000 in
theorem db_X13_stretch_0 {p : Program} {l : Launch} {e : Env} {s : State} {m : MethodId} {args : Array Value} {below : List Frame} {meth : Method} {c : Code} {Q : State → Prop} {A : Nat → Prop} {dC : Nat → ClassId} {dI : Nat → Nat → Nat} {a : Nat → Nat} {ac : Nat → ClassId} {n : Nat} {r : St} (C : nd_C p l s m args c A (dC, dI) cX13_stretch 3 RX13 ow_dm_X13_stretch (dk_X13 ac)) (K : nd_Kv p l e (headSpec ow_dm_X13_stretch ({ frames := 13, cells := 0, slots := 0, locals := 309 })).room s m args below meth c Q A (dC, dI) cX13_stretch (St) (dw_X13 a ac) r) : dj_X13_stretch_0 p l e s m args below meth c Q A dC dI a ac (df_X13_stretch_0 n) r := by
  obtain ⟨hlt, hx, hb, hml, hown, hts, hN, hA, hK⟩ := id C
  intro s0 H locs ls h hP hD hS hl
  unfold df_X13_stretch_0 at h
  refine lv_aload_n hx hb dX13_stretch_0 rfl (lv_at hl 0 rfl) ?_
  refine lv_iconst (v := 0) hx hb dX13_stretch_1 (by decide) ?_
  refine va_put (D := (dC, dI)) (ci := 14) (v := .int 0) (ty := .int) (C := RX13) (T := TX13) (N := 37) hx hb hts hi_dm_X13_stretch_X13 tyX13 tyX13_ok nmX13 hown hK hP hD hS 0 rfl rfl 15 (by decide) (hts (.fieldLink RX13 694 "TimeMachineModel$Assembler" "rounds" "I") (List.mem_of_getElem? (i := 1) rfl)) (fun _ h9 => h9) rfl (by decide +kernel) rfl rfl (Nat.le_of_ble_eq_true rfl) dX13_stretch_2 (fun H locs hP hD hS => ?_)
  obtain ⟨s1, es1, h⟩ := nd_let_e h
  have hP : va_P (dC, dI) vwCl (dw_X13 a ac s1) H := by rw [es1]; exact hP
  have hD : va_D A (dw_X13 a ac s1) := by rw [es1]; exact hD
  refine lv_iconst (v := 1) hx hb dX13_stretch_5 (by decide) ?_
  refine lv_istore_n (lv' := [(1, .int 1), (0, .ref (a 0))]) hx hb dX13_stretch_6 rfl hl (by decide) rfl (fun ls hl => ?_)
  exact (db_X13_stretch_7 C K n) (1) s1 _ _ _ h hP hD hS (lv_sub hl [1, 0] rfl)
set_option maxHeartbeats 40000000 in
set_option maxRecDepth 100000 in
theorem dm_X13_stretch (l : Launch) (hlt : l.stackTraces = false) (dC : Nat → ClassId) (dI : Nat → Nat → Nat) (a : Nat → Nat) (ac : Nat → ClassId) (n : Nat) (s0 : St) {r : St} (h : df_X13_stretch n s0 = some r) (sz : Nat) : Met l yX13_stretch ow_dm_X13_stretch ({ frames := 13, cells := 0, slots := 0, locals := 309 }) (va_Pc [.ref (a 0)] (fun U => U.heap.size = sz ∧ va_P (dC, dI) vwCl (dw_X13 a ac s0) U.heap ∧ va_K (dC, dI) vwCl (dk_X13 ac) U ∧ va_D (fun _ => True) (dw_X13 a ac s0) ∧ nv_E dI (va_A (dw_X13 a ac s0) sz) U)) (va_Qv (fun _ => True) (fun (_ : Unit) t => va_P (dC, dI) vwCl (dw_X13 a ac r) t.heap ∧ va_K (dC, dI) vwCl (dk_X13 ac) t ∧ va_D (va_A (dw_X13 a ac s0) sz) (dw_X13 a ac r)) (va_A (dw_X13 a ac s0) sz)) 0 0 (va_A (dw_X13 a ac s0) sz) := by
  refine Met.ofW (cc := cX13_stretch) (maxL := 3) (ret := none) (by decide) rfl ?_
  intro p e s m args below meth c s₁ B hml hv
  obtain ⟨rfl, hsz, hP, hK, hD0, hN⟩ := hv
  have hx := B.exec
  have hb := B.bytes
  have hr := B.returns
  have hts := atoms_spec (ws := ow_dm_X13_stretch) B.pre
  have hown : s.vm.findClass RX13 = some m.cls := findClass_of_methodNamed B.named
  have hlocks := B.notSynchronized
  subst hsz
  have hD := hD0.self (sz := s.heap.size)
  generalize hAe : va_A (dw_X13 a ac s0) s.heap.size = A at hD hN ⊢
  have hA : ∀ q : Nat, s.heap.size ≤ q → A q := fun q h => by rw [← hAe]; exact Or.inr h
  have hl := lv_entry ([.ref (a 0)]) (n := 3) (Nat.le_of_ble_eq_true rfl)
  rw [lg_entry_eq]
  generalize (lg_sl ([.ref (a 0)]) ++ List.replicate (3 - (lg_sl ([.ref (a 0)])).length) Slot.unset).toArray = ls at hl ⊢
  have hl : lv_has ls 3 [(0, .ref (a 0))] := hl
  exact db_X13_stretch_0 (dC := dC) (dI := dI) (a := a) (ac := ac) (n := n) (r := r) ⟨hlt, hx, hb, hml, hown, hts, hN, hA, hK⟩ (fun pc τ H locs ls d er hP hD hS => by subst er; exact W.vret hx hb hr (fun t ht hW => ⟨⟨(), rfl, trivial, by rw [ht]; exact hP, va_K.moved hW.alike hK, hD⟩, hS.F ht⟩) hS.2.2 d) s0 _ _ _ h hP hD va_S.rf (lv_sub hl [0] rfl)
def ow_dm_X13_lineOf : List Cond := Cond.code yX13_lineOf cX13_lineOf 4 (some .int) :: ([Cond.fieldLink RX13 324 "TimeMachineModel$Assembler" "text" "[C"] ++ (u_ws RX13 TX13 37 ++ []))
theorem gd_dm_X13_lineOf : ∀ w ∈ ow_dm_X13_lineOf, (w.onTables && w.keeps) = true ∨ ∃ ty, w = Cond.arrayClass ty := List.forall_mem_cons.mpr ⟨good_of_word rfl, List.forall_mem_append.mpr ⟨fun w h => good_of_word (List.all_eq_true.mp (by decide +kernel) w h), List.forall_mem_append.mpr ⟨gu_X13, fun _ h => nomatch h⟩⟩⟩
theorem hi_dm_X13_lineOf_X13 : ∀ w ∈ u_ws RX13 TX13 37, w ∈ ow_dm_X13_lineOf := fun w h => List.mem_cons_of_mem _ (List.mem_append_right _ (List.mem_append_left _ h))
def dj_X13_lineOf_27 (p : Program) (l : Launch) (e : Env) (s : State) (m : MethodId) (args : Array Value) (below : List Frame) (meth : Method) (c : Code) (Q : State → Prop) (A : Nat → Prop) (dC : Nat → ClassId) (dI : Nat → Nat → Nat) (a : Nat → Nat) (ac : Nat → ClassId) (g : Int32 → Int32 → Int32 → (St) → Option (Int32 × (St))) (r : Int32 × (St)) : Prop := ∀ (x1 : Int32) (x3 : Int32) (y0 : Int32) (s0 : St) (H : Heap) (locs : List Loc) (ls : Array Slot), g x1 x3 y0 s0 = some r → va_P (dC, dI) vwCl (dw_X13 a ac s0) H → va_D A (dw_X13 a ac s0) → va_S A s.heap H locs → lv_has ls 4 [(0, .ref (a 0)), (1, .int x1), (3, .int x3)] → W p l e (headSpec ow_dm_X13_lineOf ({ frames := 0, cells := 0, slots := 0, locals := 0 })).room s m args below meth c H locs 0 0 Q (F0 m 27 ls [.int y0])
def dj_X13_lineOf_4 (p : Program) (l : Launch) (e : Env) (s : State) (m : MethodId) (args : Array Value) (below : List Frame) (meth : Method) (c : Code) (Q : State → Prop) (A : Nat → Prop) (dC : Nat → ClassId) (dI : Nat → Nat → Nat) (a : Nat → Nat) (ac : Nat → ClassId) (g : Int32 → Int32 → Int32 → (St) → Option (Int32 × (St))) (r : Int32 × (St)) : Prop := ∀ (x1 : Int32) (x2 : Int32) (x3 : Int32) (s0 : St) (H : Heap) (locs : List Loc) (ls : Array Slot), g x1 x2 x3 s0 = some r → va_P (dC, dI) vwCl (dw_X13 a ac s0) H → va_D A (dw_X13 a ac s0) → va_S A s.heap H locs → lv_has ls 4 [(0, .ref (a 0)), (1, .int x1), (2, .int x2), (3, .int x3)] → W p l e (headSpec ow_dm_X13_lineOf ({ frames := 0, cells := 0, slots := 0, locals := 0 })).room s m args below meth c H locs 0 0 Q (F0 m 4 ls [])
def dj_X13_lineOf_0 (p : Program) (l : Launch) (e : Env) (s : State) (m : MethodId) (args : Array Value) (below : List Frame) (meth : Method) (c : Code) (Q : State → Prop) (A : Nat → Prop) (dC : Nat → ClassId) (dI : Nat → Nat → Nat) (a : Nat → Nat) (ac : Nat → ClassId) (g : Int32 → (St) → Option (Int32 × (St))) (r : Int32 × (St)) : Prop := ∀ (v0 : Int32) (s0 : St) (H : Heap) (locs : List Loc) (ls : Array Slot), g v0 s0 = some r → va_P (dC, dI) vwCl (dw_X13 a ac s0) H → va_D A (dw_X13 a ac s0) → va_S A s.heap H locs → lv_has ls 4 [(0, .ref (a 0)), (1, .int v0)] → W p l e (headSpec ow_dm_X13_lineOf ({ frames := 0, cells := 0, slots := 0, locals := 0 })).room s m args below meth c H locs 0 0 Q (F0 m 0 ls [])
set_option maxHeartbeats 40000000 in
set_option maxRecDepth 100000 in
theorem db_X13_lineOf_27 {p : Program} {l : Launch} {e : Env} {s : State} {m : MethodId} {args : Array Value} {below : List Frame} {meth : Method} {c : Code} {Q : State → Prop} {A : Nat → Prop} {dC : Nat → ClassId} {dI : Nat → Nat → Nat} {a : Nat → Nat} {ac : Nat → ClassId} {n : Nat} {r : Int32 × (St)} (C : nd_C p l s m args c A (dC, dI) cX13_lineOf 4 RX13 ow_dm_X13_lineOf (dk_X13 ac)) (K : nd_Ki p l e (headSpec ow_dm_X13_lineOf ({ frames := 0, cells := 0, slots := 0, locals := 0 })).room s m args below meth c Q A (dC, dI) cX13_lineOf .int (St) (dw_X13 a ac) r) {g4 : Int32 → Int32 → Int32 → (St) → Option (Int32 × (St))} (J4 : dj_X13_lineOf_4 p l e s m args below meth c Q A dC dI a ac g4 r) : dj_X13_lineOf_27 p l e s m args below meth c Q A dC dI a ac (df_X13_lineOf_27 n g4) r := by
  obtain ⟨hlt, hx, hb, hml, hown, hts, hN, hA, hK⟩ := id C
  intro x1 x3 y0 s0 H locs ls h hP hD hS hl
  unfold df_X13_lineOf_27 at h
  refine lv_istore_n (lv' := [(2, .int y0), (0, .ref (a 0)), (1, .int x1), (3, .int x3)]) hx hb dX13_lineOf_27 rfl hl (by decide) rfl (fun ls hl => ?_)
  obtain ⟨z4, ez4, h⟩ := nd_let_e h
  refine lv_iinc (v := z4) (lv' := [(3, .int z4), (2, .int y0), (0, .ref (a 0)), (1, .int x1)]) hx hb dX13_lineOf_28 hl (k := 3) rfl (by rw [ez4]) (by decide) rfl (fun ls hl => ?_)
  refine lv_goto (tgt := 4) hx hb dX13_lineOf_31 (by decide) ?_
  exact (J4) (x1) (y0) (z4) s0 _ _ _ h hP hD hS (lv_sub hl [2, 3, 1, 0] rfl)
set_option maxHeartbeats 40000000 in
set_option maxRecDepth 100000 in
theorem dB_X13_lineOf_4 {p : Program} {l : Launch} {e : Env} {s : State} {m : MethodId} {args : Array Value} {below : List Frame} {meth : Method} {c : Code} {Q : State → Prop} {A : Nat → Prop} {dC : Nat → ClassId} {dI : Nat → Nat → Nat} {a : Nat → Nat} {ac : Nat → ClassId} {n : Nat} {r : Int32 × (St)} (C : nd_C p l s m args c A (dC, dI) cX13_lineOf 4 RX13 ow_dm_X13_lineOf (dk_X13 ac)) (K : nd_Ki p l e (headSpec ow_dm_X13_lineOf ({ frames := 0, cells := 0, slots := 0, locals := 0 })).room s m args below meth c Q A (dC, dI) cX13_lineOf .int (St) (dw_X13 a ac) r) {g4 : Int32 → Int32 → Int32 → (St) → Option (Int32 × (St))} (J4 : dj_X13_lineOf_4 p l e s m args below meth c Q A dC dI a ac g4 r) : dj_X13_lineOf_4 p l e s m args below meth c Q A dC dI a ac (dF_X13_lineOf_4 n g4) r := by
  obtain ⟨hlt, hx, hb, hml, hown, hts, hN, hA, hK⟩ := id C
  intro x1 x2 x3 s0 H locs ls h hP hD hS hl
  unfold dF_X13_lineOf_4 at h
  refine lv_iload_n hx hb dX13_lineOf_4 rfl (lv_at hl 3 rfl) ?_
  refine lv_iload_n hx hb dX13_lineOf_5 rfl (lv_at hl 1 rfl) ?_
  refine lv_icmp_ge (tgt := 34) hx hb dX13_lineOf_6 (by decide) (fun c1 => ?_) (fun c1 => ?_)
  · have h := nd_pos h c1
    refine lv_iload_n hx hb dX13_lineOf_34 rfl (lv_at hl 2 rfl) ?_
    exact K _ _ _ _ _ _ dX13_lineOf_35 rfl (Option.some.inj h).symm hP hD hS
  · have h := nd_neg h c1
    refine lv_aload_n hx hb dX13_lineOf_9 rfl (lv_at hl 0 rfl) ?_
    refine va_get (D := (dC, dI)) (ci := 14) (v := .ref (a 4)) (C := RX13) (T := TX13) (N := 37) hx hb hts hi_dm_X13_lineOf_X13 hown hK hP 0 rfl rfl 3 (by decide) (hts (.fieldLink RX13 324 "TimeMachineModel$Assembler" "text" "[C") (List.mem_of_getElem? (i := 1) rfl)) (fun _ h9 => h9) rfl dX13_lineOf_10 ?_
    refine lv_iload_n hx hb dX13_lineOf_13 rfl (lv_at hl 3 rfl) ?_
    obtain ⟨i2, h⟩ := nd_ck_e h
    refine va_cald (i := x3) hx hb hK hP 4 3 rfl rfl i2 dX13_lineOf_14 ?_
    refine lv_bipush (v := 10) hx hb dX13_lineOf_15 (by decide) ?_
    refine lv_icmp_ne (tgt := 26) hx hb dX13_lineOf_17 (by decide) (fun c3 => ?_) (fun c3 => ?_)
    · have h := nd_neg h c3
      refine lv_iload_n hx hb dX13_lineOf_26 rfl (lv_at hl 2 rfl) ?_
      exact (db_X13_lineOf_27 C K J4) (x1) (x3) (x2) s0 _ _ _ h hP hD hS (lv_sub hl [0, 1, 3] rfl)
    · have h := nd_pos h c3
      refine lv_iload_n hx hb dX13_lineOf_20 rfl (lv_at hl 2 rfl) ?_
      refine lv_iconst (v := 1) hx hb dX13_lineOf_21 (by decide) ?_
      refine lv_iadd hx hb dX13_lineOf_22 ?_
      refine lv_goto (tgt := 27) hx hb dX13_lineOf_23 (by decide) ?_
      exact (db_X13_lineOf_27 C K J4) (x1) (x3) ((x2 + 1)) s0 _ _ _ h hP hD hS (lv_sub hl [0, 1, 3] rfl)
set_option maxHeartbeats 40000000 in
set_option maxRecDepth 100000 in
theorem db_X13_lineOf_4 {p : Program} {l : Launch} {e : Env} {s : State} {m : MethodId} {args : Array Value} {below : List Frame} {meth : Method} {c : Code} {Q : State → Prop} {A : Nat → Prop} {dC : Nat → ClassId} {dI : Nat → Nat → Nat} {a : Nat → Nat} {ac : Nat → ClassId} {n : Nat} {r : Int32 × (St)} (C : nd_C p l s m args c A (dC, dI) cX13_lineOf 4 RX13 ow_dm_X13_lineOf (dk_X13 ac)) (K : nd_Ki p l e (headSpec ow_dm_X13_lineOf ({ frames := 0, cells := 0, slots := 0, locals := 0 })).room s m args below meth c Q A (dC, dI) cX13_lineOf .int (St) (dw_X13 a ac) r) (k : Nat) : dj_X13_lineOf_4 p l e s m args below meth c Q A dC dI a ac (df_X13_lineOf_4 n k) r := by
  induction k with
  | zero => intro x1 x2 x3 s0 H locs ls h; exact nomatch (show (none : Option (Int32 × (St))) = some r from h)
  | succ k ih => exact dB_X13_lineOf_4 C K ih
set_option maxHeartbeats 40000000 in
set_option maxRecDepth 100000 in
theorem db_X13_lineOf_0 {p : Program} {l : Launch} {e : Env} {s : State} {m : MethodId} {args : Array Value} {below : List Frame} {meth : Method} {c : Code} {Q : State → Prop} {A : Nat → Prop} {dC : Nat → ClassId} {dI : Nat → Nat → Nat} {a : Nat → Nat} {ac : Nat → ClassId} {n : Nat} {r : Int32 × (St)} (C : nd_C p l s m args c A (dC, dI) cX13_lineOf 4 RX13 ow_dm_X13_lineOf (dk_X13 ac)) (K : nd_Ki p l e (headSpec ow_dm_X13_lineOf ({ frames := 0, cells := 0, slots := 0, locals := 0 })).room s m args below meth c Q A (dC, dI) cX13_lineOf .int (St) (dw_X13 a ac) r) : dj_X13_lineOf_0 p l e s m args below meth c Q A dC dI a ac (df_X13_lineOf_0 n) r := by
  obtain ⟨hlt, hx, hb, hml, hown, hts, hN, hA, hK⟩ := id C
  intro v0 s0 H locs ls h hP hD hS hl
  unfold df_X13_lineOf_0 at h
  refine lv_iconst (v := 1) hx hb dX13_lineOf_0 (by decide) ?_
  refine lv_istore_n (lv' := [(2, .int 1), (0, .ref (a 0)), (1, .int v0)]) hx hb dX13_lineOf_1 rfl hl (by decide) rfl (fun ls hl => ?_)
  refine lv_iconst (v := 0) hx hb dX13_lineOf_2 (by decide) ?_
  refine lv_istore_n (lv' := [(3, .int 0), (2, .int 1), (0, .ref (a 0)), (1, .int v0)]) hx hb dX13_lineOf_3 rfl hl (by decide) rfl (fun ls hl => ?_)
  exact (db_X13_lineOf_4 C K n) (v0) (1) (0) s0 _ _ _ h hP hD hS (lv_sub hl [2, 3, 1, 0] rfl)
set_option maxHeartbeats 40000000 in
set_option maxRecDepth 100000 in
theorem dm_X13_lineOf (l : Launch) (hlt : l.stackTraces = false) (dC : Nat → ClassId) (dI : Nat → Nat → Nat) (a : Nat → Nat) (ac : Nat → ClassId) (n : Nat) (v0 : Int32) (s0 : St) {r : Int32 × (St)} (h : df_X13_lineOf n v0 s0 = some r) (sz : Nat) : Met l yX13_lineOf ow_dm_X13_lineOf ({ frames := 0, cells := 0, slots := 0, locals := 0 }) (va_Pc [.ref (a 0), .int v0] (fun U => U.heap.size = sz ∧ va_P (dC, dI) vwCl (dw_X13 a ac s0) U.heap ∧ va_K (dC, dI) vwCl (dk_X13 ac) U ∧ va_D (fun _ => True) (dw_X13 a ac s0) ∧ nv_E dI (va_A (dw_X13 a ac s0) sz) U)) (va_Qi (fun x _ => x = r.1) (fun (_ : Unit) t => va_P (dC, dI) vwCl (dw_X13 a ac r.2) t.heap ∧ va_K (dC, dI) vwCl (dk_X13 ac) t ∧ va_D (va_A (dw_X13 a ac s0) sz) (dw_X13 a ac r.2)) (va_A (dw_X13 a ac s0) sz)) 0 0 (va_A (dw_X13 a ac s0) sz) := by
  refine Met.ofW (cc := cX13_lineOf) (maxL := 4) (ret := (some .int)) (by decide) rfl ?_
  intro p e s m args below meth c s₁ B hml hv
  obtain ⟨rfl, hsz, hP, hK, hD0, hN⟩ := hv
  have hx := B.exec
  have hb := B.bytes
  have hr := B.returns
  have hts := atoms_spec (ws := ow_dm_X13_lineOf) B.pre
  have hown : s.vm.findClass RX13 = some m.cls := findClass_of_methodNamed B.named
  have hlocks := B.notSynchronized
  subst hsz
  have hD := hD0.self (sz := s.heap.size)
  generalize hAe : va_A (dw_X13 a ac s0) s.heap.size = A at hD hN ⊢
  have hA : ∀ q : Nat, s.heap.size ≤ q → A q := fun q h => by rw [← hAe]; exact Or.inr h
  have hl := lv_entry ([.ref (a 0), .int v0]) (n := 4) (Nat.le_of_ble_eq_true rfl)
  rw [lg_entry_eq]
  generalize (lg_sl ([.ref (a 0), .int v0]) ++ List.replicate (4 - (lg_sl ([.ref (a 0), .int v0])).length) Slot.unset).toArray = ls at hl ⊢
  have hl : lv_has ls 4 [(0, .ref (a 0)), (1, .int v0)] := hl
  exact db_X13_lineOf_0 (dC := dC) (dI := dI) (a := a) (ac := ac) (n := n) (r := r) ⟨hlt, hx, hb, hml, hown, hts, hN, hA, hK⟩ (fun pc v τ H locs ls d z er hP hD hS => by subst er; exact W.zret (v := v) hx hb hr z (fun t ht hW => ⟨⟨v, (), rfl, rfl, by rw [ht]; exact hP, va_K.moved hW.alike hK, hD⟩, hS.F ht⟩) hS.2.2 d) v0 s0 _ _ _ h hP hD va_S.rf (lv_sub hl [0, 1] rfl)
def ow_dm_X13_all : List Cond := Cond.code yX13_all cX13_all 1 (some .int) :: ([Cond.fieldLink RX13 704 "TimeMachineModel$Assembler" "there" "Z", Cond.fieldLink RX13 682 "TimeMachineModel$Assembler" "dataSize" "I", Cond.fieldLink RX13 447 "TimeMachineModel$Assembler" "textSize" "I", Cond.methodLink RX13 450 yX13_base, Cond.instanceMethod yX13_base, Cond.selects RX13 yX13_base yX13_base, Cond.initialized RX13] ++ (u_ws RX13 TX13 37 ++ (ow_dm_X13_base ++ [])))
theorem gd_dm_X13_all : ∀ w ∈ ow_dm_X13_all, (w.onTables && w.keeps) = true ∨ ∃ ty, w = Cond.arrayClass ty := List.forall_mem_cons.mpr ⟨good_of_word rfl, List.forall_mem_append.mpr ⟨fun w h => good_of_word (List.all_eq_true.mp (by decide +kernel) w h), List.forall_mem_append.mpr ⟨gu_X13, List.forall_mem_append.mpr ⟨gd_dm_X13_base, fun _ h => nomatch h⟩⟩⟩⟩
theorem hi_dm_X13_all_X13 : ∀ w ∈ u_ws RX13 TX13 37, w ∈ ow_dm_X13_all := fun w h => List.mem_cons_of_mem _ (List.mem_append_right _ (List.mem_append_left _ h))
theorem gi_dm_X13_all_0 : GoodIn ow_dm_X13_all (wsV RX13 450 RX13 yX13_base ow_dm_X13_base) := goodIn_app (goodIn_of _ (by decide +kernel)) (fun w h => ⟨List.mem_cons_of_mem _ (List.mem_append_right _ (List.mem_append_right _ (List.mem_append_left _ h))), gd_dm_X13_base w h⟩)
def dj_X13_all_34 (p : Program) (l : Launch) (e : Env) (s : State) (m : MethodId) (args : Array Value) (below : List Frame) (meth : Method) (c : Code) (Q : State → Prop) (A : Nat → Prop) (dC : Nat → ClassId) (dI : Nat → Nat → Nat) (a : Nat → Nat) (ac : Nat → ClassId) (g : Int32 → (St) → Option (Int32 × (St))) (r : Int32 × (St)) : Prop := ∀ (y0 : Int32) (s0 : St) (H : Heap) (locs : List Loc) (ls : Array Slot), g y0 s0 = some r → va_P (dC, dI) vwCl (dw_X13 a ac s0) H → va_D A (dw_X13 a ac s0) → va_S A s.heap H locs → lv_has ls 1 [] → W p l e (headSpec ow_dm_X13_all ({ frames := 1, cells := 0, slots := 0, locals := 20 })).room s m args below meth c H locs 0 0 Q (F0 m 34 ls [.int y0])
def dj_X13_all_0 (p : Program) (l : Launch) (e : Env) (s : State) (m : MethodId) (args : Array Value) (below : List Frame) (meth : Method) (c : Code) (Q : State → Prop) (A : Nat → Prop) (dC : Nat → ClassId) (dI : Nat → Nat → Nat) (a : Nat → Nat) (ac : Nat → ClassId) (g : (St) → Option (Int32 × (St))) (r : Int32 × (St)) : Prop := ∀ (s0 : St) (H : Heap) (locs : List Loc) (ls : Array Slot), g s0 = some r → va_P (dC, dI) vwCl (dw_X13 a ac s0) H → va_D A (dw_X13 a ac s0) → va_S A s.heap H locs → lv_has ls 1 [(0, .ref (a 0))] → W p l e (headSpec ow_dm_X13_all ({ frames := 1, cells := 0, slots := 0, locals := 20 })).room s m args below meth c H locs 0 0 Q (F0 m 0 ls [])
set_option maxHeartbeats 40000000 in
set_option maxRecDepth 100000 in
theorem db_X13_all_34 {p : Program} {l : Launch} {e : Env} {s : State} {m : MethodId} {args : Array Value} {below : List Frame} {meth : Method} {c : Code} {Q : State → Prop} {A : Nat → Prop} {dC : Nat → ClassId} {dI : Nat → Nat → Nat} {a : Nat → Nat} {ac : Nat → ClassId} {n : Nat} {r : Int32 × (St)} (C : nd_C p l s m args c A (dC, dI) cX13_all 1 RX13 ow_dm_X13_all (dk_X13 ac)) (K : nd_Ki p l e (headSpec ow_dm_X13_all ({ frames := 1, cells := 0, slots := 0, locals := 20 })).room s m args below meth c Q A (dC, dI) cX13_all .int (St) (dw_X13 a ac) r) : dj_X13_all_34 p l e s m args below meth c Q A dC dI a ac (df_X13_all_34 n) r := by
  obtain ⟨hlt, hx, hb, hml, hown, hts, hN, hA, hK⟩ := id C
  intro y0 s0 H locs ls h hP hD hS hl
  unfold df_X13_all_34 at h
  exact K _ _ _ _ _ _ dX13_all_34 rfl (Option.some.inj h).symm hP hD hS
set_option maxHeartbeats 40000000 in
set_option maxRecDepth 100000 in
theorem db_X13_all_0 {p : Program} {l : Launch} {e : Env} {s : State} {m : MethodId} {args : Array Value} {below : List Frame} {meth : Method} {c : Code} {Q : State → Prop} {A : Nat → Prop} {dC : Nat → ClassId} {dI : Nat → Nat → Nat} {a : Nat → Nat} {ac : Nat → ClassId} {n : Nat} {r : Int32 × (St)} (C : nd_C p l s m args c A (dC, dI) cX13_all 1 RX13 ow_dm_X13_all (dk_X13 ac)) (K : nd_Ki p l e (headSpec ow_dm_X13_all ({ frames := 1, cells := 0, slots := 0, locals := 20 })).room s m args below meth c Q A (dC, dI) cX13_all .int (St) (dw_X13 a ac) r) : dj_X13_all_0 p l e s m args below meth c Q A dC dI a ac (df_X13_all_0 n) r := by
  obtain ⟨hlt, hx, hb, hml, hown, hts, hN, hA, hK⟩ := id C
  intro s0 H locs ls h hP hD hS hl
  unfold df_X13_all_0 at h
  refine lv_aload_n hx hb dX13_all_0 rfl (lv_at hl 0 rfl) ?_
  refine va_get (D := (dC, dI)) (ci := 14) (v := .int (sI s0 1)) (C := RX13) (T := TX13) (N := 37) hx hb hts hi_dm_X13_all_X13 hown hK hP 0 rfl rfl 5 (by decide) (hts (.fieldLink RX13 704 "TimeMachineModel$Assembler" "there" "Z") (List.mem_of_getElem? (i := 1) rfl)) (fun _ h9 => h9) rfl dX13_all_1 ?_
  refine lv_if_ne (tgt := 11) hx hb dX13_all_4 (by decide) (fun c1 => ?_) (fun c1 => ?_)
  · have h := nd_neg h c1
    refine lv_aload_n hx hb dX13_all_11 rfl (lv_at hl 0 rfl) ?_
    refine va_get (D := (dC, dI)) (ci := 14) (v := .int (sI s0 5)) (C := RX13) (T := TX13) (N := 37) hx hb hts hi_dm_X13_all_X13 hown hK hP 0 rfl rfl 14 (by decide) (hts (.fieldLink RX13 682 "TimeMachineModel$Assembler" "dataSize" "I") (List.mem_of_getElem? (i := 2) rfl)) (fun _ h9 => h9) rfl dX13_all_12 ?_
    refine lv_if_le (tgt := 30) hx hb dX13_all_15 (by decide) (fun c2 => ?_) (fun c2 => ?_)
    · have h := nd_pos h c2
      refine lv_aload_n hx hb dX13_all_30 rfl (lv_at hl 0 rfl) ?_
      refine va_get (D := (dC, dI)) (ci := 14) (v := .int (sI s0 4)) (C := RX13) (T := TX13) (N := 37) hx hb hts hi_dm_X13_all_X13 hown hK hP 0 rfl rfl 13 (by decide) (hts (.fieldLink RX13 447 "TimeMachineModel$Assembler" "textSize" "I") (List.mem_of_getElem? (i := 3) rfl)) (fun _ h9 => h9) rfl dX13_all_31 ?_
      exact (db_X13_all_34 C K) ((sI s0 4)) s0 _ _ _ h hP hD hS (lv_sub hl [] rfl)
    · have h := nd_neg h c2
      refine lv_aload_n hx hb dX13_all_18 rfl (lv_at hl 0 rfl) ?_
      obtain ⟨q3, s4, hq, h⟩ := nd_b2_e h
      have hPc := hP
      have hDc := hD
      have hKc := hK
      have hFc := nd_rs hD hS hA
      refine nd_cVi (As := []) (rest := []) (q := q3) (w' := dw_X13 a ac s4) ⟨hx, hb, hml, hown, hts⟩ (fun sz => dm_X13_base l hlt dC dI a ac n  s0 hq sz) (cwV 0 hts gi_dm_X13_all_0 rfl rfl rfl (by decide +kernel) ⟨Nat.le_of_ble_eq_true rfl, Nat.le_of_ble_eq_true rfl⟩) hPc hDc hKc hS hA hN (va_recv hKc hPc (ci := 14) (q0 := 0) rfl rfl) rfl hl.1 rfl (Nat.le_of_ble_eq_true rfl) dX13_all_19 (fun H locs hP1 hD1 hk1 hS => ?_)
      have hP := hP1
      have hD := hD1.weaken (fun k q _ h => hFc q.1 h)
      refine lv_aload_n hx hb dX13_all_22 rfl (lv_at hl 0 rfl) ?_
      refine va_get (D := (dC, dI)) (ci := 14) (v := .int (sI s4 5)) (C := RX13) (T := TX13) (N := 37) hx hb hts hi_dm_X13_all_X13 hown hK hP 0 rfl rfl 14 (by decide) (hts (.fieldLink RX13 682 "TimeMachineModel$Assembler" "dataSize" "I") (List.mem_of_getElem? (i := 2) rfl)) (fun _ h9 => h9) rfl dX13_all_23 ?_
      refine lv_iadd hx hb dX13_all_26 ?_
      refine lv_goto (tgt := 34) hx hb dX13_all_27 (by decide) ?_
      exact (db_X13_all_34 C K) ((q3 + (sI s4 5))) s4 _ _ _ h hP hD hS (lv_sub hl [] rfl)
  · have h := nd_pos h c1
    refine lv_iconst (v := 0) hx hb dX13_all_7 (by decide) ?_
    refine lv_goto (tgt := 34) hx hb dX13_all_8 (by decide) ?_
    exact (db_X13_all_34 C K) (0) s0 _ _ _ h hP hD hS (lv_sub hl [] rfl)
set_option maxHeartbeats 40000000 in
set_option maxRecDepth 100000 in
theorem dm_X13_all (l : Launch) (hlt : l.stackTraces = false) (dC : Nat → ClassId) (dI : Nat → Nat → Nat) (a : Nat → Nat) (ac : Nat → ClassId) (n : Nat) (s0 : St) {r : Int32 × (St)} (h : df_X13_all n s0 = some r) (sz : Nat) : Met l yX13_all ow_dm_X13_all ({ frames := 1, cells := 0, slots := 0, locals := 20 }) (va_Pc [.ref (a 0)] (fun U => U.heap.size = sz ∧ va_P (dC, dI) vwCl (dw_X13 a ac s0) U.heap ∧ va_K (dC, dI) vwCl (dk_X13 ac) U ∧ va_D (fun _ => True) (dw_X13 a ac s0) ∧ nv_E dI (va_A (dw_X13 a ac s0) sz) U)) (va_Qi (fun x _ => x = r.1) (fun (_ : Unit) t => va_P (dC, dI) vwCl (dw_X13 a ac r.2) t.heap ∧ va_K (dC, dI) vwCl (dk_X13 ac) t ∧ va_D (va_A (dw_X13 a ac s0) sz) (dw_X13 a ac r.2)) (va_A (dw_X13 a ac s0) sz)) 0 0 (va_A (dw_X13 a ac s0) sz) := by
  refine Met.ofW (cc := cX13_all) (maxL := 1) (ret := (some .int)) (by decide) rfl ?_
  intro p e s m args below meth c s₁ B hml hv
  obtain ⟨rfl, hsz, hP, hK, hD0, hN⟩ := hv
  have hx := B.exec
  have hb := B.bytes
  have hr := B.returns
  have hts := atoms_spec (ws := ow_dm_X13_all) B.pre
  have hown : s.vm.findClass RX13 = some m.cls := findClass_of_methodNamed B.named
  have hlocks := B.notSynchronized
  subst hsz
  have hD := hD0.self (sz := s.heap.size)
  generalize hAe : va_A (dw_X13 a ac s0) s.heap.size = A at hD hN ⊢
  have hA : ∀ q : Nat, s.heap.size ≤ q → A q := fun q h => by rw [← hAe]; exact Or.inr h
  have hl := lv_entry ([.ref (a 0)]) (n := 1) (Nat.le_of_ble_eq_true rfl)
  rw [lg_entry_eq]
  generalize (lg_sl ([.ref (a 0)]) ++ List.replicate (1 - (lg_sl ([.ref (a 0)])).length) Slot.unset).toArray = ls at hl ⊢
  have hl : lv_has ls 1 [(0, .ref (a 0))] := hl
  exact db_X13_all_0 (dC := dC) (dI := dI) (a := a) (ac := ac) (n := n) (r := r) ⟨hlt, hx, hb, hml, hown, hts, hN, hA, hK⟩ (fun pc v τ H locs ls d z er hP hD hS => by subst er; exact W.zret (v := v) hx hb hr z (fun t ht hW => ⟨⟨v, (), rfl, rfl, by rw [ht]; exact hP, va_K.moved hW.alike hK, hD⟩, hS.F ht⟩) hS.2.2 d) s0 _ _ _ h hP hD va_S.rf (lv_sub hl [0] rfl)
def ow_dm_X13_countOf : List Cond := Cond.code yX13_countOf cX13_countOf 4 (some .int) :: ([Cond.fieldLink RX13 439 "TimeMachineModel$Assembler" "labels" "I", Cond.fieldLink RX13 337 "TimeMachineModel$Assembler" "label" "[I"] ++ (u_ws RX13 TX13 37 ++ []))
theorem gd_dm_X13_countOf : ∀ w ∈ ow_dm_X13_countOf, (w.onTables && w.keeps) = true ∨ ∃ ty, w = Cond.arrayClass ty := List.forall_mem_cons.mpr ⟨good_of_word rfl, List.forall_mem_append.mpr ⟨fun w h => good_of_word (List.all_eq_true.mp (by decide +kernel) w h), List.forall_mem_append.mpr ⟨gu_X13, fun _ h => nomatch h⟩⟩⟩
theorem hi_dm_X13_countOf_X13 : ∀ w ∈ u_ws RX13 TX13 37, w ∈ ow_dm_X13_countOf := fun w h => List.mem_cons_of_mem _ (List.mem_append_right _ (List.mem_append_left _ h))
def dj_X13_countOf_59 (p : Program) (l : Launch) (e : Env) (s : State) (m : MethodId) (args : Array Value) (below : List Frame) (meth : Method) (c : Code) (Q : State → Prop) (A : Nat → Prop) (dC : Nat → ClassId) (dI : Nat → Nat → Nat) (a : Nat → Nat) (ac : Nat → ClassId) (g : Int32 → Int32 → Int32 → (St) → Option (Int32 × (St))) (r : Int32 × (St)) : Prop := ∀ (x1 : Int32) (x3 : Int32) (y0 : Int32) (s0 : St) (H : Heap) (locs : List Loc) (ls : Array Slot), g x1 x3 y0 s0 = some r → va_P (dC, dI) vwCl (dw_X13 a ac s0) H → va_D A (dw_X13 a ac s0) → va_S A s.heap H locs → lv_has ls 4 [(0, .ref (a 0)), (1, .int x1), (3, .int x3)] → W p l e (headSpec ow_dm_X13_countOf ({ frames := 0, cells := 0, slots := 0, locals := 0 })).room s m args below meth c H locs 0 0 Q (F0 m 59 ls [.int y0])
def dj_X13_countOf_4 (p : Program) (l : Launch) (e : Env) (s : State) (m : MethodId) (args : Array Value) (below : List Frame) (meth : Method) (c : Code) (Q : State → Prop) (A : Nat → Prop) (dC : Nat → ClassId) (dI : Nat → Nat → Nat) (a : Nat → Nat) (ac : Nat → ClassId) (g : Int32 → Int32 → Int32 → (St) → Option (Int32 × (St))) (r : Int32 × (St)) : Prop := ∀ (x1 : Int32) (x2 : Int32) (x3 : Int32) (s0 : St) (H : Heap) (locs : List Loc) (ls : Array Slot), g x1 x2 x3 s0 = some r → va_P (dC, dI) vwCl (dw_X13 a ac s0) H → va_D A (dw_X13 a ac s0) → va_S A s.heap H locs → lv_has ls 4 [(0, .ref (a 0)), (1, .int x1), (2, .int x2), (3, .int x3)] → W p l e (headSpec ow_dm_X13_countOf ({ frames := 0, cells := 0, slots := 0, locals := 0 })).room s m args below meth c H locs 0 0 Q (F0 m 4 ls [])
def dj_X13_countOf_0 (p : Program) (l : Launch) (e : Env) (s : State) (m : MethodId) (args : Array Value) (below : List Frame) (meth : Method) (c : Code) (Q : State → Prop) (A : Nat → Prop) (dC : Nat → ClassId) (dI : Nat → Nat → Nat) (a : Nat → Nat) (ac : Nat → ClassId) (g : Int32 → (St) → Option (Int32 × (St))) (r : Int32 × (St)) : Prop := ∀ (v0 : Int32) (s0 : St) (H : Heap) (locs : List Loc) (ls : Array Slot), g v0 s0 = some r → va_P (dC, dI) vwCl (dw_X13 a ac s0) H → va_D A (dw_X13 a ac s0) → va_S A s.heap H locs → lv_has ls 4 [(0, .ref (a 0)), (1, .int v0)] → W p l e (headSpec ow_dm_X13_countOf ({ frames := 0, cells := 0, slots := 0, locals := 0 })).room s m args below meth c H locs 0 0 Q (F0 m 0 ls [])
set_option maxHeartbeats 40000000 in
set_option maxRecDepth 100000 in
theorem db_X13_countOf_59 {p : Program} {l : Launch} {e : Env} {s : State} {m : MethodId} {args : Array Value} {below : List Frame} {meth : Method} {c : Code} {Q : State → Prop} {A : Nat → Prop} {dC : Nat → ClassId} {dI : Nat → Nat → Nat} {a : Nat → Nat} {ac : Nat → ClassId} {n : Nat} {r : Int32 × (St)} (C : nd_C p l s m args c A (dC, dI) cX13_countOf 4 RX13 ow_dm_X13_countOf (dk_X13 ac)) (K : nd_Ki p l e (headSpec ow_dm_X13_countOf ({ frames := 0, cells := 0, slots := 0, locals := 0 })).room s m args below meth c Q A (dC, dI) cX13_countOf .int (St) (dw_X13 a ac) r) {g4 : Int32 → Int32 → Int32 → (St) → Option (Int32 × (St))} (J4 : dj_X13_countOf_4 p l e s m args below meth c Q A dC dI a ac g4 r) : dj_X13_countOf_59 p l e s m args below meth c Q A dC dI a ac (df_X13_countOf_59 n g4) r := by
  obtain ⟨hlt, hx, hb, hml, hown, hts, hN, hA, hK⟩ := id C
  intro x1 x3 y0 s0 H locs ls h hP hD hS hl
  unfold df_X13_countOf_59 at h
  refine lv_istore_n (lv' := [(2, .int y0), (0, .ref (a 0)), (1, .int x1), (3, .int x3)]) hx hb dX13_countOf_59 rfl hl (by decide) rfl (fun ls hl => ?_)
  obtain ⟨z5, ez5, h⟩ := nd_let_e h
  refine lv_iinc (v := z5) (lv' := [(3, .int z5), (2, .int y0), (0, .ref (a 0)), (1, .int x1)]) hx hb dX13_countOf_60 hl (k := 3) rfl (by rw [ez5]) (by decide) rfl (fun ls hl => ?_)
  refine lv_goto (tgt := 4) hx hb dX13_countOf_63 (by decide) ?_
  exact (J4) (x1) (y0) (z5) s0 _ _ _ h hP hD hS (lv_sub hl [2, 3, 1, 0] rfl)
set_option maxHeartbeats 40000000 in
set_option maxRecDepth 100000 in
theorem dB_X13_countOf_4 {p : Program} {l : Launch} {e : Env} {s : State} {m : MethodId} {args : Array Value} {below : List Frame} {meth : Method} {c : Code} {Q : State → Prop} {A : Nat → Prop} {dC : Nat → ClassId} {dI : Nat → Nat → Nat} {a : Nat → Nat} {ac : Nat → ClassId} {n : Nat} {r : Int32 × (St)} (C : nd_C p l s m args c A (dC, dI) cX13_countOf 4 RX13 ow_dm_X13_countOf (dk_X13 ac)) (K : nd_Ki p l e (headSpec ow_dm_X13_countOf ({ frames := 0, cells := 0, slots := 0, locals := 0 })).room s m args below meth c Q A (dC, dI) cX13_countOf .int (St) (dw_X13 a ac) r) {g4 : Int32 → Int32 → Int32 → (St) → Option (Int32 × (St))} (J4 : dj_X13_countOf_4 p l e s m args below meth c Q A dC dI a ac g4 r) : dj_X13_countOf_4 p l e s m args below meth c Q A dC dI a ac (dF_X13_countOf_4 n g4) r := by
  obtain ⟨hlt, hx, hb, hml, hown, hts, hN, hA, hK⟩ := id C
  intro x1 x2 x3 s0 H locs ls h hP hD hS hl
  unfold dF_X13_countOf_4 at h
  refine lv_iload_n hx hb dX13_countOf_4 rfl (lv_at hl 3 rfl) ?_
  refine lv_aload_n hx hb dX13_countOf_5 rfl (lv_at hl 0 rfl) ?_
  refine va_get (D := (dC, dI)) (ci := 14) (v := .int (sI s0 3)) (C := RX13) (T := TX13) (N := 37) hx hb hts hi_dm_X13_countOf_X13 hown hK hP 0 rfl rfl 10 (by decide) (hts (.fieldLink RX13 439 "TimeMachineModel$Assembler" "labels" "I") (List.mem_of_getElem? (i := 1) rfl)) (fun _ h9 => h9) rfl dX13_countOf_6 ?_
  refine lv_icmp_ge (tgt := 66) hx hb dX13_countOf_9 (by decide) (fun c1 => ?_) (fun c1 => ?_)
  · have h := nd_pos h c1
    refine lv_iload_n hx hb dX13_countOf_66 rfl (lv_at hl 2 rfl) ?_
    exact K _ _ _ _ _ _ dX13_countOf_67 rfl (Option.some.inj h).symm hP hD hS
  · have h := nd_neg h c1
    refine lv_iload_n hx hb dX13_countOf_12 rfl (lv_at hl 1 rfl) ?_
    refine lv_if_eq (tgt := 39) hx hb dX13_countOf_13 (by decide) (fun c2 => ?_) (fun c2 => ?_)
    · have h := nd_pos h c2
      refine lv_aload_n hx hb dX13_countOf_39 rfl (lv_at hl 0 rfl) ?_
      refine va_get (D := (dC, dI)) (ci := 14) (v := .ref (a 8)) (C := RX13) (T := TX13) (N := 37) hx hb hts hi_dm_X13_countOf_X13 hown hK hP 0 rfl rfl 11 (by decide) (hts (.fieldLink RX13 337 "TimeMachineModel$Assembler" "label" "[I") (List.mem_of_getElem? (i := 2) rfl)) (fun _ h9 => h9) rfl dX13_countOf_40 ?_
      refine lv_iload_n hx hb dX13_countOf_43 rfl (lv_at hl 3 rfl) ?_
      obtain ⟨i3, h⟩ := nd_ck_e h
      refine va_iald (i := x3) hx hb hK hP 8 7 rfl rfl i3 dX13_countOf_44 ?_
      refine lv_bipush (v := 17) hx hb dX13_countOf_45 (by decide) ?_
      refine lv_ishr hx hb dX13_countOf_47 ?_
      refine lv_iconst (v := 2) hx hb dX13_countOf_48 (by decide) ?_
      refine lv_icmp_ge (tgt := 58) hx hb dX13_countOf_49 (by decide) (fun c4 => ?_) (fun c4 => ?_)
      · have h := nd_pos h c4
        refine lv_iload_n hx hb dX13_countOf_58 rfl (lv_at hl 2 rfl) ?_
        exact (db_X13_countOf_59 C K J4) (x1) (x3) (x2) s0 _ _ _ h hP hD hS (lv_sub hl [0, 1, 3] rfl)
      · have h := nd_neg h c4
        refine lv_iload_n hx hb dX13_countOf_52 rfl (lv_at hl 2 rfl) ?_
        refine lv_iconst (v := 1) hx hb dX13_countOf_53 (by decide) ?_
        refine lv_iadd hx hb dX13_countOf_54 ?_
        refine lv_goto (tgt := 59) hx hb dX13_countOf_55 (by decide) ?_
        exact (db_X13_countOf_59 C K J4) (x1) (x3) ((x2 + 1)) s0 _ _ _ h hP hD hS (lv_sub hl [0, 1, 3] rfl)
    · have h := nd_neg h c2
      refine lv_aload_n hx hb dX13_countOf_16 rfl (lv_at hl 0 rfl) ?_
      refine va_get (D := (dC, dI)) (ci := 14) (v := .ref (a 8)) (C := RX13) (T := TX13) (N := 37) hx hb hts hi_dm_X13_countOf_X13 hown hK hP 0 rfl rfl 11 (by decide) (hts (.fieldLink RX13 337 "TimeMachineModel$Assembler" "label" "[I") (List.mem_of_getElem? (i := 2) rfl)) (fun _ h9 => h9) rfl dX13_countOf_17 ?_
      refine lv_iload_n hx hb dX13_countOf_20 rfl (lv_at hl 3 rfl) ?_
      obtain ⟨i6, h⟩ := nd_ck_e h
      refine va_iald (i := x3) hx hb hK hP 8 7 rfl rfl i6 dX13_countOf_21 ?_
      refine lv_bipush (v := 17) hx hb dX13_countOf_22 (by decide) ?_
      refine lv_ishr hx hb dX13_countOf_24 ?_
      refine lv_iconst (v := 2) hx hb dX13_countOf_25 (by decide) ?_
      refine lv_icmp_ne (tgt := 35) hx hb dX13_countOf_26 (by decide) (fun c7 => ?_) (fun c7 => ?_)
      · have h := nd_neg h c7
        refine lv_iload_n hx hb dX13_countOf_35 rfl (lv_at hl 2 rfl) ?_
        refine lv_goto (tgt := 59) hx hb dX13_countOf_36 (by decide) ?_
        exact (db_X13_countOf_59 C K J4) (x1) (x3) (x2) s0 _ _ _ h hP hD hS (lv_sub hl [0, 1, 3] rfl)
      · have h := nd_pos h c7
        refine lv_iload_n hx hb dX13_countOf_29 rfl (lv_at hl 2 rfl) ?_
        refine lv_iconst (v := 1) hx hb dX13_countOf_30 (by decide) ?_
        refine lv_iadd hx hb dX13_countOf_31 ?_
        refine lv_goto (tgt := 59) hx hb dX13_countOf_32 (by decide) ?_
        exact (db_X13_countOf_59 C K J4) (x1) (x3) ((x2 + 1)) s0 _ _ _ h hP hD hS (lv_sub hl [0, 1, 3] rfl)
set_option maxHeartbeats 40000000 in
set_option maxRecDepth 100000 in
theorem db_X13_countOf_4 {p : Program} {l : Launch} {e : Env} {s : State} {m : MethodId} {args : Array Value} {below : List Frame} {meth : Method} {c : Code} {Q : State → Prop} {A : Nat → Prop} {dC : Nat → ClassId} {dI : Nat → Nat → Nat} {a : Nat → Nat} {ac : Nat → ClassId} {n : Nat} {r : Int32 × (St)} (C : nd_C p l s m args c A (dC, dI) cX13_countOf 4 RX13 ow_dm_X13_countOf (dk_X13 ac)) (K : nd_Ki p l e (headSpec ow_dm_X13_countOf ({ frames := 0, cells := 0, slots := 0, locals := 0 })).room s m args below meth c Q A (dC, dI) cX13_countOf .int (St) (dw_X13 a ac) r) (k : Nat) : dj_X13_countOf_4 p l e s m args below meth c Q A dC dI a ac (df_X13_countOf_4 n k) r := by
  induction k with
  | zero => intro x1 x2 x3 s0 H locs ls h; exact nomatch (show (none : Option (Int32 × (St))) = some r from h)
  | succ k ih => exact dB_X13_countOf_4 C K ih
set_option maxHeartbeats 40000000 in
set_option maxRecDepth 100000 in
theorem db_X13_countOf_0 {p : Program} {l : Launch} {e : Env} {s : State} {m : MethodId} {args : Array Value} {below : List Frame} {meth : Method} {c : Code} {Q : State → Prop} {A : Nat → Prop} {dC : Nat → ClassId} {dI : Nat → Nat → Nat} {a : Nat → Nat} {ac : Nat → ClassId} {n : Nat} {r : Int32 × (St)} (C : nd_C p l s m args c A (dC, dI) cX13_countOf 4 RX13 ow_dm_X13_countOf (dk_X13 ac)) (K : nd_Ki p l e (headSpec ow_dm_X13_countOf ({ frames := 0, cells := 0, slots := 0, locals := 0 })).room s m args below meth c Q A (dC, dI) cX13_countOf .int (St) (dw_X13 a ac) r) : dj_X13_countOf_0 p l e s m args below meth c Q A dC dI a ac (df_X13_countOf_0 n) r := by
  obtain ⟨hlt, hx, hb, hml, hown, hts, hN, hA, hK⟩ := id C
  intro v0 s0 H locs ls h hP hD hS hl
  unfold df_X13_countOf_0 at h
  refine lv_iconst (v := 0) hx hb dX13_countOf_0 (by decide) ?_
  refine lv_istore_n (lv' := [(2, .int 0), (0, .ref (a 0)), (1, .int v0)]) hx hb dX13_countOf_1 rfl hl (by decide) rfl (fun ls hl => ?_)
  refine lv_iconst (v := 0) hx hb dX13_countOf_2 (by decide) ?_
  refine lv_istore_n (lv' := [(3, .int 0), (2, .int 0), (0, .ref (a 0)), (1, .int v0)]) hx hb dX13_countOf_3 rfl hl (by decide) rfl (fun ls hl => ?_)
  exact (db_X13_countOf_4 C K n) (v0) (0) (0) s0 _ _ _ h hP hD hS (lv_sub hl [2, 3, 1, 0] rfl)
set_option maxHeartbeats 40000000 in
set_option maxRecDepth 100000 in
theorem dm_X13_countOf (l : Launch) (hlt : l.stackTraces = false) (dC : Nat → ClassId) (dI : Nat → Nat → Nat) (a : Nat → Nat) (ac : Nat → ClassId) (n : Nat) (v0 : Int32) (s0 : St) {r : Int32 × (St)} (h : df_X13_countOf n v0 s0 = some r) (sz : Nat) : Met l yX13_countOf ow_dm_X13_countOf ({ frames := 0, cells := 0, slots := 0, locals := 0 }) (va_Pc [.ref (a 0), .int v0] (fun U => U.heap.size = sz ∧ va_P (dC, dI) vwCl (dw_X13 a ac s0) U.heap ∧ va_K (dC, dI) vwCl (dk_X13 ac) U ∧ va_D (fun _ => True) (dw_X13 a ac s0) ∧ nv_E dI (va_A (dw_X13 a ac s0) sz) U)) (va_Qi (fun x _ => x = r.1) (fun (_ : Unit) t => va_P (dC, dI) vwCl (dw_X13 a ac r.2) t.heap ∧ va_K (dC, dI) vwCl (dk_X13 ac) t ∧ va_D (va_A (dw_X13 a ac s0) sz) (dw_X13 a ac r.2)) (va_A (dw_X13 a ac s0) sz)) 0 0 (va_A (dw_X13 a ac s0) sz) := by
  refine Met.ofW (cc := cX13_countOf) (maxL := 4) (ret := (some .int)) (by decide) rfl ?_
  intro p e s m args below meth c s₁ B hml hv
  obtain ⟨rfl, hsz, hP, hK, hD0, hN⟩ := hv
  have hx := B.exec
  have hb := B.bytes
  have hr := B.returns
  have hts := atoms_spec (ws := ow_dm_X13_countOf) B.pre
  have hown : s.vm.findClass RX13 = some m.cls := findClass_of_methodNamed B.named
  have hlocks := B.notSynchronized
  subst hsz
  have hD := hD0.self (sz := s.heap.size)
  generalize hAe : va_A (dw_X13 a ac s0) s.heap.size = A at hD hN ⊢
  have hA : ∀ q : Nat, s.heap.size ≤ q → A q := fun q h => by rw [← hAe]; exact Or.inr h
  have hl := lv_entry ([.ref (a 0), .int v0]) (n := 4) (Nat.le_of_ble_eq_true rfl)
  rw [lg_entry_eq]
  generalize (lg_sl ([.ref (a 0), .int v0]) ++ List.replicate (4 - (lg_sl ([.ref (a 0), .int v0])).length) Slot.unset).toArray = ls at hl ⊢
  have hl : lv_has ls 4 [(0, .ref (a 0)), (1, .int v0)] := hl
  exact db_X13_countOf_0 (dC := dC) (dI := dI) (a := a) (ac := ac) (n := n) (r := r) ⟨hlt, hx, hb, hml, hown, hts, hN, hA, hK⟩ (fun pc v τ H locs ls d z er hP hD hS => by subst er; exact W.zret (v := v) hx hb hr z (fun t ht hW => ⟨⟨v, (), rfl, rfl, by rw [ht]; exact hP, va_K.moved hW.alike hK, hD⟩, hS.F ht⟩) hS.2.2 d) v0 s0 _ _ _ h hP hD va_S.rf (lv_sub hl [0, 1] rfl)
def ow_dm_X13_textSize : List Cond := Cond.code yX13_textSize cX13_textSize 1 (some .int) :: ([Cond.fieldLink RX13 447 "TimeMachineModel$Assembler" "textSize" "I"] ++ (u_ws RX13 TX13 37 ++ []))
theorem gd_dm_X13_textSize : ∀ w ∈ ow_dm_X13_textSize, (w.onTables && w.keeps) = true ∨ ∃ ty, w = Cond.arrayClass ty := List.forall_mem_cons.mpr ⟨good_of_word rfl, List.forall_mem_append.mpr ⟨fun w h => good_of_word (List.all_eq_true.mp (by decide +kernel) w h), List.forall_mem_append.mpr ⟨gu_X13, fun _ h => nomatch h⟩⟩⟩
theorem hi_dm_X13_textSize_X13 : ∀ w ∈ u_ws RX13 TX13 37, w ∈ ow_dm_X13_textSize := fun w h => List.mem_cons_of_mem _ (List.mem_append_right _ (List.mem_append_left _ h))
def dj_X13_textSize_0 (p : Program) (l : Launch) (e : Env) (s : State) (m : MethodId) (args : Array Value) (below : List Frame) (meth : Method) (c : Code) (Q : State → Prop) (A : Nat → Prop) (dC : Nat → ClassId) (dI : Nat → Nat → Nat) (a : Nat → Nat) (ac : Nat → ClassId) (g : (St) → Option (Int32 × (St))) (r : Int32 × (St)) : Prop := ∀ (s0 : St) (H : Heap) (locs : List Loc) (ls : Array Slot), g s0 = some r → va_P (dC, dI) vwCl (dw_X13 a ac s0) H → va_D A (dw_X13 a ac s0) → va_S A s.heap H locs → lv_has ls 1 [(0, .ref (a 0))] → W p l e (headSpec ow_dm_X13_textSize ({ frames := 0, cells := 0, slots := 0, locals := 0 })).room s m args below meth c H locs 0 0 Q (F0 m 0 ls [])
set_option maxHeartbeats 40000000 in
set_option maxRecDepth 100000 in
theorem db_X13_textSize_0 {p : Program} {l : Launch} {e : Env} {s : State} {m : MethodId} {args : Array Value} {below : List Frame} {meth : Method} {c : Code} {Q : State → Prop} {A : Nat → Prop} {dC : Nat → ClassId} {dI : Nat → Nat → Nat} {a : Nat → Nat} {ac : Nat → ClassId} {n : Nat} {r : Int32 × (St)} (C : nd_C p l s m args c A (dC, dI) cX13_textSize 1 RX13 ow_dm_X13_textSize (dk_X13 ac)) (K : nd_Ki p l e (headSpec ow_dm_X13_textSize ({ frames := 0, cells := 0, slots := 0, locals := 0 })).room s m args below meth c Q A (dC, dI) cX13_textSize .int (St) (dw_X13 a ac) r) : dj_X13_textSize_0 p l e s m args below meth c Q A dC dI a ac (df_X13_textSize_0 n) r := by
  obtain ⟨hlt, hx, hb, hml, hown, hts, hN, hA, hK⟩ := id C
  intro s0 H locs ls h hP hD hS hl
  unfold df_X13_textSize_0 at h
  refine lv_aload_n hx hb dX13_textSize_0 rfl (lv_at hl 0 rfl) ?_
  refine va_get (D := (dC, dI)) (ci := 14) (v := .int (sI s0 4)) (C := RX13) (T := TX13) (N := 37) hx hb hts hi_dm_X13_textSize_X13 hown hK hP 0 rfl rfl 13 (by decide) (hts (.fieldLink RX13 447 "TimeMachineModel$Assembler" "textSize" "I") (List.mem_of_getElem? (i := 1) rfl)) (fun _ h9 => h9) rfl dX13_textSize_1 ?_
  exact K _ _ _ _ _ _ dX13_textSize_4 rfl (Option.some.inj h).symm hP hD hS
set_option maxHeartbeats 40000000 in
set_option maxRecDepth 100000 in
theorem dm_X13_textSize (l : Launch) (hlt : l.stackTraces = false) (dC : Nat → ClassId) (dI : Nat → Nat → Nat) (a : Nat → Nat) (ac : Nat → ClassId) (n : Nat) (s0 : St) {r : Int32 × (St)} (h : df_X13_textSize n s0 = some r) (sz : Nat) : Met l yX13_textSize ow_dm_X13_textSize ({ frames := 0, cells := 0, slots := 0, locals := 0 }) (va_Pc [.ref (a 0)] (fun U => U.heap.size = sz ∧ va_P (dC, dI) vwCl (dw_X13 a ac s0) U.heap ∧ va_K (dC, dI) vwCl (dk_X13 ac) U ∧ va_D (fun _ => True) (dw_X13 a ac s0) ∧ nv_E dI (va_A (dw_X13 a ac s0) sz) U)) (va_Qi (fun x _ => x = r.1) (fun (_ : Unit) t => va_P (dC, dI) vwCl (dw_X13 a ac r.2) t.heap ∧ va_K (dC, dI) vwCl (dk_X13 ac) t ∧ va_D (va_A (dw_X13 a ac s0) sz) (dw_X13 a ac r.2)) (va_A (dw_X13 a ac s0) sz)) 0 0 (va_A (dw_X13 a ac s0) sz) := by
  refine Met.ofW (cc := cX13_textSize) (maxL := 1) (ret := (some .int)) (by decide) rfl ?_
  intro p e s m args below meth c s₁ B hml hv
  obtain ⟨rfl, hsz, hP, hK, hD0, hN⟩ := hv
  have hx := B.exec
  have hb := B.bytes
  have hr := B.returns
  have hts := atoms_spec (ws := ow_dm_X13_textSize) B.pre
  have hown : s.vm.findClass RX13 = some m.cls := findClass_of_methodNamed B.named
  have hlocks := B.notSynchronized
  subst hsz
  have hD := hD0.self (sz := s.heap.size)
  generalize hAe : va_A (dw_X13 a ac s0) s.heap.size = A at hD hN ⊢
  have hA : ∀ q : Nat, s.heap.size ≤ q → A q := fun q h => by rw [← hAe]; exact Or.inr h
  have hl := lv_entry ([.ref (a 0)]) (n := 1) (Nat.le_of_ble_eq_true rfl)
  rw [lg_entry_eq]
  generalize (lg_sl ([.ref (a 0)]) ++ List.replicate (1 - (lg_sl ([.ref (a 0)])).length) Slot.unset).toArray = ls at hl ⊢
  have hl : lv_has ls 1 [(0, .ref (a 0))] := hl
  exact db_X13_textSize_0 (dC := dC) (dI := dI) (a := a) (ac := ac) (n := n) (r := r) ⟨hlt, hx, hb, hml, hown, hts, hN, hA, hK⟩ (fun pc v τ H locs ls d z er hP hD hS => by subst er; exact W.zret (v := v) hx hb hr z (fun t ht hW => ⟨⟨v, (), rfl, rfl, by rw [ht]; exact hP, va_K.moved hW.alike hK, hD⟩, hS.F ht⟩) hS.2.2 d) s0 _ _ _ h hP hD va_S.rf (lv_sub hl [0] rfl)
def ow_dm_X13_dataBegin : List Cond := Cond.code yX13_dataBegin cX13_dataBegin 1 (some .int) :: ([Cond.methodLink RX13 450 yX13_base, Cond.instanceMethod yX13_base, Cond.selects RX13 yX13_base yX13_base, Cond.initialized RX13] ++ (ow_dm_X13_base ++ []))
theorem gd_dm_X13_dataBegin : ∀ w ∈ ow_dm_X13_dataBegin, (w.onTables && w.keeps) = true ∨ ∃ ty, w = Cond.arrayClass ty := List.forall_mem_cons.mpr ⟨good_of_word rfl, List.forall_mem_append.mpr ⟨fun w h => good_of_word (List.all_eq_true.mp (by decide +kernel) w h), List.forall_mem_append.mpr ⟨gd_dm_X13_base, fun _ h => nomatch h⟩⟩⟩
theorem gi_dm_X13_dataBegin_0 : GoodIn ow_dm_X13_dataBegin (wsV RX13 450 RX13 yX13_base ow_dm_X13_base) := goodIn_app (goodIn_of _ (by decide +kernel)) (fun w h => ⟨List.mem_cons_of_mem _ (List.mem_append_right _ (List.mem_append_left _ h)), gd_dm_X13_base w h⟩)
def dj_X13_dataBegin_0 (p : Program) (l : Launch) (e : Env) (s : State) (m : MethodId) (args : Array Value) (below : List Frame) (meth : Method) (c : Code) (Q : State → Prop) (A : Nat → Prop) (dC : Nat → ClassId) (dI : Nat → Nat → Nat) (a : Nat → Nat) (ac : Nat → ClassId) (g : (St) → Option (Int32 × (St))) (r : Int32 × (St)) : Prop := ∀ (s0 : St) (H : Heap) (locs : List Loc) (ls : Array Slot), g s0 = some r → va_P (dC, dI) vwCl (dw_X13 a ac s0) H → va_D A (dw_X13 a ac s0) → va_S A s.heap H locs → lv_has ls 1 [(0, .ref (a 0))] → W p l e (headSpec ow_dm_X13_dataBegin ({ frames := 1, cells := 0, slots := 0, locals := 20 })).room s m args below meth c H locs 0 0 Q (F0 m 0 ls [])
set_option maxHeartbeats 40000000 in
set_option maxRecDepth 100000 in
theorem db_X13_dataBegin_0 {p : Program} {l : Launch} {e : Env} {s : State} {m : MethodId} {args : Array Value} {below : List Frame} {meth : Method} {c : Code} {Q : State → Prop} {A : Nat → Prop} {dC : Nat → ClassId} {dI : Nat → Nat → Nat} {a : Nat → Nat} {ac : Nat → ClassId} {n : Nat} {r : Int32 × (St)} (C : nd_C p l s m args c A (dC, dI) cX13_dataBegin 1 RX13 ow_dm_X13_dataBegin (dk_X13 ac)) (K : nd_Ki p l e (headSpec ow_dm_X13_dataBegin ({ frames := 1, cells := 0, slots := 0, locals := 20 })).room s m args below meth c Q A (dC, dI) cX13_dataBegin .int (St) (dw_X13 a ac) r) : dj_X13_dataBegin_0 p l e s m args below meth c Q A dC dI a ac (df_X13_dataBegin_0 n) r := by
  obtain ⟨hlt, hx, hb, hml, hown, hts, hN, hA, hK⟩ := id C
  intro s0 H locs ls h hP hD hS hl
  unfold df_X13_dataBegin_0 at h
  refine lv_aload_n hx hb dX13_dataBegin_0 rfl (lv_at hl 0 rfl) ?_
  obtain ⟨q1, s2, hq, h⟩ := nd_b2_e h
  have hPc := hP
  have hDc := hD
  have hKc := hK
  have hFc := nd_rs hD hS hA
  refine nd_cVi (As := []) (rest := []) (q := q1) (w' := dw_X13 a ac s2) ⟨hx, hb, hml, hown, hts⟩ (fun sz => dm_X13_base l hlt dC dI a ac n  s0 hq sz) (cwV 0 hts gi_dm_X13_dataBegin_0 rfl rfl rfl (by decide +kernel) ⟨Nat.le_of_ble_eq_true rfl, Nat.le_of_ble_eq_true rfl⟩) hPc hDc hKc hS hA hN (va_recv hKc hPc (ci := 14) (q0 := 0) rfl rfl) rfl hl.1 rfl (Nat.le_of_ble_eq_true rfl) dX13_dataBegin_1 (fun H locs hP1 hD1 hk1 hS => ?_)
  have hP := hP1
  have hD := hD1.weaken (fun k q _ h => hFc q.1 h)
  exact K _ _ _ _ _ _ dX13_dataBegin_4 rfl (Option.some.inj h).symm hP hD hS
set_option maxHeartbeats 40000000 in
set_option maxRecDepth 100000 in
theorem dm_X13_dataBegin (l : Launch) (hlt : l.stackTraces = false) (dC : Nat → ClassId) (dI : Nat → Nat → Nat) (a : Nat → Nat) (ac : Nat → ClassId) (n : Nat) (s0 : St) {r : Int32 × (St)} (h : df_X13_dataBegin n s0 = some r) (sz : Nat) : Met l yX13_dataBegin ow_dm_X13_dataBegin ({ frames := 1, cells := 0, slots := 0, locals := 20 }) (va_Pc [.ref (a 0)] (fun U => U.heap.size = sz ∧ va_P (dC, dI) vwCl (dw_X13 a ac s0) U.heap ∧ va_K (dC, dI) vwCl (dk_X13 ac) U ∧ va_D (fun _ => True) (dw_X13 a ac s0) ∧ nv_E dI (va_A (dw_X13 a ac s0) sz) U)) (va_Qi (fun x _ => x = r.1) (fun (_ : Unit) t => va_P (dC, dI) vwCl (dw_X13 a ac r.2) t.heap ∧ va_K (dC, dI) vwCl (dk_X13 ac) t ∧ va_D (va_A (dw_X13 a ac s0) sz) (dw_X13 a ac r.2)) (va_A (dw_X13 a ac s0) sz)) 0 0 (va_A (dw_X13 a ac s0) sz) := by
  refine Met.ofW (cc := cX13_dataBegin) (maxL := 1) (ret := (some .int)) (by decide) rfl ?_
  intro p e s m args below meth c s₁ B hml hv
  obtain ⟨rfl, hsz, hP, hK, hD0, hN⟩ := hv
  have hx := B.exec
  have hb := B.bytes
  have hr := B.returns
  have hts := atoms_spec (ws := ow_dm_X13_dataBegin) B.pre
  have hown : s.vm.findClass RX13 = some m.cls := findClass_of_methodNamed B.named
  have hlocks := B.notSynchronized
  subst hsz
  have hD := hD0.self (sz := s.heap.size)
  generalize hAe : va_A (dw_X13 a ac s0) s.heap.size = A at hD hN ⊢
  have hA : ∀ q : Nat, s.heap.size ≤ q → A q := fun q h => by rw [← hAe]; exact Or.inr h
  have hl := lv_entry ([.ref (a 0)]) (n := 1) (Nat.le_of_ble_eq_true rfl)
  rw [lg_entry_eq]
  generalize (lg_sl ([.ref (a 0)]) ++ List.replicate (1 - (lg_sl ([.ref (a 0)])).length) Slot.unset).toArray = ls at hl ⊢
  have hl : lv_has ls 1 [(0, .ref (a 0))] := hl
  exact db_X13_dataBegin_0 (dC := dC) (dI := dI) (a := a) (ac := ac) (n := n) (r := r) ⟨hlt, hx, hb, hml, hown, hts, hN, hA, hK⟩ (fun pc v τ H locs ls d z er hP hD hS => by subst er; exact W.zret (v := v) hx hb hr z (fun t ht hW => ⟨⟨v, (), rfl, rfl, by rw [ht]; exact hP, va_K.moved hW.alike hK, hD⟩, hS.F ht⟩) hS.2.2 d) s0 _ _ _ h hP hD va_S.rf (lv_sub hl [0] rfl)
def ow_dm_X13_end : List Cond := Cond.code yX13_end cX13_end 1 (some .int) :: ([Cond.methodLink RX13 713 yX13_all, Cond.instanceMethod yX13_all, Cond.selects RX13 yX13_all yX13_all, Cond.initialized RX13] ++ (ow_dm_X13_all ++ []))
theorem gd_dm_X13_end : ∀ w ∈ ow_dm_X13_end, (w.onTables && w.keeps) = true ∨ ∃ ty, w = Cond.arrayClass ty := List.forall_mem_cons.mpr ⟨good_of_word rfl, List.forall_mem_append.mpr ⟨fun w h => good_of_word (List.all_eq_true.mp (by decide +kernel) w h), List.forall_mem_append.mpr ⟨gd_dm_X13_all, fun _ h => nomatch h⟩⟩⟩
theorem gi_dm_X13_end_0 : GoodIn ow_dm_X13_end (wsV RX13 713 RX13 yX13_all ow_dm_X13_all) := goodIn_app (goodIn_of _ (by decide +kernel)) (fun w h => ⟨List.mem_cons_of_mem _ (List.mem_append_right _ (List.mem_append_left _ h)), gd_dm_X13_all w h⟩)
def dj_X13_end_0 (p : Program) (l : Launch) (e : Env) (s : State) (m : MethodId) (args : Array Value) (below : List Frame) (meth : Method) (c : Code) (Q : State → Prop) (A : Nat → Prop) (dC : Nat → ClassId) (dI : Nat → Nat → Nat) (a : Nat → Nat) (ac : Nat → ClassId) (g : (St) → Option (Int32 × (St))) (r : Int32 × (St)) : Prop := ∀ (s0 : St) (H : Heap) (locs : List Loc) (ls : Array Slot), g s0 = some r → va_P (dC, dI) vwCl (dw_X13 a ac s0) H → va_D A (dw_X13 a ac s0) → va_S A s.heap H locs → lv_has ls 1 [(0, .ref (a 0))] → W p l e (headSpec ow_dm_X13_end ({ frames := 2, cells := 0, slots := 0, locals := 40 })).room s m args below meth c H locs 0 0 Q (F0 m 0 ls [])
set_option maxHeartbeats 40000000 in
set_option maxRecDepth 100000 in
theorem db_X13_end_0 {p : Program} {l : Launch} {e : Env} {s : State} {m : MethodId} {args : Array Value} {below : List Frame} {meth : Method} {c : Code} {Q : State → Prop} {A : Nat → Prop} {dC : Nat → ClassId} {dI : Nat → Nat → Nat} {a : Nat → Nat} {ac : Nat → ClassId} {n : Nat} {r : Int32 × (St)} (C : nd_C p l s m args c A (dC, dI) cX13_end 1 RX13 ow_dm_X13_end (dk_X13 ac)) (K : nd_Ki p l e (headSpec ow_dm_X13_end ({ frames := 2, cells := 0, slots := 0, locals := 40 })).room s m args below meth c Q A (dC, dI) cX13_end .int (St) (dw_X13 a ac) r) : dj_X13_end_0 p l e s m args below meth c Q A dC dI a ac (df_X13_end_0 n) r := by
  obtain ⟨hlt, hx, hb, hml, hown, hts, hN, hA, hK⟩ := id C
  intro s0 H locs ls h hP hD hS hl
  unfold df_X13_end_0 at h
  refine lv_aload_n hx hb dX13_end_0 rfl (lv_at hl 0 rfl) ?_
  obtain ⟨q1, s2, hq, h⟩ := nd_b2_e h
  have hPc := hP
  have hDc := hD
  have hKc := hK
  have hFc := nd_rs hD hS hA
  refine nd_cVi (As := []) (rest := []) (q := q1) (w' := dw_X13 a ac s2) ⟨hx, hb, hml, hown, hts⟩ (fun sz => dm_X13_all l hlt dC dI a ac n  s0 hq sz) (cwV 0 hts gi_dm_X13_end_0 rfl rfl rfl (by decide +kernel) ⟨Nat.le_of_ble_eq_true rfl, Nat.le_of_ble_eq_true rfl⟩) hPc hDc hKc hS hA hN (va_recv hKc hPc (ci := 14) (q0 := 0) rfl rfl) rfl hl.1 rfl (Nat.le_of_ble_eq_true rfl) dX13_end_1 (fun H locs hP1 hD1 hk1 hS => ?_)
  have hP := hP1
  have hD := hD1.weaken (fun k q _ h => hFc q.1 h)
  exact K _ _ _ _ _ _ dX13_end_4 rfl (Option.some.inj h).symm hP hD hS
set_option maxHeartbeats 40000000 in
set_option maxRecDepth 100000 in
theorem dm_X13_end (l : Launch) (hlt : l.stackTraces = false) (dC : Nat → ClassId) (dI : Nat → Nat → Nat) (a : Nat → Nat) (ac : Nat → ClassId) (n : Nat) (s0 : St) {r : Int32 × (St)} (h : df_X13_end n s0 = some r) (sz : Nat) : Met l yX13_end ow_dm_X13_end ({ frames := 2, cells := 0, slots := 0, locals := 40 }) (va_Pc [.ref (a 0)] (fun U => U.heap.size = sz ∧ va_P (dC, dI) vwCl (dw_X13 a ac s0) U.heap ∧ va_K (dC, dI) vwCl (dk_X13 ac) U ∧ va_D (fun _ => True) (dw_X13 a ac s0) ∧ nv_E dI (va_A (dw_X13 a ac s0) sz) U)) (va_Qi (fun x _ => x = r.1) (fun (_ : Unit) t => va_P (dC, dI) vwCl (dw_X13 a ac r.2) t.heap ∧ va_K (dC, dI) vwCl (dk_X13 ac) t ∧ va_D (va_A (dw_X13 a ac s0) sz) (dw_X13 a ac r.2)) (va_A (dw_X13 a ac s0) sz)) 0 0 (va_A (dw_X13 a ac s0) sz) := by
  refine Met.ofW (cc := cX13_end) (maxL := 1) (ret := (some .int)) (by decide) rfl ?_
  intro p e s m args below meth c s₁ B hml hv
  obtain ⟨rfl, hsz, hP, hK, hD0, hN⟩ := hv
  have hx := B.exec
  have hb := B.bytes
  have hr := B.returns
  have hts := atoms_spec (ws := ow_dm_X13_end) B.pre
  have hown : s.vm.findClass RX13 = some m.cls := findClass_of_methodNamed B.named
  have hlocks := B.notSynchronized
  subst hsz
  have hD := hD0.self (sz := s.heap.size)
  generalize hAe : va_A (dw_X13 a ac s0) s.heap.size = A at hD hN ⊢
  have hA : ∀ q : Nat, s.heap.size ≤ q → A q := fun q h => by rw [← hAe]; exact Or.inr h
  have hl := lv_entry ([.ref (a 0)]) (n := 1) (Nat.le_of_ble_eq_true rfl)
  rw [lg_entry_eq]
  generalize (lg_sl ([.ref (a 0)]) ++ List.replicate (1 - (lg_sl ([.ref (a 0)])).length) Slot.unset).toArray = ls at hl ⊢
  have hl : lv_has ls 1 [(0, .ref (a 0))] := hl
  exact db_X13_end_0 (dC := dC) (dI := dI) (a := a) (ac := ac) (n := n) (r := r) ⟨hlt, hx, hb, hml, hown, hts, hN, hA, hK⟩ (fun pc v τ H locs ls d z er hP hD hS => by subst er; exact W.zret (v := v) hx hb hr z (fun t ht hW => ⟨⟨v, (), rfl, rfl, by rw [ht]; exact hP, va_K.moved hW.alike hK, hD⟩, hS.F ht⟩) hS.2.2 d) s0 _ _ _ h hP hD va_S.rf (lv_sub hl [0] rfl)
def ow_dm_X13_put_ : List Cond := Cond.code yX13_put_ cX13_put_ 8 none :: ([Cond.methodLink RX13 713 yX13_all, Cond.instanceMethod yX13_all, Cond.selects RX13 yX13_all yX13_all, Cond.initialized RX13, Cond.fieldLink RX13 535 "TimeMachineModel$Assembler" "out" "[I", Cond.fieldLink RX13 673 "TimeMachineModel$Assembler" "statements" "I", Cond.fieldLink RX13 328 "TimeMachineModel$Assembler" "place" "[I", Cond.constant RX13 442 (131071), Cond.methodLink RX13 691 yX13_addressOf, Cond.instanceMethod yX13_addressOf, Cond.selects RX13 yX13_addressOf yX13_addressOf, Cond.fieldLink RX13 538 "TimeMachineModel$Assembler" "begin" "I", Cond.methodLink RX13 700 yX13_again, Cond.instanceMethod yX13_again, Cond.selects RX13 yX13_again yX13_again, Cond.fieldLink RX13 331 "TimeMachineModel$Assembler" "offset" "[I", Cond.methodLink RX13 688 yX13_sizeAt, Cond.instanceMethod yX13_sizeAt, Cond.selects RX13 yX13_sizeAt yX13_sizeAt, Cond.fieldLink RX13 324 "TimeMachineModel$Assembler" "text" "[C"] ++ (u_ws RX13 TX13 37 ++ (ow_dm_X13_all ++ (ow_dm_X13_addressOf ++ (ow_dm_X13_again ++ (ow_dm_X13_sizeAt ++ []))))))
theorem gd_dm_X13_put_ : ∀ w ∈ ow_dm_X13_put_, (w.onTables && w.keeps) = true ∨ ∃ ty, w = Cond.arrayClass ty := List.forall_mem_cons.mpr ⟨good_of_word rfl, List.forall_mem_append.mpr ⟨fun w h => good_of_word (List.all_eq_true.mp (by decide +kernel) w h), List.forall_mem_append.mpr ⟨gu_X13, List.forall_mem_append.mpr ⟨gd_dm_X13_all, List.forall_mem_append.mpr ⟨gd_dm_X13_addressOf, List.forall_mem_append.mpr ⟨gd_dm_X13_again, List.forall_mem_append.mpr ⟨gd_dm_X13_sizeAt, fun _ h => nomatch h⟩⟩⟩⟩⟩⟩⟩
theorem hi_dm_X13_put__X13 : ∀ w ∈ u_ws RX13 TX13 37, w ∈ ow_dm_X13_put_ := fun w h => List.mem_cons_of_mem _ (List.mem_append_right _ (List.mem_append_left _ h))
theorem gi_dm_X13_put__0 : GoodIn ow_dm_X13_put_ (wsV RX13 713 RX13 yX13_all ow_dm_X13_all) := goodIn_app (goodIn_of _ (by decide +kernel)) (fun w h => ⟨List.mem_cons_of_mem _ (List.mem_append_right _ (List.mem_append_right _ (List.mem_append_left _ h))), gd_dm_X13_all w h⟩)
theorem gi_dm_X13_put__1 : GoodIn ow_dm_X13_put_ (wsV RX13 691 RX13 yX13_addressOf ow_dm_X13_addressOf) := goodIn_app (goodIn_of _ (by decide +kernel)) (fun w h => ⟨List.mem_cons_of_mem _ (List.mem_append_right _ (List.mem_append_right _ (List.mem_append_right _ (List.mem_append_left _ h)))), gd_dm_X13_addressOf w h⟩)
theorem gi_dm_X13_put__2 : GoodIn ow_dm_X13_put_ (wsV RX13 700 RX13 yX13_again ow_dm_X13_again) := goodIn_app (goodIn_of _ (by decide +kernel)) (fun w h => ⟨List.mem_cons_of_mem _ (List.mem_append_right _ (List.mem_append_right _ (List.mem_append_right _ (List.mem_append_right _ (List.mem_append_left _ h))))), gd_dm_X13_again w h⟩)
theorem gi_dm_X13_put__3 : GoodIn ow_dm_X13_put_ (wsV RX13 688 RX13 yX13_sizeAt ow_dm_X13_sizeAt) := goodIn_app (goodIn_of _ (by decide +kernel)) (fun w h => ⟨List.mem_cons_of_mem _ (List.mem_append_right _ (List.mem_append_right _ (List.mem_append_right _ (List.mem_append_right _ (List.mem_append_right _ (List.mem_append_left _ h)))))), gd_dm_X13_sizeAt w h⟩)
def dj_X13_put__112 (p : Program) (l : Launch) (e : Env) (s : State) (m : MethodId) (args : Array Value) (below : List Frame) (meth : Method) (c : Code) (Q : State → Prop) (A : Nat → Prop) (dC : Nat → ClassId) (dI : Nat → Nat → Nat) (a : Nat → Nat) (ac : Nat → ClassId) (g : Int32 → Int32 → Int32 → Int32 → Int32 → (St) → Option (St)) (r : St) : Prop := ∀ (x2 : Int32) (x3 : Int32) (x4 : Int32) (x5 : Int32) (x7 : Int32) (s0 : St) (H : Heap) (locs : List Loc) (ls : Array Slot), g x2 x3 x4 x5 x7 s0 = some r → va_P (dC, dI) vwCl (dw_X13 a ac s0) H → va_D A (dw_X13 a ac s0) → va_S A s.heap H locs → lv_has ls 8 [(0, .ref (a 0)), (1, .ref (a 11)), (2, .int x2), (3, .int x3), (4, .int x4), (5, .int x5), (7, .int x7)] → W p l e (headSpec ow_dm_X13_put_ ({ frames := 13, cells := 0, slots := 0, locals := 309 })).room s m args below meth c H locs 0 0 Q (F0 m 112 ls [])
def dj_X13_put__79 (p : Program) (l : Launch) (e : Env) (s : State) (m : MethodId) (args : Array Value) (below : List Frame) (meth : Method) (c : Code) (Q : State → Prop) (A : Nat → Prop) (dC : Nat → ClassId) (dI : Nat → Nat → Nat) (a : Nat → Nat) (ac : Nat → ClassId) (g : Int32 → Int32 → Int32 → Int32 → (St) → Option (St)) (r : St) : Prop := ∀ (x2 : Int32) (x4 : Int32) (x5 : Int32) (y0 : Int32) (s0 : St) (H : Heap) (locs : List Loc) (ls : Array Slot), g x2 x4 x5 y0 s0 = some r → va_P (dC, dI) vwCl (dw_X13 a ac s0) H → va_D A (dw_X13 a ac s0) → va_S A s.heap H locs → lv_has ls 8 [(0, .ref (a 0)), (1, .ref (a 11)), (2, .int x2), (4, .int x4), (5, .int x5)] → W p l e (headSpec ow_dm_X13_put_ ({ frames := 13, cells := 0, slots := 0, locals := 309 })).room s m args below meth c H locs 0 0 Q (F0 m 79 ls [.int y0])
def dj_X13_put__44 (p : Program) (l : Launch) (e : Env) (s : State) (m : MethodId) (args : Array Value) (below : List Frame) (meth : Method) (c : Code) (Q : State → Prop) (A : Nat → Prop) (dC : Nat → ClassId) (dI : Nat → Nat → Nat) (a : Nat → Nat) (ac : Nat → ClassId) (g : Int32 → Int32 → Int32 → Int32 → (St) → Option (St)) (r : St) : Prop := ∀ (x2 : Int32) (x3 : Int32) (x4 : Int32) (x5 : Int32) (s0 : St) (H : Heap) (locs : List Loc) (ls : Array Slot), g x2 x3 x4 x5 s0 = some r → va_P (dC, dI) vwCl (dw_X13 a ac s0) H → va_D A (dw_X13 a ac s0) → va_S A s.heap H locs → lv_has ls 8 [(0, .ref (a 0)), (1, .ref (a 11)), (2, .int x2), (3, .int x3), (4, .int x4), (5, .int x5)] → W p l e (headSpec ow_dm_X13_put_ ({ frames := 13, cells := 0, slots := 0, locals := 309 })).room s m args below meth c H locs 0 0 Q (F0 m 44 ls [])
def dj_X13_put__35 (p : Program) (l : Launch) (e : Env) (s : State) (m : MethodId) (args : Array Value) (below : List Frame) (meth : Method) (c : Code) (Q : State → Prop) (A : Nat → Prop) (dC : Nat → ClassId) (dI : Nat → Nat → Nat) (a : Nat → Nat) (ac : Nat → ClassId) (g : Int32 → Int32 → Int32 → Int32 → (St) → Option (St)) (r : St) : Prop := ∀ (x2 : Int32) (x3 : Int32) (x4 : Int32) (x5 : Int32) (s0 : St) (H : Heap) (locs : List Loc) (ls : Array Slot), g x2 x3 x4 x5 s0 = some r → va_P (dC, dI) vwCl (dw_X13 a ac s0) H → va_D A (dw_X13 a ac s0) → va_S A s.heap H locs → lv_has ls 8 [(0, .ref (a 0)), (1, .ref (a 11)), (2, .int x2), (3, .int x3), (4, .int x4), (5, .int x5)] → W p l e (headSpec ow_dm_X13_put_ ({ frames := 13, cells := 0, slots := 0, locals := 309 })).room s m args below meth c H locs 0 0 Q (F0 m 35 ls [])
def dj_X13_put__2 (p : Program) (l : Launch) (e : Env) (s : State) (m : MethodId) (args : Array Value) (below : List Frame) (meth : Method) (c : Code) (Q : State → Prop) (A : Nat → Prop) (dC : Nat → ClassId) (dI : Nat → Nat → Nat) (a : Nat → Nat) (ac : Nat → ClassId) (g : Int32 → Int32 → (St) → Option (St)) (r : St) : Prop := ∀ (x2 : Int32) (x3 : Int32) (s0 : St) (H : Heap) (locs : List Loc) (ls : Array Slot), g x2 x3 s0 = some r → va_P (dC, dI) vwCl (dw_X13 a ac s0) H → va_D A (dw_X13 a ac s0) → va_S A s.heap H locs → lv_has ls 8 [(0, .ref (a 0)), (1, .ref (a 11)), (2, .int x2), (3, .int x3)] → W p l e (headSpec ow_dm_X13_put_ ({ frames := 13, cells := 0, slots := 0, locals := 309 })).room s m args below meth c H locs 0 0 Q (F0 m 2 ls [])
def dj_X13_put__0 (p : Program) (l : Launch) (e : Env) (s : State) (m : MethodId) (args : Array Value) (below : List Frame) (meth : Method) (c : Code) (Q : State → Prop) (A : Nat → Prop) (dC : Nat → ClassId) (dI : Nat → Nat → Nat) (a : Nat → Nat) (ac : Nat → ClassId) (g : Int32 → (St) → Option (St)) (r : St) : Prop := ∀ (v1 : Int32) (s0 : St) (H : Heap) (locs : List Loc) (ls : Array Slot), g v1 s0 = some r → va_P (dC, dI) vwCl (dw_X13 a ac s0) H → va_D A (dw_X13 a ac s0) → va_S A s.heap H locs → lv_has ls 8 [(0, .ref (a 0)), (1, .ref (a 11)), (2, .int v1)] → W p l e (headSpec ow_dm_X13_put_ ({ frames := 13, cells := 0, slots := 0, locals := 309 })).room s m args below meth c H locs 0 0 Q (F0 m 0 ls [])
set_option maxHeartbeats 40000000 in
set_option maxRecDepth 100000 in
theorem dB_X13_put__112 {p : Program} {l : Launch} {e : Env} {s : State} {m : MethodId} {args : Array Value} {below : List Frame} {meth : Method} {c : Code} {Q : State → Prop} {A : Nat → Prop} {dC : Nat → ClassId} {dI : Nat → Nat → Nat} {a : Nat → Nat} {ac : Nat → ClassId} {n : Nat} {r : St} (C : nd_C p l s m args c A (dC, dI) cX13_put_ 8 RX13 ow_dm_X13_put_ (dk_X13 ac)) (K : nd_Kv p l e (headSpec ow_dm_X13_put_ ({ frames := 13, cells := 0, slots := 0, locals := 309 })).room s m args below meth c Q A (dC, dI) cX13_put_ (St) (dw_X13 a ac) r) {g35 : Int32 → Int32 → Int32 → Int32 → (St) → Option (St)} (J35 : dj_X13_put__35 p l e s m args below meth c Q A dC dI a ac g35 r) {g112 : Int32 → Int32 → Int32 → Int32 → Int32 → (St) → Option (St)} (J112 : dj_X13_put__112 p l e s m args below meth c Q A dC dI a ac g112 r) : dj_X13_put__112 p l e s m args below meth c Q A dC dI a ac (dF_X13_put__112 n g35 g112) r := by
  obtain ⟨hlt, hx, hb, hml, hown, hts, hN, hA, hK⟩ := id C
  intro x2 x3 x4 x5 x7 s0 H locs ls h hP hD hS hl
  unfold dF_X13_put__112 at h
  refine lv_iload hx hb dX13_put__112 (lv_at hl 6 rfl) ?_
  refine lv_aload_n hx hb dX13_put__114 rfl (lv_at hl 0 rfl) ?_
  refine lv_iload hx hb dX13_put__115 (lv_at hl 5 rfl) ?_
  refine lv_aload_n hx hb dX13_put__117 rfl (lv_at hl 0 rfl) ?_
  refine va_get (D := (dC, dI)) (ci := 14) (v := .ref (a 6)) (C := RX13) (T := TX13) (N := 37) hx hb hts hi_dm_X13_put__X13 hown hK hP 0 rfl rfl 8 (by decide) (hts (.fieldLink RX13 331 "TimeMachineModel$Assembler" "offset" "[I") (List.mem_of_getElem? (i := 16) rfl)) (fun _ h9 => h9) rfl dX13_put__118 ?_
  refine lv_iload hx hb dX13_put__121 (lv_at hl 5 rfl) ?_
  obtain ⟨i16, h⟩ := nd_ck_e h
  refine va_iald (i := x5) hx hb hK hP 6 5 rfl rfl i16 dX13_put__123 ?_
  obtain ⟨q17, s18, hq, h⟩ := nd_b2_e h
  have hPc := hP
  have hDc := hD
  have hKc := hK
  have hFc := nd_rs hD hS hA
  refine nd_cVi (As := [.int x5, .int (sR s0 4 (Int32.toNatClampNeg x5))]) (rest := [.int x7]) (q := q17) (w' := dw_X13 a ac s18) ⟨hx, hb, hml, hown, hts⟩ (fun sz => dm_X13_sizeAt l hlt dC dI a ac n (x5) ((sR s0 4 (Int32.toNatClampNeg x5))) s0 hq sz) (cwV 2 hts gi_dm_X13_put__3 rfl rfl rfl (by decide +kernel) ⟨Nat.le_of_ble_eq_true rfl, Nat.le_of_ble_eq_true rfl⟩) hPc hDc hKc hS hA hN (va_recv hKc hPc (ci := 14) (q0 := 0) rfl rfl) rfl hl.1 rfl (Nat.le_of_ble_eq_true rfl) dX13_put__124 (fun H locs hP1 hD1 hk1 hS => ?_)
  have hP := hP1
  have hD := hD1.weaken (fun k q _ h => hFc q.1 h)
  refine lv_icmp_ge (tgt := 152) hx hb dX13_put__127 (by decide) (fun c20 => ?_) (fun c20 => ?_)
  · have h := nd_pos h c20
    obtain ⟨z21, ez21, h⟩ := nd_let_e h
    refine lv_iinc (v := z21) (lv' := [(5, .int z21), (0, .ref (a 0)), (1, .ref (a 11)), (2, .int x2), (3, .int x3), (4, .int x4), (7, .int x7)]) hx hb dX13_put__152 hl (k := 5) rfl (by rw [ez21]) (by decide) rfl (fun ls hl => ?_)
    refine lv_goto (tgt := 35) hx hb dX13_put__155 (by decide) ?_
    exact (J35) (x2) (x3) (x4) (z21) s18 _ _ _ h hP hD hS (lv_sub hl [1, 2, 3, 4, 5, 0] rfl)
  · have h := nd_neg h c20
    refine lv_aload_n hx hb dX13_put__130 rfl (lv_at hl 1 rfl) ?_
    refine lv_aload_n hx hb dX13_put__131 rfl (lv_at hl 0 rfl) ?_
    refine va_get (D := (dC, dI)) (ci := 14) (v := .int (sI s18 19)) (C := RX13) (T := TX13) (N := 37) hx hb hts hi_dm_X13_put__X13 hown hK hP 0 rfl rfl 28 (by decide) (hts (.fieldLink RX13 538 "TimeMachineModel$Assembler" "begin" "I") (List.mem_of_getElem? (i := 12) rfl)) (fun _ h9 => h9) rfl dX13_put__132 ?_
    refine lv_iload hx hb dX13_put__135 (lv_at hl 6 rfl) ?_
    refine lv_iadd hx hb dX13_put__137 ?_
    refine lv_dup2_11 hx hb dX13_put__138 rfl rfl ?_
    obtain ⟨i22, h⟩ := nd_ck_e h
    refine va_iald (i := ((sI s18 19) + x7)) hx hb hK hP 11 10 rfl rfl i22 dX13_put__139 ?_
    refine lv_iload_n hx hb dX13_put__140 rfl (lv_at hl 3 rfl) ?_
    refine lv_bipush (v := 8) hx hb dX13_put__141 (by decide) ?_
    refine lv_ishl hx hb dX13_put__143 ?_
    refine lv_ior hx hb dX13_put__144 ?_
    obtain ⟨i23, h⟩ := nd_ck_e h
    refine va_iast (i := ((sI s18 19) + x7)) (x := ((sR s18 9 (Int32.toNatClampNeg ((sI s18 19) + x7))) ||| ((x3 : Int32) <<< ((8 : Int32) &&& 31)))) hx hb hK hP hD hS 11 10 rfl rfl i23 dX13_put__145 (fun H locs hP hD hS => ?_)
    obtain ⟨s24, es24, h⟩ := nd_let_e h
    have hP : va_P (dC, dI) vwCl (dw_X13 a ac s24) H := by rw [es24]; exact hP
    have hD : va_D A (dw_X13 a ac s24) := by rw [es24]; exact hD
    obtain ⟨z25, ez25, h⟩ := nd_let_e h
    refine lv_iinc (v := z25) (lv' := [(7, .int z25), (0, .ref (a 0)), (1, .ref (a 11)), (2, .int x2), (3, .int x3), (4, .int x4), (5, .int x5)]) hx hb dX13_put__146 hl (k := 6) rfl (by rw [ez25]) (by decide) rfl (fun ls hl => ?_)
    refine lv_goto (tgt := 112) hx hb dX13_put__149 (by decide) ?_
    exact (J112) (x2) (x3) (x4) (x5) (z25) s24 _ _ _ h hP hD hS (lv_sub hl [1, 2, 3, 4, 5, 6, 0] rfl)
set_option maxHeartbeats 40000000 in
set_option maxRecDepth 100000 in
theorem db_X13_put__112 {p : Program} {l : Launch} {e : Env} {s : State} {m : MethodId} {args : Array Value} {below : List Frame} {meth : Method} {c : Code} {Q : State → Prop} {A : Nat → Prop} {dC : Nat → ClassId} {dI : Nat → Nat → Nat} {a : Nat → Nat} {ac : Nat → ClassId} {n : Nat} {r : St} (C : nd_C p l s m args c A (dC, dI) cX13_put_ 8 RX13 ow_dm_X13_put_ (dk_X13 ac)) (K : nd_Kv p l e (headSpec ow_dm_X13_put_ ({ frames := 13, cells := 0, slots := 0, locals := 309 })).room s m args below meth c Q A (dC, dI) cX13_put_ (St) (dw_X13 a ac) r) {g35 : Int32 → Int32 → Int32 → Int32 → (St) → Option (St)} (J35 : dj_X13_put__35 p l e s m args below meth c Q A dC dI a ac g35 r) (k : Nat) : dj_X13_put__112 p l e s m args below meth c Q A dC dI a ac (df_X13_put__112 n g35 k) r := by
  induction k with
  | zero => intro x2 x3 x4 x5 x7 s0 H locs ls h; exact nomatch (show (none : Option (St)) = some r from h)
  | succ k ih => exact dB_X13_put__112 C K J35 ih
set_option maxHeartbeats 40000000 in
set_option maxRecDepth 100000 in
theorem db_X13_put__79 {p : Program} {l : Launch} {e : Env} {s : State} {m : MethodId} {args : Array Value} {below : List Frame} {meth : Method} {c : Code} {Q : State → Prop} {A : Nat → Prop} {dC : Nat → ClassId} {dI : Nat → Nat → Nat} {a : Nat → Nat} {ac : Nat → ClassId} {n : Nat} {r : St} (C : nd_C p l s m args c A (dC, dI) cX13_put_ 8 RX13 ow_dm_X13_put_ (dk_X13 ac)) (K : nd_Kv p l e (headSpec ow_dm_X13_put_ ({ frames := 13, cells := 0, slots := 0, locals := 309 })).room s m args below meth c Q A (dC, dI) cX13_put_ (St) (dw_X13 a ac) r) {g35 : Int32 → Int32 → Int32 → Int32 → (St) → Option (St)} {g44 : Int32 → Int32 → Int32 → Int32 → (St) → Option (St)} (J35 : dj_X13_put__35 p l e s m args below meth c Q A dC dI a ac g35 r) (J44 : dj_X13_put__44 p l e s m args below meth c Q A dC dI a ac g44 r) : dj_X13_put__79 p l e s m args below meth c Q A dC dI a ac (df_X13_put__79 n g35 g44) r := by
  obtain ⟨hlt, hx, hb, hml, hown, hts, hN, hA, hK⟩ := id C
  intro x2 x4 x5 y0 s0 H locs ls h hP hD hS hl
  unfold df_X13_put__79 at h
  refine lv_istore_n (lv' := [(3, .int y0), (0, .ref (a 0)), (1, .ref (a 11)), (2, .int x2), (4, .int x4), (5, .int x5)]) hx hb dX13_put__79 rfl hl (by decide) rfl (fun ls hl => ?_)
  obtain ⟨z28, ez28, h⟩ := nd_let_e h
  refine lv_iinc (v := z28) (lv' := [(4, .int z28), (3, .int y0), (0, .ref (a 0)), (1, .ref (a 11)), (2, .int x2), (5, .int x5)]) hx hb dX13_put__80 hl (k := 4) rfl (by rw [ez28]) (by decide) rfl (fun ls hl => ?_)
  refine lv_goto (tgt := 44) hx hb dX13_put__83 (by decide) ?_
  exact (J44) (x2) (y0) (z28) (x5) s0 _ _ _ h hP hD hS (lv_sub hl [2, 3, 4, 1, 0, 5] rfl)
set_option maxHeartbeats 40000000 in
set_option maxRecDepth 100000 in
theorem dB_X13_put__44 {p : Program} {l : Launch} {e : Env} {s : State} {m : MethodId} {args : Array Value} {below : List Frame} {meth : Method} {c : Code} {Q : State → Prop} {A : Nat → Prop} {dC : Nat → ClassId} {dI : Nat → Nat → Nat} {a : Nat → Nat} {ac : Nat → ClassId} {n : Nat} {r : St} (C : nd_C p l s m args c A (dC, dI) cX13_put_ 8 RX13 ow_dm_X13_put_ (dk_X13 ac)) (K : nd_Kv p l e (headSpec ow_dm_X13_put_ ({ frames := 13, cells := 0, slots := 0, locals := 309 })).room s m args below meth c Q A (dC, dI) cX13_put_ (St) (dw_X13 a ac) r) {g35 : Int32 → Int32 → Int32 → Int32 → (St) → Option (St)} (J35 : dj_X13_put__35 p l e s m args below meth c Q A dC dI a ac g35 r) {g44 : Int32 → Int32 → Int32 → Int32 → (St) → Option (St)} (J44 : dj_X13_put__44 p l e s m args below meth c Q A dC dI a ac g44 r) : dj_X13_put__44 p l e s m args below meth c Q A dC dI a ac (dF_X13_put__44 n g35 g44) r := by
  obtain ⟨hlt, hx, hb, hml, hown, hts, hN, hA, hK⟩ := id C
  intro x2 x3 x4 x5 s0 H locs ls h hP hD hS hl
  unfold dF_X13_put__44 at h
  refine lv_iload hx hb dX13_put__44 (lv_at hl 4 rfl) ?_
  refine lv_aload_n hx hb dX13_put__46 rfl (lv_at hl 0 rfl) ?_
  refine va_get (D := (dC, dI)) (ci := 14) (v := .ref (a 5)) (C := RX13) (T := TX13) (N := 37) hx hb hts hi_dm_X13_put__X13 hown hK hP 0 rfl rfl 7 (by decide) (hts (.fieldLink RX13 328 "TimeMachineModel$Assembler" "place" "[I") (List.mem_of_getElem? (i := 7) rfl)) (fun _ h9 => h9) rfl dX13_put__47 ?_
  refine lv_iload hx hb dX13_put__50 (lv_at hl 5 rfl) ?_
  obtain ⟨i7, h⟩ := nd_ck_e h
  refine va_iald (i := x5) hx hb hK hP 5 4 rfl rfl i7 dX13_put__52 ?_
  refine lv_ldcw hx hb hown (hts (.constant RX13 442 (131071)) (List.mem_of_getElem? (i := 8) rfl)) dX13_put__53 ?_
  refine lv_iand hx hb dX13_put__56 ?_
  refine lv_icmp_ge (tgt := 86) hx hb dX13_put__57 (by decide) (fun c8 => ?_) (fun c8 => ?_)
  · have h := nd_pos h c8
    refine lv_aload_n hx hb dX13_put__86 rfl (lv_at hl 0 rfl) ?_
    refine lv_iload hx hb dX13_put__87 (lv_at hl 5 rfl) ?_
    obtain ⟨q9, s10, hq, h⟩ := nd_b2_e h
    have hPc := hP
    have hDc := hD
    have hKc := hK
    have hFc := nd_rs hD hS hA
    refine nd_cVi (As := [.int x5]) (rest := []) (q := q9) (w' := dw_X13 a ac s10) ⟨hx, hb, hml, hown, hts⟩ (fun sz => dm_X13_addressOf l hlt dC dI a ac n (x5) s0 hq sz) (cwV 1 hts gi_dm_X13_put__1 rfl rfl rfl (by decide +kernel) ⟨Nat.le_of_ble_eq_true rfl, Nat.le_of_ble_eq_true rfl⟩) hPc hDc hKc hS hA hN (va_recv hKc hPc (ci := 14) (q0 := 0) rfl rfl) rfl hl.1 rfl (Nat.le_of_ble_eq_true rfl) dX13_put__89 (fun H locs hP1 hD1 hk1 hS => ?_)
    have hP := hP1
    have hD := hD1.weaken (fun k q _ h => hFc q.1 h)
    refine lv_istore (lv' := [(6, .int q9), (0, .ref (a 0)), (1, .ref (a 11)), (2, .int x2), (3, .int x3), (4, .int x4), (5, .int x5)]) hx hb dX13_put__92 hl (by decide) rfl (fun ls hl => ?_)
    refine lv_aload_n hx hb dX13_put__94 rfl (lv_at hl 1 rfl) ?_
    refine lv_iload_n hx hb dX13_put__95 rfl (lv_at hl 3 rfl) ?_
    refine lv_iload hx hb dX13_put__96 (lv_at hl 0 rfl) ?_
    refine lv_iadd hx hb dX13_put__98 ?_
    refine va_put (D := (dC, dI)) (ci := 14) (v := .int (x2 + q9)) (ty := .int) (C := RX13) (T := TX13) (N := 37) hx hb hts hi_dm_X13_put__X13 tyX13 tyX13_ok nmX13 hown hK hP hD hS 0 rfl rfl 28 (by decide) (hts (.fieldLink RX13 538 "TimeMachineModel$Assembler" "begin" "I") (List.mem_of_getElem? (i := 12) rfl)) (fun _ h9 => h9) rfl (by decide +kernel) rfl rfl (Nat.le_of_ble_eq_true rfl) dX13_put__99 (fun H locs hP hD hS => ?_)
    obtain ⟨s12, es12, h⟩ := nd_let_e h
    have hP : va_P (dC, dI) vwCl (dw_X13 a ac s12) H := by rw [es12]; exact hP
    have hD : va_D A (dw_X13 a ac s12) := by rw [es12]; exact hD
    refine lv_aload_n hx hb dX13_put__102 rfl (lv_at hl 1 rfl) ?_
    refine lv_iload hx hb dX13_put__103 (lv_at hl 6 rfl) ?_
    refine lv_iconst (v := 3) hx hb dX13_put__105 (by decide) ?_
    obtain ⟨s14, hq, h⟩ := nd_b1_e h
    have hPc := hP
    have hDc := hD
    have hKc := hK
    have hFc := nd_rs hD hS hA
    refine nd_cVv (As := [.int x5, .int 3]) (rest := []) (w' := dw_X13 a ac s14) ⟨hx, hb, hml, hown, hts⟩ (fun sz => dm_X13_again l hlt dC dI a ac n (x5) (3) s12 hq sz) (cwV 2 hts gi_dm_X13_put__2 rfl rfl rfl (by decide +kernel) ⟨Nat.le_of_ble_eq_true rfl, Nat.le_of_ble_eq_true rfl⟩) hPc hDc hKc hS hA hN (va_recv hKc hPc (ci := 14) (q0 := 0) rfl rfl) rfl hl.1 rfl (Nat.le_of_ble_eq_true rfl) dX13_put__106 (fun H locs hP1 hD1 hk1 hS => ?_)
    have hP := hP1
    have hD := hD1.weaken (fun k q _ h => hFc q.1 h)
    refine lv_iconst (v := 0) hx hb dX13_put__109 (by decide) ?_
    refine lv_istore (lv' := [(7, .int 0), (6, .int q9), (0, .ref (a 0)), (1, .ref (a 11)), (2, .int x2), (3, .int x3), (4, .int x4), (5, .int x5)]) hx hb dX13_put__110 hl (by decide) rfl (fun ls hl => ?_)
    exact (db_X13_put__112 C K J35 n) (x2) (x3) (x4) (x5) (0) s14 _ _ _ h hP hD hS (lv_sub hl [2, 3, 4, 5, 6, 7, 0] rfl)
  · have h := nd_neg h c8
    refine lv_aload_n hx hb dX13_put__60 rfl (lv_at hl 0 rfl) ?_
    refine va_get (D := (dC, dI)) (ci := 14) (v := .ref (a 4)) (C := RX13) (T := TX13) (N := 37) hx hb hts hi_dm_X13_put__X13 hown hK hP 0 rfl rfl 3 (by decide) (hts (.fieldLink RX13 324 "TimeMachineModel$Assembler" "text" "[C") (List.mem_of_getElem? (i := 20) rfl)) (fun _ h9 => h9) rfl dX13_put__61 ?_
    refine lv_iload hx hb dX13_put__64 (lv_at hl 4 rfl) ?_
    obtain ⟨i26, h⟩ := nd_ck_e h
    refine va_cald (i := x4) hx hb hK hP 4 3 rfl rfl i26 dX13_put__66 ?_
    refine lv_bipush (v := 10) hx hb dX13_put__67 (by decide) ?_
    refine lv_icmp_ne (tgt := 78) hx hb dX13_put__69 (by decide) (fun c27 => ?_) (fun c27 => ?_)
    · have h := nd_neg h c27
      refine lv_iload_n hx hb dX13_put__78 rfl (lv_at hl 3 rfl) ?_
      exact (db_X13_put__79 C K J35 J44) (x2) (x4) (x5) (x3) s0 _ _ _ h hP hD hS (lv_sub hl [0, 1, 2, 4, 5] rfl)
    · have h := nd_pos h c27
      refine lv_iload_n hx hb dX13_put__72 rfl (lv_at hl 3 rfl) ?_
      refine lv_iconst (v := 1) hx hb dX13_put__73 (by decide) ?_
      refine lv_iadd hx hb dX13_put__74 ?_
      refine lv_goto (tgt := 79) hx hb dX13_put__75 (by decide) ?_
      exact (db_X13_put__79 C K J35 J44) (x2) (x4) (x5) ((x3 + 1)) s0 _ _ _ h hP hD hS (lv_sub hl [0, 1, 2, 4, 5] rfl)
set_option maxHeartbeats 40000000 in
set_option maxRecDepth 100000 in
theorem db_X13_put__44 {p : Program} {l : Launch} {e : Env} {s : State} {m : MethodId} {args : Array Value} {below : List Frame} {meth : Method} {c : Code} {Q : State → Prop} {A : Nat → Prop} {dC : Nat → ClassId} {dI : Nat → Nat → Nat} {a : Nat → Nat} {ac : Nat → ClassId} {n : Nat} {r : St} (C : nd_C p l s m args c A (dC, dI) cX13_put_ 8 RX13 ow_dm_X13_put_ (dk_X13 ac)) (K : nd_Kv p l e (headSpec ow_dm_X13_put_ ({ frames := 13, cells := 0, slots := 0, locals := 309 })).room s m args below meth c Q A (dC, dI) cX13_put_ (St) (dw_X13 a ac) r) {g35 : Int32 → Int32 → Int32 → Int32 → (St) → Option (St)} (J35 : dj_X13_put__35 p l e s m args below meth c Q A dC dI a ac g35 r) (k : Nat) : dj_X13_put__44 p l e s m args below meth c Q A dC dI a ac (df_X13_put__44 n g35 k) r := by
  induction k with
  | zero => intro x2 x3 x4 x5 s0 H locs ls h; exact nomatch (show (none : Option (St)) = some r from h)
  | succ k ih => exact dB_X13_put__44 C K J35 ih
set_option maxHeartbeats 40000000 in
set_option maxRecDepth 100000 in
theorem dB_X13_put__35 {p : Program} {l : Launch} {e : Env} {s : State} {m : MethodId} {args : Array Value} {below : List Frame} {meth : Method} {c : Code} {Q : State → Prop} {A : Nat → Prop} {dC : Nat → ClassId} {dI : Nat → Nat → Nat} {a : Nat → Nat} {ac : Nat → ClassId} {n : Nat} {r : St} (C : nd_C p l s m args c A (dC, dI) cX13_put_ 8 RX13 ow_dm_X13_put_ (dk_X13 ac)) (K : nd_Kv p l e (headSpec ow_dm_X13_put_ ({ frames := 13, cells := 0, slots := 0, locals := 309 })).room s m args below meth c Q A (dC, dI) cX13_put_ (St) (dw_X13 a ac) r) {g35 : Int32 → Int32 → Int32 → Int32 → (St) → Option (St)} (J35 : dj_X13_put__35 p l e s m args below meth c Q A dC dI a ac g35 r) : dj_X13_put__35 p l e s m args below meth c Q A dC dI a ac (dF_X13_put__35 n g35) r := by
  obtain ⟨hlt, hx, hb, hml, hown, hts, hN, hA, hK⟩ := id C
  intro x2 x3 x4 x5 s0 H locs ls h hP hD hS hl
  unfold dF_X13_put__35 at h
  refine lv_iload hx hb dX13_put__35 (lv_at hl 5 rfl) ?_
  refine lv_aload_n hx hb dX13_put__37 rfl (lv_at hl 0 rfl) ?_
  refine va_get (D := (dC, dI)) (ci := 14) (v := .int (sI s0 2)) (C := RX13) (T := TX13) (N := 37) hx hb hts hi_dm_X13_put__X13 hown hK hP 0 rfl rfl 6 (by decide) (hts (.fieldLink RX13 673 "TimeMachineModel$Assembler" "statements" "I") (List.mem_of_getElem? (i := 6) rfl)) (fun _ h9 => h9) rfl dX13_put__38 ?_
  refine lv_icmp_ge (tgt := 158) hx hb dX13_put__41 (by decide) (fun c6 => ?_) (fun c6 => ?_)
  · have h := nd_pos h c6
    exact K _ _ _ _ _ dX13_put__158 (Option.some.inj h).symm hP hD hS
  · have h := nd_neg h c6
    exact (db_X13_put__44 C K J35 n) (x2) (x3) (x4) (x5) s0 _ _ _ h hP hD hS (lv_sub hl [0, 1, 2, 3, 4, 5] rfl)
set_option maxHeartbeats 40000000 in
set_option maxRecDepth 100000 in
theorem db_X13_put__35 {p : Program} {l : Launch} {e : Env} {s : State} {m : MethodId} {args : Array Value} {below : List Frame} {meth : Method} {c : Code} {Q : State → Prop} {A : Nat → Prop} {dC : Nat → ClassId} {dI : Nat → Nat → Nat} {a : Nat → Nat} {ac : Nat → ClassId} {n : Nat} {r : St} (C : nd_C p l s m args c A (dC, dI) cX13_put_ 8 RX13 ow_dm_X13_put_ (dk_X13 ac)) (K : nd_Kv p l e (headSpec ow_dm_X13_put_ ({ frames := 13, cells := 0, slots := 0, locals := 309 })).room s m args below meth c Q A (dC, dI) cX13_put_ (St) (dw_X13 a ac) r) (k : Nat) : dj_X13_put__35 p l e s m args below meth c Q A dC dI a ac (df_X13_put__35 n k) r := by
  induction k with
  | zero => intro x2 x3 x4 x5 s0 H locs ls h; exact nomatch (show (none : Option (St)) = some r from h)
  | succ k ih => exact dB_X13_put__35 C K ih
set_option maxHeartbeats 40000000 in
set_option maxRecDepth 100000 in
theorem dB_X13_put__2 {p : Program} {l : Launch} {e : Env} {s : State} {m : MethodId} {args : Array Value} {below : List Frame} {meth : Method} {c : Code} {Q : State → Prop} {A : Nat → Prop} {dC : Nat → ClassId} {dI : Nat → Nat → Nat} {a : Nat → Nat} {ac : Nat → ClassId} {n : Nat} {r : St} (C : nd_C p l s m args c A (dC, dI) cX13_put_ 8 RX13 ow_dm_X13_put_ (dk_X13 ac)) (K : nd_Kv p l e (headSpec ow_dm_X13_put_ ({ frames := 13, cells := 0, slots := 0, locals := 309 })).room s m args below meth c Q A (dC, dI) cX13_put_ (St) (dw_X13 a ac) r) {g2 : Int32 → Int32 → (St) → Option (St)} (J2 : dj_X13_put__2 p l e s m args below meth c Q A dC dI a ac g2 r) : dj_X13_put__2 p l e s m args below meth c Q A dC dI a ac (dF_X13_put__2 n g2) r := by
  obtain ⟨hlt, hx, hb, hml, hown, hts, hN, hA, hK⟩ := id C
  intro x2 x3 s0 H locs ls h hP hD hS hl
  unfold dF_X13_put__2 at h
  refine lv_iload_n hx hb dX13_put__2 rfl (lv_at hl 3 rfl) ?_
  refine lv_aload_n hx hb dX13_put__3 rfl (lv_at hl 0 rfl) ?_
  obtain ⟨q1, s2, hq, h⟩ := nd_b2_e h
  have hPc := hP
  have hDc := hD
  have hKc := hK
  have hFc := nd_rs hD hS hA
  refine nd_cVi (As := []) (rest := [.int x3]) (q := q1) (w' := dw_X13 a ac s2) ⟨hx, hb, hml, hown, hts⟩ (fun sz => dm_X13_all l hlt dC dI a ac n  s0 hq sz) (cwV 0 hts gi_dm_X13_put__0 rfl rfl rfl (by decide +kernel) ⟨Nat.le_of_ble_eq_true rfl, Nat.le_of_ble_eq_true rfl⟩) hPc hDc hKc hS hA hN (va_recv hKc hPc (ci := 14) (q0 := 0) rfl rfl) rfl hl.1 rfl (Nat.le_of_ble_eq_true rfl) dX13_put__4 (fun H locs hP1 hD1 hk1 hS => ?_)
  have hP := hP1
  have hD := hD1.weaken (fun k q _ h => hFc q.1 h)
  refine lv_icmp_ge (tgt := 22) hx hb dX13_put__7 (by decide) (fun c4 => ?_) (fun c4 => ?_)
  · have h := nd_pos h c4
    refine lv_aload_n hx hb dX13_put__22 rfl (lv_at hl 0 rfl) ?_
    refine lv_aload_n hx hb dX13_put__23 rfl (lv_at hl 1 rfl) ?_
    refine va_put (D := (dC, dI)) (ci := 14) (v := .ref (a 11)) (ty := .array .int) (C := RX13) (T := TX13) (N := 37) hx hb hts hi_dm_X13_put__X13 tyX13 tyX13_ok nmX13 hown hK hP hD hS 0 rfl rfl 29 (by decide) (hts (.fieldLink RX13 535 "TimeMachineModel$Assembler" "out" "[I") (List.mem_of_getElem? (i := 5) rfl)) (fun _ h9 => h9) rfl (by decide +kernel) rfl rfl (Nat.le_of_ble_eq_true rfl) dX13_put__24 (fun H locs hP hD hS => ?_)
    obtain ⟨s5, es5, h⟩ := nd_let_e h
    have hP : va_P (dC, dI) vwCl (dw_X13 a ac s5) H := by rw [es5]; exact hP
    have hD : va_D A (dw_X13 a ac s5) := by rw [es5]; exact hD
    refine lv_iconst (v := 1) hx hb dX13_put__27 (by decide) ?_
    refine lv_istore_n (lv' := [(3, .int 1), (0, .ref (a 0)), (1, .ref (a 11)), (2, .int x2)]) hx hb dX13_put__28 rfl hl (by decide) rfl (fun ls hl => ?_)
    refine lv_iconst (v := 0) hx hb dX13_put__29 (by decide) ?_
    refine lv_istore (lv' := [(4, .int 0), (3, .int 1), (0, .ref (a 0)), (1, .ref (a 11)), (2, .int x2)]) hx hb dX13_put__30 hl (by decide) rfl (fun ls hl => ?_)
    refine lv_iconst (v := 0) hx hb dX13_put__32 (by decide) ?_
    refine lv_istore (lv' := [(5, .int 0), (4, .int 0), (3, .int 1), (0, .ref (a 0)), (1, .ref (a 11)), (2, .int x2)]) hx hb dX13_put__33 hl (by decide) rfl (fun ls hl => ?_)
    exact (db_X13_put__35 C K n) (x2) (1) (0) (0) s5 _ _ _ h hP hD hS (lv_sub hl [3, 4, 5, 2, 1, 0] rfl)
  · have h := nd_neg h c4
    refine lv_aload_n hx hb dX13_put__10 rfl (lv_at hl 1 rfl) ?_
    refine lv_iload_n hx hb dX13_put__11 rfl (lv_at hl 2 rfl) ?_
    refine lv_iload_n hx hb dX13_put__12 rfl (lv_at hl 3 rfl) ?_
    refine lv_iadd hx hb dX13_put__13 ?_
    refine lv_iconst (v := 0) hx hb dX13_put__14 (by decide) ?_
    obtain ⟨i29, h⟩ := nd_ck_e h
    refine va_iast (i := (x2 + x3)) (x := 0) hx hb hK hP hD hS 11 10 rfl rfl i29 dX13_put__15 (fun H locs hP hD hS => ?_)
    obtain ⟨s30, es30, h⟩ := nd_let_e h
    have hP : va_P (dC, dI) vwCl (dw_X13 a ac s30) H := by rw [es30]; exact hP
    have hD : va_D A (dw_X13 a ac s30) := by rw [es30]; exact hD
    obtain ⟨z31, ez31, h⟩ := nd_let_e h
    refine lv_iinc (v := z31) (lv' := [(3, .int z31), (0, .ref (a 0)), (1, .ref (a 11)), (2, .int x2)]) hx hb dX13_put__16 hl (k := 3) rfl (by rw [ez31]) (by decide) rfl (fun ls hl => ?_)
    refine lv_goto (tgt := 2) hx hb dX13_put__19 (by decide) ?_
    exact (J2) (x2) (z31) s30 _ _ _ h hP hD hS (lv_sub hl [1, 2, 3, 0] rfl)
set_option maxHeartbeats 40000000 in
set_option maxRecDepth 100000 in
theorem db_X13_put__2 {p : Program} {l : Launch} {e : Env} {s : State} {m : MethodId} {args : Array Value} {below : List Frame} {meth : Method} {c : Code} {Q : State → Prop} {A : Nat → Prop} {dC : Nat → ClassId} {dI : Nat → Nat → Nat} {a : Nat → Nat} {ac : Nat → ClassId} {n : Nat} {r : St} (C : nd_C p l s m args c A (dC, dI) cX13_put_ 8 RX13 ow_dm_X13_put_ (dk_X13 ac)) (K : nd_Kv p l e (headSpec ow_dm_X13_put_ ({ frames := 13, cells := 0, slots := 0, locals := 309 })).room s m args below meth c Q A (dC, dI) cX13_put_ (St) (dw_X13 a ac) r) (k : Nat) : dj_X13_put__2 p l e s m args below meth c Q A dC dI a ac (df_X13_put__2 n k) r := by
  induction k with
  | zero => intro x2 x3 s0 H locs ls h; exact nomatch (show (none : Option (St)) = some r from h)
  | succ k ih => exact dB_X13_put__2 C K ih
set_option maxHeartbeats 40000000 in
set_option maxRecDepth 100000 in
theorem db_X13_put__0 {p : Program} {l : Launch} {e : Env} {s : State} {m : MethodId} {args : Array Value} {below : List Frame} {meth : Method} {c : Code} {Q : State → Prop} {A : Nat → Prop} {dC : Nat → ClassId} {dI : Nat → Nat → Nat} {a : Nat → Nat} {ac : Nat → ClassId} {n : Nat} {r : St} (C : nd_C p l s m args c A (dC, dI) cX13_put_ 8 RX13 ow_dm_X13_put_ (dk_X13 ac)) (K : nd_Kv p l e (headSpec ow_dm_X13_put_ ({ frames := 13, cells := 0, slots := 0, locals := 309 })).room s m args below meth c Q A (dC, dI) cX13_put_ (St) (dw_X13 a ac) r) : dj_X13_put__0 p l e s m args below meth c Q A dC dI a ac (df_X13_put__0 n) r := by
  obtain ⟨hlt, hx, hb, hml, hown, hts, hN, hA, hK⟩ := id C
  intro v1 s0 H locs ls h hP hD hS hl
  unfold df_X13_put__0 at h
  refine lv_iconst (v := 0) hx hb dX13_put__0 (by decide) ?_
  refine lv_istore_n (lv' := [(3, .int 0), (0, .ref (a 0)), (1, .ref (a 11)), (2, .int v1)]) hx hb dX13_put__1 rfl hl (by decide) rfl (fun ls hl => ?_)
  exact (db_X13_put__2 C K n) (v1) (0) s0 _ _ _ h hP hD hS (lv_sub hl [1, 2, 3, 0] rfl)
set_option maxHeartbeats 40000000 in
set_option maxRecDepth 100000 in
theorem dm_X13_put_ (l : Launch) (hlt : l.stackTraces = false) (dC : Nat → ClassId) (dI : Nat → Nat → Nat) (a : Nat → Nat) (ac : Nat → ClassId) (n : Nat) (v1 : Int32) (s0 : St) {r : St} (h : df_X13_put_ n v1 s0 = some r) (sz : Nat) : Met l yX13_put_ ow_dm_X13_put_ ({ frames := 13, cells := 0, slots := 0, locals := 309 }) (va_Pc [.ref (a 0), .ref (a 11), .int v1] (fun U => U.heap.size = sz ∧ va_P (dC, dI) vwCl (dw_X13 a ac s0) U.heap ∧ va_K (dC, dI) vwCl (dk_X13 ac) U ∧ va_D (fun _ => True) (dw_X13 a ac s0) ∧ nv_E dI (va_A (dw_X13 a ac s0) sz) U)) (va_Qv (fun _ => True) (fun (_ : Unit) t => va_P (dC, dI) vwCl (dw_X13 a ac r) t.heap ∧ va_K (dC, dI) vwCl (dk_X13 ac) t ∧ va_D (va_A (dw_X13 a ac s0) sz) (dw_X13 a ac r)) (va_A (dw_X13 a ac s0) sz)) 0 0 (va_A (dw_X13 a ac s0) sz) := by
  refine Met.ofW (cc := cX13_put_) (maxL := 8) (ret := none) (by decide) rfl ?_
  intro p e s m args below meth c s₁ B hml hv
  obtain ⟨rfl, hsz, hP, hK, hD0, hN⟩ := hv
  have hx := B.exec
  have hb := B.bytes
  have hr := B.returns
  have hts := atoms_spec (ws := ow_dm_X13_put_) B.pre
  have hown : s.vm.findClass RX13 = some m.cls := findClass_of_methodNamed B.named
  have hlocks := B.notSynchronized
  subst hsz
  have hD := hD0.self (sz := s.heap.size)
  generalize hAe : va_A (dw_X13 a ac s0) s.heap.size = A at hD hN ⊢
  have hA : ∀ q : Nat, s.heap.size ≤ q → A q := fun q h => by rw [← hAe]; exact Or.inr h
  have hl := lv_entry ([.ref (a 0), .ref (a 11), .int v1]) (n := 8) (Nat.le_of_ble_eq_true rfl)
  rw [lg_entry_eq]
  generalize (lg_sl ([.ref (a 0), .ref (a 11), .int v1]) ++ List.replicate (8 - (lg_sl ([.ref (a 0), .ref (a 11), .int v1])).length) Slot.unset).toArray = ls at hl ⊢
  have hl : lv_has ls 8 [(0, .ref (a 0)), (1, .ref (a 11)), (2, .int v1)] := hl
  exact db_X13_put__0 (dC := dC) (dI := dI) (a := a) (ac := ac) (n := n) (r := r) ⟨hlt, hx, hb, hml, hown, hts, hN, hA, hK⟩ (fun pc τ H locs ls d er hP hD hS => by subst er; exact W.vret hx hb hr (fun t ht hW => ⟨⟨(), rfl, trivial, by rw [ht]; exact hP, va_K.moved hW.alike hK, hD⟩, hS.F ht⟩) hS.2.2 d) v1 s0 _ _ _ h hP hD va_S.rf (lv_sub hl [0, 1, 2] rfl)

