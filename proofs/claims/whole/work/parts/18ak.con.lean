set_option maxHeartbeats 40000000 in
set_option maxRecDepth 100000 in
theorem db_X13_put__79 {p : Program} {l : Launch} {e : Env} {s : State} {m : MethodId} {args : Array Value} {below : List Frame} {meth : Method} {c : Code} {Q : State → Prop} {A : Nat → Prop} {dC : Nat → ClassId} {dI : Nat → Nat → Nat} {a : Nat → Nat} {ac : Nat → ClassId} {n : Nat} {r : St} (C : nd_C p l s m args c A (dC, dI) cX13_put_ 8 RX13 ow_dm_X13_put_ (dk_X13 ac)) (K : nd_Kv p l e (headSpec ow_dm_X13_put_ ({ frames := 13, cells := 0, slots := 0, locals := 309 })).room s m args below meth c Q A (dC, dI) cX13_put_ (St) (dw_X13 a ac) r) {g35 : Int32 → Int32 → Int32 → Int32 → (St) → Option (St)} {g44 : Int32 → Int32 → Int32 → Int32 → (St) → Option (St)} (J35 : dj_X13_put__35 p l e s m args below meth c Q A dC dI a ac g35 r) (J44 : dj_X13_put__44 p l e s m args below meth c Q A dC dI a ac g44 r) : dj_X13_put__79 p l e s m args below meth c Q A dC dI a ac (df_X13_put__79 n g35 g44) r := by
  obtain ⟨hlt, hx, hb, hml, hown, hts, hN, hA, hK⟩ := id C
  intro x2 x4 x5 y0 s0 H locs ls h hP hD hS hl
  unfold df_X13_put__79 at h
  refine lv_istore_n (lv' := [(3, .int y0), (0, .ref (a 0)), (1, .ref (a 11)), (2, .int x2), (4, .int x4), (5, .int x5)]) hx hb dX13_put__79 rfl hl (by decide) rfl (fun ls hl => ?_)
  obtain ⟨z28, ez28, h⟩ := nd_let_e h
  refine lv_iinc (v := z28) (lv' := [(4, .int z28), (3, .int y0), (0, .ref (a 0)), (1, .ref (a 11)), (2, .int x2), (5, .int x5)]) hx hb dX13_put__80 hl (k := 4) rfl (by rw [ez28]) (by decide) rfl (fun ls hl => ?_)
  refine lv_goto (tgt := 44) hx hb dX13_put__83 (by decide) ?_
  exact (J44) (x2) (y0) (z28) (x5) s0 _ _ _ h hP hD hS (lv_sub hl [2, 3, 4, 1, 0, 5] rfl)
set_option maxHeartbeats 40000000 in
set_option maxRecDepth 100000 in
theorem dB_X13_put__44 {p : Program} {l : Launch} {e : Env} {s : State} {m : MethodId} {args : Array Value} {below : List Frame} {meth : Method} {c : Code} {Q : State → Prop} {A : Nat → Prop} {dC : Nat → ClassId} {dI : Nat → Nat → Nat} {a : Nat → Nat} {ac : Nat → ClassId} {n : Nat} {r : St} (C : nd_C p l s m args c A (dC, dI) cX13_put_ 8 RX13 ow_dm_X13_put_ (dk_X13 ac)) (K : nd_Kv p l e (headSpec ow_dm_X13_put_ ({ frames := 13, cells := 0, slots := 0, locals := 309 })).room s m args below meth c Q A (dC, dI) cX13_put_ (St) (dw_X13 a ac) r) {g35 : Int32 → Int32 → Int32 → Int32 → (St) → Option (St)} (J35 : dj_X13_put__35 p l e s m args below meth c Q A dC dI a ac g35 r) {g44 : Int32 → Int32 → Int32 → Int32 → (St) → Option (St)} (J44 : dj_X13_put__44 p l e s m args below meth c Q A dC dI a ac g44 r) : dj_X13_put__44 p l e s m args below meth c Q A dC dI a ac (dF_X13_put__44 n g35 g44) r := by
  obtain ⟨hlt, hx, hb, hml, hown, hts, hN, hA, hK⟩ := id C
  intro x2 x3 x4 x5 s0 H locs ls h hP hD hS hl
  unfold dF_X13_put__44 at h
  refine lv_iload hx hb dX13_put__44 (lv_at hl 4 rfl) ?_
  refine lv_aload_n hx hb dX13_put__46 rfl (lv_at hl 0 rfl) ?_
  refine va_get (D := (dC, dI)) (ci := 14) (v := .ref (a 5)) (C := RX13) (T := TX13) (N := 37) hx hb hts hi_dm_X13_put__X13 hown hK hP 0 rfl rfl 7 (by decide) (hts (.fieldLink RX13 328 "TimeMachineModel$Assembler" "place" "[I") (List.mem_of_getElem? (i := 7) rfl)) (fun _ h9 => h9) rfl dX13_put__47 ?_
  refine lv_iload hx hb dX13_put__50 (lv_at hl 5 rfl) ?_
  obtain ⟨i7, h⟩ := nd_ck_e h
  refine va_iald (i := x5) hx hb hK hP 5 4 rfl rfl i7 dX13_put__52 ?_
  refine lv_ldcw hx hb hown (hts (.constant RX13 442 (131071)) (List.mem_of_getElem? (i := 8) rfl)) dX13_put__53 ?_
  refine lv_iand hx hb dX13_put__56 ?_
  refine lv_icmp_ge (tgt := 86) hx hb dX13_put__57 (by decide) (fun c8 => ?_) (fun c8 => ?_)
  · have h := nd_pos h c8
    refine lv_aload_n hx hb dX13_put__86 rfl (lv_at hl 0 rfl) ?_
    refine lv_iload hx hb dX13_put__87 (lv_at hl 5 rfl) ?_
    obtain ⟨q9, s10, hq, h⟩ := nd_b2_e h
    have hPc := hP
    have hDc := hD
    have hKc := hK
    have hFc := nd_rs hD hS hA
    refine nd_cVi (As := [.int x5]) (rest := []) (q := q9) (w' := dw_X13 a ac s10) ⟨hx, hb, hml, hown, hts⟩ (fun sz => dm_X13_addressOf l hlt dC dI a ac n (x5) s0 hq sz) (cwV 1 hts gi_dm_X13_put__1 rfl rfl rfl (by decide +kernel) ⟨Nat.le_of_ble_eq_true rfl, Nat.le_of_ble_eq_true rfl⟩) hPc hDc hKc hS hA hN (va_recv hKc hPc (ci := 14) (q0 := 0) rfl rfl) rfl hl.1 rfl (Nat.le_of_ble_eq_true rfl) dX13_put__89 (fun H locs hP1 hD1 hk1 hS => ?_)
    have hP := hP1
    have hD := hD1.weaken (fun k q _ h => hFc q.1 h)
    refine lv_istore (lv' := [(6, .int q9), (0, .ref (a 0)), (1, .ref (a 11)), (2, .int x2), (3, .int x3), (4, .int x4), (5, .int x5)]) hx hb dX13_put__92 hl (by decide) rfl (fun ls hl => ?_)
    refine lv_aload_n hx hb dX13_put__94 rfl (lv_at hl 1 rfl) ?_
    refine lv_iload_n hx hb dX13_put__95 rfl (lv_at hl 3 rfl) ?_
    refine lv_iload hx hb dX13_put__96 (lv_at hl 0 rfl) ?_
    refine lv_iadd hx hb dX13_put__98 ?_
    refine va_put (D := (dC, dI)) (ci := 14) (v := .int (x2 + q9)) (ty := .int) (C := RX13) (T := TX13) (N := 37) hx hb hts hi_dm_X13_put__X13 tyX13 tyX13_ok nmX13 hown hK hP hD hS 0 rfl rfl 28 (by decide) (hts (.fieldLink RX13 538 "TimeMachineModel$Assembler" "begin" "I") (List.mem_of_getElem? (i := 12) rfl)) (fun _ h9 => h9) rfl (by decide +kernel) rfl rfl (Nat.le_of_ble_eq_true rfl) dX13_put__99 (fun H locs hP hD hS => ?_)
    obtain ⟨s12, es12, h⟩ := nd_let_e h
    have hP : va_P (dC, dI) vwCl (dw_X13 a ac s12) H := by rw [es12]; exact hP
    have hD : va_D A (dw_X13 a ac s12) := by rw [es12]; exact hD
    refine lv_aload_n hx hb dX13_put__102 rfl (lv_at hl 1 rfl) ?_
    refine lv_iload hx hb dX13_put__103 (lv_at hl 6 rfl) ?_
    refine lv_iconst (v := 3) hx hb dX13_put__105 (by decide) ?_
    obtain ⟨s14, hq, h⟩ := nd_b1_e h
    have hPc := hP
    have hDc := hD
    have hKc := hK
    have hFc := nd_rs hD hS hA
    refine nd_cVv (As := [.int x5, .int 3]) (rest := []) (w' := dw_X13 a ac s14) ⟨hx, hb, hml, hown, hts⟩ (fun sz => dm_X13_again l hlt dC dI a ac n (x5) (3) s12 hq sz) (cwV 2 hts gi_dm_X13_put__2 rfl rfl rfl (by decide +kernel) ⟨Nat.le_of_ble_eq_true rfl, Nat.le_of_ble_eq_true rfl⟩) hPc hDc hKc hS hA hN (va_recv hKc hPc (ci := 14) (q0 := 0) rfl rfl) rfl hl.1 rfl (Nat.le_of_ble_eq_true rfl) dX13_put__106 (fun H locs hP1 hD1 hk1 hS => ?_)
    have hP := hP1
    have hD := hD1.weaken (fun k q _ h => hFc q.1 h)
    refine lv_iconst (v := 0) hx hb dX13_put__109 (by decide) ?_
    refine lv_istore (lv' := [(7, .int 0), (6, .int q9), (0, .ref (a 0)), (1, .ref (a 11)), (2, .int x2), (3, .int x3), (4, .int x4), (5, .int x5)]) hx hb dX13_put__110 hl (by decide) rfl (fun ls hl => ?_)
    exact (db_X13_put__112 C K J35 n) (x2) (x3) (x4) (x5) (0) s14 _ _ _ h hP hD hS (lv_sub hl [2, 3, 4, 5, 6, 7, 0] rfl)
  · have h := nd_neg h c8
    refine lv_aload_n hx hb dX13_put__60 rfl (lv_at hl 0 rfl) ?_
    refine va_get (D := (dC, dI)) (ci := 14) (v := .ref (a 4)) (C := RX13) (T := TX13) (N := 37) hx hb hts hi_dm_X13_put__X13 hown hK hP 0 rfl rfl 3 (by decide) (hts (.fieldLink RX13 324 "TimeMachineModel$Assembler" "text" "[C") (List.mem_of_getElem? (i := 20) rfl)) (fun _ h9 => h9) rfl dX13_put__61 ?_
    refine lv_iload hx hb dX13_put__64 (lv_at hl 4 rfl) ?_
    obtain ⟨i26, h⟩ := nd_ck_e h
    refine va_cald (i := x4) hx hb hK hP 4 3 rfl rfl i26 dX13_put__66 ?_
    refine lv_bipush (v := 10) hx hb dX13_put__67 (by decide) ?_
    refine lv_icmp_ne (tgt := 78) hx hb dX13_put__69 (by decide) (fun c27 => ?_) (fun c27 => ?_)
    · have h := nd_neg h c27
      refine lv_iload_n hx hb dX13_put__78 rfl (lv_at hl 3 rfl) ?_
      exact (db_X13_put__79 C K J35 J44) (x2) (x4) (x5) (x3) s0 _ _ _ h hP hD hS (lv_sub hl [0, 1, 2, 4, 5] rfl)
    · have h := nd_pos h c27
      refine lv_iload_n hx hb dX13_put__72 rfl (lv_at hl 3 rfl) ?_
      refine lv_iconst (v := 1) hx hb dX13_put__73 (by decide) ?_
      refine lv_iadd hx hb dX13_put__74 ?_
      refine lv_goto (tgt := 79) hx hb dX13_put__75 (by decide) ?_
      exact (db_X13_put__79 C K J35 J44) (x2) (x4) (x5) ((x3 + 1)) s0 _ _ _ h hP hD hS (lv_sub hl [0, 1, 2, 4, 5] rfl)
set_option maxHeartbeats 40000000 in
set_option maxRecDepth 100000 in
theorem db_X13_put__44 {p : Program} {l : Launch} {e : Env} {s : State} {m : MethodId} {args : Array Value} {below : List Frame} {meth : Method} {c : Code} {Q : State → Prop} {A : Nat → Prop} {dC : Nat → ClassId} {dI : Nat → Nat → Nat} {a : Nat → Nat} {ac : Nat → ClassId} {n : Nat} {r : St} (C : nd_C p l s m args c A (dC, dI) cX13_put_ 8 RX13 ow_dm_X13_put_ (dk_X13 ac)) (K : nd_Kv p l e (headSpec ow_dm_X13_put_ ({ frames := 13, cells := 0, slots := 0, locals := 309 })).room s m args below meth c Q A (dC, dI) cX13_put_ (St) (dw_X13 a ac) r) {g35 : Int32 → Int32 → Int32 → Int32 → (St) → Option (St)} (J35 : dj_X13_put__35 p l e s m args below meth c Q A dC dI a ac g35 r) (k : Nat) : dj_X13_put__44 p l e s m args below meth c Q A dC dI a ac (df_X13_put__44 n g35 k) r := by
  induction k with
  | zero => intro x2 x3 x4 x5 s0 H locs ls h; exact nomatch (show (none : Option (St)) = some r from h)
  | succ k ih => exact dB_X13_put__44 C K J35 ih
set_option maxHeartbeats 40000000 in
set_option maxRecDepth 100000 in
theorem dB_X13_put__35 {p : Program} {l : Launch} {e : Env} {s : State} {m : MethodId} {args : Array Value} {below : List Frame} {meth : Method} {c : Code} {Q : State → Prop} {A : Nat → Prop} {dC : Nat → ClassId} {dI : Nat → Nat → Nat} {a : Nat → Nat} {ac : Nat → ClassId} {n : Nat} {r : St} (C : nd_C p l s m args c A (dC, dI) cX13_put_ 8 RX13 ow_dm_X13_put_ (dk_X13 ac)) (K : nd_Kv p l e (headSpec ow_dm_X13_put_ ({ frames := 13, cells := 0, slots := 0, locals := 309 })).room s m args below meth c Q A (dC, dI) cX13_put_ (St) (dw_X13 a ac) r) {g35 : Int32 → Int32 → Int32 → Int32 → (St) → Option (St)} (J35 : dj_X13_put__35 p l e s m args below meth c Q A dC dI a ac g35 r) : dj_X13_put__35 p l e s m args below meth c Q A dC dI a ac (dF_X13_put__35 n g35) r := by
  obtain ⟨hlt, hx, hb, hml, hown, hts, hN, hA, hK⟩ := id C
  intro x2 x3 x4 x5 s0 H locs ls h hP hD hS hl
  unfold dF_X13_put__35 at h
  refine lv_iload hx hb dX13_put__35 (lv_at hl 5 rfl) ?_
  refine lv_aload_n hx hb dX13_put__37 rfl (lv_at hl 0 rfl) ?_
  refine va_get (D := (dC, dI)) (ci := 14) (v := .int (sI s0 2)) (C := RX13) (T := TX13) (N := 37) hx hb hts hi_dm_X13_put__X13 hown hK hP 0 rfl rfl 6 (by decide) (hts (.fieldLink RX13 673 "TimeMachineModel$Assembler" "statements" "I") (List.mem_of_getElem? (i := 6) rfl)) (fun _ h9 => h9) rfl dX13_put__38 ?_
  refine lv_icmp_ge (tgt := 158) hx hb dX13_put__41 (by decide) (fun c6 => ?_) (fun c6 => ?_)
  · have h := nd_pos h c6
    exact K _ _ _ _ _ dX13_put__158 (Option.some.inj h).symm hP hD hS
  · have h := nd_neg h c6
    exact (db_X13_put__44 C K J35 n) (x2) (x3) (x4) (x5) s0 _ _ _ h hP hD hS (lv_sub hl [0, 1, 2, 3, 4, 5] rfl)
set_option maxHeartbeats 40000000 in
set_option maxRecDepth 100000 in
theorem db_X13_put__35 {p : Program} {l : Launch} {e : Env} {s : State} {m : MethodId} {args : Array Value} {below : List Frame} {meth : Method} {c : Code} {Q : State → Prop} {A : Nat → Prop} {dC : Nat → ClassId} {dI : Nat → Nat → Nat} {a : Nat → Nat} {ac : Nat → ClassId} {n : Nat} {r : St} (C : nd_C p l s m args c A (dC, dI) cX13_put_ 8 RX13 ow_dm_X13_put_ (dk_X13 ac)) (K : nd_Kv p l e (headSpec ow_dm_X13_put_ ({ frames := 13, cells := 0, slots := 0, locals := 309 })).room s m args below meth c Q A (dC, dI) cX13_put_ (St) (dw_X13 a ac) r) (k : Nat) : dj_X13_put__35 p l e s m args below meth c Q A dC dI a ac (df_X13_put__35 n k) r := by
  induction k with
  | zero => intro x2 x3 x4 x5 s0 H locs ls h; exact nomatch (show (none : Option (St)) = some r from h)
  | succ k ih => exact dB_X13_put__35 C K ih
set_option maxHeartbeats 40000000 in
set_option maxRecDepth 100000 in
theorem dB_X13_put__2 {p : Program} {l : Launch} {e : Env} {s : State} {m : MethodId} {args : Array Value} {below : List Frame} {meth : Method} {c : Code} {Q : State → Prop} {A : Nat → Prop} {dC : Nat → ClassId} {dI : Nat → Nat → Nat} {a : Nat → Nat} {ac : Nat → ClassId} {n : Nat} {r : St} (C : nd_C p l s m args c A (dC, dI) cX13_put_ 8 RX13 ow_dm_X13_put_ (dk_X13 ac)) (K : nd_Kv p l e (headSpec ow_dm_X13_put_ ({ frames := 13, cells := 0, slots := 0, locals := 309 })).room s m args below meth c Q A (dC, dI) cX13_put_ (St) (dw_X13 a ac) r) {g2 : Int32 → Int32 → (St) → Option (St)} (J2 : dj_X13_put__2 p l e s m args below meth c Q A dC dI a ac g2 r) : dj_X13_put__2 p l e s m args below meth c Q A dC dI a ac (dF_X13_put__2 n g2) r := by
  obtain ⟨hlt, hx, hb, hml, hown, hts, hN, hA, hK⟩ := id C
  intro x2 x3 s0 H locs ls h hP hD hS hl
  unfold dF_X13_put__2 at h
  refine lv_iload_n hx hb dX13_put__2 rfl (lv_at hl 3 rfl) ?_
  refine lv_aload_n hx hb dX13_put__3 rfl (lv_at hl 0 rfl) ?_
  obtain ⟨q1, s2, hq, h⟩ := nd_b2_e h
  have hPc := hP
  have hDc := hD
  have hKc := hK
  have hFc := nd_rs hD hS hA
  refine nd_cVi (As := []) (rest := [.int x3]) (q := q1) (w' := dw_X13 a ac s2) ⟨hx, hb, hml, hown, hts⟩ (fun sz => dm_X13_all l hlt dC dI a ac n  s0 hq sz) (cwV 0 hts gi_dm_X13_put__0 rfl rfl rfl (by decide +kernel) ⟨Nat.le_of_ble_eq_true rfl, Nat.le_of_ble_eq_true rfl⟩) hPc hDc hKc hS hA hN (va_recv hKc hPc (ci := 14) (q0 := 0) rfl rfl) rfl hl.1 rfl (Nat.le_of_ble_eq_true rfl) dX13_put__4 (fun H locs hP1 hD1 hk1 hS => ?_)
  have hP := hP1
  have hD := hD1.weaken (fun k q _ h => hFc q.1 h)
  refine lv_icmp_ge (tgt := 22) hx hb dX13_put__7 (by decide) (fun c4 => ?_) (fun c4 => ?_)
  · have h := nd_pos h c4
    refine lv_aload_n hx hb dX13_put__22 rfl (lv_at hl 0 rfl) ?_
    refine lv_aload_n hx hb dX13_put__23 rfl (lv_at hl 1 rfl) ?_
    refine va_put (D := (dC, dI)) (ci := 14) (v := .ref (a 11)) (ty := .array .int) (C := RX13) (T := TX13) (N := 37) hx hb hts hi_dm_X13_put__X13 tyX13 tyX13_ok nmX13 hown hK hP hD hS 0 rfl rfl 29 (by decide) (hts (.fieldLink RX13 535 "TimeMachineModel$Assembler" "out" "[I") (List.mem_of_getElem? (i := 5) rfl)) (fun _ h9 => h9) rfl (by decide +kernel) rfl rfl (Nat.le_of_ble_eq_true rfl) dX13_put__24 (fun H locs hP hD hS => ?_)
    obtain ⟨s5, es5, h⟩ := nd_let_e h
    have hP : va_P (dC, dI) vwCl (dw_X13 a ac s5) H := by rw [es5]; exact hP
    have hD : va_D A (dw_X13 a ac s5) := by rw [es5]; exact hD
    refine lv_iconst (v := 1) hx hb dX13_put__27 (by decide) ?_
    refine lv_istore_n (lv' := [(3, .int 1), (0, .ref (a 0)), (1, .ref (a 11)), (2, .int x2)]) hx hb dX13_put__28 rfl hl (by decide) rfl (fun ls hl => ?_)
    refine lv_iconst (v := 0) hx hb dX13_put__29 (by decide) ?_
    refine lv_istore (lv' := [(4, .int 0), (3, .int 1), (0, .ref (a 0)), (1, .ref (a 11)), (2, .int x2)]) hx hb dX13_put__30 hl (by decide) rfl (fun ls hl => ?_)
    refine lv_iconst (v := 0) hx hb dX13_put__32 (by decide) ?_
    refine lv_istore (lv' := [(5, .int 0), (4, .int 0), (3, .int 1), (0, .ref (a 0)), (1, .ref (a 11)), (2, .int x2)]) hx hb dX13_put__33 hl (by decide) rfl (fun ls hl => ?_)
    exact (db_X13_put__35 C K n) (x2) (1) (0) (0) s5 _ _ _ h hP hD hS (lv_sub hl [3, 4, 5, 2, 1, 0] rfl)
  · have h := nd_neg h c4
    refine lv_aload_n hx hb dX13_put__10 rfl (lv_at hl 1 rfl) ?_
    refine lv_iload_n hx hb dX13_put__11 rfl (lv_at hl 2 rfl) ?_
    refine lv_iload_n hx hb dX13_put__12 rfl (lv_at hl 3 rfl) ?_
    refine lv_iadd hx hb dX13_put__13 ?_
    refine lv_iconst (v := 0) hx hb dX13_put__14 (by decide) ?_
    obtain ⟨i29, h⟩ := nd_ck_e h
    refine va_iast (i := (x2 + x3)) (x := 0) hx hb hK hP hD hS 11 10 rfl rfl i29 dX13_put__15 (fun H locs hP hD hS => ?_)
    obtain ⟨s30, es30, h⟩ := nd_let_e h
    have hP : va_P (dC, dI) vwCl (dw_X13 a ac s30) H := by rw [es30]; exact hP
    have hD : va_D A (dw_X13 a ac s30) := by rw [es30]; exact hD
    obtain ⟨z31, ez31, h⟩ := nd_let_e h
    refine lv_iinc (v := z31) (lv' := [(3, .int z31), (0, .ref (a 0)), (1, .ref (a 11)), (2, .int x2)]) hx hb dX13_put__16 hl (k := 3) rfl (by rw [ez31]) (by decide) rfl (fun ls hl => ?_)
    refine lv_goto (tgt := 2) hx hb dX13_put__19 (by decide) ?_
    exact (J2) (x2) (z31) s30 _ _ _ h hP hD hS (lv_sub hl [1, 2, 3, 0] rfl)
set_option maxHeartbeats 40000000 in
set_option maxRecDepth 100000 in
theorem db_X13_put__2 {p : Program} {l : Launch} {e : Env} {s : State} {m : MethodId} {args : Array Value} {below : List Frame} {meth : Method} {c : Code} {Q : State → Prop} {A : Nat → Prop} {dC : Nat → ClassId} {dI : Nat → Nat → Nat} {a : Nat → Nat} {ac : Nat → ClassId} {n : Nat} {r : St} (C : nd_C p l s m args c A (dC, dI) cX13_put_ 8 RX13 ow_dm_X13_put_ (dk_X13 ac)) (K : nd_Kv p l e (headSpec ow_dm_X13_put_ ({ frames := 13, cells := 0, slots := 0, locals := 309 })).room s m args below meth c Q A (dC, dI) cX13_put_ (St) (dw_X13 a ac) r) (k : Nat) : dj_X13_put__2 p l e s m args below meth c Q A dC dI a ac (df_X13_put__2 n k) r := by
  induction k with
  | zero => intro x2 x3 s0 H locs ls h; exact nomatch (show (none : Option (St)) = some r from h)
  | succ k ih => exact dB_X13_put__2 C K ih
set_option maxHeartbeats 40000000 in
set_option maxRecDepth 100000 in
theorem db_X13_put__0 {p : Program} {l : Launch} {e : Env} {s : State} {m : MethodId} {args : Array Value} {below : List Frame} {meth : Method} {c : Code} {Q : State → Prop} {A : Nat → Prop} {dC : Nat → ClassId} {dI : Nat → Nat → Nat} {a : Nat → Nat} {ac : Nat → ClassId} {n : Nat} {r : St} (C : nd_C p l s m args c A (dC, dI) cX13_put_ 8 RX13 ow_dm_X13_put_ (dk_X13 ac)) (K : nd_Kv p l e (headSpec ow_dm_X13_put_ ({ frames := 13, cells := 0, slots := 0, locals := 309 })).room s m args below meth c Q A (dC, dI) cX13_put_ (St) (dw_X13 a ac) r) : dj_X13_put__0 p l e s m args below meth c Q A dC dI a ac (df_X13_put__0 n) r := by
  obtain ⟨hlt, hx, hb, hml, hown, hts, hN, hA, hK⟩ := id C
  intro v1 s0 H locs ls h hP hD hS hl
  unfold df_X13_put__0 at h
  refine lv_iconst (v := 0) hx hb dX13_put__0 (by decide) ?_
  refine lv_istore_n (lv' := [(3, .int 0), (0, .ref (a 0)), (1, .ref (a 11)), (2, .int v1)]) hx hb dX13_put__1 rfl hl (by decide) rfl (fun ls hl => ?_)
  exact (db_X13_put__2 C K n) (v1) (0) s0 _ _ _ h hP hD hS (lv_sub hl [1, 2, 3, 0] rfl)
set_option maxHeartbeats 40000000 in
set_option maxRecDepth 100000 in
theorem dm_X13_put_ (l : Launch) (hlt : l.stackTraces = false) (dC : Nat → ClassId) (dI : Nat → Nat → Nat) (a : Nat → Nat) (ac : Nat → ClassId) (n : Nat) (v1 : Int32) (s0 : St) {r : St} (h : df_X13_put_ n v1 s0 = some r) (sz : Nat) : Met l yX13_put_ ow_dm_X13_put_ ({ frames := 13, cells := 0, slots := 0, locals := 309 }) (va_Pc [.ref (a 0), .ref (a 11), .int v1] (fun U => U.heap.size = sz ∧ va_P (dC, dI) vwCl (dw_X13 a ac s0) U.heap ∧ va_K (dC, dI) vwCl (dk_X13 ac) U ∧ va_D (fun _ => True) (dw_X13 a ac s0) ∧ nv_E (va_A (dw_X13 a ac s0) sz) U)) (va_Qv (fun _ => True) (fun (_ : Unit) t => va_P (dC, dI) vwCl (dw_X13 a ac r) t.heap ∧ va_K (dC, dI) vwCl (dk_X13 ac) t ∧ va_D (va_A (dw_X13 a ac s0) sz) (dw_X13 a ac r)) (va_A (dw_X13 a ac s0) sz)) 0 0 (va_A (dw_X13 a ac s0) sz) := by
  refine Met.ofW (cc := cX13_put_) (maxL := 8) (ret := none) (by decide) rfl ?_
  intro p e s m args below meth c s₁ B hml hv
  obtain ⟨rfl, hsz, hP, hK, hD0, hN⟩ := hv
  have hx := B.exec
  have hb := B.bytes
  have hr := B.returns
  have hts := atoms_spec (ws := ow_dm_X13_put_) B.pre
  have hown : s.vm.findClass RX13 = some m.cls := findClass_of_methodNamed B.named
  have hlocks := B.notSynchronized
  subst hsz
  have hD := hD0.self (sz := s.heap.size)
  generalize hAe : va_A (dw_X13 a ac s0) s.heap.size = A at hD hN ⊢
  have hA : ∀ q : Nat, s.heap.size ≤ q → A q := fun q h => by rw [← hAe]; exact Or.inr h
  have hl := lv_entry ([.ref (a 0), .ref (a 11), .int v1]) (n := 8) (Nat.le_of_ble_eq_true rfl)
  rw [lg_entry_eq]
  generalize (lg_sl ([.ref (a 0), .ref (a 11), .int v1]) ++ List.replicate (8 - (lg_sl ([.ref (a 0), .ref (a 11), .int v1])).length) Slot.unset).toArray = ls at hl ⊢
  have hl : lv_has ls 8 [(0, .ref (a 0)), (1, .ref (a 11)), (2, .int v1)] := hl
  exact db_X13_put__0 (dC := dC) (dI := dI) (a := a) (ac := ac) (n := n) (r := r) ⟨hlt, hx, hb, hml, hown, hts, hN, hA, hK⟩ (fun pc τ H locs ls d er hP hD hS => by subst er; exact W.vret hx hb hr (fun t ht hW => ⟨⟨(), rfl, trivial, by rw [ht]; exact hP, va_K.moved hW.alike hK, hD⟩, hS.F ht⟩) hS.2.2 d) v1 s0 _ _ _ h hP hD va_S.rf (lv_sub hl [0, 1, 2] rfl)
