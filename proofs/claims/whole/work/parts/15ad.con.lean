set_option maxHeartbeats 40000000 in
set_option maxRecDepth 100000 in
theorem dB_X16_sweep_49 {p : Program} {l : Launch} {e : Env} {s : State} {m : MethodId} {args : Array Value} {below : List Frame} {meth : Method} {c : Code} {Q : State → Prop} {A : Nat → Prop} {dC : Nat → ClassId} {dI : Nat → Nat → Nat} {a : Nat → Nat} {ac : Nat → ClassId} {n : Nat} {r : St × (St)} (C : nd_C p l s m args c A (dC, dI) cX16_sweep 2 RX16 ow_dm_X16_sweep (dk_X16 ac)) (K : nd_Kv p l e (headSpec ow_dm_X16_sweep ({ frames := 1, cells := 0, slots := 0, locals := 24 })).room s m args below meth c Q A (dC, dI) cX16_sweep (St × (St)) (dw_X16 a ac) r) {g49 : Int32 → (St × (St)) → Option (St × (St))} (J49 : dj_X16_sweep_49 p l e s m args below meth c Q A dC dI a ac g49 r) : dj_X16_sweep_49 p l e s m args below meth c Q A dC dI a ac (dF_X16_sweep_49 n g49) r := by
  obtain ⟨hlt, hx, hb, hml, hown, hts, hN, hA, hK⟩ := id C
  intro x1 s0 H locs ls h hP hD hS hl
  unfold dF_X16_sweep_49 at h
  refine lv_iload_n hx hb dX16_sweep_49 rfl (lv_at hl 1 rfl) ?_
  refine lv_bipush (v := 8) hx hb dX16_sweep_50 (by decide) ?_
  refine lv_icmp_ge (tgt := 97) hx hb dX16_sweep_52 (by decide) (fun c2 => ?_) (fun c2 => ?_)
  · have h := nd_pos h c2
    refine lv_iconst (v := 0) hx hb dX16_sweep_97 (by decide) ?_
    refine lv_istore_n (lv' := [(1, .int 0), (0, .ref (a 0))]) hx hb dX16_sweep_98 rfl hl (by decide) rfl (fun ls hl => ?_)
    exact (db_X16_sweep_99 C K n) (0) s0 _ _ _ h hP hD hS (lv_sub hl [1, 0] rfl)
  · have h := nd_neg h c2
    refine lv_aload_n hx hb dX16_sweep_55 rfl (lv_at hl 0 rfl) ?_
    refine va_get (D := (dC, dI)) (ci := 17) (v := .ref (a 25)) (C := RX16) (T := TX16) (N := 56) hx hb hts hi_dm_X16_sweep_X16 hown hK hP 0 rfl rfl 34 (by decide) (hts (.fieldLink RX16 85 "TimeMachineModel$Machine" "isPipe" "[Z") (List.mem_of_getElem? (i := 7) rfl)) (fun _ h9 => h9) rfl dX16_sweep_56 ?_
    refine lv_iload_n hx hb dX16_sweep_59 rfl (lv_at hl 1 rfl) ?_
    refine lv_aload_n hx hb dX16_sweep_60 rfl (lv_at hl 0 rfl) ?_
    refine va_get (D := (dC, dI)) (ci := 17) (v := .ref (a 25)) (C := RX16) (T := TX16) (N := 56) hx hb hts hi_dm_X16_sweep_X16 hown hK hP 0 rfl rfl 34 (by decide) (hts (.fieldLink RX16 85 "TimeMachineModel$Machine" "isPipe" "[Z") (List.mem_of_getElem? (i := 7) rfl)) (fun _ h9 => h9) rfl dX16_sweep_61 ?_
    refine lv_iload_n hx hb dX16_sweep_64 rfl (lv_at hl 1 rfl) ?_
    obtain ⟨i15, h⟩ := nd_ck_e h
    refine va_zald (i := x1) hx hb hK hP 25 24 rfl rfl i15 dX16_sweep_65 ?_
    refine lv_if_eq (tgt := 89) hx hb dX16_sweep_66 (by decide) (fun c16 => ?_) (fun c16 => ?_)
    · have h := nd_pos h c16
      exact (db_X16_sweep_89 C K J49) (x1) (x1) s0 _ _ _ h hP hD hS (lv_sub hl [0, 1] rfl)
    · have h := nd_neg h c16
      refine lv_aload_n hx hb dX16_sweep_69 rfl (lv_at hl 0 rfl) ?_
      refine lv_iconst (v := 1) hx hb dX16_sweep_70 (by decide) ?_
      refine lv_iload_n hx hb dX16_sweep_71 rfl (lv_at hl 1 rfl) ?_
      obtain ⟨q20, s21, hq, h⟩ := nd_b2_e h
      have hPc := hP
      have hDc := hD
      have hKc := hK
      have hFc := nd_rs hD hS hA
      refine nd_cVi (As := [.int 1, .int x1]) (rest := [.int x1, .ref (a 25)]) (q := q20) (w' := dw_X16 a ac s21) ⟨hx, hb, hml, hown, hts⟩ (fun sz => dm_X16_ends l hlt dC dI a ac n (1) (x1) s0 hq sz) (cwV 2 hts gi_dm_X16_sweep_0 rfl rfl rfl (by decide +kernel) ⟨Nat.le_of_ble_eq_true rfl, Nat.le_of_ble_eq_true rfl⟩) hPc hDc hKc hS hA hN (va_recv hKc hPc (ci := 17) (q0 := 0) rfl rfl) rfl hl.1 rfl (Nat.le_of_ble_eq_true rfl) dX16_sweep_72 (fun H locs hP1 hD1 hk1 hS => ?_)
      have hP := hP1
      have hD := hD1.weaken (fun k q _ h => hFc q.1 h)
      refine lv_aload_n hx hb dX16_sweep_75 rfl (lv_at hl 0 rfl) ?_
      refine lv_iconst (v := 2) hx hb dX16_sweep_76 (by decide) ?_
      refine lv_iload_n hx hb dX16_sweep_77 rfl (lv_at hl 1 rfl) ?_
      obtain ⟨q23, s24, hq, h⟩ := nd_b2_e h
      have hPc := hP
      have hDc := hD
      have hKc := hK
      have hFc := nd_rs hD hS hA
      refine nd_cVi (As := [.int 2, .int x1]) (rest := [.int q20, .int x1, .ref (a 25)]) (q := q23) (w' := dw_X16 a ac s24) ⟨hx, hb, hml, hown, hts⟩ (fun sz => dm_X16_ends l hlt dC dI a ac n (2) (x1) s21 hq sz) (cwV 2 hts gi_dm_X16_sweep_0 rfl rfl rfl (by decide +kernel) ⟨Nat.le_of_ble_eq_true rfl, Nat.le_of_ble_eq_true rfl⟩) hPc hDc hKc hS hA hN (va_recv hKc hPc (ci := 17) (q0 := 0) rfl rfl) rfl hl.1 rfl (Nat.le_of_ble_eq_true rfl) dX16_sweep_78 (fun H locs hP1 hD1 hk1 hS => ?_)
      have hP := hP1
      have hD := hD1.weaken (fun k q _ h => hFc q.1 h)
      refine lv_iadd hx hb dX16_sweep_81 ?_
      refine lv_if_le (tgt := 89) hx hb dX16_sweep_82 (by decide) (fun c26 => ?_) (fun c26 => ?_)
      · have h := nd_pos h c26
        exact (db_X16_sweep_89 C K J49) (x1) (x1) s24 _ _ _ h hP hD hS (lv_sub hl [0, 1] rfl)
      · have h := nd_neg h c26
        refine lv_iconst (v := 1) hx hb dX16_sweep_85 (by decide) ?_
        refine lv_goto (tgt := 90) hx hb dX16_sweep_86 (by decide) ?_
        exact (db_X16_sweep_90 C K J49) (x1) (x1) (1) s24 _ _ _ h hP hD hS (lv_sub hl [0, 1] rfl)
set_option maxHeartbeats 40000000 in
set_option maxRecDepth 100000 in
theorem db_X16_sweep_49 {p : Program} {l : Launch} {e : Env} {s : State} {m : MethodId} {args : Array Value} {below : List Frame} {meth : Method} {c : Code} {Q : State → Prop} {A : Nat → Prop} {dC : Nat → ClassId} {dI : Nat → Nat → Nat} {a : Nat → Nat} {ac : Nat → ClassId} {n : Nat} {r : St × (St)} (C : nd_C p l s m args c A (dC, dI) cX16_sweep 2 RX16 ow_dm_X16_sweep (dk_X16 ac)) (K : nd_Kv p l e (headSpec ow_dm_X16_sweep ({ frames := 1, cells := 0, slots := 0, locals := 24 })).room s m args below meth c Q A (dC, dI) cX16_sweep (St × (St)) (dw_X16 a ac) r) (k : Nat) : dj_X16_sweep_49 p l e s m args below meth c Q A dC dI a ac (df_X16_sweep_49 n k) r := by
  induction k with
  | zero => intro x1 s0 H locs ls h; exact nomatch (show (none : Option (St × (St))) = some r from h)
  | succ k ih => exact dB_X16_sweep_49 C K ih
set_option maxHeartbeats 40000000 in
set_option maxRecDepth 100000 in
theorem db_X16_sweep_40 {p : Program} {l : Launch} {e : Env} {s : State} {m : MethodId} {args : Array Value} {below : List Frame} {meth : Method} {c : Code} {Q : State → Prop} {A : Nat → Prop} {dC : Nat → ClassId} {dI : Nat → Nat → Nat} {a : Nat → Nat} {ac : Nat → ClassId} {n : Nat} {r : St × (St)} (C : nd_C p l s m args c A (dC, dI) cX16_sweep 2 RX16 ow_dm_X16_sweep (dk_X16 ac)) (K : nd_Kv p l e (headSpec ow_dm_X16_sweep ({ frames := 1, cells := 0, slots := 0, locals := 24 })).room s m args below meth c Q A (dC, dI) cX16_sweep (St × (St)) (dw_X16 a ac) r) {g2 : Int32 → (St × (St)) → Option (St × (St))} (J2 : dj_X16_sweep_2 p l e s m args below meth c Q A dC dI a ac g2 r) : dj_X16_sweep_40 p l e s m args below meth c Q A dC dI a ac (df_X16_sweep_40 n g2) r := by
  obtain ⟨hlt, hx, hb, hml, hown, hts, hN, hA, hK⟩ := id C
  intro x1 y1 y2 s0 H locs ls h hP hD hS hl
  unfold df_X16_sweep_40 at h
  obtain ⟨i29, h⟩ := nd_ck_e h
  refine va_iast (i := y1) (x := y2) hx hb hK hP hD hS 21 20 rfl rfl i29 dX16_sweep_40 (fun H locs hP hD hS => ?_)
  obtain ⟨s30, es30, h⟩ := nd_let_e h
  have hP : va_P (dC, dI) vwCl (dw_X16 a ac s30) H := by rw [es30]; exact hP
  have hD : va_D A (dw_X16 a ac s30) := by rw [es30]; exact hD
  obtain ⟨z31, ez31, h⟩ := nd_let_e h
  refine lv_iinc (v := z31) (lv' := [(1, .int z31), (0, .ref (a 0))]) hx hb dX16_sweep_41 hl (k := 1) rfl (by rw [ez31]) (by decide) rfl (fun ls hl => ?_)
  refine lv_goto (tgt := 2) hx hb dX16_sweep_44 (by decide) ?_
  exact (J2) (z31) s30 _ _ _ h hP hD hS (lv_sub hl [1, 0] rfl)
set_option maxHeartbeats 40000000 in
set_option maxRecDepth 100000 in
theorem db_X16_sweep_39 {p : Program} {l : Launch} {e : Env} {s : State} {m : MethodId} {args : Array Value} {below : List Frame} {meth : Method} {c : Code} {Q : State → Prop} {A : Nat → Prop} {dC : Nat → ClassId} {dI : Nat → Nat → Nat} {a : Nat → Nat} {ac : Nat → ClassId} {n : Nat} {r : St × (St)} (C : nd_C p l s m args c A (dC, dI) cX16_sweep 2 RX16 ow_dm_X16_sweep (dk_X16 ac)) (K : nd_Kv p l e (headSpec ow_dm_X16_sweep ({ frames := 1, cells := 0, slots := 0, locals := 24 })).room s m args below meth c Q A (dC, dI) cX16_sweep (St × (St)) (dw_X16 a ac) r) {g2 : Int32 → (St × (St)) → Option (St × (St))} (J2 : dj_X16_sweep_2 p l e s m args below meth c Q A dC dI a ac g2 r) : dj_X16_sweep_39 p l e s m args below meth c Q A dC dI a ac (df_X16_sweep_39 n g2) r := by
  obtain ⟨hlt, hx, hb, hml, hown, hts, hN, hA, hK⟩ := id C
  intro x1 y1 s0 H locs ls h hP hD hS hl
  unfold df_X16_sweep_39 at h
  refine lv_iconst (v := 0) hx hb dX16_sweep_39 (by decide) ?_
  exact (db_X16_sweep_40 C K J2) (x1) (y1) (0) s0 _ _ _ h hP hD hS (lv_sub hl [0, 1] rfl)
set_option maxHeartbeats 40000000 in
set_option maxRecDepth 100000 in
theorem dB_X16_sweep_2 {p : Program} {l : Launch} {e : Env} {s : State} {m : MethodId} {args : Array Value} {below : List Frame} {meth : Method} {c : Code} {Q : State → Prop} {A : Nat → Prop} {dC : Nat → ClassId} {dI : Nat → Nat → Nat} {a : Nat → Nat} {ac : Nat → ClassId} {n : Nat} {r : St × (St)} (C : nd_C p l s m args c A (dC, dI) cX16_sweep 2 RX16 ow_dm_X16_sweep (dk_X16 ac)) (K : nd_Kv p l e (headSpec ow_dm_X16_sweep ({ frames := 1, cells := 0, slots := 0, locals := 24 })).room s m args below meth c Q A (dC, dI) cX16_sweep (St × (St)) (dw_X16 a ac) r) {g2 : Int32 → (St × (St)) → Option (St × (St))} (J2 : dj_X16_sweep_2 p l e s m args below meth c Q A dC dI a ac g2 r) : dj_X16_sweep_2 p l e s m args below meth c Q A dC dI a ac (dF_X16_sweep_2 n g2) r := by
  obtain ⟨hlt, hx, hb, hml, hown, hts, hN, hA, hK⟩ := id C
  intro x1 s0 H locs ls h hP hD hS hl
  unfold dF_X16_sweep_2 at h
  refine lv_iload_n hx hb dX16_sweep_2 rfl (lv_at hl 1 rfl) ?_
  refine lv_bipush (v := 48) hx hb dX16_sweep_3 (by decide) ?_
  refine lv_icmp_ge (tgt := 47) hx hb dX16_sweep_5 (by decide) (fun c1 => ?_) (fun c1 => ?_)
  · have h := nd_pos h c1
    refine lv_iconst (v := 0) hx hb dX16_sweep_47 (by decide) ?_
    refine lv_istore_n (lv' := [(1, .int 0), (0, .ref (a 0))]) hx hb dX16_sweep_48 rfl hl (by decide) rfl (fun ls hl => ?_)
    exact (db_X16_sweep_49 C K n) (0) s0 _ _ _ h hP hD hS (lv_sub hl [1, 0] rfl)
  · have h := nd_neg h c1
    refine lv_aload_n hx hb dX16_sweep_8 rfl (lv_at hl 0 rfl) ?_
    refine va_get (D := (dC, dI)) (ci := 17) (v := .ref (a 21)) (C := RX16) (T := TX16) (N := 56) hx hb hts hi_dm_X16_sweep_X16 hown hK hP 0 rfl rfl 30 (by decide) (hts (.fieldLink RX16 73 "TimeMachineModel$Machine" "kind" "[I") (List.mem_of_getElem? (i := 8) rfl)) (fun _ h9 => h9) rfl dX16_sweep_9 ?_
    refine lv_iload_n hx hb dX16_sweep_12 rfl (lv_at hl 1 rfl) ?_
    refine lv_aload_n hx hb dX16_sweep_13 rfl (lv_at hl 0 rfl) ?_
    refine va_get (D := (dC, dI)) (ci := 17) (v := .ref (a 21)) (C := RX16) (T := TX16) (N := 56) hx hb hts hi_dm_X16_sweep_X16 hown hK hP 0 rfl rfl 30 (by decide) (hts (.fieldLink RX16 73 "TimeMachineModel$Machine" "kind" "[I") (List.mem_of_getElem? (i := 8) rfl)) (fun _ h9 => h9) rfl dX16_sweep_14 ?_
    refine lv_iload_n hx hb dX16_sweep_17 rfl (lv_at hl 1 rfl) ?_
    obtain ⟨i27, h⟩ := nd_ck_e h
    refine va_iald (i := x1) hx hb hK hP 21 20 rfl rfl i27 dX16_sweep_18 ?_
    refine lv_if_le (tgt := 39) hx hb dX16_sweep_19 (by decide) (fun c28 => ?_) (fun c28 => ?_)
    · have h := nd_pos h c28
      exact (db_X16_sweep_39 C K J2) (x1) (x1) s0 _ _ _ h hP hD hS (lv_sub hl [0, 1] rfl)
    · have h := nd_neg h c28
      refine lv_aload_n hx hb dX16_sweep_22 rfl (lv_at hl 0 rfl) ?_
      refine lv_iload_n hx hb dX16_sweep_23 rfl (lv_at hl 1 rfl) ?_
      obtain ⟨q32, s33, hq, h⟩ := nd_b2_e h
      have hPc := hP
      have hDc := hD
      have hKc := hK
      have hFc := nd_rs hD hS hA
      refine nd_cVi (As := [.int x1]) (rest := [.int x1, .ref (a 21)]) (q := q32) (w' := dw_X16 a ac s33) ⟨hx, hb, hml, hown, hts⟩ (fun sz => dm_X16_held l hlt dC dI a ac n (x1) s0 hq sz) (cwV 1 hts gi_dm_X16_sweep_1 rfl rfl rfl (by decide +kernel) ⟨Nat.le_of_ble_eq_true rfl, Nat.le_of_ble_eq_true rfl⟩) hPc hDc hKc hS hA hN (va_recv hKc hPc (ci := 17) (q0 := 0) rfl rfl) rfl hl.1 rfl (Nat.le_of_ble_eq_true rfl) dX16_sweep_24 (fun H locs hP1 hD1 hk1 hS => ?_)
      have hP := hP1
      have hD := hD1.weaken (fun k q _ h => hFc q.1 h)
      refine lv_if_le (tgt := 39) hx hb dX16_sweep_27 (by decide) (fun c35 => ?_) (fun c35 => ?_)
      · have h := nd_pos h c35
        exact (db_X16_sweep_39 C K J2) (x1) (x1) s33 _ _ _ h hP hD hS (lv_sub hl [0, 1] rfl)
      · have h := nd_neg h c35
        refine lv_aload_n hx hb dX16_sweep_30 rfl (lv_at hl 0 rfl) ?_
        refine va_get (D := (dC, dI)) (ci := 17) (v := .ref (a 21)) (C := RX16) (T := TX16) (N := 56) hx hb hts hi_dm_X16_sweep_X16 hown hK hP 0 rfl rfl 30 (by decide) (hts (.fieldLink RX16 73 "TimeMachineModel$Machine" "kind" "[I") (List.mem_of_getElem? (i := 8) rfl)) (fun _ h9 => h9) rfl dX16_sweep_31 ?_
        refine lv_iload_n hx hb dX16_sweep_34 rfl (lv_at hl 1 rfl) ?_
        obtain ⟨i36, h⟩ := nd_ck_e h
        refine va_iald (i := x1) hx hb hK hP 21 20 rfl rfl i36 dX16_sweep_35 ?_
        refine lv_goto (tgt := 40) hx hb dX16_sweep_36 (by decide) ?_
        exact (db_X16_sweep_40 C K J2) (x1) (x1) ((sR s33.1 19 (Int32.toNatClampNeg x1))) s33 _ _ _ h hP hD hS (lv_sub hl [0, 1] rfl)
set_option maxHeartbeats 40000000 in
set_option maxRecDepth 100000 in
theorem db_X16_sweep_2 {p : Program} {l : Launch} {e : Env} {s : State} {m : MethodId} {args : Array Value} {below : List Frame} {meth : Method} {c : Code} {Q : State → Prop} {A : Nat → Prop} {dC : Nat → ClassId} {dI : Nat → Nat → Nat} {a : Nat → Nat} {ac : Nat → ClassId} {n : Nat} {r : St × (St)} (C : nd_C p l s m args c A (dC, dI) cX16_sweep 2 RX16 ow_dm_X16_sweep (dk_X16 ac)) (K : nd_Kv p l e (headSpec ow_dm_X16_sweep ({ frames := 1, cells := 0, slots := 0, locals := 24 })).room s m args below meth c Q A (dC, dI) cX16_sweep (St × (St)) (dw_X16 a ac) r) (k : Nat) : dj_X16_sweep_2 p l e s m args below meth c Q A dC dI a ac (df_X16_sweep_2 n k) r := by
  induction k with
  | zero => intro x1 s0 H locs ls h; exact nomatch (show (none : Option (St × (St))) = some r from h)
  | succ k ih => exact dB_X16_sweep_2 C K ih
set_option maxHeartbeats 40000000 in
set_option maxRecDepth 100000 in
theorem db_X16_sweep_0 {p : Program} {l : Launch} {e : Env} {s : State} {m : MethodId} {args : Array Value} {below : List Frame} {meth : Method} {c : Code} {Q : State → Prop} {A : Nat → Prop} {dC : Nat → ClassId} {dI : Nat → Nat → Nat} {a : Nat → Nat} {ac : Nat → ClassId} {n : Nat} {r : St × (St)} (C : nd_C p l s m args c A (dC, dI) cX16_sweep 2 RX16 ow_dm_X16_sweep (dk_X16 ac)) (K : nd_Kv p l e (headSpec ow_dm_X16_sweep ({ frames := 1, cells := 0, slots := 0, locals := 24 })).room s m args below meth c Q A (dC, dI) cX16_sweep (St × (St)) (dw_X16 a ac) r) : dj_X16_sweep_0 p l e s m args below meth c Q A dC dI a ac (df_X16_sweep_0 n) r := by
  obtain ⟨hlt, hx, hb, hml, hown, hts, hN, hA, hK⟩ := id C
  intro s0 H locs ls h hP hD hS hl
  unfold df_X16_sweep_0 at h
  refine lv_iconst (v := 0) hx hb dX16_sweep_0 (by decide) ?_
  refine lv_istore_n (lv' := [(1, .int 0), (0, .ref (a 0))]) hx hb dX16_sweep_1 rfl hl (by decide) rfl (fun ls hl => ?_)
  exact (db_X16_sweep_2 C K n) (0) s0 _ _ _ h hP hD hS (lv_sub hl [1, 0] rfl)
set_option maxHeartbeats 40000000 in
set_option maxRecDepth 100000 in
theorem dm_X16_sweep (l : Launch) (hlt : l.stackTraces = false) (dC : Nat → ClassId) (dI : Nat → Nat → Nat) (a : Nat → Nat) (ac : Nat → ClassId) (n : Nat) (s0 : St × (St)) {r : St × (St)} (h : df_X16_sweep n s0 = some r) (sz : Nat) : Met l yX16_sweep ow_dm_X16_sweep ({ frames := 1, cells := 0, slots := 0, locals := 24 }) (va_Pc [.ref (a 0)] (fun U => U.heap.size = sz ∧ va_P (dC, dI) vwCl (dw_X16 a ac s0) U.heap ∧ va_K (dC, dI) vwCl (dk_X16 ac) U ∧ va_D (fun _ => True) (dw_X16 a ac s0) ∧ nv_E (va_A (dw_X16 a ac s0) sz) U)) (va_Qv (fun _ => True) (fun (_ : Unit) t => va_P (dC, dI) vwCl (dw_X16 a ac r) t.heap ∧ va_K (dC, dI) vwCl (dk_X16 ac) t ∧ va_D (va_A (dw_X16 a ac s0) sz) (dw_X16 a ac r)) (va_A (dw_X16 a ac s0) sz)) 0 0 (va_A (dw_X16 a ac s0) sz) := by
  refine Met.ofW (cc := cX16_sweep) (maxL := 2) (ret := none) (by decide) rfl ?_
  intro p e s m args below meth c s₁ B hml hv
  obtain ⟨rfl, hsz, hP, hK, hD0, hN⟩ := hv
  have hx := B.exec
  have hb := B.bytes
  have hr := B.returns
  have hts := atoms_spec (ws := ow_dm_X16_sweep) B.pre
  have hown : s.vm.findClass RX16 = some m.cls := findClass_of_methodNamed B.named
  have hlocks := B.notSynchronized
  subst hsz
  have hD := hD0.self (sz := s.heap.size)
  generalize hAe : va_A (dw_X16 a ac s0) s.heap.size = A at hD hN ⊢
  have hA : ∀ q : Nat, s.heap.size ≤ q → A q := fun q h => by rw [← hAe]; exact Or.inr h
  have hl := lv_entry ([.ref (a 0)]) (n := 2) (Nat.le_of_ble_eq_true rfl)
  rw [lg_entry_eq]
  generalize (lg_sl ([.ref (a 0)]) ++ List.replicate (2 - (lg_sl ([.ref (a 0)])).length) Slot.unset).toArray = ls at hl ⊢
  have hl : lv_has ls 2 [(0, .ref (a 0))] := hl
  exact db_X16_sweep_0 (dC := dC) (dI := dI) (a := a) (ac := ac) (n := n) (r := r) ⟨hlt, hx, hb, hml, hown, hts, hN, hA, hK⟩ (fun pc τ H locs ls d er hP hD hS => by subst er; exact W.vret hx hb hr (fun t ht hW => ⟨⟨(), rfl, trivial, by rw [ht]; exact hP, va_K.moved hW.alike hK, hD⟩, hS.F ht⟩) hS.2.2 d) s0 _ _ _ h hP hD va_S.rf (lv_sub hl [0] rfl)
def ow_dm_X16_openings : List Cond := .code yX16_openings cX16_openings 3 (some .int) :: ([.fieldLink RX16 73 "TimeMachineModel$Machine" "kind" "[I"] ++ (u_ws RX16 TX16 56 ++ []))
theorem gd_dm_X16_openings : ∀ w ∈ ow_dm_X16_openings, (w.onTables && w.keeps) = true ∨ ∃ ty, w = Cond.arrayClass ty := List.forall_mem_cons.mpr ⟨good_of_word rfl, List.forall_mem_append.mpr ⟨fun w h => good_of_word (List.all_eq_true.mp (by decide +kernel) w h), List.forall_mem_append.mpr ⟨gu_X16, fun _ h => nomatch h⟩⟩⟩
theorem hi_dm_X16_openings_X16 : ∀ w ∈ u_ws RX16 TX16 56, w ∈ ow_dm_X16_openings := fun w h => List.mem_cons_of_mem _ (List.mem_append_right _ (List.mem_append_left _ h))
def dj_X16_openings_26 (p : Program) (l : Launch) (e : Env) (s : State) (m : MethodId) (args : Array Value) (below : List Frame) (meth : Method) (c : Code) (Q : State → Prop) (A : Nat → Prop) (dC : Nat → ClassId) (dI : Nat → Nat → Nat) (a : Nat → Nat) (ac : Nat → ClassId) (g : Int32 → Int32 → (St × (St)) → Option (Int32 × (St × (St)))) (r : Int32 × (St × (St))) : Prop := ∀ (x2 : Int32) (y0 : Int32) (s0 : St × (St)) (H : Heap) (locs : List Loc) (ls : Array Slot), g x2 y0 s0 = some r → va_P (dC, dI) vwCl (dw_X16 a ac s0) H → va_D A (dw_X16 a ac s0) → va_S A s.heap H locs → lv_has ls 3 [(0, .ref (a 0)), (2, .int x2)] → W p l e (headSpec ow_dm_X16_openings ({ frames := 0, cells := 0, slots := 0, locals := 0 })).room s m args below meth c H locs 0 0 Q (F0 m 26 ls [.int y0])
def dj_X16_openings_4 (p : Program) (l : Launch) (e : Env) (s : State) (m : MethodId) (args : Array Value) (below : List Frame) (meth : Method) (c : Code) (Q : State → Prop) (A : Nat → Prop) (dC : Nat → ClassId) (dI : Nat → Nat → Nat) (a : Nat → Nat) (ac : Nat → ClassId) (g : Int32 → Int32 → (St × (St)) → Option (Int32 × (St × (St)))) (r : Int32 × (St × (St))) : Prop := ∀ (x1 : Int32) (x2 : Int32) (s0 : St × (St)) (H : Heap) (locs : List Loc) (ls : Array Slot), g x1 x2 s0 = some r → va_P (dC, dI) vwCl (dw_X16 a ac s0) H → va_D A (dw_X16 a ac s0) → va_S A s.heap H locs → lv_has ls 3 [(0, .ref (a 0)), (1, .int x1), (2, .int x2)] → W p l e (headSpec ow_dm_X16_openings ({ frames := 0, cells := 0, slots := 0, locals := 0 })).room s m args below meth c H locs 0 0 Q (F0 m 4 ls [])
def dj_X16_openings_0 (p : Program) (l : Launch) (e : Env) (s : State) (m : MethodId) (args : Array Value) (below : List Frame) (meth : Method) (c : Code) (Q : State → Prop) (A : Nat → Prop) (dC : Nat → ClassId) (dI : Nat → Nat → Nat) (a : Nat → Nat) (ac : Nat → ClassId) (g : (St × (St)) → Option (Int32 × (St × (St)))) (r : Int32 × (St × (St))) : Prop := ∀ (s0 : St × (St)) (H : Heap) (locs : List Loc) (ls : Array Slot), g s0 = some r → va_P (dC, dI) vwCl (dw_X16 a ac s0) H → va_D A (dw_X16 a ac s0) → va_S A s.heap H locs → lv_has ls 3 [(0, .ref (a 0))] → W p l e (headSpec ow_dm_X16_openings ({ frames := 0, cells := 0, slots := 0, locals := 0 })).room s m args below meth c H locs 0 0 Q (F0 m 0 ls [])
set_option maxHeartbeats 40000000 in
set_option maxRecDepth 100000 in
theorem db_X16_openings_26 {p : Program} {l : Launch} {e : Env} {s : State} {m : MethodId} {args : Array Value} {below : List Frame} {meth : Method} {c : Code} {Q : State → Prop} {A : Nat → Prop} {dC : Nat → ClassId} {dI : Nat → Nat → Nat} {a : Nat → Nat} {ac : Nat → ClassId} {n : Nat} {r : Int32 × (St × (St))} (C : nd_C p l s m args c A (dC, dI) cX16_openings 3 RX16 ow_dm_X16_openings (dk_X16 ac)) (K : nd_Ki p l e (headSpec ow_dm_X16_openings ({ frames := 0, cells := 0, slots := 0, locals := 0 })).room s m args below meth c Q A (dC, dI) cX16_openings .int (St × (St)) (dw_X16 a ac) r) {g4 : Int32 → Int32 → (St × (St)) → Option (Int32 × (St × (St)))} (J4 : dj_X16_openings_4 p l e s m args below meth c Q A dC dI a ac g4 r) : dj_X16_openings_26 p l e s m args below meth c Q A dC dI a ac (df_X16_openings_26 n g4) r := by
  obtain ⟨hlt, hx, hb, hml, hown, hts, hN, hA, hK⟩ := id C
  intro x2 y0 s0 H locs ls h hP hD hS hl
  unfold df_X16_openings_26 at h
  refine lv_istore_n (lv' := [(1, .int y0), (0, .ref (a 0)), (2, .int x2)]) hx hb dX16_openings_26 rfl hl (by decide) rfl (fun ls hl => ?_)
  obtain ⟨z4, ez4, h⟩ := nd_let_e h
  refine lv_iinc (v := z4) (lv' := [(2, .int z4), (1, .int y0), (0, .ref (a 0))]) hx hb dX16_openings_27 hl (k := 2) rfl (by rw [ez4]) (by decide) rfl (fun ls hl => ?_)
  refine lv_goto (tgt := 4) hx hb dX16_openings_30 (by decide) ?_
  exact (J4) (y0) (z4) s0 _ _ _ h hP hD hS (lv_sub hl [2, 1, 0] rfl)
set_option maxHeartbeats 40000000 in
set_option maxRecDepth 100000 in
theorem dB_X16_openings_4 {p : Program} {l : Launch} {e : Env} {s : State} {m : MethodId} {args : Array Value} {below : List Frame} {meth : Method} {c : Code} {Q : State → Prop} {A : Nat → Prop} {dC : Nat → ClassId} {dI : Nat → Nat → Nat} {a : Nat → Nat} {ac : Nat → ClassId} {n : Nat} {r : Int32 × (St × (St))} (C : nd_C p l s m args c A (dC, dI) cX16_openings 3 RX16 ow_dm_X16_openings (dk_X16 ac)) (K : nd_Ki p l e (headSpec ow_dm_X16_openings ({ frames := 0, cells := 0, slots := 0, locals := 0 })).room s m args below meth c Q A (dC, dI) cX16_openings .int (St × (St)) (dw_X16 a ac) r) {g4 : Int32 → Int32 → (St × (St)) → Option (Int32 × (St × (St)))} (J4 : dj_X16_openings_4 p l e s m args below meth c Q A dC dI a ac g4 r) : dj_X16_openings_4 p l e s m args below meth c Q A dC dI a ac (dF_X16_openings_4 n g4) r := by
  obtain ⟨hlt, hx, hb, hml, hown, hts, hN, hA, hK⟩ := id C
  intro x1 x2 s0 H locs ls h hP hD hS hl
  unfold dF_X16_openings_4 at h
  refine lv_iload_n hx hb dX16_openings_4 rfl (lv_at hl 2 rfl) ?_
  refine lv_bipush (v := 48) hx hb dX16_openings_5 (by decide) ?_
  refine lv_icmp_ge (tgt := 33) hx hb dX16_openings_7 (by decide) (fun c1 => ?_) (fun c1 => ?_)
  · have h := nd_pos h c1
    refine lv_iload_n hx hb dX16_openings_33 rfl (lv_at hl 1 rfl) ?_
    exact K _ _ _ _ _ _ dX16_openings_34 rfl (Option.some.inj h).symm hP hD hS
  · have h := nd_neg h c1
    refine lv_aload_n hx hb dX16_openings_10 rfl (lv_at hl 0 rfl) ?_
    refine va_get (D := (dC, dI)) (ci := 17) (v := .ref (a 21)) (C := RX16) (T := TX16) (N := 56) hx hb hts hi_dm_X16_openings_X16 hown hK hP 0 rfl rfl 30 (by decide) (hts (.fieldLink RX16 73 "TimeMachineModel$Machine" "kind" "[I") (List.mem_of_getElem? (i := 1) rfl)) (fun _ h9 => h9) rfl dX16_openings_11 ?_
    refine lv_iload_n hx hb dX16_openings_14 rfl (lv_at hl 2 rfl) ?_
    obtain ⟨i2, h⟩ := nd_ck_e h
    refine va_iald (i := x2) hx hb hK hP 21 20 rfl rfl i2 dX16_openings_15 ?_
    refine lv_if_le (tgt := 25) hx hb dX16_openings_16 (by decide) (fun c3 => ?_) (fun c3 => ?_)
    · have h := nd_pos h c3
      refine lv_iload_n hx hb dX16_openings_25 rfl (lv_at hl 1 rfl) ?_
      exact (db_X16_openings_26 C K J4) (x2) (x1) s0 _ _ _ h hP hD hS (lv_sub hl [0, 2] rfl)
    · have h := nd_neg h c3
      refine lv_iload_n hx hb dX16_openings_19 rfl (lv_at hl 1 rfl) ?_
      refine lv_iconst (v := 1) hx hb dX16_openings_20 (by decide) ?_
      refine lv_iadd hx hb dX16_openings_21 ?_
      refine lv_goto (tgt := 26) hx hb dX16_openings_22 (by decide) ?_
      exact (db_X16_openings_26 C K J4) (x2) ((x1 + 1)) s0 _ _ _ h hP hD hS (lv_sub hl [0, 2] rfl)
set_option maxHeartbeats 40000000 in
set_option maxRecDepth 100000 in
theorem db_X16_openings_4 {p : Program} {l : Launch} {e : Env} {s : State} {m : MethodId} {args : Array Value} {below : List Frame} {meth : Method} {c : Code} {Q : State → Prop} {A : Nat → Prop} {dC : Nat → ClassId} {dI : Nat → Nat → Nat} {a : Nat → Nat} {ac : Nat → ClassId} {n : Nat} {r : Int32 × (St × (St))} (C : nd_C p l s m args c A (dC, dI) cX16_openings 3 RX16 ow_dm_X16_openings (dk_X16 ac)) (K : nd_Ki p l e (headSpec ow_dm_X16_openings ({ frames := 0, cells := 0, slots := 0, locals := 0 })).room s m args below meth c Q A (dC, dI) cX16_openings .int (St × (St)) (dw_X16 a ac) r) (k : Nat) : dj_X16_openings_4 p l e s m args below meth c Q A dC dI a ac (df_X16_openings_4 n k) r := by
  induction k with
  | zero => intro x1 x2 s0 H locs ls h; exact nomatch (show (none : Option (Int32 × (St × (St)))) = some r from h)
  | succ k ih => exact dB_X16_openings_4 C K ih
set_option maxHeartbeats 40000000 in
set_option maxRecDepth 100000 in
theorem db_X16_openings_0 {p : Program} {l : Launch} {e : Env} {s : State} {m : MethodId} {args : Array Value} {below : List Frame} {meth : Method} {c : Code} {Q : State → Prop} {A : Nat → Prop} {dC : Nat → ClassId} {dI : Nat → Nat → Nat} {a : Nat → Nat} {ac : Nat → ClassId} {n : Nat} {r : Int32 × (St × (St))} (C : nd_C p l s m args c A (dC, dI) cX16_openings 3 RX16 ow_dm_X16_openings (dk_X16 ac)) (K : nd_Ki p l e (headSpec ow_dm_X16_openings ({ frames := 0, cells := 0, slots := 0, locals := 0 })).room s m args below meth c Q A (dC, dI) cX16_openings .int (St × (St)) (dw_X16 a ac) r) : dj_X16_openings_0 p l e s m args below meth c Q A dC dI a ac (df_X16_openings_0 n) r := by
  obtain ⟨hlt, hx, hb, hml, hown, hts, hN, hA, hK⟩ := id C
  intro s0 H locs ls h hP hD hS hl
  unfold df_X16_openings_0 at h
  refine lv_iconst (v := 0) hx hb dX16_openings_0 (by decide) ?_
  refine lv_istore_n (lv' := [(1, .int 0), (0, .ref (a 0))]) hx hb dX16_openings_1 rfl hl (by decide) rfl (fun ls hl => ?_)
  refine lv_iconst (v := 0) hx hb dX16_openings_2 (by decide) ?_
  refine lv_istore_n (lv' := [(2, .int 0), (1, .int 0), (0, .ref (a 0))]) hx hb dX16_openings_3 rfl hl (by decide) rfl (fun ls hl => ?_)
  exact (db_X16_openings_4 C K n) (0) (0) s0 _ _ _ h hP hD hS (lv_sub hl [2, 1, 0] rfl)
set_option maxHeartbeats 40000000 in
set_option maxRecDepth 100000 in
theorem dm_X16_openings (l : Launch) (hlt : l.stackTraces = false) (dC : Nat → ClassId) (dI : Nat → Nat → Nat) (a : Nat → Nat) (ac : Nat → ClassId) (n : Nat) (s0 : St × (St)) {r : Int32 × (St × (St))} (h : df_X16_openings n s0 = some r) (sz : Nat) : Met l yX16_openings ow_dm_X16_openings ({ frames := 0, cells := 0, slots := 0, locals := 0 }) (va_Pc [.ref (a 0)] (fun U => U.heap.size = sz ∧ va_P (dC, dI) vwCl (dw_X16 a ac s0) U.heap ∧ va_K (dC, dI) vwCl (dk_X16 ac) U ∧ va_D (fun _ => True) (dw_X16 a ac s0) ∧ nv_E (va_A (dw_X16 a ac s0) sz) U)) (va_Qi (fun x _ => x = r.1) (fun (_ : Unit) t => va_P (dC, dI) vwCl (dw_X16 a ac r.2) t.heap ∧ va_K (dC, dI) vwCl (dk_X16 ac) t ∧ va_D (va_A (dw_X16 a ac s0) sz) (dw_X16 a ac r.2)) (va_A (dw_X16 a ac s0) sz)) 0 0 (va_A (dw_X16 a ac s0) sz) := by
  refine Met.ofW (cc := cX16_openings) (maxL := 3) (ret := (some .int)) (by decide) rfl ?_
  intro p e s m args below meth c s₁ B hml hv
  obtain ⟨rfl, hsz, hP, hK, hD0, hN⟩ := hv
  have hx := B.exec
  have hb := B.bytes
  have hr := B.returns
  have hts := atoms_spec (ws := ow_dm_X16_openings) B.pre
  have hown : s.vm.findClass RX16 = some m.cls := findClass_of_methodNamed B.named
  have hlocks := B.notSynchronized
  subst hsz
  have hD := hD0.self (sz := s.heap.size)
  generalize hAe : va_A (dw_X16 a ac s0) s.heap.size = A at hD hN ⊢
  have hA : ∀ q : Nat, s.heap.size ≤ q → A q := fun q h => by rw [← hAe]; exact Or.inr h
  have hl := lv_entry ([.ref (a 0)]) (n := 3) (Nat.le_of_ble_eq_true rfl)
  rw [lg_entry_eq]
  generalize (lg_sl ([.ref (a 0)]) ++ List.replicate (3 - (lg_sl ([.ref (a 0)])).length) Slot.unset).toArray = ls at hl ⊢
  have hl : lv_has ls 3 [(0, .ref (a 0))] := hl
  exact db_X16_openings_0 (dC := dC) (dI := dI) (a := a) (ac := ac) (n := n) (r := r) ⟨hlt, hx, hb, hml, hown, hts, hN, hA, hK⟩ (fun pc v τ H locs ls d z er hP hD hS => by subst er; exact W.zret (v := v) hx hb hr z (fun t ht hW => ⟨⟨v, (), rfl, rfl, by rw [ht]; exact hP, va_K.moved hW.alike hK, hD⟩, hS.F ht⟩) hS.2.2 d) s0 _ _ _ h hP hD va_S.rf (lv_sub hl [0] rfl)
def ow_dm_X16_freeDescriptor : List Cond := .code yX16_freeDescriptor cX16_freeDescriptor 2 (some .int) :: ([.fieldLink RX16 57 "TimeMachineModel$Machine" "descriptor" "[I", .fieldLink RX16 232 "TimeMachineModel$Machine" "p" "I"] ++ (u_ws RX16 TX16 56 ++ []))
theorem gd_dm_X16_freeDescriptor : ∀ w ∈ ow_dm_X16_freeDescriptor, (w.onTables && w.keeps) = true ∨ ∃ ty, w = Cond.arrayClass ty := List.forall_mem_cons.mpr ⟨good_of_word rfl, List.forall_mem_append.mpr ⟨fun w h => good_of_word (List.all_eq_true.mp (by decide +kernel) w h), List.forall_mem_append.mpr ⟨gu_X16, fun _ h => nomatch h⟩⟩⟩
theorem hi_dm_X16_freeDescriptor_X16 : ∀ w ∈ u_ws RX16 TX16 56, w ∈ ow_dm_X16_freeDescriptor := fun w h => List.mem_cons_of_mem _ (List.mem_append_right _ (List.mem_append_left _ h))
def dj_X16_freeDescriptor_43 (p : Program) (l : Launch) (e : Env) (s : State) (m : MethodId) (args : Array Value) (below : List Frame) (meth : Method) (c : Code) (Q : State → Prop) (A : Nat → Prop) (dC : Nat → ClassId) (dI : Nat → Nat → Nat) (a : Nat → Nat) (ac : Nat → ClassId) (g : Int32 → (St × (St)) → Option (Int32 × (St × (St)))) (r : Int32 × (St × (St))) : Prop := ∀ (y0 : Int32) (s0 : St × (St)) (H : Heap) (locs : List Loc) (ls : Array Slot), g y0 s0 = some r → va_P (dC, dI) vwCl (dw_X16 a ac s0) H → va_D A (dw_X16 a ac s0) → va_S A s.heap H locs → lv_has ls 2 [] → W p l e (headSpec ow_dm_X16_freeDescriptor ({ frames := 0, cells := 0, slots := 0, locals := 0 })).room s m args below meth c H locs 0 0 Q (F0 m 43 ls [.int y0])
def dj_X16_freeDescriptor_32 (p : Program) (l : Launch) (e : Env) (s : State) (m : MethodId) (args : Array Value) (below : List Frame) (meth : Method) (c : Code) (Q : State → Prop) (A : Nat → Prop) (dC : Nat → ClassId) (dI : Nat → Nat → Nat) (a : Nat → Nat) (ac : Nat → ClassId) (g : Int32 → (St × (St)) → Option (Int32 × (St × (St)))) (r : Int32 × (St × (St))) : Prop := ∀ (x1 : Int32) (s0 : St × (St)) (H : Heap) (locs : List Loc) (ls : Array Slot), g x1 s0 = some r → va_P (dC, dI) vwCl (dw_X16 a ac s0) H → va_D A (dw_X16 a ac s0) → va_S A s.heap H locs → lv_has ls 2 [(1, .int x1)] → W p l e (headSpec ow_dm_X16_freeDescriptor ({ frames := 0, cells := 0, slots := 0, locals := 0 })).room s m args below meth c H locs 0 0 Q (F0 m 32 ls [])
def dj_X16_freeDescriptor_2 (p : Program) (l : Launch) (e : Env) (s : State) (m : MethodId) (args : Array Value) (below : List Frame) (meth : Method) (c : Code) (Q : State → Prop) (A : Nat → Prop) (dC : Nat → ClassId) (dI : Nat → Nat → Nat) (a : Nat → Nat) (ac : Nat → ClassId) (g : Int32 → (St × (St)) → Option (Int32 × (St × (St)))) (r : Int32 × (St × (St))) : Prop := ∀ (x1 : Int32) (s0 : St × (St)) (H : Heap) (locs : List Loc) (ls : Array Slot), g x1 s0 = some r → va_P (dC, dI) vwCl (dw_X16 a ac s0) H → va_D A (dw_X16 a ac s0) → va_S A s.heap H locs → lv_has ls 2 [(0, .ref (a 0)), (1, .int x1)] → W p l e (headSpec ow_dm_X16_freeDescriptor ({ frames := 0, cells := 0, slots := 0, locals := 0 })).room s m args below meth c H locs 0 0 Q (F0 m 2 ls [])
def dj_X16_freeDescriptor_0 (p : Program) (l : Launch) (e : Env) (s : State) (m : MethodId) (args : Array Value) (below : List Frame) (meth : Method) (c : Code) (Q : State → Prop) (A : Nat → Prop) (dC : Nat → ClassId) (dI : Nat → Nat → Nat) (a : Nat → Nat) (ac : Nat → ClassId) (g : (St × (St)) → Option (Int32 × (St × (St)))) (r : Int32 × (St × (St))) : Prop := ∀ (s0 : St × (St)) (H : Heap) (locs : List Loc) (ls : Array Slot), g s0 = some r → va_P (dC, dI) vwCl (dw_X16 a ac s0) H → va_D A (dw_X16 a ac s0) → va_S A s.heap H locs → lv_has ls 2 [(0, .ref (a 0))] → W p l e (headSpec ow_dm_X16_freeDescriptor ({ frames := 0, cells := 0, slots := 0, locals := 0 })).room s m args below meth c H locs 0 0 Q (F0 m 0 ls [])
set_option maxHeartbeats 40000000 in
set_option maxRecDepth 100000 in
theorem db_X16_freeDescriptor_43 {p : Program} {l : Launch} {e : Env} {s : State} {m : MethodId} {args : Array Value} {below : List Frame} {meth : Method} {c : Code} {Q : State → Prop} {A : Nat → Prop} {dC : Nat → ClassId} {dI : Nat → Nat → Nat} {a : Nat → Nat} {ac : Nat → ClassId} {n : Nat} {r : Int32 × (St × (St))} (C : nd_C p l s m args c A (dC, dI) cX16_freeDescriptor 2 RX16 ow_dm_X16_freeDescriptor (dk_X16 ac)) (K : nd_Ki p l e (headSpec ow_dm_X16_freeDescriptor ({ frames := 0, cells := 0, slots := 0, locals := 0 })).room s m args below meth c Q A (dC, dI) cX16_freeDescriptor .int (St × (St)) (dw_X16 a ac) r) : dj_X16_freeDescriptor_43 p l e s m args below meth c Q A dC dI a ac (df_X16_freeDescriptor_43 n) r := by
  obtain ⟨hlt, hx, hb, hml, hown, hts, hN, hA, hK⟩ := id C
  intro y0 s0 H locs ls h hP hD hS hl
  unfold df_X16_freeDescriptor_43 at h
  exact K _ _ _ _ _ _ dX16_freeDescriptor_43 rfl (Option.some.inj h).symm hP hD hS
set_option maxHeartbeats 40000000 in
set_option maxRecDepth 100000 in
theorem db_X16_freeDescriptor_32 {p : Program} {l : Launch} {e : Env} {s : State} {m : MethodId} {args : Array Value} {below : List Frame} {meth : Method} {c : Code} {Q : State → Prop} {A : Nat → Prop} {dC : Nat → ClassId} {dI : Nat → Nat → Nat} {a : Nat → Nat} {ac : Nat → ClassId} {n : Nat} {r : Int32 × (St × (St))} (C : nd_C p l s m args c A (dC, dI) cX16_freeDescriptor 2 RX16 ow_dm_X16_freeDescriptor (dk_X16 ac)) (K : nd_Ki p l e (headSpec ow_dm_X16_freeDescriptor ({ frames := 0, cells := 0, slots := 0, locals := 0 })).room s m args below meth c Q A (dC, dI) cX16_freeDescriptor .int (St × (St)) (dw_X16 a ac) r) : dj_X16_freeDescriptor_32 p l e s m args below meth c Q A dC dI a ac (df_X16_freeDescriptor_32 n) r := by
  obtain ⟨hlt, hx, hb, hml, hown, hts, hN, hA, hK⟩ := id C
  intro x1 s0 H locs ls h hP hD hS hl
  unfold df_X16_freeDescriptor_32 at h
  refine lv_iload_n hx hb dX16_freeDescriptor_32 rfl (lv_at hl 0 rfl) ?_
  refine lv_bipush (v := 16) hx hb dX16_freeDescriptor_33 (by decide) ?_
  refine lv_icmp_ge (tgt := 42) hx hb dX16_freeDescriptor_35 (by decide) (fun c2 => ?_) (fun c2 => ?_)
  · have h := nd_pos h c2
    refine lv_iconst (v := (-1)) hx hb dX16_freeDescriptor_42 (by decide) ?_
    exact (db_X16_freeDescriptor_43 C K) ((-1)) s0 _ _ _ h hP hD hS (lv_sub hl [] rfl)
  · have h := nd_neg h c2
    refine lv_iload_n hx hb dX16_freeDescriptor_38 rfl (lv_at hl 0 rfl) ?_
    refine lv_goto (tgt := 43) hx hb dX16_freeDescriptor_39 (by decide) ?_
    exact (db_X16_freeDescriptor_43 C K) (x1) s0 _ _ _ h hP hD hS (lv_sub hl [] rfl)
set_option maxHeartbeats 40000000 in
set_option maxRecDepth 100000 in
theorem dB_X16_freeDescriptor_2 {p : Program} {l : Launch} {e : Env} {s : State} {m : MethodId} {args : Array Value} {below : List Frame} {meth : Method} {c : Code} {Q : State → Prop} {A : Nat → Prop} {dC : Nat → ClassId} {dI : Nat → Nat → Nat} {a : Nat → Nat} {ac : Nat → ClassId} {n : Nat} {r : Int32 × (St × (St))} (C : nd_C p l s m args c A (dC, dI) cX16_freeDescriptor 2 RX16 ow_dm_X16_freeDescriptor (dk_X16 ac)) (K : nd_Ki p l e (headSpec ow_dm_X16_freeDescriptor ({ frames := 0, cells := 0, slots := 0, locals := 0 })).room s m args below meth c Q A (dC, dI) cX16_freeDescriptor .int (St × (St)) (dw_X16 a ac) r) {g2 : Int32 → (St × (St)) → Option (Int32 × (St × (St)))} (J2 : dj_X16_freeDescriptor_2 p l e s m args below meth c Q A dC dI a ac g2 r) : dj_X16_freeDescriptor_2 p l e s m args below meth c Q A dC dI a ac (dF_X16_freeDescriptor_2 n g2) r := by
  obtain ⟨hlt, hx, hb, hml, hown, hts, hN, hA, hK⟩ := id C
  intro x1 s0 H locs ls h hP hD hS hl
  unfold dF_X16_freeDescriptor_2 at h
  refine lv_iload_n hx hb dX16_freeDescriptor_2 rfl (lv_at hl 1 rfl) ?_
  refine lv_bipush (v := 16) hx hb dX16_freeDescriptor_3 (by decide) ?_
  refine lv_icmp_ge (tgt := 32) hx hb dX16_freeDescriptor_5 (by decide) (fun c1 => ?_) (fun c1 => ?_)
  · have h := nd_pos h c1
    exact (db_X16_freeDescriptor_32 C K) (x1) s0 _ _ _ h hP hD hS (lv_sub hl [1] rfl)
  · have h := nd_neg h c1
    refine lv_aload_n hx hb dX16_freeDescriptor_8 rfl (lv_at hl 0 rfl) ?_
    refine va_get (D := (dC, dI)) (ci := 17) (v := .ref (a 16)) (C := RX16) (T := TX16) (N := 56) hx hb hts hi_dm_X16_freeDescriptor_X16 hown hK hP 0 rfl rfl 24 (by decide) (hts (.fieldLink RX16 57 "TimeMachineModel$Machine" "descriptor" "[I") (List.mem_of_getElem? (i := 1) rfl)) (fun _ h9 => h9) rfl dX16_freeDescriptor_9 ?_
    refine lv_bipush (v := 16) hx hb dX16_freeDescriptor_12 (by decide) ?_
    refine lv_aload_n hx hb dX16_freeDescriptor_14 rfl (lv_at hl 0 rfl) ?_
    refine va_get (D := (dC, dI)) (ci := 17) (v := .int (sI s0.1 12)) (C := RX16) (T := TX16) (N := 56) hx hb hts hi_dm_X16_freeDescriptor_X16 hown hK hP 0 rfl rfl 51 (by decide) (hts (.fieldLink RX16 232 "TimeMachineModel$Machine" "p" "I") (List.mem_of_getElem? (i := 2) rfl)) (fun _ h9 => h9) rfl dX16_freeDescriptor_15 ?_
    refine lv_imul hx hb dX16_freeDescriptor_18 ?_
    refine lv_iload_n hx hb dX16_freeDescriptor_19 rfl (lv_at hl 1 rfl) ?_
    refine lv_iadd hx hb dX16_freeDescriptor_20 ?_
    obtain ⟨i3, h⟩ := nd_ck_e h
    refine va_iald (i := ((16 * (sI s0.1 12)) + x1)) hx hb hK hP 16 15 rfl rfl i3 dX16_freeDescriptor_21 ?_
    refine lv_iconst (v := (-1)) hx hb dX16_freeDescriptor_22 (by decide) ?_
    refine lv_icmp_eq (tgt := 32) hx hb dX16_freeDescriptor_23 (by decide) (fun c4 => ?_) (fun c4 => ?_)
    · have h := nd_pos h c4
      exact (db_X16_freeDescriptor_32 C K) (x1) s0 _ _ _ h hP hD hS (lv_sub hl [1] rfl)
    · have h := nd_neg h c4
      obtain ⟨z5, ez5, h⟩ := nd_let_e h
      refine lv_iinc (v := z5) (lv' := [(1, .int z5), (0, .ref (a 0))]) hx hb dX16_freeDescriptor_26 hl (k := 1) rfl (by rw [ez5]) (by decide) rfl (fun ls hl => ?_)
      refine lv_goto (tgt := 2) hx hb dX16_freeDescriptor_29 (by decide) ?_
      exact (J2) (z5) s0 _ _ _ h hP hD hS (lv_sub hl [1, 0] rfl)
set_option maxHeartbeats 40000000 in
set_option maxRecDepth 100000 in
theorem db_X16_freeDescriptor_2 {p : Program} {l : Launch} {e : Env} {s : State} {m : MethodId} {args : Array Value} {below : List Frame} {meth : Method} {c : Code} {Q : State → Prop} {A : Nat → Prop} {dC : Nat → ClassId} {dI : Nat → Nat → Nat} {a : Nat → Nat} {ac : Nat → ClassId} {n : Nat} {r : Int32 × (St × (St))} (C : nd_C p l s m args c A (dC, dI) cX16_freeDescriptor 2 RX16 ow_dm_X16_freeDescriptor (dk_X16 ac)) (K : nd_Ki p l e (headSpec ow_dm_X16_freeDescriptor ({ frames := 0, cells := 0, slots := 0, locals := 0 })).room s m args below meth c Q A (dC, dI) cX16_freeDescriptor .int (St × (St)) (dw_X16 a ac) r) (k : Nat) : dj_X16_freeDescriptor_2 p l e s m args below meth c Q A dC dI a ac (df_X16_freeDescriptor_2 n k) r := by
  induction k with
  | zero => intro x1 s0 H locs ls h; exact nomatch (show (none : Option (Int32 × (St × (St)))) = some r from h)
  | succ k ih => exact dB_X16_freeDescriptor_2 C K ih
set_option maxHeartbeats 40000000 in
set_option maxRecDepth 100000 in
theorem db_X16_freeDescriptor_0 {p : Program} {l : Launch} {e : Env} {s : State} {m : MethodId} {args : Array Value} {below : List Frame} {meth : Method} {c : Code} {Q : State → Prop} {A : Nat → Prop} {dC : Nat → ClassId} {dI : Nat → Nat → Nat} {a : Nat → Nat} {ac : Nat → ClassId} {n : Nat} {r : Int32 × (St × (St))} (C : nd_C p l s m args c A (dC, dI) cX16_freeDescriptor 2 RX16 ow_dm_X16_freeDescriptor (dk_X16 ac)) (K : nd_Ki p l e (headSpec ow_dm_X16_freeDescriptor ({ frames := 0, cells := 0, slots := 0, locals := 0 })).room s m args below meth c Q A (dC, dI) cX16_freeDescriptor .int (St × (St)) (dw_X16 a ac) r) : dj_X16_freeDescriptor_0 p l e s m args below meth c Q A dC dI a ac (df_X16_freeDescriptor_0 n) r := by
  obtain ⟨hlt, hx, hb, hml, hown, hts, hN, hA, hK⟩ := id C
  intro s0 H locs ls h hP hD hS hl
  unfold df_X16_freeDescriptor_0 at h
  refine lv_iconst (v := 0) hx hb dX16_freeDescriptor_0 (by decide) ?_
  refine lv_istore_n (lv' := [(1, .int 0), (0, .ref (a 0))]) hx hb dX16_freeDescriptor_1 rfl hl (by decide) rfl (fun ls hl => ?_)
  exact (db_X16_freeDescriptor_2 C K n) (0) s0 _ _ _ h hP hD hS (lv_sub hl [1, 0] rfl)
set_option maxHeartbeats 40000000 in
set_option maxRecDepth 100000 in
theorem dm_X16_freeDescriptor (l : Launch) (hlt : l.stackTraces = false) (dC : Nat → ClassId) (dI : Nat → Nat → Nat) (a : Nat → Nat) (ac : Nat → ClassId) (n : Nat) (s0 : St × (St)) {r : Int32 × (St × (St))} (h : df_X16_freeDescriptor n s0 = some r) (sz : Nat) : Met l yX16_freeDescriptor ow_dm_X16_freeDescriptor ({ frames := 0, cells := 0, slots := 0, locals := 0 }) (va_Pc [.ref (a 0)] (fun U => U.heap.size = sz ∧ va_P (dC, dI) vwCl (dw_X16 a ac s0) U.heap ∧ va_K (dC, dI) vwCl (dk_X16 ac) U ∧ va_D (fun _ => True) (dw_X16 a ac s0) ∧ nv_E (va_A (dw_X16 a ac s0) sz) U)) (va_Qi (fun x _ => x = r.1) (fun (_ : Unit) t => va_P (dC, dI) vwCl (dw_X16 a ac r.2) t.heap ∧ va_K (dC, dI) vwCl (dk_X16 ac) t ∧ va_D (va_A (dw_X16 a ac s0) sz) (dw_X16 a ac r.2)) (va_A (dw_X16 a ac s0) sz)) 0 0 (va_A (dw_X16 a ac s0) sz) := by
  refine Met.ofW (cc := cX16_freeDescriptor) (maxL := 2) (ret := (some .int)) (by decide) rfl ?_
  intro p e s m args below meth c s₁ B hml hv
  obtain ⟨rfl, hsz, hP, hK, hD0, hN⟩ := hv
  have hx := B.exec
  have hb := B.bytes
  have hr := B.returns
  have hts := atoms_spec (ws := ow_dm_X16_freeDescriptor) B.pre
  have hown : s.vm.findClass RX16 = some m.cls := findClass_of_methodNamed B.named
  have hlocks := B.notSynchronized
  subst hsz
  have hD := hD0.self (sz := s.heap.size)
  generalize hAe : va_A (dw_X16 a ac s0) s.heap.size = A at hD hN ⊢
  have hA : ∀ q : Nat, s.heap.size ≤ q → A q := fun q h => by rw [← hAe]; exact Or.inr h
  have hl := lv_entry ([.ref (a 0)]) (n := 2) (Nat.le_of_ble_eq_true rfl)
  rw [lg_entry_eq]
  generalize (lg_sl ([.ref (a 0)]) ++ List.replicate (2 - (lg_sl ([.ref (a 0)])).length) Slot.unset).toArray = ls at hl ⊢
  have hl : lv_has ls 2 [(0, .ref (a 0))] := hl
  exact db_X16_freeDescriptor_0 (dC := dC) (dI := dI) (a := a) (ac := ac) (n := n) (r := r) ⟨hlt, hx, hb, hml, hown, hts, hN, hA, hK⟩ (fun pc v τ H locs ls d z er hP hD hS => by subst er; exact W.zret (v := v) hx hb hr z (fun t ht hW => ⟨⟨v, (), rfl, rfl, by rw [ht]; exact hP, va_K.moved hW.alike hK, hD⟩, hS.F ht⟩) hS.2.2 d) s0 _ _ _ h hP hD va_S.rf (lv_sub hl [0] rfl)
def ow_dm_X16_freeDescriptors : List Cond := .code yX16_freeDescriptors cX16_freeDescriptors 3 (some .int) :: ([.fieldLink RX16 57 "TimeMachineModel$Machine" "descriptor" "[I", .fieldLink RX16 232 "TimeMachineModel$Machine" "p" "I"] ++ (u_ws RX16 TX16 56 ++ []))
theorem gd_dm_X16_freeDescriptors : ∀ w ∈ ow_dm_X16_freeDescriptors, (w.onTables && w.keeps) = true ∨ ∃ ty, w = Cond.arrayClass ty := List.forall_mem_cons.mpr ⟨good_of_word rfl, List.forall_mem_append.mpr ⟨fun w h => good_of_word (List.all_eq_true.mp (by decide +kernel) w h), List.forall_mem_append.mpr ⟨gu_X16, fun _ h => nomatch h⟩⟩⟩
theorem hi_dm_X16_freeDescriptors_X16 : ∀ w ∈ u_ws RX16 TX16 56, w ∈ ow_dm_X16_freeDescriptors := fun w h => List.mem_cons_of_mem _ (List.mem_append_right _ (List.mem_append_left _ h))
def dj_X16_freeDescriptors_35 (p : Program) (l : Launch) (e : Env) (s : State) (m : MethodId) (args : Array Value) (below : List Frame) (meth : Method) (c : Code) (Q : State → Prop) (A : Nat → Prop) (dC : Nat → ClassId) (dI : Nat → Nat → Nat) (a : Nat → Nat) (ac : Nat → ClassId) (g : Int32 → Int32 → (St × (St)) → Option (Int32 × (St × (St)))) (r : Int32 × (St × (St))) : Prop := ∀ (x2 : Int32) (y0 : Int32) (s0 : St × (St)) (H : Heap) (locs : List Loc) (ls : Array Slot), g x2 y0 s0 = some r → va_P (dC, dI) vwCl (dw_X16 a ac s0) H → va_D A (dw_X16 a ac s0) → va_S A s.heap H locs → lv_has ls 3 [(0, .ref (a 0)), (2, .int x2)] → W p l e (headSpec ow_dm_X16_freeDescriptors ({ frames := 0, cells := 0, slots := 0, locals := 0 })).room s m args below meth c H locs 0 0 Q (F0 m 35 ls [.int y0])
def dj_X16_freeDescriptors_4 (p : Program) (l : Launch) (e : Env) (s : State) (m : MethodId) (args : Array Value) (below : List Frame) (meth : Method) (c : Code) (Q : State → Prop) (A : Nat → Prop) (dC : Nat → ClassId) (dI : Nat → Nat → Nat) (a : Nat → Nat) (ac : Nat → ClassId) (g : Int32 → Int32 → (St × (St)) → Option (Int32 × (St × (St)))) (r : Int32 × (St × (St))) : Prop := ∀ (x1 : Int32) (x2 : Int32) (s0 : St × (St)) (H : Heap) (locs : List Loc) (ls : Array Slot), g x1 x2 s0 = some r → va_P (dC, dI) vwCl (dw_X16 a ac s0) H → va_D A (dw_X16 a ac s0) → va_S A s.heap H locs → lv_has ls 3 [(0, .ref (a 0)), (1, .int x1), (2, .int x2)] → W p l e (headSpec ow_dm_X16_freeDescriptors ({ frames := 0, cells := 0, slots := 0, locals := 0 })).room s m args below meth c H locs 0 0 Q (F0 m 4 ls [])
def dj_X16_freeDescriptors_0 (p : Program) (l : Launch) (e : Env) (s : State) (m : MethodId) (args : Array Value) (below : List Frame) (meth : Method) (c : Code) (Q : State → Prop) (A : Nat → Prop) (dC : Nat → ClassId) (dI : Nat → Nat → Nat) (a : Nat → Nat) (ac : Nat → ClassId) (g : (St × (St)) → Option (Int32 × (St × (St)))) (r : Int32 × (St × (St))) : Prop := ∀ (s0 : St × (St)) (H : Heap) (locs : List Loc) (ls : Array Slot), g s0 = some r → va_P (dC, dI) vwCl (dw_X16 a ac s0) H → va_D A (dw_X16 a ac s0) → va_S A s.heap H locs → lv_has ls 3 [(0, .ref (a 0))] → W p l e (headSpec ow_dm_X16_freeDescriptors ({ frames := 0, cells := 0, slots := 0, locals := 0 })).room s m args below meth c H locs 0 0 Q (F0 m 0 ls [])
set_option maxHeartbeats 40000000 in
set_option maxRecDepth 100000 in
theorem db_X16_freeDescriptors_35 {p : Program} {l : Launch} {e : Env} {s : State} {m : MethodId} {args : Array Value} {below : List Frame} {meth : Method} {c : Code} {Q : State → Prop} {A : Nat → Prop} {dC : Nat → ClassId} {dI : Nat → Nat → Nat} {a : Nat → Nat} {ac : Nat → ClassId} {n : Nat} {r : Int32 × (St × (St))} (C : nd_C p l s m args c A (dC, dI) cX16_freeDescriptors 3 RX16 ow_dm_X16_freeDescriptors (dk_X16 ac)) (K : nd_Ki p l e (headSpec ow_dm_X16_freeDescriptors ({ frames := 0, cells := 0, slots := 0, locals := 0 })).room s m args below meth c Q A (dC, dI) cX16_freeDescriptors .int (St × (St)) (dw_X16 a ac) r) {g4 : Int32 → Int32 → (St × (St)) → Option (Int32 × (St × (St)))} (J4 : dj_X16_freeDescriptors_4 p l e s m args below meth c Q A dC dI a ac g4 r) : dj_X16_freeDescriptors_35 p l e s m args below meth c Q A dC dI a ac (df_X16_freeDescriptors_35 n g4) r := by
  obtain ⟨hlt, hx, hb, hml, hown, hts, hN, hA, hK⟩ := id C
  intro x2 y0 s0 H locs ls h hP hD hS hl
  unfold df_X16_freeDescriptors_35 at h
  refine lv_istore_n (lv' := [(1, .int y0), (0, .ref (a 0)), (2, .int x2)]) hx hb dX16_freeDescriptors_35 rfl hl (by decide) rfl (fun ls hl => ?_)
  obtain ⟨z4, ez4, h⟩ := nd_let_e h
  refine lv_iinc (v := z4) (lv' := [(2, .int z4), (1, .int y0), (0, .ref (a 0))]) hx hb dX16_freeDescriptors_36 hl (k := 2) rfl (by rw [ez4]) (by decide) rfl (fun ls hl => ?_)
  refine lv_goto (tgt := 4) hx hb dX16_freeDescriptors_39 (by decide) ?_
  exact (J4) (y0) (z4) s0 _ _ _ h hP hD hS (lv_sub hl [2, 1, 0] rfl)
set_option maxHeartbeats 40000000 in
set_option maxRecDepth 100000 in
theorem dB_X16_freeDescriptors_4 {p : Program} {l : Launch} {e : Env} {s : State} {m : MethodId} {args : Array Value} {below : List Frame} {meth : Method} {c : Code} {Q : State → Prop} {A : Nat → Prop} {dC : Nat → ClassId} {dI : Nat → Nat → Nat} {a : Nat → Nat} {ac : Nat → ClassId} {n : Nat} {r : Int32 × (St × (St))} (C : nd_C p l s m args c A (dC, dI) cX16_freeDescriptors 3 RX16 ow_dm_X16_freeDescriptors (dk_X16 ac)) (K : nd_Ki p l e (headSpec ow_dm_X16_freeDescriptors ({ frames := 0, cells := 0, slots := 0, locals := 0 })).room s m args below meth c Q A (dC, dI) cX16_freeDescriptors .int (St × (St)) (dw_X16 a ac) r) {g4 : Int32 → Int32 → (St × (St)) → Option (Int32 × (St × (St)))} (J4 : dj_X16_freeDescriptors_4 p l e s m args below meth c Q A dC dI a ac g4 r) : dj_X16_freeDescriptors_4 p l e s m args below meth c Q A dC dI a ac (dF_X16_freeDescriptors_4 n g4) r := by
  obtain ⟨hlt, hx, hb, hml, hown, hts, hN, hA, hK⟩ := id C
  intro x1 x2 s0 H locs ls h hP hD hS hl
  unfold dF_X16_freeDescriptors_4 at h
  refine lv_iload_n hx hb dX16_freeDescriptors_4 rfl (lv_at hl 2 rfl) ?_
  refine lv_bipush (v := 16) hx hb dX16_freeDescriptors_5 (by decide) ?_
  refine lv_icmp_ge (tgt := 42) hx hb dX16_freeDescriptors_7 (by decide) (fun c1 => ?_) (fun c1 => ?_)
  · have h := nd_pos h c1
    refine lv_iload_n hx hb dX16_freeDescriptors_42 rfl (lv_at hl 1 rfl) ?_
    exact K _ _ _ _ _ _ dX16_freeDescriptors_43 rfl (Option.some.inj h).symm hP hD hS
  · have h := nd_neg h c1
    refine lv_aload_n hx hb dX16_freeDescriptors_10 rfl (lv_at hl 0 rfl) ?_
    refine va_get (D := (dC, dI)) (ci := 17) (v := .ref (a 16)) (C := RX16) (T := TX16) (N := 56) hx hb hts hi_dm_X16_freeDescriptors_X16 hown hK hP 0 rfl rfl 24 (by decide) (hts (.fieldLink RX16 57 "TimeMachineModel$Machine" "descriptor" "[I") (List.mem_of_getElem? (i := 1) rfl)) (fun _ h9 => h9) rfl dX16_freeDescriptors_11 ?_
    refine lv_bipush (v := 16) hx hb dX16_freeDescriptors_14 (by decide) ?_
    refine lv_aload_n hx hb dX16_freeDescriptors_16 rfl (lv_at hl 0 rfl) ?_
    refine va_get (D := (dC, dI)) (ci := 17) (v := .int (sI s0.1 12)) (C := RX16) (T := TX16) (N := 56) hx hb hts hi_dm_X16_freeDescriptors_X16 hown hK hP 0 rfl rfl 51 (by decide) (hts (.fieldLink RX16 232 "TimeMachineModel$Machine" "p" "I") (List.mem_of_getElem? (i := 2) rfl)) (fun _ h9 => h9) rfl dX16_freeDescriptors_17 ?_
    refine lv_imul hx hb dX16_freeDescriptors_20 ?_
    refine lv_iload_n hx hb dX16_freeDescriptors_21 rfl (lv_at hl 2 rfl) ?_
    refine lv_iadd hx hb dX16_freeDescriptors_22 ?_
    obtain ⟨i2, h⟩ := nd_ck_e h
    refine va_iald (i := ((16 * (sI s0.1 12)) + x2)) hx hb hK hP 16 15 rfl rfl i2 dX16_freeDescriptors_23 ?_
    refine lv_iconst (v := (-1)) hx hb dX16_freeDescriptors_24 (by decide) ?_
    refine lv_icmp_ne (tgt := 34) hx hb dX16_freeDescriptors_25 (by decide) (fun c3 => ?_) (fun c3 => ?_)
    · have h := nd_neg h c3
      refine lv_iload_n hx hb dX16_freeDescriptors_34 rfl (lv_at hl 1 rfl) ?_
      exact (db_X16_freeDescriptors_35 C K J4) (x2) (x1) s0 _ _ _ h hP hD hS (lv_sub hl [0, 2] rfl)
    · have h := nd_pos h c3
      refine lv_iload_n hx hb dX16_freeDescriptors_28 rfl (lv_at hl 1 rfl) ?_
      refine lv_iconst (v := 1) hx hb dX16_freeDescriptors_29 (by decide) ?_
      refine lv_iadd hx hb dX16_freeDescriptors_30 ?_
      refine lv_goto (tgt := 35) hx hb dX16_freeDescriptors_31 (by decide) ?_
      exact (db_X16_freeDescriptors_35 C K J4) (x2) ((x1 + 1)) s0 _ _ _ h hP hD hS (lv_sub hl [0, 2] rfl)
set_option maxHeartbeats 40000000 in
set_option maxRecDepth 100000 in
theorem db_X16_freeDescriptors_4 {p : Program} {l : Launch} {e : Env} {s : State} {m : MethodId} {args : Array Value} {below : List Frame} {meth : Method} {c : Code} {Q : State → Prop} {A : Nat → Prop} {dC : Nat → ClassId} {dI : Nat → Nat → Nat} {a : Nat → Nat} {ac : Nat → ClassId} {n : Nat} {r : Int32 × (St × (St))} (C : nd_C p l s m args c A (dC, dI) cX16_freeDescriptors 3 RX16 ow_dm_X16_freeDescriptors (dk_X16 ac)) (K : nd_Ki p l e (headSpec ow_dm_X16_freeDescriptors ({ frames := 0, cells := 0, slots := 0, locals := 0 })).room s m args below meth c Q A (dC, dI) cX16_freeDescriptors .int (St × (St)) (dw_X16 a ac) r) (k : Nat) : dj_X16_freeDescriptors_4 p l e s m args below meth c Q A dC dI a ac (df_X16_freeDescriptors_4 n k) r := by
  induction k with
  | zero => intro x1 x2 s0 H locs ls h; exact nomatch (show (none : Option (Int32 × (St × (St)))) = some r from h)
  | succ k ih => exact dB_X16_freeDescriptors_4 C K ih
set_option maxHeartbeats 40000000 in
set_option maxRecDepth 100000 in
theorem db_X16_freeDescriptors_0 {p : Program} {l : Launch} {e : Env} {s : State} {m : MethodId} {args : Array Value} {below : List Frame} {meth : Method} {c : Code} {Q : State → Prop} {A : Nat → Prop} {dC : Nat → ClassId} {dI : Nat → Nat → Nat} {a : Nat → Nat} {ac : Nat → ClassId} {n : Nat} {r : Int32 × (St × (St))} (C : nd_C p l s m args c A (dC, dI) cX16_freeDescriptors 3 RX16 ow_dm_X16_freeDescriptors (dk_X16 ac)) (K : nd_Ki p l e (headSpec ow_dm_X16_freeDescriptors ({ frames := 0, cells := 0, slots := 0, locals := 0 })).room s m args below meth c Q A (dC, dI) cX16_freeDescriptors .int (St × (St)) (dw_X16 a ac) r) : dj_X16_freeDescriptors_0 p l e s m args below meth c Q A dC dI a ac (df_X16_freeDescriptors_0 n) r := by
  obtain ⟨hlt, hx, hb, hml, hown, hts, hN, hA, hK⟩ := id C
  intro s0 H locs ls h hP hD hS hl
  unfold df_X16_freeDescriptors_0 at h
  refine lv_iconst (v := 0) hx hb dX16_freeDescriptors_0 (by decide) ?_
  refine lv_istore_n (lv' := [(1, .int 0), (0, .ref (a 0))]) hx hb dX16_freeDescriptors_1 rfl hl (by decide) rfl (fun ls hl => ?_)
  refine lv_iconst (v := 0) hx hb dX16_freeDescriptors_2 (by decide) ?_
  refine lv_istore_n (lv' := [(2, .int 0), (1, .int 0), (0, .ref (a 0))]) hx hb dX16_freeDescriptors_3 rfl hl (by decide) rfl (fun ls hl => ?_)
  exact (db_X16_freeDescriptors_4 C K n) (0) (0) s0 _ _ _ h hP hD hS (lv_sub hl [2, 1, 0] rfl)
set_option maxHeartbeats 40000000 in
set_option maxRecDepth 100000 in
theorem dm_X16_freeDescriptors (l : Launch) (hlt : l.stackTraces = false) (dC : Nat → ClassId) (dI : Nat → Nat → Nat) (a : Nat → Nat) (ac : Nat → ClassId) (n : Nat) (s0 : St × (St)) {r : Int32 × (St × (St))} (h : df_X16_freeDescriptors n s0 = some r) (sz : Nat) : Met l yX16_freeDescriptors ow_dm_X16_freeDescriptors ({ frames := 0, cells := 0, slots := 0, locals := 0 }) (va_Pc [.ref (a 0)] (fun U => U.heap.size = sz ∧ va_P (dC, dI) vwCl (dw_X16 a ac s0) U.heap ∧ va_K (dC, dI) vwCl (dk_X16 ac) U ∧ va_D (fun _ => True) (dw_X16 a ac s0) ∧ nv_E (va_A (dw_X16 a ac s0) sz) U)) (va_Qi (fun x _ => x = r.1) (fun (_ : Unit) t => va_P (dC, dI) vwCl (dw_X16 a ac r.2) t.heap ∧ va_K (dC, dI) vwCl (dk_X16 ac) t ∧ va_D (va_A (dw_X16 a ac s0) sz) (dw_X16 a ac r.2)) (va_A (dw_X16 a ac s0) sz)) 0 0 (va_A (dw_X16 a ac s0) sz) := by
  refine Met.ofW (cc := cX16_freeDescriptors) (maxL := 3) (ret := (some .int)) (by decide) rfl ?_
  intro p e s m args below meth c s₁ B hml hv
  obtain ⟨rfl, hsz, hP, hK, hD0, hN⟩ := hv
  have hx := B.exec
  have hb := B.bytes
  have hr := B.returns
  have hts := atoms_spec (ws := ow_dm_X16_freeDescriptors) B.pre
  have hown : s.vm.findClass RX16 = some m.cls := findClass_of_methodNamed B.named
  have hlocks := B.notSynchronized
  subst hsz
  have hD := hD0.self (sz := s.heap.size)
  generalize hAe : va_A (dw_X16 a ac s0) s.heap.size = A at hD hN ⊢
  have hA : ∀ q : Nat, s.heap.size ≤ q → A q := fun q h => by rw [← hAe]; exact Or.inr h
  have hl := lv_entry ([.ref (a 0)]) (n := 3) (Nat.le_of_ble_eq_true rfl)
  rw [lg_entry_eq]
  generalize (lg_sl ([.ref (a 0)]) ++ List.replicate (3 - (lg_sl ([.ref (a 0)])).length) Slot.unset).toArray = ls at hl ⊢
  have hl : lv_has ls 3 [(0, .ref (a 0))] := hl
  exact db_X16_freeDescriptors_0 (dC := dC) (dI := dI) (a := a) (ac := ac) (n := n) (r := r) ⟨hlt, hx, hb, hml, hown, hts, hN, hA, hK⟩ (fun pc v τ H locs ls d z er hP hD hS => by subst er; exact W.zret (v := v) hx hb hr z (fun t ht hW => ⟨⟨v, (), rfl, rfl, by rw [ht]; exact hP, va_K.moved hW.alike hK, hD⟩, hS.F ht⟩) hS.2.2 d) s0 _ _ _ h hP hD va_S.rf (lv_sub hl [0] rfl)
def ow_dm_X16_give : List Cond := .code yX16_give cX16_give 3 (some .int) :: ([.methodLink RX16 249 yX16_freeDescriptor, .instanceMethod yX16_freeDescriptor, .selects RX16 yX16_freeDescriptor yX16_freeDescriptor, .initialized RX16, .fieldLink RX16 57 "TimeMachineModel$Machine" "descriptor" "[I", .fieldLink RX16 232 "TimeMachineModel$Machine" "p" "I"] ++ (u_ws RX16 TX16 56 ++ (ow_dm_X16_freeDescriptor ++ [])))
theorem gd_dm_X16_give : ∀ w ∈ ow_dm_X16_give, (w.onTables && w.keeps) = true ∨ ∃ ty, w = Cond.arrayClass ty := List.forall_mem_cons.mpr ⟨good_of_word rfl, List.forall_mem_append.mpr ⟨fun w h => good_of_word (List.all_eq_true.mp (by decide +kernel) w h), List.forall_mem_append.mpr ⟨gu_X16, List.forall_mem_append.mpr ⟨gd_dm_X16_freeDescriptor, fun _ h => nomatch h⟩⟩⟩⟩
theorem hi_dm_X16_give_X16 : ∀ w ∈ u_ws RX16 TX16 56, w ∈ ow_dm_X16_give := fun w h => List.mem_cons_of_mem _ (List.mem_append_right _ (List.mem_append_left _ h))
theorem gi_dm_X16_give_0 : GoodIn ow_dm_X16_give (wsV RX16 249 RX16 yX16_freeDescriptor ow_dm_X16_freeDescriptor) := goodIn_app (goodIn_of _ (by decide +kernel)) (fun w h => ⟨List.mem_cons_of_mem _ (List.mem_append_right _ (List.mem_append_right _ (List.mem_append_left _ h))), gd_dm_X16_freeDescriptor w h⟩)
def dj_X16_give_0 (p : Program) (l : Launch) (e : Env) (s : State) (m : MethodId) (args : Array Value) (below : List Frame) (meth : Method) (c : Code) (Q : State → Prop) (A : Nat → Prop) (dC : Nat → ClassId) (dI : Nat → Nat → Nat) (a : Nat → Nat) (ac : Nat → ClassId) (g : Int32 → (St × (St)) → Option (Int32 × (St × (St)))) (r : Int32 × (St × (St))) : Prop := ∀ (v0 : Int32) (s0 : St × (St)) (H : Heap) (locs : List Loc) (ls : Array Slot), g v0 s0 = some r → va_P (dC, dI) vwCl (dw_X16 a ac s0) H → va_D A (dw_X16 a ac s0) → va_S A s.heap H locs → lv_has ls 3 [(0, .ref (a 0)), (1, .int v0)] → W p l e (headSpec ow_dm_X16_give ({ frames := 1, cells := 0, slots := 0, locals := 21 })).room s m args below meth c H locs 0 0 Q (F0 m 0 ls [])
set_option maxHeartbeats 40000000 in
set_option maxRecDepth 100000 in
theorem db_X16_give_0 {p : Program} {l : Launch} {e : Env} {s : State} {m : MethodId} {args : Array Value} {below : List Frame} {meth : Method} {c : Code} {Q : State → Prop} {A : Nat → Prop} {dC : Nat → ClassId} {dI : Nat → Nat → Nat} {a : Nat → Nat} {ac : Nat → ClassId} {n : Nat} {r : Int32 × (St × (St))} (C : nd_C p l s m args c A (dC, dI) cX16_give 3 RX16 ow_dm_X16_give (dk_X16 ac)) (K : nd_Ki p l e (headSpec ow_dm_X16_give ({ frames := 1, cells := 0, slots := 0, locals := 21 })).room s m args below meth c Q A (dC, dI) cX16_give .int (St × (St)) (dw_X16 a ac) r) : dj_X16_give_0 p l e s m args below meth c Q A dC dI a ac (df_X16_give_0 n) r := by
  obtain ⟨hlt, hx, hb, hml, hown, hts, hN, hA, hK⟩ := id C
  intro v0 s0 H locs ls h hP hD hS hl
  unfold df_X16_give_0 at h
  refine lv_aload_n hx hb dX16_give_0 rfl (lv_at hl 0 rfl) ?_
  obtain ⟨q1, s2, hq, h⟩ := nd_b2_e h
  have hPc := hP
  have hDc := hD
  have hKc := hK
  have hFc := nd_rs hD hS hA
  refine nd_cVi (As := []) (rest := []) (q := q1) (w' := dw_X16 a ac s2) ⟨hx, hb, hml, hown, hts⟩ (fun sz => dm_X16_freeDescriptor l hlt dC dI a ac n  s0 hq sz) (cwV 0 hts gi_dm_X16_give_0 rfl rfl rfl (by decide +kernel) ⟨Nat.le_of_ble_eq_true rfl, Nat.le_of_ble_eq_true rfl⟩) hPc hDc hKc hS hA hN (va_recv hKc hPc (ci := 17) (q0 := 0) rfl rfl) rfl hl.1 rfl (Nat.le_of_ble_eq_true rfl) dX16_give_1 (fun H locs hP1 hD1 hk1 hS => ?_)
  have hP := hP1
  have hD := hD1.weaken (fun k q _ h => hFc q.1 h)
  refine lv_istore_n (lv' := [(2, .int q1), (0, .ref (a 0)), (1, .int v0)]) hx hb dX16_give_4 rfl hl (by decide) rfl (fun ls hl => ?_)
  refine lv_aload_n hx hb dX16_give_5 rfl (lv_at hl 1 rfl) ?_
  refine va_get (D := (dC, dI)) (ci := 17) (v := .ref (a 16)) (C := RX16) (T := TX16) (N := 56) hx hb hts hi_dm_X16_give_X16 hown hK hP 0 rfl rfl 24 (by decide) (hts (.fieldLink RX16 57 "TimeMachineModel$Machine" "descriptor" "[I") (List.mem_of_getElem? (i := 5) rfl)) (fun _ h9 => h9) rfl dX16_give_6 ?_
  refine lv_bipush (v := 16) hx hb dX16_give_9 (by decide) ?_
  refine lv_aload_n hx hb dX16_give_11 rfl (lv_at hl 1 rfl) ?_
  refine va_get (D := (dC, dI)) (ci := 17) (v := .int (sI s2.1 12)) (C := RX16) (T := TX16) (N := 56) hx hb hts hi_dm_X16_give_X16 hown hK hP 0 rfl rfl 51 (by decide) (hts (.fieldLink RX16 232 "TimeMachineModel$Machine" "p" "I") (List.mem_of_getElem? (i := 6) rfl)) (fun _ h9 => h9) rfl dX16_give_12 ?_
  refine lv_imul hx hb dX16_give_15 ?_
  refine lv_iload_n hx hb dX16_give_16 rfl (lv_at hl 0 rfl) ?_
  refine lv_iadd hx hb dX16_give_17 ?_
  refine lv_iload_n hx hb dX16_give_18 rfl (lv_at hl 2 rfl) ?_
  obtain ⟨i4, h⟩ := nd_ck_e h
  refine va_iast (i := ((16 * (sI s2.1 12)) + q1)) (x := v0) hx hb hK hP hD hS 16 15 rfl rfl i4 dX16_give_19 (fun H locs hP hD hS => ?_)
  obtain ⟨s5, es5, h⟩ := nd_let_e h
  have hP : va_P (dC, dI) vwCl (dw_X16 a ac s5) H := by rw [es5]; exact hP
  have hD : va_D A (dw_X16 a ac s5) := by rw [es5]; exact hD
  refine lv_iload_n hx hb dX16_give_20 rfl (lv_at hl 0 rfl) ?_
  exact K _ _ _ _ _ _ dX16_give_21 rfl (Option.some.inj h).symm hP hD hS
set_option maxHeartbeats 40000000 in
set_option maxRecDepth 100000 in
theorem dm_X16_give (l : Launch) (hlt : l.stackTraces = false) (dC : Nat → ClassId) (dI : Nat → Nat → Nat) (a : Nat → Nat) (ac : Nat → ClassId) (n : Nat) (v0 : Int32) (s0 : St × (St)) {r : Int32 × (St × (St))} (h : df_X16_give n v0 s0 = some r) (sz : Nat) : Met l yX16_give ow_dm_X16_give ({ frames := 1, cells := 0, slots := 0, locals := 21 }) (va_Pc [.ref (a 0), .int v0] (fun U => U.heap.size = sz ∧ va_P (dC, dI) vwCl (dw_X16 a ac s0) U.heap ∧ va_K (dC, dI) vwCl (dk_X16 ac) U ∧ va_D (fun _ => True) (dw_X16 a ac s0) ∧ nv_E (va_A (dw_X16 a ac s0) sz) U)) (va_Qi (fun x _ => x = r.1) (fun (_ : Unit) t => va_P (dC, dI) vwCl (dw_X16 a ac r.2) t.heap ∧ va_K (dC, dI) vwCl (dk_X16 ac) t ∧ va_D (va_A (dw_X16 a ac s0) sz) (dw_X16 a ac r.2)) (va_A (dw_X16 a ac s0) sz)) 0 0 (va_A (dw_X16 a ac s0) sz) := by
  refine Met.ofW (cc := cX16_give) (maxL := 3) (ret := (some .int)) (by decide) rfl ?_
  intro p e s m args below meth c s₁ B hml hv
  obtain ⟨rfl, hsz, hP, hK, hD0, hN⟩ := hv
  have hx := B.exec
  have hb := B.bytes
  have hr := B.returns
  have hts := atoms_spec (ws := ow_dm_X16_give) B.pre
  have hown : s.vm.findClass RX16 = some m.cls := findClass_of_methodNamed B.named
  have hlocks := B.notSynchronized
  subst hsz
  have hD := hD0.self (sz := s.heap.size)
  generalize hAe : va_A (dw_X16 a ac s0) s.heap.size = A at hD hN ⊢
  have hA : ∀ q : Nat, s.heap.size ≤ q → A q := fun q h => by rw [← hAe]; exact Or.inr h
  have hl := lv_entry ([.ref (a 0), .int v0]) (n := 3) (Nat.le_of_ble_eq_true rfl)
  rw [lg_entry_eq]
  generalize (lg_sl ([.ref (a 0), .int v0]) ++ List.replicate (3 - (lg_sl ([.ref (a 0), .int v0])).length) Slot.unset).toArray = ls at hl ⊢
  have hl : lv_has ls 3 [(0, .ref (a 0)), (1, .int v0)] := hl
  exact db_X16_give_0 (dC := dC) (dI := dI) (a := a) (ac := ac) (n := n) (r := r) ⟨hlt, hx, hb, hml, hown, hts, hN, hA, hK⟩ (fun pc v τ H locs ls d z er hP hD hS => by subst er; exact W.zret (v := v) hx hb hr z (fun t ht hW => ⟨⟨v, (), rfl, rfl, by rw [ht]; exact hP, va_K.moved hW.alike hK, hD⟩, hS.F ht⟩) hS.2.2 d) v0 s0 _ _ _ h hP hD va_S.rf (lv_sub hl [0, 1] rfl)
def ow_dm_X16_openingOf : List Cond := .code yX16_openingOf cX16_openingOf 3 (some .int) :: ([.fieldLink RX16 57 "TimeMachineModel$Machine" "descriptor" "[I"] ++ (u_ws RX16 TX16 56 ++ []))
theorem gd_dm_X16_openingOf : ∀ w ∈ ow_dm_X16_openingOf, (w.onTables && w.keeps) = true ∨ ∃ ty, w = Cond.arrayClass ty := List.forall_mem_cons.mpr ⟨good_of_word rfl, List.forall_mem_append.mpr ⟨fun w h => good_of_word (List.all_eq_true.mp (by decide +kernel) w h), List.forall_mem_append.mpr ⟨gu_X16, fun _ h => nomatch h⟩⟩⟩
theorem hi_dm_X16_openingOf_X16 : ∀ w ∈ u_ws RX16 TX16 56, w ∈ ow_dm_X16_openingOf := fun w h => List.mem_cons_of_mem _ (List.mem_append_right _ (List.mem_append_left _ h))
def dj_X16_openingOf_25 (p : Program) (l : Launch) (e : Env) (s : State) (m : MethodId) (args : Array Value) (below : List Frame) (meth : Method) (c : Code) (Q : State → Prop) (A : Nat → Prop) (dC : Nat → ClassId) (dI : Nat → Nat → Nat) (a : Nat → Nat) (ac : Nat → ClassId) (g : Int32 → (St × (St)) → Option (Int32 × (St × (St)))) (r : Int32 × (St × (St))) : Prop := ∀ (y0 : Int32) (s0 : St × (St)) (H : Heap) (locs : List Loc) (ls : Array Slot), g y0 s0 = some r → va_P (dC, dI) vwCl (dw_X16 a ac s0) H → va_D A (dw_X16 a ac s0) → va_S A s.heap H locs → lv_has ls 3 [] → W p l e (headSpec ow_dm_X16_openingOf ({ frames := 0, cells := 0, slots := 0, locals := 0 })).room s m args below meth c H locs 0 0 Q (F0 m 25 ls [.int y0])
def dj_X16_openingOf_24 (p : Program) (l : Launch) (e : Env) (s : State) (m : MethodId) (args : Array Value) (below : List Frame) (meth : Method) (c : Code) (Q : State → Prop) (A : Nat → Prop) (dC : Nat → ClassId) (dI : Nat → Nat → Nat) (a : Nat → Nat) (ac : Nat → ClassId) (g : (St × (St)) → Option (Int32 × (St × (St)))) (r : Int32 × (St × (St))) : Prop := ∀ (s0 : St × (St)) (H : Heap) (locs : List Loc) (ls : Array Slot), g s0 = some r → va_P (dC, dI) vwCl (dw_X16 a ac s0) H → va_D A (dw_X16 a ac s0) → va_S A s.heap H locs → lv_has ls 3 [] → W p l e (headSpec ow_dm_X16_openingOf ({ frames := 0, cells := 0, slots := 0, locals := 0 })).room s m args below meth c H locs 0 0 Q (F0 m 24 ls [])
def dj_X16_openingOf_0 (p : Program) (l : Launch) (e : Env) (s : State) (m : MethodId) (args : Array Value) (below : List Frame) (meth : Method) (c : Code) (Q : State → Prop) (A : Nat → Prop) (dC : Nat → ClassId) (dI : Nat → Nat → Nat) (a : Nat → Nat) (ac : Nat → ClassId) (g : Int32 → Int32 → (St × (St)) → Option (Int32 × (St × (St)))) (r : Int32 × (St × (St))) : Prop := ∀ (v0 : Int32) (v1 : Int32) (s0 : St × (St)) (H : Heap) (locs : List Loc) (ls : Array Slot), g v0 v1 s0 = some r → va_P (dC, dI) vwCl (dw_X16 a ac s0) H → va_D A (dw_X16 a ac s0) → va_S A s.heap H locs → lv_has ls 3 [(0, .ref (a 0)), (1, .int v0), (2, .int v1)] → W p l e (headSpec ow_dm_X16_openingOf ({ frames := 0, cells := 0, slots := 0, locals := 0 })).room s m args below meth c H locs 0 0 Q (F0 m 0 ls [])
set_option maxHeartbeats 40000000 in
set_option maxRecDepth 100000 in
theorem db_X16_openingOf_25 {p : Program} {l : Launch} {e : Env} {s : State} {m : MethodId} {args : Array Value} {below : List Frame} {meth : Method} {c : Code} {Q : State → Prop} {A : Nat → Prop} {dC : Nat → ClassId} {dI : Nat → Nat → Nat} {a : Nat → Nat} {ac : Nat → ClassId} {n : Nat} {r : Int32 × (St × (St))} (C : nd_C p l s m args c A (dC, dI) cX16_openingOf 3 RX16 ow_dm_X16_openingOf (dk_X16 ac)) (K : nd_Ki p l e (headSpec ow_dm_X16_openingOf ({ frames := 0, cells := 0, slots := 0, locals := 0 })).room s m args below meth c Q A (dC, dI) cX16_openingOf .int (St × (St)) (dw_X16 a ac) r) : dj_X16_openingOf_25 p l e s m args below meth c Q A dC dI a ac (df_X16_openingOf_25 n) r := by
  obtain ⟨hlt, hx, hb, hml, hown, hts, hN, hA, hK⟩ := id C
  intro y0 s0 H locs ls h hP hD hS hl
  unfold df_X16_openingOf_25 at h
  exact K _ _ _ _ _ _ dX16_openingOf_25 rfl (Option.some.inj h).symm hP hD hS
set_option maxHeartbeats 40000000 in
set_option maxRecDepth 100000 in
theorem db_X16_openingOf_24 {p : Program} {l : Launch} {e : Env} {s : State} {m : MethodId} {args : Array Value} {below : List Frame} {meth : Method} {c : Code} {Q : State → Prop} {A : Nat → Prop} {dC : Nat → ClassId} {dI : Nat → Nat → Nat} {a : Nat → Nat} {ac : Nat → ClassId} {n : Nat} {r : Int32 × (St × (St))} (C : nd_C p l s m args c A (dC, dI) cX16_openingOf 3 RX16 ow_dm_X16_openingOf (dk_X16 ac)) (K : nd_Ki p l e (headSpec ow_dm_X16_openingOf ({ frames := 0, cells := 0, slots := 0, locals := 0 })).room s m args below meth c Q A (dC, dI) cX16_openingOf .int (St × (St)) (dw_X16 a ac) r) : dj_X16_openingOf_24 p l e s m args below meth c Q A dC dI a ac (df_X16_openingOf_24 n) r := by
  obtain ⟨hlt, hx, hb, hml, hown, hts, hN, hA, hK⟩ := id C
  intro s0 H locs ls h hP hD hS hl
  unfold df_X16_openingOf_24 at h
  refine lv_iconst (v := (-1)) hx hb dX16_openingOf_24 (by decide) ?_
  exact (db_X16_openingOf_25 C K) ((-1)) s0 _ _ _ h hP hD hS (lv_sub hl [] rfl)
set_option maxHeartbeats 40000000 in
set_option maxRecDepth 100000 in
theorem db_X16_openingOf_0 {p : Program} {l : Launch} {e : Env} {s : State} {m : MethodId} {args : Array Value} {below : List Frame} {meth : Method} {c : Code} {Q : State → Prop} {A : Nat → Prop} {dC : Nat → ClassId} {dI : Nat → Nat → Nat} {a : Nat → Nat} {ac : Nat → ClassId} {n : Nat} {r : Int32 × (St × (St))} (C : nd_C p l s m args c A (dC, dI) cX16_openingOf 3 RX16 ow_dm_X16_openingOf (dk_X16 ac)) (K : nd_Ki p l e (headSpec ow_dm_X16_openingOf ({ frames := 0, cells := 0, slots := 0, locals := 0 })).room s m args below meth c Q A (dC, dI) cX16_openingOf .int (St × (St)) (dw_X16 a ac) r) : dj_X16_openingOf_0 p l e s m args below meth c Q A dC dI a ac (df_X16_openingOf_0 n) r := by
  obtain ⟨hlt, hx, hb, hml, hown, hts, hN, hA, hK⟩ := id C
  intro v0 v1 s0 H locs ls h hP hD hS hl
  unfold df_X16_openingOf_0 at h
  refine lv_iload_n hx hb dX16_openingOf_0 rfl (lv_at hl 2 rfl) ?_
  refine lv_if_lt (tgt := 24) hx hb dX16_openingOf_1 (by decide) (fun c1 => ?_) (fun c1 => ?_)
  · have h := nd_pos h c1
    exact (db_X16_openingOf_24 C K)  s0 _ _ _ h hP hD hS (lv_sub hl [] rfl)
  · have h := nd_neg h c1
    refine lv_iload_n hx hb dX16_openingOf_4 rfl (lv_at hl 2 rfl) ?_
    refine lv_bipush (v := 16) hx hb dX16_openingOf_5 (by decide) ?_
    refine lv_icmp_ge (tgt := 24) hx hb dX16_openingOf_7 (by decide) (fun c2 => ?_) (fun c2 => ?_)
    · have h := nd_pos h c2
      exact (db_X16_openingOf_24 C K)  s0 _ _ _ h hP hD hS (lv_sub hl [] rfl)
    · have h := nd_neg h c2
      refine lv_aload_n hx hb dX16_openingOf_10 rfl (lv_at hl 0 rfl) ?_
      refine va_get (D := (dC, dI)) (ci := 17) (v := .ref (a 16)) (C := RX16) (T := TX16) (N := 56) hx hb hts hi_dm_X16_openingOf_X16 hown hK hP 0 rfl rfl 24 (by decide) (hts (.fieldLink RX16 57 "TimeMachineModel$Machine" "descriptor" "[I") (List.mem_of_getElem? (i := 1) rfl)) (fun _ h9 => h9) rfl dX16_openingOf_11 ?_
      refine lv_bipush (v := 16) hx hb dX16_openingOf_14 (by decide) ?_
      refine lv_iload_n hx hb dX16_openingOf_16 rfl (lv_at hl 1 rfl) ?_
      refine lv_imul hx hb dX16_openingOf_17 ?_
      refine lv_iload_n hx hb dX16_openingOf_18 rfl (lv_at hl 2 rfl) ?_
      refine lv_iadd hx hb dX16_openingOf_19 ?_
      obtain ⟨i3, h⟩ := nd_ck_e h
      refine va_iald (i := ((16 * v0) + v1)) hx hb hK hP 16 15 rfl rfl i3 dX16_openingOf_20 ?_
      refine lv_goto (tgt := 25) hx hb dX16_openingOf_21 (by decide) ?_
      exact (db_X16_openingOf_25 C K) ((sR s0.1 14 (Int32.toNatClampNeg ((16 * v0) + v1)))) s0 _ _ _ h hP hD hS (lv_sub hl [] rfl)
set_option maxHeartbeats 40000000 in
set_option maxRecDepth 100000 in
theorem dm_X16_openingOf (l : Launch) (hlt : l.stackTraces = false) (dC : Nat → ClassId) (dI : Nat → Nat → Nat) (a : Nat → Nat) (ac : Nat → ClassId) (n : Nat) (v0 : Int32) (v1 : Int32) (s0 : St × (St)) {r : Int32 × (St × (St))} (h : df_X16_openingOf n v0 v1 s0 = some r) (sz : Nat) : Met l yX16_openingOf ow_dm_X16_openingOf ({ frames := 0, cells := 0, slots := 0, locals := 0 }) (va_Pc [.ref (a 0), .int v0, .int v1] (fun U => U.heap.size = sz ∧ va_P (dC, dI) vwCl (dw_X16 a ac s0) U.heap ∧ va_K (dC, dI) vwCl (dk_X16 ac) U ∧ va_D (fun _ => True) (dw_X16 a ac s0) ∧ nv_E (va_A (dw_X16 a ac s0) sz) U)) (va_Qi (fun x _ => x = r.1) (fun (_ : Unit) t => va_P (dC, dI) vwCl (dw_X16 a ac r.2) t.heap ∧ va_K (dC, dI) vwCl (dk_X16 ac) t ∧ va_D (va_A (dw_X16 a ac s0) sz) (dw_X16 a ac r.2)) (va_A (dw_X16 a ac s0) sz)) 0 0 (va_A (dw_X16 a ac s0) sz) := by
  refine Met.ofW (cc := cX16_openingOf) (maxL := 3) (ret := (some .int)) (by decide) rfl ?_
  intro p e s m args below meth c s₁ B hml hv
  obtain ⟨rfl, hsz, hP, hK, hD0, hN⟩ := hv
  have hx := B.exec
  have hb := B.bytes
  have hr := B.returns
  have hts := atoms_spec (ws := ow_dm_X16_openingOf) B.pre
  have hown : s.vm.findClass RX16 = some m.cls := findClass_of_methodNamed B.named
  have hlocks := B.notSynchronized
  subst hsz
  have hD := hD0.self (sz := s.heap.size)
  generalize hAe : va_A (dw_X16 a ac s0) s.heap.size = A at hD hN ⊢
  have hA : ∀ q : Nat, s.heap.size ≤ q → A q := fun q h => by rw [← hAe]; exact Or.inr h
  have hl := lv_entry ([.ref (a 0), .int v0, .int v1]) (n := 3) (Nat.le_of_ble_eq_true rfl)
  rw [lg_entry_eq]
  generalize (lg_sl ([.ref (a 0), .int v0, .int v1]) ++ List.replicate (3 - (lg_sl ([.ref (a 0), .int v0, .int v1])).length) Slot.unset).toArray = ls at hl ⊢
  have hl : lv_has ls 3 [(0, .ref (a 0)), (1, .int v0), (2, .int v1)] := hl
  exact db_X16_openingOf_0 (dC := dC) (dI := dI) (a := a) (ac := ac) (n := n) (r := r) ⟨hlt, hx, hb, hml, hown, hts, hN, hA, hK⟩ (fun pc v τ H locs ls d z er hP hD hS => by subst er; exact W.zret (v := v) hx hb hr z (fun t ht hW => ⟨⟨v, (), rfl, rfl, by rw [ht]; exact hP, va_K.moved hW.alike hK, hD⟩, hS.F ht⟩) hS.2.2 d) v0 v1 s0 _ _ _ h hP hD va_S.rf (lv_sub hl [0, 1, 2] rfl)
def ow_dm_X16_end : List Cond := .code yX16_end cX16_end 4 none :: ([.methodLink RX16 252 yX16_sweep, .instanceMethod yX16_sweep, .selects RX16 yX16_sweep yX16_sweep, .initialized RX16, .methodLink RX16 255 yX16_leaveAll, .instanceMethod yX16_leaveAll, .selects RX16 yX16_leaveAll yX16_leaveAll, .fieldLink RX16 22 "TimeMachineModel$Machine" "pending" "[I", .fieldLink RX16 25 "TimeMachineModel$Machine" "heapBegin" "[I", .fieldLink RX16 28 "TimeMachineModel$Machine" "heapEnd" "[I", .fieldLink RX16 34 "TimeMachineModel$Machine" "within" "[Z", .fieldLink RX16 31 "TimeMachineModel$Machine" "calling" "[I", .fieldLink RX16 13 "TimeMachineModel$Machine" "state" "[I", .fieldLink RX16 19 "TimeMachineModel$Machine" "ending" "[I", .fieldLink RX16 16 "TimeMachineModel$Machine" "parent" "[I", .methodLink RX16 160 yX16_begin, .instanceMethod yX16_begin, .selects RX16 yX16_begin yX16_begin, .fieldLink RX16 57 "TimeMachineModel$Machine" "descriptor" "[I"] ++ (u_ws RX16 TX16 56 ++ (ow_dm_X16_sweep ++ (ow_dm_X16_leaveAll ++ (ow_dm_X16_begin ++ [])))))
theorem gd_dm_X16_end : ∀ w ∈ ow_dm_X16_end, (w.onTables && w.keeps) = true ∨ ∃ ty, w = Cond.arrayClass ty := List.forall_mem_cons.mpr ⟨good_of_word rfl, List.forall_mem_append.mpr ⟨fun w h => good_of_word (List.all_eq_true.mp (by decide +kernel) w h), List.forall_mem_append.mpr ⟨gu_X16, List.forall_mem_append.mpr ⟨gd_dm_X16_sweep, List.forall_mem_append.mpr ⟨gd_dm_X16_leaveAll, List.forall_mem_append.mpr ⟨gd_dm_X16_begin, fun _ h => nomatch h⟩⟩⟩⟩⟩⟩
theorem hi_dm_X16_end_X16 : ∀ w ∈ u_ws RX16 TX16 56, w ∈ ow_dm_X16_end := fun w h => List.mem_cons_of_mem _ (List.mem_append_right _ (List.mem_append_left _ h))
theorem gi_dm_X16_end_0 : GoodIn ow_dm_X16_end (wsV RX16 252 RX16 yX16_sweep ow_dm_X16_sweep) := goodIn_app (goodIn_of _ (by decide +kernel)) (fun w h => ⟨List.mem_cons_of_mem _ (List.mem_append_right _ (List.mem_append_right _ (List.mem_append_left _ h))), gd_dm_X16_sweep w h⟩)
theorem gi_dm_X16_end_1 : GoodIn ow_dm_X16_end (wsV RX16 255 RX16 yX16_leaveAll ow_dm_X16_leaveAll) := goodIn_app (goodIn_of _ (by decide +kernel)) (fun w h => ⟨List.mem_cons_of_mem _ (List.mem_append_right _ (List.mem_append_right _ (List.mem_append_right _ (List.mem_append_left _ h)))), gd_dm_X16_leaveAll w h⟩)
theorem gi_dm_X16_end_2 : GoodIn ow_dm_X16_end (wsV RX16 160 RX16 yX16_begin ow_dm_X16_begin) := goodIn_app (goodIn_of _ (by decide +kernel)) (fun w h => ⟨List.mem_cons_of_mem _ (List.mem_append_right _ (List.mem_append_right _ (List.mem_append_right _ (List.mem_append_right _ (List.mem_append_left _ h))))), gd_dm_X16_begin w h⟩)
def dj_X16_end_157 (p : Program) (l : Launch) (e : Env) (s : State) (m : MethodId) (args : Array Value) (below : List Frame) (meth : Method) (c : Code) (Q : State → Prop) (A : Nat → Prop) (dC : Nat → ClassId) (dI : Nat → Nat → Nat) (a : Nat → Nat) (ac : Nat → ClassId) (g : (St × (St)) → Option (St × (St))) (r : St × (St)) : Prop := ∀ (s0 : St × (St)) (H : Heap) (locs : List Loc) (ls : Array Slot), g s0 = some r → va_P (dC, dI) vwCl (dw_X16 a ac s0) H → va_D A (dw_X16 a ac s0) → va_S A s.heap H locs → lv_has ls 4 [] → W p l e (headSpec ow_dm_X16_end ({ frames := 2, cells := 0, slots := 0, locals := 45 })).room s m args below meth c H locs 0 0 Q (F0 m 157 ls [])
def dj_X16_end_87 (p : Program) (l : Launch) (e : Env) (s : State) (m : MethodId) (args : Array Value) (below : List Frame) (meth : Method) (c : Code) (Q : State → Prop) (A : Nat → Prop) (dC : Nat → ClassId) (dI : Nat → Nat → Nat) (a : Nat → Nat) (ac : Nat → ClassId) (g : Int32 → Int32 → Int32 → (St × (St)) → Option (St × (St))) (r : St × (St)) : Prop := ∀ (x1 : Int32) (x2 : Int32) (x3 : Int32) (s0 : St × (St)) (H : Heap) (locs : List Loc) (ls : Array Slot), g x1 x2 x3 s0 = some r → va_P (dC, dI) vwCl (dw_X16 a ac s0) H → va_D A (dw_X16 a ac s0) → va_S A s.heap H locs → lv_has ls 4 [(0, .ref (a 0)), (1, .int x1), (2, .int x2), (3, .int x3)] → W p l e (headSpec ow_dm_X16_end ({ frames := 2, cells := 0, slots := 0, locals := 45 })).room s m args below meth c H locs 0 0 Q (F0 m 87 ls [])
def dj_X16_end_37 (p : Program) (l : Launch) (e : Env) (s : State) (m : MethodId) (args : Array Value) (below : List Frame) (meth : Method) (c : Code) (Q : State → Prop) (A : Nat → Prop) (dC : Nat → ClassId) (dI : Nat → Nat → Nat) (a : Nat → Nat) (ac : Nat → ClassId) (g : Int32 → Int32 → Int32 → (St × (St)) → Option (St × (St))) (r : St × (St)) : Prop := ∀ (x1 : Int32) (x2 : Int32) (x3 : Int32) (s0 : St × (St)) (H : Heap) (locs : List Loc) (ls : Array Slot), g x1 x2 x3 s0 = some r → va_P (dC, dI) vwCl (dw_X16 a ac s0) H → va_D A (dw_X16 a ac s0) → va_S A s.heap H locs → lv_has ls 4 [(0, .ref (a 0)), (1, .int x1), (2, .int x2), (3, .int x3)] → W p l e (headSpec ow_dm_X16_end ({ frames := 2, cells := 0, slots := 0, locals := 45 })).room s m args below meth c H locs 0 0 Q (F0 m 37 ls [])
def dj_X16_end_2 (p : Program) (l : Launch) (e : Env) (s : State) (m : MethodId) (args : Array Value) (below : List Frame) (meth : Method) (c : Code) (Q : State → Prop) (A : Nat → Prop) (dC : Nat → ClassId) (dI : Nat → Nat → Nat) (a : Nat → Nat) (ac : Nat → ClassId) (g : Int32 → Int32 → Int32 → (St × (St)) → Option (St × (St))) (r : St × (St)) : Prop := ∀ (x1 : Int32) (x2 : Int32) (x3 : Int32) (s0 : St × (St)) (H : Heap) (locs : List Loc) (ls : Array Slot), g x1 x2 x3 s0 = some r → va_P (dC, dI) vwCl (dw_X16 a ac s0) H → va_D A (dw_X16 a ac s0) → va_S A s.heap H locs → lv_has ls 4 [(0, .ref (a 0)), (1, .int x1), (2, .int x2), (3, .int x3)] → W p l e (headSpec ow_dm_X16_end ({ frames := 2, cells := 0, slots := 0, locals := 45 })).room s m args below meth c H locs 0 0 Q (F0 m 2 ls [])
def dj_X16_end_0 (p : Program) (l : Launch) (e : Env) (s : State) (m : MethodId) (args : Array Value) (below : List Frame) (meth : Method) (c : Code) (Q : State → Prop) (A : Nat → Prop) (dC : Nat → ClassId) (dI : Nat → Nat → Nat) (a : Nat → Nat) (ac : Nat → ClassId) (g : Int32 → Int32 → (St × (St)) → Option (St × (St))) (r : St × (St)) : Prop := ∀ (v0 : Int32) (v1 : Int32) (s0 : St × (St)) (H : Heap) (locs : List Loc) (ls : Array Slot), g v0 v1 s0 = some r → va_P (dC, dI) vwCl (dw_X16 a ac s0) H → va_D A (dw_X16 a ac s0) → va_S A s.heap H locs → lv_has ls 4 [(0, .ref (a 0)), (1, .int v0), (2, .int v1)] → W p l e (headSpec ow_dm_X16_end ({ frames := 2, cells := 0, slots := 0, locals := 45 })).room s m args below meth c H locs 0 0 Q (F0 m 0 ls [])
set_option maxHeartbeats 40000000 in
set_option maxRecDepth 100000 in
theorem db_X16_end_157 {p : Program} {l : Launch} {e : Env} {s : State} {m : MethodId} {args : Array Value} {below : List Frame} {meth : Method} {c : Code} {Q : State → Prop} {A : Nat → Prop} {dC : Nat → ClassId} {dI : Nat → Nat → Nat} {a : Nat → Nat} {ac : Nat → ClassId} {n : Nat} {r : St × (St)} (C : nd_C p l s m args c A (dC, dI) cX16_end 4 RX16 ow_dm_X16_end (dk_X16 ac)) (K : nd_Kv p l e (headSpec ow_dm_X16_end ({ frames := 2, cells := 0, slots := 0, locals := 45 })).room s m args below meth c Q A (dC, dI) cX16_end (St × (St)) (dw_X16 a ac) r) : dj_X16_end_157 p l e s m args below meth c Q A dC dI a ac (df_X16_end_157 n) r := by
  obtain ⟨hlt, hx, hb, hml, hown, hts, hN, hA, hK⟩ := id C
  intro s0 H locs ls h hP hD hS hl
  unfold df_X16_end_157 at h
  exact K _ _ _ _ _ dX16_end_157 (Option.some.inj h).symm hP hD hS
set_option maxHeartbeats 40000000 in
set_option maxRecDepth 100000 in
theorem db_X16_end_87 {p : Program} {l : Launch} {e : Env} {s : State} {m : MethodId} {args : Array Value} {below : List Frame} {meth : Method} {c : Code} {Q : State → Prop} {A : Nat → Prop} {dC : Nat → ClassId} {dI : Nat → Nat → Nat} {a : Nat → Nat} {ac : Nat → ClassId} {n : Nat} {r : St × (St)} (C : nd_C p l s m args c A (dC, dI) cX16_end 4 RX16 ow_dm_X16_end (dk_X16 ac)) (K : nd_Kv p l e (headSpec ow_dm_X16_end ({ frames := 2, cells := 0, slots := 0, locals := 45 })).room s m args below meth c Q A (dC, dI) cX16_end (St × (St)) (dw_X16 a ac) r) {g37 : Int32 → Int32 → Int32 → (St × (St)) → Option (St × (St))} (J37 : dj_X16_end_37 p l e s m args below meth c Q A dC dI a ac g37 r) : dj_X16_end_87 p l e s m args below meth c Q A dC dI a ac (df_X16_end_87 n g37) r := by
  obtain ⟨hlt, hx, hb, hml, hown, hts, hN, hA, hK⟩ := id C
  intro x1 x2 x3 s0 H locs ls h hP hD hS hl
  unfold df_X16_end_87 at h
  obtain ⟨z30, ez30, h⟩ := nd_let_e h
  refine lv_iinc (v := z30) (lv' := [(3, .int z30), (0, .ref (a 0)), (1, .int x1), (2, .int x2)]) hx hb dX16_end_87 hl (k := 3) rfl (by rw [ez30]) (by decide) rfl (fun ls hl => ?_)
  refine lv_goto (tgt := 37) hx hb dX16_end_90 (by decide) ?_
  exact (J37) (x1) (x2) (z30) s0 _ _ _ h hP hD hS (lv_sub hl [1, 2, 3, 0] rfl)
set_option maxHeartbeats 40000000 in
set_option maxRecDepth 100000 in
theorem dB_X16_end_37 {p : Program} {l : Launch} {e : Env} {s : State} {m : MethodId} {args : Array Value} {below : List Frame} {meth : Method} {c : Code} {Q : State → Prop} {A : Nat → Prop} {dC : Nat → ClassId} {dI : Nat → Nat → Nat} {a : Nat → Nat} {ac : Nat → ClassId} {n : Nat} {r : St × (St)} (C : nd_C p l s m args c A (dC, dI) cX16_end 4 RX16 ow_dm_X16_end (dk_X16 ac)) (K : nd_Kv p l e (headSpec ow_dm_X16_end ({ frames := 2, cells := 0, slots := 0, locals := 45 })).room s m args below meth c Q A (dC, dI) cX16_end (St × (St)) (dw_X16 a ac) r) {g37 : Int32 → Int32 → Int32 → (St × (St)) → Option (St × (St))} (J37 : dj_X16_end_37 p l e s m args below meth c Q A dC dI a ac g37 r) : dj_X16_end_37 p l e s m args below meth c Q A dC dI a ac (dF_X16_end_37 n g37) r := by
  obtain ⟨hlt, hx, hb, hml, hown, hts, hN, hA, hK⟩ := id C
  intro x1 x2 x3 s0 H locs ls h hP hD hS hl
  unfold dF_X16_end_37 at h
  refine lv_iload_n hx hb dX16_end_37 rfl (lv_at hl 3 rfl) ?_
  refine lv_bipush (v := 16) hx hb dX16_end_38 (by decide) ?_
  refine lv_icmp_ge (tgt := 93) hx hb dX16_end_40 (by decide) (fun c8 => ?_) (fun c8 => ?_)
  · have h := nd_pos h c8
    refine lv_aload_n hx hb dX16_end_93 rfl (lv_at hl 0 rfl) ?_
    refine va_get (D := (dC, dI)) (ci := 17) (v := .ref (a 5)) (C := RX16) (T := TX16) (N := 56) hx hb hts hi_dm_X16_end_X16 hown hK hP 0 rfl rfl 13 (by decide) (hts (.fieldLink RX16 22 "TimeMachineModel$Machine" "pending" "[I") (List.mem_of_getElem? (i := 8) rfl)) (fun _ h9 => h9) rfl dX16_end_94 ?_
    refine lv_iload_n hx hb dX16_end_97 rfl (lv_at hl 1 rfl) ?_
    refine lv_aload_n hx hb dX16_end_98 rfl (lv_at hl 0 rfl) ?_
    refine va_get (D := (dC, dI)) (ci := 17) (v := .ref (a 6)) (C := RX16) (T := TX16) (N := 56) hx hb hts hi_dm_X16_end_X16 hown hK hP 0 rfl rfl 14 (by decide) (hts (.fieldLink RX16 25 "TimeMachineModel$Machine" "heapBegin" "[I") (List.mem_of_getElem? (i := 9) rfl)) (fun _ h9 => h9) rfl dX16_end_99 ?_
    refine lv_iload_n hx hb dX16_end_102 rfl (lv_at hl 1 rfl) ?_
    refine lv_aload_n hx hb dX16_end_103 rfl (lv_at hl 0 rfl) ?_
    refine va_get (D := (dC, dI)) (ci := 17) (v := .ref (a 7)) (C := RX16) (T := TX16) (N := 56) hx hb hts hi_dm_X16_end_X16 hown hK hP 0 rfl rfl 15 (by decide) (hts (.fieldLink RX16 28 "TimeMachineModel$Machine" "heapEnd" "[I") (List.mem_of_getElem? (i := 10) rfl)) (fun _ h9 => h9) rfl dX16_end_104 ?_
    refine lv_iload_n hx hb dX16_end_107 rfl (lv_at hl 1 rfl) ?_
    refine lv_iconst (v := 0) hx hb dX16_end_108 (by decide) ?_
    refine lv_dup_x2 hx hb dX16_end_109 rfl rfl rfl ?_
    obtain ⟨i9, h⟩ := nd_ck_e h
    refine va_iast (i := x1) (x := 0) hx hb hK hP hD hS 7 6 rfl rfl i9 dX16_end_110 (fun H locs hP hD hS => ?_)
    obtain ⟨s10, es10, h⟩ := nd_let_e h
    have hP : va_P (dC, dI) vwCl (dw_X16 a ac s10) H := by rw [es10]; exact hP
    have hD : va_D A (dw_X16 a ac s10) := by rw [es10]; exact hD
    refine lv_dup_x2 hx hb dX16_end_111 rfl rfl rfl ?_
    obtain ⟨i11, h⟩ := nd_ck_e h
    refine va_iast (i := x1) (x := 0) hx hb hK hP hD hS 6 5 rfl rfl i11 dX16_end_112 (fun H locs hP hD hS => ?_)
    obtain ⟨s12, es12, h⟩ := nd_let_e h
    have hP : va_P (dC, dI) vwCl (dw_X16 a ac s12) H := by rw [es12]; exact hP
    have hD : va_D A (dw_X16 a ac s12) := by rw [es12]; exact hD
    obtain ⟨i13, h⟩ := nd_ck_e h
    refine va_iast (i := x1) (x := 0) hx hb hK hP hD hS 5 4 rfl rfl i13 dX16_end_113 (fun H locs hP hD hS => ?_)
    obtain ⟨s14, es14, h⟩ := nd_let_e h
    have hP : va_P (dC, dI) vwCl (dw_X16 a ac s14) H := by rw [es14]; exact hP
    have hD : va_D A (dw_X16 a ac s14) := by rw [es14]; exact hD
    refine lv_aload_n hx hb dX16_end_114 rfl (lv_at hl 0 rfl) ?_
    refine va_get (D := (dC, dI)) (ci := 17) (v := .ref (a 9)) (C := RX16) (T := TX16) (N := 56) hx hb hts hi_dm_X16_end_X16 hown hK hP 0 rfl rfl 17 (by decide) (hts (.fieldLink RX16 34 "TimeMachineModel$Machine" "within" "[Z") (List.mem_of_getElem? (i := 11) rfl)) (fun _ h9 => h9) rfl dX16_end_115 ?_
    refine lv_iload_n hx hb dX16_end_118 rfl (lv_at hl 1 rfl) ?_
    refine lv_iconst (v := 0) hx hb dX16_end_119 (by decide) ?_
    obtain ⟨i15, h⟩ := nd_ck_e h
    refine va_zast (i := x1) (x := 0) hx hb hK hP hD hS 9 8 rfl rfl i15 dX16_end_120 (fun H locs hP hD hS => ?_)
    obtain ⟨s16, es16, h⟩ := nd_let_e h
    have hP : va_P (dC, dI) vwCl (dw_X16 a ac s16) H := by rw [es16]; exact hP
    have hD : va_D A (dw_X16 a ac s16) := by rw [es16]; exact hD
    refine lv_aload_n hx hb dX16_end_121 rfl (lv_at hl 0 rfl) ?_
    refine va_get (D := (dC, dI)) (ci := 17) (v := .ref (a 8)) (C := RX16) (T := TX16) (N := 56) hx hb hts hi_dm_X16_end_X16 hown hK hP 0 rfl rfl 16 (by decide) (hts (.fieldLink RX16 31 "TimeMachineModel$Machine" "calling" "[I") (List.mem_of_getElem? (i := 12) rfl)) (fun _ h9 => h9) rfl dX16_end_122 ?_
    refine lv_iload_n hx hb dX16_end_125 rfl (lv_at hl 1 rfl) ?_
    refine lv_iconst (v := (-1)) hx hb dX16_end_126 (by decide) ?_
    obtain ⟨i17, h⟩ := nd_ck_e h
    refine va_iast (i := x1) (x := (-1)) hx hb hK hP hD hS 8 7 rfl rfl i17 dX16_end_127 (fun H locs hP hD hS => ?_)
    obtain ⟨s18, es18, h⟩ := nd_let_e h
    have hP : va_P (dC, dI) vwCl (dw_X16 a ac s18) H := by rw [es18]; exact hP
    have hD : va_D A (dw_X16 a ac s18) := by rw [es18]; exact hD
    refine lv_aload_n hx hb dX16_end_128 rfl (lv_at hl 0 rfl) ?_
    refine va_get (D := (dC, dI)) (ci := 17) (v := .ref (a 2)) (C := RX16) (T := TX16) (N := 56) hx hb hts hi_dm_X16_end_X16 hown hK hP 0 rfl rfl 10 (by decide) (hts (.fieldLink RX16 13 "TimeMachineModel$Machine" "state" "[I") (List.mem_of_getElem? (i := 13) rfl)) (fun _ h9 => h9) rfl dX16_end_129 ?_
    refine lv_iload_n hx hb dX16_end_132 rfl (lv_at hl 1 rfl) ?_
    refine lv_iconst (v := 3) hx hb dX16_end_133 (by decide) ?_
    obtain ⟨i19, h⟩ := nd_ck_e h
    refine va_iast (i := x1) (x := 3) hx hb hK hP hD hS 2 1 rfl rfl i19 dX16_end_134 (fun H locs hP hD hS => ?_)
    obtain ⟨s20, es20, h⟩ := nd_let_e h
    have hP : va_P (dC, dI) vwCl (dw_X16 a ac s20) H := by rw [es20]; exact hP
    have hD : va_D A (dw_X16 a ac s20) := by rw [es20]; exact hD
    refine lv_aload_n hx hb dX16_end_135 rfl (lv_at hl 0 rfl) ?_
    refine va_get (D := (dC, dI)) (ci := 17) (v := .ref (a 4)) (C := RX16) (T := TX16) (N := 56) hx hb hts hi_dm_X16_end_X16 hown hK hP 0 rfl rfl 12 (by decide) (hts (.fieldLink RX16 19 "TimeMachineModel$Machine" "ending" "[I") (List.mem_of_getElem? (i := 14) rfl)) (fun _ h9 => h9) rfl dX16_end_136 ?_
    refine lv_iload_n hx hb dX16_end_139 rfl (lv_at hl 1 rfl) ?_
    refine lv_iload_n hx hb dX16_end_140 rfl (lv_at hl 2 rfl) ?_
    obtain ⟨i21, h⟩ := nd_ck_e h
    refine va_iast (i := x1) (x := x2) hx hb hK hP hD hS 4 3 rfl rfl i21 dX16_end_141 (fun H locs hP hD hS => ?_)
    obtain ⟨s22, es22, h⟩ := nd_let_e h
    have hP : va_P (dC, dI) vwCl (dw_X16 a ac s22) H := by rw [es22]; exact hP
    have hD : va_D A (dw_X16 a ac s22) := by rw [es22]; exact hD
    refine lv_aload_n hx hb dX16_end_142 rfl (lv_at hl 0 rfl) ?_
    refine va_get (D := (dC, dI)) (ci := 17) (v := .ref (a 3)) (C := RX16) (T := TX16) (N := 56) hx hb hts hi_dm_X16_end_X16 hown hK hP 0 rfl rfl 11 (by decide) (hts (.fieldLink RX16 16 "TimeMachineModel$Machine" "parent" "[I") (List.mem_of_getElem? (i := 15) rfl)) (fun _ h9 => h9) rfl dX16_end_143 ?_
    refine lv_iload_n hx hb dX16_end_146 rfl (lv_at hl 1 rfl) ?_
    obtain ⟨i23, h⟩ := nd_ck_e h
    refine va_iald (i := x1) hx hb hK hP 3 2 rfl rfl i23 dX16_end_147 ?_
    refine lv_iconst (v := (-1)) hx hb dX16_end_148 (by decide) ?_
    refine lv_icmp_ne (tgt := 157) hx hb dX16_end_149 (by decide) (fun c24 => ?_) (fun c24 => ?_)
    · have h := nd_neg h c24
      exact (db_X16_end_157 C K)  s22 _ _ _ h hP hD hS (lv_sub hl [] rfl)
    · have h := nd_pos h c24
      refine lv_aload_n hx hb dX16_end_152 rfl (lv_at hl 0 rfl) ?_
      refine lv_iload_n hx hb dX16_end_153 rfl (lv_at hl 1 rfl) ?_
      obtain ⟨s26, hq, h⟩ := nd_b1_e h
      have hPc := hP
      have hDc := hD
      have hKc := hK
      have hFc := nd_rs hD hS hA
      refine nd_cVv (As := [.int x1]) (rest := []) (w' := dw_X16 a ac s26) ⟨hx, hb, hml, hown, hts⟩ (fun sz => dm_X16_begin l hlt dC dI a ac n (x1) s22 hq sz) (cwV 1 hts gi_dm_X16_end_2 rfl rfl rfl (by decide +kernel) ⟨Nat.le_of_ble_eq_true rfl, Nat.le_of_ble_eq_true rfl⟩) hPc hDc hKc hS hA hN (va_recv hKc hPc (ci := 17) (q0 := 0) rfl rfl) rfl hl.1 rfl (Nat.le_of_ble_eq_true rfl) dX16_end_154 (fun H locs hP1 hD1 hk1 hS => ?_)
      have hP := hP1
      have hD := hD1.weaken (fun k q _ h => hFc q.1 h)
      exact (db_X16_end_157 C K)  s26 _ _ _ h hP hD hS (lv_sub hl [] rfl)
  · have h := nd_neg h c8
    refine lv_aload_n hx hb dX16_end_43 rfl (lv_at hl 0 rfl) ?_
    refine va_get (D := (dC, dI)) (ci := 17) (v := .ref (a 2)) (C := RX16) (T := TX16) (N := 56) hx hb hts hi_dm_X16_end_X16 hown hK hP 0 rfl rfl 10 (by decide) (hts (.fieldLink RX16 13 "TimeMachineModel$Machine" "state" "[I") (List.mem_of_getElem? (i := 13) rfl)) (fun _ h9 => h9) rfl dX16_end_44 ?_
    refine lv_iload_n hx hb dX16_end_47 rfl (lv_at hl 3 rfl) ?_
    obtain ⟨i28, h⟩ := nd_ck_e h
    refine va_iald (i := x3) hx hb hK hP 2 1 rfl rfl i28 dX16_end_48 ?_
    refine lv_if_eq (tgt := 87) hx hb dX16_end_49 (by decide) (fun c29 => ?_) (fun c29 => ?_)
    · have h := nd_pos h c29
      exact (db_X16_end_87 C K J37) (x1) (x2) (x3) s0 _ _ _ h hP hD hS (lv_sub hl [0, 1, 2, 3] rfl)
    · have h := nd_neg h c29
      refine lv_aload_n hx hb dX16_end_52 rfl (lv_at hl 0 rfl) ?_
      refine va_get (D := (dC, dI)) (ci := 17) (v := .ref (a 3)) (C := RX16) (T := TX16) (N := 56) hx hb hts hi_dm_X16_end_X16 hown hK hP 0 rfl rfl 11 (by decide) (hts (.fieldLink RX16 16 "TimeMachineModel$Machine" "parent" "[I") (List.mem_of_getElem? (i := 15) rfl)) (fun _ h9 => h9) rfl dX16_end_53 ?_
      refine lv_iload_n hx hb dX16_end_56 rfl (lv_at hl 3 rfl) ?_
      obtain ⟨i31, h⟩ := nd_ck_e h
      refine va_iald (i := x3) hx hb hK hP 3 2 rfl rfl i31 dX16_end_57 ?_
      refine lv_iload_n hx hb dX16_end_58 rfl (lv_at hl 1 rfl) ?_
      refine lv_icmp_eq (tgt := 65) hx hb dX16_end_59 (by decide) (fun c32 => ?_) (fun c32 => ?_)
      · have h := nd_pos h c32
        refine lv_aload_n hx hb dX16_end_65 rfl (lv_at hl 0 rfl) ?_
        refine va_get (D := (dC, dI)) (ci := 17) (v := .ref (a 3)) (C := RX16) (T := TX16) (N := 56) hx hb hts hi_dm_X16_end_X16 hown hK hP 0 rfl rfl 11 (by decide) (hts (.fieldLink RX16 16 "TimeMachineModel$Machine" "parent" "[I") (List.mem_of_getElem? (i := 15) rfl)) (fun _ h9 => h9) rfl dX16_end_66 ?_
        refine lv_iload_n hx hb dX16_end_69 rfl (lv_at hl 3 rfl) ?_
        refine lv_iconst (v := (-1)) hx hb dX16_end_70 (by decide) ?_
        obtain ⟨i33, h⟩ := nd_ck_e h
        refine va_iast (i := x3) (x := (-1)) hx hb hK hP hD hS 3 2 rfl rfl i33 dX16_end_71 (fun H locs hP hD hS => ?_)
        obtain ⟨s34, es34, h⟩ := nd_let_e h
        have hP : va_P (dC, dI) vwCl (dw_X16 a ac s34) H := by rw [es34]; exact hP
        have hD : va_D A (dw_X16 a ac s34) := by rw [es34]; exact hD
        refine lv_aload_n hx hb dX16_end_72 rfl (lv_at hl 0 rfl) ?_
        refine va_get (D := (dC, dI)) (ci := 17) (v := .ref (a 2)) (C := RX16) (T := TX16) (N := 56) hx hb hts hi_dm_X16_end_X16 hown hK hP 0 rfl rfl 10 (by decide) (hts (.fieldLink RX16 13 "TimeMachineModel$Machine" "state" "[I") (List.mem_of_getElem? (i := 13) rfl)) (fun _ h9 => h9) rfl dX16_end_73 ?_
        refine lv_iload_n hx hb dX16_end_76 rfl (lv_at hl 3 rfl) ?_
        obtain ⟨i35, h⟩ := nd_ck_e h
        refine va_iald (i := x3) hx hb hK hP 2 1 rfl rfl i35 dX16_end_77 ?_
        refine lv_iconst (v := 3) hx hb dX16_end_78 (by decide) ?_
        refine lv_icmp_ne (tgt := 87) hx hb dX16_end_79 (by decide) (fun c36 => ?_) (fun c36 => ?_)
        · have h := nd_neg h c36
          exact (db_X16_end_87 C K J37) (x1) (x2) (x3) s34 _ _ _ h hP hD hS (lv_sub hl [0, 1, 2, 3] rfl)
        · have h := nd_pos h c36
          refine lv_aload_n hx hb dX16_end_82 rfl (lv_at hl 0 rfl) ?_
          refine lv_iload_n hx hb dX16_end_83 rfl (lv_at hl 3 rfl) ?_
          obtain ⟨s38, hq, h⟩ := nd_b1_e h
          have hPc := hP
          have hDc := hD
          have hKc := hK
          have hFc := nd_rs hD hS hA
          refine nd_cVv (As := [.int x3]) (rest := []) (w' := dw_X16 a ac s38) ⟨hx, hb, hml, hown, hts⟩ (fun sz => dm_X16_begin l hlt dC dI a ac n (x3) s34 hq sz) (cwV 1 hts gi_dm_X16_end_2 rfl rfl rfl (by decide +kernel) ⟨Nat.le_of_ble_eq_true rfl, Nat.le_of_ble_eq_true rfl⟩) hPc hDc hKc hS hA hN (va_recv hKc hPc (ci := 17) (q0 := 0) rfl rfl) rfl hl.1 rfl (Nat.le_of_ble_eq_true rfl) dX16_end_84 (fun H locs hP1 hD1 hk1 hS => ?_)
          have hP := hP1
          have hD := hD1.weaken (fun k q _ h => hFc q.1 h)
          exact (db_X16_end_87 C K J37) (x1) (x2) (x3) s38 _ _ _ h hP hD hS (lv_sub hl [0, 1, 2, 3] rfl)
      · have h := nd_neg h c32
        refine lv_goto (tgt := 87) hx hb dX16_end_62 (by decide) ?_
        exact (db_X16_end_87 C K J37) (x1) (x2) (x3) s0 _ _ _ h hP hD hS (lv_sub hl [0, 1, 2, 3] rfl)
set_option maxHeartbeats 40000000 in
set_option maxRecDepth 100000 in
theorem db_X16_end_37 {p : Program} {l : Launch} {e : Env} {s : State} {m : MethodId} {args : Array Value} {below : List Frame} {meth : Method} {c : Code} {Q : State → Prop} {A : Nat → Prop} {dC : Nat → ClassId} {dI : Nat → Nat → Nat} {a : Nat → Nat} {ac : Nat → ClassId} {n : Nat} {r : St × (St)} (C : nd_C p l s m args c A (dC, dI) cX16_end 4 RX16 ow_dm_X16_end (dk_X16 ac)) (K : nd_Kv p l e (headSpec ow_dm_X16_end ({ frames := 2, cells := 0, slots := 0, locals := 45 })).room s m args below meth c Q A (dC, dI) cX16_end (St × (St)) (dw_X16 a ac) r) (k : Nat) : dj_X16_end_37 p l e s m args below meth c Q A dC dI a ac (df_X16_end_37 n k) r := by
  induction k with
  | zero => intro x1 x2 x3 s0 H locs ls h; exact nomatch (show (none : Option (St × (St))) = some r from h)
  | succ k ih => exact dB_X16_end_37 C K ih
set_option maxHeartbeats 40000000 in
set_option maxRecDepth 100000 in
theorem dB_X16_end_2 {p : Program} {l : Launch} {e : Env} {s : State} {m : MethodId} {args : Array Value} {below : List Frame} {meth : Method} {c : Code} {Q : State → Prop} {A : Nat → Prop} {dC : Nat → ClassId} {dI : Nat → Nat → Nat} {a : Nat → Nat} {ac : Nat → ClassId} {n : Nat} {r : St × (St)} (C : nd_C p l s m args c A (dC, dI) cX16_end 4 RX16 ow_dm_X16_end (dk_X16 ac)) (K : nd_Kv p l e (headSpec ow_dm_X16_end ({ frames := 2, cells := 0, slots := 0, locals := 45 })).room s m args below meth c Q A (dC, dI) cX16_end (St × (St)) (dw_X16 a ac) r) {g2 : Int32 → Int32 → Int32 → (St × (St)) → Option (St × (St))} (J2 : dj_X16_end_2 p l e s m args below meth c Q A dC dI a ac g2 r) : dj_X16_end_2 p l e s m args below meth c Q A dC dI a ac (dF_X16_end_2 n g2) r := by
  obtain ⟨hlt, hx, hb, hml, hown, hts, hN, hA, hK⟩ := id C
  intro x1 x2 x3 s0 H locs ls h hP hD hS hl
  unfold dF_X16_end_2 at h
  refine lv_iload_n hx hb dX16_end_2 rfl (lv_at hl 3 rfl) ?_
  refine lv_bipush (v := 16) hx hb dX16_end_3 (by decide) ?_
  refine lv_icmp_ge (tgt := 26) hx hb dX16_end_5 (by decide) (fun c1 => ?_) (fun c1 => ?_)
  · have h := nd_pos h c1
    refine lv_aload_n hx hb dX16_end_26 rfl (lv_at hl 0 rfl) ?_
    obtain ⟨s3, hq, h⟩ := nd_b1_e h
    have hPc := hP
    have hDc := hD
    have hKc := hK
    have hFc := nd_rs hD hS hA
    refine nd_cVv (As := []) (rest := []) (w' := dw_X16 a ac s3) ⟨hx, hb, hml, hown, hts⟩ (fun sz => dm_X16_sweep l hlt dC dI a ac n  s0 hq sz) (cwV 0 hts gi_dm_X16_end_0 rfl rfl rfl (by decide +kernel) ⟨Nat.le_of_ble_eq_true rfl, Nat.le_of_ble_eq_true rfl⟩) hPc hDc hKc hS hA hN (va_recv hKc hPc (ci := 17) (q0 := 0) rfl rfl) rfl hl.1 rfl (Nat.le_of_ble_eq_true rfl) dX16_end_27 (fun H locs hP1 hD1 hk1 hS => ?_)
    have hP := hP1
    have hD := hD1.weaken (fun k q _ h => hFc q.1 h)
    refine lv_aload_n hx hb dX16_end_30 rfl (lv_at hl 0 rfl) ?_
    refine lv_iload_n hx hb dX16_end_31 rfl (lv_at hl 1 rfl) ?_
    obtain ⟨s6, hq, h⟩ := nd_b1_e h
    have hPc := hP
    have hDc := hD
    have hKc := hK
    have hFc := nd_rs hD hS hA
    refine nd_cVv (As := [.int x1]) (rest := []) (w' := dw_X16 a ac s6) ⟨hx, hb, hml, hown, hts⟩ (fun sz => dm_X16_leaveAll l hlt dC dI a ac n (x1) s3 hq sz) (cwV 1 hts gi_dm_X16_end_1 rfl rfl rfl (by decide +kernel) ⟨Nat.le_of_ble_eq_true rfl, Nat.le_of_ble_eq_true rfl⟩) hPc hDc hKc hS hA hN (va_recv hKc hPc (ci := 17) (q0 := 0) rfl rfl) rfl hl.1 rfl (Nat.le_of_ble_eq_true rfl) dX16_end_32 (fun H locs hP1 hD1 hk1 hS => ?_)
    have hP := hP1
    have hD := hD1.weaken (fun k q _ h => hFc q.1 h)
    refine lv_iconst (v := 0) hx hb dX16_end_35 (by decide) ?_
    refine lv_istore_n (lv' := [(3, .int 0), (0, .ref (a 0)), (1, .int x1), (2, .int x2)]) hx hb dX16_end_36 rfl hl (by decide) rfl (fun ls hl => ?_)
    exact (db_X16_end_37 C K n) (x1) (x2) (0) s6 _ _ _ h hP hD hS (lv_sub hl [1, 2, 3, 0] rfl)
  · have h := nd_neg h c1
    refine lv_aload_n hx hb dX16_end_8 rfl (lv_at hl 0 rfl) ?_
    refine va_get (D := (dC, dI)) (ci := 17) (v := .ref (a 16)) (C := RX16) (T := TX16) (N := 56) hx hb hts hi_dm_X16_end_X16 hown hK hP 0 rfl rfl 24 (by decide) (hts (.fieldLink RX16 57 "TimeMachineModel$Machine" "descriptor" "[I") (List.mem_of_getElem? (i := 19) rfl)) (fun _ h9 => h9) rfl dX16_end_9 ?_
    refine lv_bipush (v := 16) hx hb dX16_end_12 (by decide) ?_
    refine lv_iload_n hx hb dX16_end_14 rfl (lv_at hl 1 rfl) ?_
    refine lv_imul hx hb dX16_end_15 ?_
    refine lv_iload_n hx hb dX16_end_16 rfl (lv_at hl 3 rfl) ?_
    refine lv_iadd hx hb dX16_end_17 ?_
    refine lv_iconst (v := (-1)) hx hb dX16_end_18 (by decide) ?_
    obtain ⟨i40, h⟩ := nd_ck_e h
    refine va_iast (i := ((16 * x1) + x3)) (x := (-1)) hx hb hK hP hD hS 16 15 rfl rfl i40 dX16_end_19 (fun H locs hP hD hS => ?_)
    obtain ⟨s41, es41, h⟩ := nd_let_e h
    have hP : va_P (dC, dI) vwCl (dw_X16 a ac s41) H := by rw [es41]; exact hP
    have hD : va_D A (dw_X16 a ac s41) := by rw [es41]; exact hD
    obtain ⟨z42, ez42, h⟩ := nd_let_e h
    refine lv_iinc (v := z42) (lv' := [(3, .int z42), (0, .ref (a 0)), (1, .int x1), (2, .int x2)]) hx hb dX16_end_20 hl (k := 3) rfl (by rw [ez42]) (by decide) rfl (fun ls hl => ?_)
    refine lv_goto (tgt := 2) hx hb dX16_end_23 (by decide) ?_
    exact (J2) (x1) (x2) (z42) s41 _ _ _ h hP hD hS (lv_sub hl [1, 2, 3, 0] rfl)
set_option maxHeartbeats 40000000 in
set_option maxRecDepth 100000 in
theorem db_X16_end_2 {p : Program} {l : Launch} {e : Env} {s : State} {m : MethodId} {args : Array Value} {below : List Frame} {meth : Method} {c : Code} {Q : State → Prop} {A : Nat → Prop} {dC : Nat → ClassId} {dI : Nat → Nat → Nat} {a : Nat → Nat} {ac : Nat → ClassId} {n : Nat} {r : St × (St)} (C : nd_C p l s m args c A (dC, dI) cX16_end 4 RX16 ow_dm_X16_end (dk_X16 ac)) (K : nd_Kv p l e (headSpec ow_dm_X16_end ({ frames := 2, cells := 0, slots := 0, locals := 45 })).room s m args below meth c Q A (dC, dI) cX16_end (St × (St)) (dw_X16 a ac) r) (k : Nat) : dj_X16_end_2 p l e s m args below meth c Q A dC dI a ac (df_X16_end_2 n k) r := by
  induction k with
  | zero => intro x1 x2 x3 s0 H locs ls h; exact nomatch (show (none : Option (St × (St))) = some r from h)
  | succ k ih => exact dB_X16_end_2 C K ih
set_option maxHeartbeats 40000000 in
set_option maxRecDepth 100000 in
theorem db_X16_end_0 {p : Program} {l : Launch} {e : Env} {s : State} {m : MethodId} {args : Array Value} {below : List Frame} {meth : Method} {c : Code} {Q : State → Prop} {A : Nat → Prop} {dC : Nat → ClassId} {dI : Nat → Nat → Nat} {a : Nat → Nat} {ac : Nat → ClassId} {n : Nat} {r : St × (St)} (C : nd_C p l s m args c A (dC, dI) cX16_end 4 RX16 ow_dm_X16_end (dk_X16 ac)) (K : nd_Kv p l e (headSpec ow_dm_X16_end ({ frames := 2, cells := 0, slots := 0, locals := 45 })).room s m args below meth c Q A (dC, dI) cX16_end (St × (St)) (dw_X16 a ac) r) : dj_X16_end_0 p l e s m args below meth c Q A dC dI a ac (df_X16_end_0 n) r := by
  obtain ⟨hlt, hx, hb, hml, hown, hts, hN, hA, hK⟩ := id C
  intro v0 v1 s0 H locs ls h hP hD hS hl
  unfold df_X16_end_0 at h
  refine lv_iconst (v := 0) hx hb dX16_end_0 (by decide) ?_
  refine lv_istore_n (lv' := [(3, .int 0), (0, .ref (a 0)), (1, .int v0), (2, .int v1)]) hx hb dX16_end_1 rfl hl (by decide) rfl (fun ls hl => ?_)
  exact (db_X16_end_2 C K n) (v0) (v1) (0) s0 _ _ _ h hP hD hS (lv_sub hl [1, 2, 3, 0] rfl)
set_option maxHeartbeats 40000000 in
set_option maxRecDepth 100000 in
theorem dm_X16_end (l : Launch) (hlt : l.stackTraces = false) (dC : Nat → ClassId) (dI : Nat → Nat → Nat) (a : Nat → Nat) (ac : Nat → ClassId) (n : Nat) (v0 : Int32) (v1 : Int32) (s0 : St × (St)) {r : St × (St)} (h : df_X16_end n v0 v1 s0 = some r) (sz : Nat) : Met l yX16_end ow_dm_X16_end ({ frames := 2, cells := 0, slots := 0, locals := 45 }) (va_Pc [.ref (a 0), .int v0, .int v1] (fun U => U.heap.size = sz ∧ va_P (dC, dI) vwCl (dw_X16 a ac s0) U.heap ∧ va_K (dC, dI) vwCl (dk_X16 ac) U ∧ va_D (fun _ => True) (dw_X16 a ac s0) ∧ nv_E (va_A (dw_X16 a ac s0) sz) U)) (va_Qv (fun _ => True) (fun (_ : Unit) t => va_P (dC, dI) vwCl (dw_X16 a ac r) t.heap ∧ va_K (dC, dI) vwCl (dk_X16 ac) t ∧ va_D (va_A (dw_X16 a ac s0) sz) (dw_X16 a ac r)) (va_A (dw_X16 a ac s0) sz)) 0 0 (va_A (dw_X16 a ac s0) sz) := by
  refine Met.ofW (cc := cX16_end) (maxL := 4) (ret := none) (by decide) rfl ?_
  intro p e s m args below meth c s₁ B hml hv
  obtain ⟨rfl, hsz, hP, hK, hD0, hN⟩ := hv
  have hx := B.exec
  have hb := B.bytes
  have hr := B.returns
  have hts := atoms_spec (ws := ow_dm_X16_end) B.pre
  have hown : s.vm.findClass RX16 = some m.cls := findClass_of_methodNamed B.named
  have hlocks := B.notSynchronized
  subst hsz
  have hD := hD0.self (sz := s.heap.size)
  generalize hAe : va_A (dw_X16 a ac s0) s.heap.size = A at hD hN ⊢
  have hA : ∀ q : Nat, s.heap.size ≤ q → A q := fun q h => by rw [← hAe]; exact Or.inr h
  have hl := lv_entry ([.ref (a 0), .int v0, .int v1]) (n := 4) (Nat.le_of_ble_eq_true rfl)
  rw [lg_entry_eq]
  generalize (lg_sl ([.ref (a 0), .int v0, .int v1]) ++ List.replicate (4 - (lg_sl ([.ref (a 0), .int v0, .int v1])).length) Slot.unset).toArray = ls at hl ⊢
  have hl : lv_has ls 4 [(0, .ref (a 0)), (1, .int v0), (2, .int v1)] := hl
  exact db_X16_end_0 (dC := dC) (dI := dI) (a := a) (ac := ac) (n := n) (r := r) ⟨hlt, hx, hb, hml, hown, hts, hN, hA, hK⟩ (fun pc τ H locs ls d er hP hD hS => by subst er; exact W.vret hx hb hr (fun t ht hW => ⟨⟨(), rfl, trivial, by rw [ht]; exact hP, va_K.moved hW.alike hK, hD⟩, hS.F ht⟩) hS.2.2 d) v0 v1 s0 _ _ _ h hP hD va_S.rf (lv_sub hl [0, 1, 2] rfl)
def ow_dm_X16_plain : List Cond := .code yX16_plain cX16_plain 1 (some .long) :: ([.constantLong RX16 258 (4294967295)] ++ [])
theorem gd_dm_X16_plain : ∀ w ∈ ow_dm_X16_plain, (w.onTables && w.keeps) = true ∨ ∃ ty, w = Cond.arrayClass ty := List.forall_mem_cons.mpr ⟨good_of_word rfl, List.forall_mem_append.mpr ⟨fun w h => good_of_word (List.all_eq_true.mp (by decide +kernel) w h), fun _ h => nomatch h⟩⟩
def dj_X16_plain_0 (p : Program) (l : Launch) (e : Env) (s : State) (m : MethodId) (args : Array Value) (below : List Frame) (meth : Method) (c : Code) (Q : State → Prop) (A : Nat → Prop) (dC : Nat → ClassId) (dI : Nat → Nat → Nat) (a : Nat → Nat) (ac : Nat → ClassId) (g : Int32 → (Unit) → Option (Int64 × (Unit))) (r : Int64 × (Unit)) : Prop := ∀ (v0 : Int32) (s0 : Unit) (H : Heap) (locs : List Loc) (ls : Array Slot), g v0 s0 = some r → va_P (dC, dI) vwCl (dw_P a ac s0) H → va_D A (dw_P a ac s0) → va_S A s.heap H locs → lv_has ls 1 [(0, .int v0)] → W p l e (headSpec ow_dm_X16_plain ({ frames := 0, cells := 0, slots := 0, locals := 0 })).room s m args below meth c H locs 0 0 Q (F0 m 0 ls [])
set_option maxHeartbeats 40000000 in
set_option maxRecDepth 100000 in
theorem db_X16_plain_0 {p : Program} {l : Launch} {e : Env} {s : State} {m : MethodId} {args : Array Value} {below : List Frame} {meth : Method} {c : Code} {Q : State → Prop} {A : Nat → Prop} {dC : Nat → ClassId} {dI : Nat → Nat → Nat} {a : Nat → Nat} {ac : Nat → ClassId} {n : Nat} {r : Int64 × (Unit)} (C : nd_C p l s m args c A (dC, dI) cX16_plain 1 RX16 ow_dm_X16_plain (dk_P ac)) (K : nd_Kl p l e (headSpec ow_dm_X16_plain ({ frames := 0, cells := 0, slots := 0, locals := 0 })).room s m args below meth c Q A (dC, dI) cX16_plain (Unit) (dw_P a ac) r) : dj_X16_plain_0 p l e s m args below meth c Q A dC dI a ac (df_X16_plain_0 n) r := by
  obtain ⟨hlt, hx, hb, hml, hown, hts, hN, hA, hK⟩ := id C
  intro v0 s0 H locs ls h hP hD hS hl
  unfold df_X16_plain_0 at h
  refine lv_iload_n hx hb dX16_plain_0 rfl (lv_at hl 0 rfl) ?_
  refine lv_i2l hx hb dX16_plain_1 rfl ?_
  refine lv_ldc2 hx hb hown (hts (.constantLong RX16 258 (4294967295)) (List.mem_of_getElem? (i := 1) rfl)) dX16_plain_2 ?_
  refine lv_land hx hb dX16_plain_5 ?_
  exact K _ _ _ _ _ _ dX16_plain_6 (Option.some.inj h).symm hP hD hS
set_option maxHeartbeats 40000000 in
set_option maxRecDepth 100000 in
theorem dm_X16_plain (l : Launch) (hlt : l.stackTraces = false) (dC : Nat → ClassId) (dI : Nat → Nat → Nat) (a : Nat → Nat) (ac : Nat → ClassId) (n : Nat) (v0 : Int32) (s0 : Unit) {r : Int64 × (Unit)} (h : df_X16_plain n v0 s0 = some r) (sz : Nat) : Met l yX16_plain ow_dm_X16_plain ({ frames := 0, cells := 0, slots := 0, locals := 0 }) (va_Pc [.int v0] (fun U => U.heap.size = sz ∧ va_P (dC, dI) vwCl (dw_P a ac s0) U.heap ∧ va_K (dC, dI) vwCl (dk_P ac) U ∧ va_D (fun _ => True) (dw_P a ac s0) ∧ nv_E (va_A (dw_P a ac s0) sz) U)) (va_Ql (fun x _ => x = r.1) (fun (_ : Unit) t => va_P (dC, dI) vwCl (dw_P a ac r.2) t.heap ∧ va_K (dC, dI) vwCl (dk_P ac) t ∧ va_D (va_A (dw_P a ac s0) sz) (dw_P a ac r.2)) (va_A (dw_P a ac s0) sz)) 0 0 (va_A (dw_P a ac s0) sz) := by
  refine Met.ofW (cc := cX16_plain) (maxL := 1) (ret := (some .long)) (by decide) rfl ?_
  intro p e s m args below meth c s₁ B hml hv
  obtain ⟨rfl, hsz, hP, hK, hD0, hN⟩ := hv
  have hx := B.exec
  have hb := B.bytes
  have hr := B.returns
  have hts := atoms_spec (ws := ow_dm_X16_plain) B.pre
  have hown : s.vm.findClass RX16 = some m.cls := findClass_of_methodNamed B.named
  have hlocks := B.notSynchronized
  subst hsz
  have hD := hD0.self (sz := s.heap.size)
  generalize hAe : va_A (dw_P a ac s0) s.heap.size = A at hD hN ⊢
  have hA : ∀ q : Nat, s.heap.size ≤ q → A q := fun q h => by rw [← hAe]; exact Or.inr h
  have hl := lv_entry ([.int v0]) (n := 1) (Nat.le_of_ble_eq_true rfl)
  rw [lg_entry_eq]
  generalize (lg_sl ([.int v0]) ++ List.replicate (1 - (lg_sl ([.int v0])).length) Slot.unset).toArray = ls at hl ⊢
  have hl : lv_has ls 1 [(0, .int v0)] := hl
  exact db_X16_plain_0 (dC := dC) (dI := dI) (a := a) (ac := ac) (n := n) (r := r) ⟨hlt, hx, hb, hml, hown, hts, hN, hA, hK⟩ (fun pc v τ H locs ls d er hP hD hS => by subst er; exact W.lret (v := v) hx hb hr (fun t ht hW => ⟨⟨v, (), rfl, rfl, by rw [ht]; exact hP, va_K.moved hW.alike hK, hD⟩, hS.F ht⟩) hS.2.2 d) v0 s0 _ _ _ h hP hD va_S.rf (lv_sub hl [0] rfl)
def ow_dm_X16_can : List Cond := .code yX16_can cX16_can 5 (some .boolean) :: ([.fieldLink RX16 13 "TimeMachineModel$Machine" "state" "[I", .fieldLink RX16 122 "TimeMachineModel$Machine" "typed" "I", .fieldLink RX16 126 "TimeMachineModel$Machine" "waitingWords" "I"] ++ (u_ws RX16 TX16 56 ++ []))
theorem gd_dm_X16_can : ∀ w ∈ ow_dm_X16_can, (w.onTables && w.keeps) = true ∨ ∃ ty, w = Cond.arrayClass ty := List.forall_mem_cons.mpr ⟨good_of_word rfl, List.forall_mem_append.mpr ⟨fun w h => good_of_word (List.all_eq_true.mp (by decide +kernel) w h), List.forall_mem_append.mpr ⟨gu_X16, fun _ h => nomatch h⟩⟩⟩
theorem hi_dm_X16_can_X16 : ∀ w ∈ u_ws RX16 TX16 56, w ∈ ow_dm_X16_can := fun w h => List.mem_cons_of_mem _ (List.mem_append_right _ (List.mem_append_left _ h))
def dj_X16_can_48 (p : Program) (l : Launch) (e : Env) (s : State) (m : MethodId) (args : Array Value) (below : List Frame) (meth : Method) (c : Code) (Q : State → Prop) (A : Nat → Prop) (dC : Nat → ClassId) (dI : Nat → Nat → Nat) (a : Nat → Nat) (ac : Nat → ClassId) (g : Int32 → (St × (St)) → Option (Int32 × (St × (St)))) (r : Int32 × (St × (St))) : Prop := ∀ (y0 : Int32) (s0 : St × (St)) (H : Heap) (locs : List Loc) (ls : Array Slot), g y0 s0 = some r → va_P (dC, dI) vwCl (dw_X16 a ac s0) H → va_D A (dw_X16 a ac s0) → va_S A s.heap H locs → lv_has ls 5 [] → W p l e (headSpec ow_dm_X16_can ({ frames := 0, cells := 0, slots := 0, locals := 0 })).room s m args below meth c H locs 0 0 Q (F0 m 48 ls [.int y0])
def dj_X16_can_67 (p : Program) (l : Launch) (e : Env) (s : State) (m : MethodId) (args : Array Value) (below : List Frame) (meth : Method) (c : Code) (Q : State → Prop) (A : Nat → Prop) (dC : Nat → ClassId) (dI : Nat → Nat → Nat) (a : Nat → Nat) (ac : Nat → ClassId) (g : Int32 → (St × (St)) → Option (Int32 × (St × (St)))) (r : Int32 × (St × (St))) : Prop := ∀ (y0 : Int32) (s0 : St × (St)) (H : Heap) (locs : List Loc) (ls : Array Slot), g y0 s0 = some r → va_P (dC, dI) vwCl (dw_X16 a ac s0) H → va_D A (dw_X16 a ac s0) → va_S A s.heap H locs → lv_has ls 5 [] → W p l e (headSpec ow_dm_X16_can ({ frames := 0, cells := 0, slots := 0, locals := 0 })).room s m args below meth c H locs 0 0 Q (F0 m 67 ls [.int y0])
def dj_X16_can_102 (p : Program) (l : Launch) (e : Env) (s : State) (m : MethodId) (args : Array Value) (below : List Frame) (meth : Method) (c : Code) (Q : State → Prop) (A : Nat → Prop) (dC : Nat → ClassId) (dI : Nat → Nat → Nat) (a : Nat → Nat) (ac : Nat → ClassId) (g : Int32 → (St × (St)) → Option (Int32 × (St × (St)))) (r : Int32 × (St × (St))) : Prop := ∀ (y0 : Int32) (s0 : St × (St)) (H : Heap) (locs : List Loc) (ls : Array Slot), g y0 s0 = some r → va_P (dC, dI) vwCl (dw_X16 a ac s0) H → va_D A (dw_X16 a ac s0) → va_S A s.heap H locs → lv_has ls 5 [] → W p l e (headSpec ow_dm_X16_can ({ frames := 0, cells := 0, slots := 0, locals := 0 })).room s m args below meth c H locs 0 0 Q (F0 m 102 ls [.int y0])
def dj_X16_can_101 (p : Program) (l : Launch) (e : Env) (s : State) (m : MethodId) (args : Array Value) (below : List Frame) (meth : Method) (c : Code) (Q : State → Prop) (A : Nat → Prop) (dC : Nat → ClassId) (dI : Nat → Nat → Nat) (a : Nat → Nat) (ac : Nat → ClassId) (g : (St × (St)) → Option (Int32 × (St × (St)))) (r : Int32 × (St × (St))) : Prop := ∀ (s0 : St × (St)) (H : Heap) (locs : List Loc) (ls : Array Slot), g s0 = some r → va_P (dC, dI) vwCl (dw_X16 a ac s0) H → va_D A (dw_X16 a ac s0) → va_S A s.heap H locs → lv_has ls 5 [] → W p l e (headSpec ow_dm_X16_can ({ frames := 0, cells := 0, slots := 0, locals := 0 })).room s m args below meth c H locs 0 0 Q (F0 m 101 ls [])
def dj_X16_can_97 (p : Program) (l : Launch) (e : Env) (s : State) (m : MethodId) (args : Array Value) (below : List Frame) (meth : Method) (c : Code) (Q : State → Prop) (A : Nat → Prop) (dC : Nat → ClassId) (dI : Nat → Nat → Nat) (a : Nat → Nat) (ac : Nat → ClassId) (g : (St × (St)) → Option (Int32 × (St × (St)))) (r : Int32 × (St × (St))) : Prop := ∀ (s0 : St × (St)) (H : Heap) (locs : List Loc) (ls : Array Slot), g s0 = some r → va_P (dC, dI) vwCl (dw_X16 a ac s0) H → va_D A (dw_X16 a ac s0) → va_S A s.heap H locs → lv_has ls 5 [] → W p l e (headSpec ow_dm_X16_can ({ frames := 0, cells := 0, slots := 0, locals := 0 })).room s m args below meth c H locs 0 0 Q (F0 m 97 ls [])
def dj_X16_can_119 (p : Program) (l : Launch) (e : Env) (s : State) (m : MethodId) (args : Array Value) (below : List Frame) (meth : Method) (c : Code) (Q : State → Prop) (A : Nat → Prop) (dC : Nat → ClassId) (dI : Nat → Nat → Nat) (a : Nat → Nat) (ac : Nat → ClassId) (g : Int32 → (St × (St)) → Option (Int32 × (St × (St)))) (r : Int32 × (St × (St))) : Prop := ∀ (y0 : Int32) (s0 : St × (St)) (H : Heap) (locs : List Loc) (ls : Array Slot), g y0 s0 = some r → va_P (dC, dI) vwCl (dw_X16 a ac s0) H → va_D A (dw_X16 a ac s0) → va_S A s.heap H locs → lv_has ls 5 [] → W p l e (headSpec ow_dm_X16_can ({ frames := 0, cells := 0, slots := 0, locals := 0 })).room s m args below meth c H locs 0 0 Q (F0 m 119 ls [.int y0])
def dj_X16_can_0 (p : Program) (l : Launch) (e : Env) (s : State) (m : MethodId) (args : Array Value) (below : List Frame) (meth : Method) (c : Code) (Q : State → Prop) (A : Nat → Prop) (dC : Nat → ClassId) (dI : Nat → Nat → Nat) (a : Nat → Nat) (ac : Nat → ClassId) (g : Int32 → Int64 → Int32 → (St × (St)) → Option (Int32 × (St × (St)))) (r : Int32 × (St × (St))) : Prop := ∀ (v0 : Int32) (v1 : Int64) (v2 : Int32) (s0 : St × (St)) (H : Heap) (locs : List Loc) (ls : Array Slot), g v0 v1 v2 s0 = some r → va_P (dC, dI) vwCl (dw_X16 a ac s0) H → va_D A (dw_X16 a ac s0) → va_S A s.heap H locs → lv_has ls 5 [(0, .ref (a 0)), (1, .int v0), (2, .long v1), (4, .int v2)] → W p l e (headSpec ow_dm_X16_can ({ frames := 0, cells := 0, slots := 0, locals := 0 })).room s m args below meth c H locs 0 0 Q (F0 m 0 ls [])
set_option maxHeartbeats 40000000 in
set_option maxRecDepth 100000 in
theorem db_X16_can_48 {p : Program} {l : Launch} {e : Env} {s : State} {m : MethodId} {args : Array Value} {below : List Frame} {meth : Method} {c : Code} {Q : State → Prop} {A : Nat → Prop} {dC : Nat → ClassId} {dI : Nat → Nat → Nat} {a : Nat → Nat} {ac : Nat → ClassId} {n : Nat} {r : Int32 × (St × (St))} (C : nd_C p l s m args c A (dC, dI) cX16_can 5 RX16 ow_dm_X16_can (dk_X16 ac)) (K : nd_Ki p l e (headSpec ow_dm_X16_can ({ frames := 0, cells := 0, slots := 0, locals := 0 })).room s m args below meth c Q A (dC, dI) cX16_can .boolean (St × (St)) (dw_X16 a ac) r) : dj_X16_can_48 p l e s m args below meth c Q A dC dI a ac (df_X16_can_48 n) r := by
  obtain ⟨hlt, hx, hb, hml, hown, hts, hN, hA, hK⟩ := id C
  intro y0 s0 H locs ls h hP hD hS hl
  unfold df_X16_can_48 at h
  obtain ⟨n4, h⟩ := nd_z_e ⟨_, rfl⟩ h
  exact K _ _ _ _ _ _ dX16_can_48 n4 (Option.some.inj h).symm hP hD hS
set_option maxHeartbeats 40000000 in
set_option maxRecDepth 100000 in
theorem db_X16_can_67 {p : Program} {l : Launch} {e : Env} {s : State} {m : MethodId} {args : Array Value} {below : List Frame} {meth : Method} {c : Code} {Q : State → Prop} {A : Nat → Prop} {dC : Nat → ClassId} {dI : Nat → Nat → Nat} {a : Nat → Nat} {ac : Nat → ClassId} {n : Nat} {r : Int32 × (St × (St))} (C : nd_C p l s m args c A (dC, dI) cX16_can 5 RX16 ow_dm_X16_can (dk_X16 ac)) (K : nd_Ki p l e (headSpec ow_dm_X16_can ({ frames := 0, cells := 0, slots := 0, locals := 0 })).room s m args below meth c Q A (dC, dI) cX16_can .boolean (St × (St)) (dw_X16 a ac) r) : dj_X16_can_67 p l e s m args below meth c Q A dC dI a ac (df_X16_can_67 n) r := by
  obtain ⟨hlt, hx, hb, hml, hown, hts, hN, hA, hK⟩ := id C
  intro y0 s0 H locs ls h hP hD hS hl
  unfold df_X16_can_67 at h
  obtain ⟨n7, h⟩ := nd_z_e ⟨_, rfl⟩ h
  exact K _ _ _ _ _ _ dX16_can_67 n7 (Option.some.inj h).symm hP hD hS
set_option maxHeartbeats 40000000 in
set_option maxRecDepth 100000 in
theorem db_X16_can_102 {p : Program} {l : Launch} {e : Env} {s : State} {m : MethodId} {args : Array Value} {below : List Frame} {meth : Method} {c : Code} {Q : State → Prop} {A : Nat → Prop} {dC : Nat → ClassId} {dI : Nat → Nat → Nat} {a : Nat → Nat} {ac : Nat → ClassId} {n : Nat} {r : Int32 × (St × (St))} (C : nd_C p l s m args c A (dC, dI) cX16_can 5 RX16 ow_dm_X16_can (dk_X16 ac)) (K : nd_Ki p l e (headSpec ow_dm_X16_can ({ frames := 0, cells := 0, slots := 0, locals := 0 })).room s m args below meth c Q A (dC, dI) cX16_can .boolean (St × (St)) (dw_X16 a ac) r) : dj_X16_can_102 p l e s m args below meth c Q A dC dI a ac (df_X16_can_102 n) r := by
  obtain ⟨hlt, hx, hb, hml, hown, hts, hN, hA, hK⟩ := id C
  intro y0 s0 H locs ls h hP hD hS hl
  unfold df_X16_can_102 at h
  obtain ⟨n10, h⟩ := nd_z_e ⟨_, rfl⟩ h
  exact K _ _ _ _ _ _ dX16_can_102 n10 (Option.some.inj h).symm hP hD hS
set_option maxHeartbeats 40000000 in
set_option maxRecDepth 100000 in
theorem db_X16_can_101 {p : Program} {l : Launch} {e : Env} {s : State} {m : MethodId} {args : Array Value} {below : List Frame} {meth : Method} {c : Code} {Q : State → Prop} {A : Nat → Prop} {dC : Nat → ClassId} {dI : Nat → Nat → Nat} {a : Nat → Nat} {ac : Nat → ClassId} {n : Nat} {r : Int32 × (St × (St))} (C : nd_C p l s m args c A (dC, dI) cX16_can 5 RX16 ow_dm_X16_can (dk_X16 ac)) (K : nd_Ki p l e (headSpec ow_dm_X16_can ({ frames := 0, cells := 0, slots := 0, locals := 0 })).room s m args below meth c Q A (dC, dI) cX16_can .boolean (St × (St)) (dw_X16 a ac) r) : dj_X16_can_101 p l e s m args below meth c Q A dC dI a ac (df_X16_can_101 n) r := by
  obtain ⟨hlt, hx, hb, hml, hown, hts, hN, hA, hK⟩ := id C
  intro s0 H locs ls h hP hD hS hl
  unfold df_X16_can_101 at h
  refine lv_iconst (v := 0) hx hb dX16_can_101 (by decide) ?_
  exact (db_X16_can_102 C K) (0) s0 _ _ _ h hP hD hS (lv_sub hl [] rfl)
set_option maxHeartbeats 40000000 in
set_option maxRecDepth 100000 in
theorem db_X16_can_97 {p : Program} {l : Launch} {e : Env} {s : State} {m : MethodId} {args : Array Value} {below : List Frame} {meth : Method} {c : Code} {Q : State → Prop} {A : Nat → Prop} {dC : Nat → ClassId} {dI : Nat → Nat → Nat} {a : Nat → Nat} {ac : Nat → ClassId} {n : Nat} {r : Int32 × (St × (St))} (C : nd_C p l s m args c A (dC, dI) cX16_can 5 RX16 ow_dm_X16_can (dk_X16 ac)) (K : nd_Ki p l e (headSpec ow_dm_X16_can ({ frames := 0, cells := 0, slots := 0, locals := 0 })).room s m args below meth c Q A (dC, dI) cX16_can .boolean (St × (St)) (dw_X16 a ac) r) : dj_X16_can_97 p l e s m args below meth c Q A dC dI a ac (df_X16_can_97 n) r := by
  obtain ⟨hlt, hx, hb, hml, hown, hts, hN, hA, hK⟩ := id C
  intro s0 H locs ls h hP hD hS hl
  unfold df_X16_can_97 at h
  refine lv_iconst (v := 1) hx hb dX16_can_97 (by decide) ?_
  refine lv_goto (tgt := 102) hx hb dX16_can_98 (by decide) ?_
  exact (db_X16_can_102 C K) (1) s0 _ _ _ h hP hD hS (lv_sub hl [] rfl)
set_option maxHeartbeats 40000000 in
set_option maxRecDepth 100000 in
theorem db_X16_can_119 {p : Program} {l : Launch} {e : Env} {s : State} {m : MethodId} {args : Array Value} {below : List Frame} {meth : Method} {c : Code} {Q : State → Prop} {A : Nat → Prop} {dC : Nat → ClassId} {dI : Nat → Nat → Nat} {a : Nat → Nat} {ac : Nat → ClassId} {n : Nat} {r : Int32 × (St × (St))} (C : nd_C p l s m args c A (dC, dI) cX16_can 5 RX16 ow_dm_X16_can (dk_X16 ac)) (K : nd_Ki p l e (headSpec ow_dm_X16_can ({ frames := 0, cells := 0, slots := 0, locals := 0 })).room s m args below meth c Q A (dC, dI) cX16_can .boolean (St × (St)) (dw_X16 a ac) r) : dj_X16_can_119 p l e s m args below meth c Q A dC dI a ac (df_X16_can_119 n) r := by
  obtain ⟨hlt, hx, hb, hml, hown, hts, hN, hA, hK⟩ := id C
  intro y0 s0 H locs ls h hP hD hS hl
  unfold df_X16_can_119 at h
  obtain ⟨n17, h⟩ := nd_z_e ⟨_, rfl⟩ h
  exact K _ _ _ _ _ _ dX16_can_119 n17 (Option.some.inj h).symm hP hD hS
set_option maxHeartbeats 40000000 in
set_option maxRecDepth 100000 in
theorem db_X16_can_0 {p : Program} {l : Launch} {e : Env} {s : State} {m : MethodId} {args : Array Value} {below : List Frame} {meth : Method} {c : Code} {Q : State → Prop} {A : Nat → Prop} {dC : Nat → ClassId} {dI : Nat → Nat → Nat} {a : Nat → Nat} {ac : Nat → ClassId} {n : Nat} {r : Int32 × (St × (St))} (C : nd_C p l s m args c A (dC, dI) cX16_can 5 RX16 ow_dm_X16_can (dk_X16 ac)) (K : nd_Ki p l e (headSpec ow_dm_X16_can ({ frames := 0, cells := 0, slots := 0, locals := 0 })).room s m args below meth c Q A (dC, dI) cX16_can .boolean (St × (St)) (dw_X16 a ac) r) : dj_X16_can_0 p l e s m args below meth c Q A dC dI a ac (df_X16_can_0 n) r := by
  obtain ⟨hlt, hx, hb, hml, hown, hts, hN, hA, hK⟩ := id C
  intro v0 v1 v2 s0 H locs ls h hP hD hS hl
  unfold df_X16_can_0 at h
  refine lv_iload_n hx hb dX16_can_0 rfl (lv_at hl 1 rfl) ?_
  by_cases c1 : v0 = 0
  · have h := nd_pos h c1
    refine lv_tableIn (off := 31) (tgt := 32) hx hb dX16_can_1 (by rw [c1]; decide) (by rw [c1]; decide) (by rw [c1]; decide) (by decide) ?_
    refine lv_aload_n hx hb dX16_can_32 rfl (lv_at hl 0 rfl) ?_
    refine va_get (D := (dC, dI)) (ci := 17) (v := .ref (a 2)) (C := RX16) (T := TX16) (N := 56) hx hb hts hi_dm_X16_can_X16 hown hK hP 0 rfl rfl 10 (by decide) (hts (.fieldLink RX16 13 "TimeMachineModel$Machine" "state" "[I") (List.mem_of_getElem? (i := 1) rfl)) (fun _ h9 => h9) rfl dX16_can_33 ?_
    refine lv_lload_n hx hb dX16_can_36 rfl (lv_at hl 2 rfl) ?_
    refine lv_l2i hx hb dX16_can_37 rfl ?_
    obtain ⟨i2, h⟩ := nd_ck_e h
    refine va_iald (i := (v1.toInt32)) hx hb hK hP 2 1 rfl rfl i2 dX16_can_38 ?_
    refine lv_iconst (v := 1) hx hb dX16_can_39 (by decide) ?_
    refine lv_icmp_ne (tgt := 47) hx hb dX16_can_40 (by decide) (fun c3 => ?_) (fun c3 => ?_)
    · have h := nd_neg h c3
      refine lv_iconst (v := 0) hx hb dX16_can_47 (by decide) ?_
      exact (db_X16_can_48 C K) (0) s0 _ _ _ h hP hD hS (lv_sub hl [] rfl)
    · have h := nd_pos h c3
      refine lv_iconst (v := 1) hx hb dX16_can_43 (by decide) ?_
      refine lv_goto (tgt := 48) hx hb dX16_can_44 (by decide) ?_
      exact (db_X16_can_48 C K) (1) s0 _ _ _ h hP hD hS (lv_sub hl [] rfl)
  have h := nd_neg h c1
  by_cases c5 : v0 = 1
  · have h := nd_pos h c5
    refine lv_tableIn (off := 48) (tgt := 49) hx hb dX16_can_1 (by rw [c5]; decide) (by rw [c5]; decide) (by rw [c5]; decide) (by decide) ?_
    refine lv_aload_n hx hb dX16_can_49 rfl (lv_at hl 0 rfl) ?_
    refine va_get (D := (dC, dI)) (ci := 17) (v := .int (sI s0.1 7)) (C := RX16) (T := TX16) (N := 56) hx hb hts hi_dm_X16_can_X16 hown hK hP 0 rfl rfl 42 (by decide) (hts (.fieldLink RX16 122 "TimeMachineModel$Machine" "typed" "I") (List.mem_of_getElem? (i := 2) rfl)) (fun _ h9 => h9) rfl dX16_can_50 ?_
    refine lv_iload hx hb dX16_can_53 (lv_at hl 3 rfl) ?_
    refine lv_iadd hx hb dX16_can_55 ?_
    refine lv_sipush (v := 512) hx hb dX16_can_56 (by decide) ?_
    refine lv_icmp_gt (tgt := 66) hx hb dX16_can_59 (by decide) (fun c6 => ?_) (fun c6 => ?_)
    · have h := nd_pos h c6
      refine lv_iconst (v := 0) hx hb dX16_can_66 (by decide) ?_
      exact (db_X16_can_67 C K) (0) s0 _ _ _ h hP hD hS (lv_sub hl [] rfl)
    · have h := nd_neg h c6
      refine lv_iconst (v := 1) hx hb dX16_can_62 (by decide) ?_
      refine lv_goto (tgt := 67) hx hb dX16_can_63 (by decide) ?_
      exact (db_X16_can_67 C K) (1) s0 _ _ _ h hP hD hS (lv_sub hl [] rfl)
  have h := nd_neg h c5
  by_cases c8 : v0 = 2
  · have h := nd_pos h c8
    refine lv_tableIn (off := 67) (tgt := 68) hx hb dX16_can_1 (by rw [c8]; decide) (by rw [c8]; decide) (by rw [c8]; decide) (by decide) ?_
    refine lv_iload hx hb dX16_can_68 (lv_at hl 3 rfl) ?_
    refine lv_bipush (v := 16) hx hb dX16_can_70 (by decide) ?_
    refine lv_icmp_ge (tgt := 101) hx hb dX16_can_72 (by decide) (fun c9 => ?_) (fun c9 => ?_)
    · have h := nd_pos h c9
      exact (db_X16_can_101 C K)  s0 _ _ _ h hP hD hS (lv_sub hl [] rfl)
    · have h := nd_neg h c9
      refine lv_aload_n hx hb dX16_can_75 rfl (lv_at hl 0 rfl) ?_
      refine va_get (D := (dC, dI)) (ci := 17) (v := .ref (a 2)) (C := RX16) (T := TX16) (N := 56) hx hb hts hi_dm_X16_can_X16 hown hK hP 0 rfl rfl 10 (by decide) (hts (.fieldLink RX16 13 "TimeMachineModel$Machine" "state" "[I") (List.mem_of_getElem? (i := 1) rfl)) (fun _ h9 => h9) rfl dX16_can_76 ?_
      refine lv_lload_n hx hb dX16_can_79 rfl (lv_at hl 2 rfl) ?_
      refine lv_l2i hx hb dX16_can_80 rfl ?_
      obtain ⟨i11, h⟩ := nd_ck_e h
      refine va_iald (i := (v1.toInt32)) hx hb hK hP 2 1 rfl rfl i11 dX16_can_81 ?_
      refine lv_iconst (v := 1) hx hb dX16_can_82 (by decide) ?_
      refine lv_icmp_eq (tgt := 97) hx hb dX16_can_83 (by decide) (fun c12 => ?_) (fun c12 => ?_)
      · have h := nd_pos h c12
        exact (db_X16_can_97 C K)  s0 _ _ _ h hP hD hS (lv_sub hl [] rfl)
      · have h := nd_neg h c12
        refine lv_aload_n hx hb dX16_can_86 rfl (lv_at hl 0 rfl) ?_
        refine va_get (D := (dC, dI)) (ci := 17) (v := .ref (a 2)) (C := RX16) (T := TX16) (N := 56) hx hb hts hi_dm_X16_can_X16 hown hK hP 0 rfl rfl 10 (by decide) (hts (.fieldLink RX16 13 "TimeMachineModel$Machine" "state" "[I") (List.mem_of_getElem? (i := 1) rfl)) (fun _ h9 => h9) rfl dX16_can_87 ?_
        refine lv_lload_n hx hb dX16_can_90 rfl (lv_at hl 2 rfl) ?_
        refine lv_l2i hx hb dX16_can_91 rfl ?_
        obtain ⟨i13, h⟩ := nd_ck_e h
        refine va_iald (i := (v1.toInt32)) hx hb hK hP 2 1 rfl rfl i13 dX16_can_92 ?_
        refine lv_iconst (v := 2) hx hb dX16_can_93 (by decide) ?_
        refine lv_icmp_ne (tgt := 101) hx hb dX16_can_94 (by decide) (fun c14 => ?_) (fun c14 => ?_)
        · have h := nd_neg h c14
          exact (db_X16_can_101 C K)  s0 _ _ _ h hP hD hS (lv_sub hl [] rfl)
        · have h := nd_pos h c14
          exact (db_X16_can_97 C K)  s0 _ _ _ h hP hD hS (lv_sub hl [] rfl)
  have h := nd_neg h c8
  by_cases c15 : v0 = 3
  · have h := nd_pos h c15
    refine lv_tableIn (off := 102) (tgt := 103) hx hb dX16_can_1 (by rw [c15]; decide) (by rw [c15]; decide) (by rw [c15]; decide) (by decide) ?_
    refine lv_iconst (v := 1) hx hb dX16_can_103 (by decide) ?_
    exact K _ _ _ _ _ _ dX16_can_104 (by first | rfl | decide) (Option.some.inj h).symm hP hD hS
  have h := nd_neg h c15
  refine lv_tableOut (tgt := 105) hx hb dX16_can_1 (by have g0 := nv_nei c1 (k := 0) (by decide); have g1 := nv_nei c5 (k := 1) (by decide); have g2 := nv_nei c8 (k := 2) (by decide); have g3 := nv_nei c15 (k := 3) (by decide); omega) (by decide) ?_
  refine lv_aload_n hx hb dX16_can_105 rfl (lv_at hl 0 rfl) ?_
  refine va_get (D := (dC, dI)) (ci := 17) (v := .int (sI s0.1 5)) (C := RX16) (T := TX16) (N := 56) hx hb hts hi_dm_X16_can_X16 hown hK hP 0 rfl rfl 9 (by decide) (hts (.fieldLink RX16 126 "TimeMachineModel$Machine" "waitingWords" "I") (List.mem_of_getElem? (i := 3) rfl)) (fun _ h9 => h9) rfl dX16_can_106 ?_
  refine lv_bipush (v := 16) hx hb dX16_can_109 (by decide) ?_
  refine lv_icmp_ge (tgt := 118) hx hb dX16_can_111 (by decide) (fun c16 => ?_) (fun c16 => ?_)
  · have h := nd_pos h c16
    refine lv_iconst (v := 0) hx hb dX16_can_118 (by decide) ?_
    exact (db_X16_can_119 C K) (0) s0 _ _ _ h hP hD hS (lv_sub hl [] rfl)
  · have h := nd_neg h c16
    refine lv_iconst (v := 1) hx hb dX16_can_114 (by decide) ?_
    refine lv_goto (tgt := 119) hx hb dX16_can_115 (by decide) ?_
    exact (db_X16_can_119 C K) (1) s0 _ _ _ h hP hD hS (lv_sub hl [] rfl)
set_option maxHeartbeats 40000000 in
set_option maxRecDepth 100000 in
theorem dm_X16_can (l : Launch) (hlt : l.stackTraces = false) (dC : Nat → ClassId) (dI : Nat → Nat → Nat) (a : Nat → Nat) (ac : Nat → ClassId) (n : Nat) (v0 : Int32) (v1 : Int64) (v2 : Int32) (s0 : St × (St)) {r : Int32 × (St × (St))} (h : df_X16_can n v0 v1 v2 s0 = some r) (sz : Nat) : Met l yX16_can ow_dm_X16_can ({ frames := 0, cells := 0, slots := 0, locals := 0 }) (va_Pc [.ref (a 0), .int v0, .long v1, .int v2] (fun U => U.heap.size = sz ∧ va_P (dC, dI) vwCl (dw_X16 a ac s0) U.heap ∧ va_K (dC, dI) vwCl (dk_X16 ac) U ∧ va_D (fun _ => True) (dw_X16 a ac s0) ∧ nv_E (va_A (dw_X16 a ac s0) sz) U)) (va_Qi (fun x _ => x = r.1) (fun (_ : Unit) t => va_P (dC, dI) vwCl (dw_X16 a ac r.2) t.heap ∧ va_K (dC, dI) vwCl (dk_X16 ac) t ∧ va_D (va_A (dw_X16 a ac s0) sz) (dw_X16 a ac r.2)) (va_A (dw_X16 a ac s0) sz)) 0 0 (va_A (dw_X16 a ac s0) sz) := by
  refine Met.ofW (cc := cX16_can) (maxL := 5) (ret := (some .boolean)) (by decide) rfl ?_
  intro p e s m args below meth c s₁ B hml hv
  obtain ⟨rfl, hsz, hP, hK, hD0, hN⟩ := hv
  have hx := B.exec
  have hb := B.bytes
  have hr := B.returns
  have hts := atoms_spec (ws := ow_dm_X16_can) B.pre
  have hown : s.vm.findClass RX16 = some m.cls := findClass_of_methodNamed B.named
  have hlocks := B.notSynchronized
  subst hsz
  have hD := hD0.self (sz := s.heap.size)
  generalize hAe : va_A (dw_X16 a ac s0) s.heap.size = A at hD hN ⊢
  have hA : ∀ q : Nat, s.heap.size ≤ q → A q := fun q h => by rw [← hAe]; exact Or.inr h
  have hl := lv_entry ([.ref (a 0), .int v0, .long v1, .int v2]) (n := 5) (Nat.le_of_ble_eq_true rfl)
  rw [lg_entry_eq]
  generalize (lg_sl ([.ref (a 0), .int v0, .long v1, .int v2]) ++ List.replicate (5 - (lg_sl ([.ref (a 0), .int v0, .long v1, .int v2])).length) Slot.unset).toArray = ls at hl ⊢
  have hl : lv_has ls 5 [(0, .ref (a 0)), (1, .int v0), (2, .long v1), (4, .int v2)] := hl
  exact db_X16_can_0 (dC := dC) (dI := dI) (a := a) (ac := ac) (n := n) (r := r) ⟨hlt, hx, hb, hml, hown, hts, hN, hA, hK⟩ (fun pc v τ H locs ls d z er hP hD hS => by subst er; exact W.zret (v := v) hx hb hr z (fun t ht hW => ⟨⟨v, (), rfl, rfl, by rw [ht]; exact hP, va_K.moved hW.alike hK, hD⟩, hS.F ht⟩) hS.2.2 d) v0 v1 v2 s0 _ _ _ h hP hD va_S.rf (lv_sub hl [0, 1, 2, 3] rfl)
def ow_dm_X16_event : List Cond := .code yX16_event cX16_event 8 (some .boolean) :: ([.methodLink RX16 278 yX16_can, .instanceMethod yX16_can, .selects RX16 yX16_can yX16_can, .initialized RX16, .methodLink RX16 172 yX16_settle, .instanceMethod yX16_settle, .selects RX16 yX16_settle yX16_settle, .fieldLink RX16 9 "TimeMachineModel$Machine" "words" "[I", .fieldLink RX16 126 "TimeMachineModel$Machine" "waitingWords" "I", .fieldLink RX16 109 "TimeMachineModel$Machine" "typedBytes" "[I", .fieldLink RX16 122 "TimeMachineModel$Machine" "typed" "I", .fieldLink RX16 151 "TimeMachineModel$Machine" "clock" "J", .fieldLink RX16 22 "TimeMachineModel$Machine" "pending" "[I", .fieldLink RX16 144 "TimeMachineModel$Machine" "last" "I", .fieldLink RX16 141 "TimeMachineModel$Machine" "current" "I"] ++ (u_ws RX16 TX16 56 ++ (ow_dm_X16_can ++ (ow_dm_X16_settle ++ []))))
theorem gd_dm_X16_event : ∀ w ∈ ow_dm_X16_event, (w.onTables && w.keeps) = true ∨ ∃ ty, w = Cond.arrayClass ty := List.forall_mem_cons.mpr ⟨good_of_word rfl, List.forall_mem_append.mpr ⟨fun w h => good_of_word (List.all_eq_true.mp (by decide +kernel) w h), List.forall_mem_append.mpr ⟨gu_X16, List.forall_mem_append.mpr ⟨gd_dm_X16_can, List.forall_mem_append.mpr ⟨gd_dm_X16_settle, fun _ h => nomatch h⟩⟩⟩⟩⟩
theorem hi_dm_X16_event_X16 : ∀ w ∈ u_ws RX16 TX16 56, w ∈ ow_dm_X16_event := fun w h => List.mem_cons_of_mem _ (List.mem_append_right _ (List.mem_append_left _ h))
theorem gi_dm_X16_event_0 : GoodIn ow_dm_X16_event (wsV RX16 278 RX16 yX16_can ow_dm_X16_can) := goodIn_app (goodIn_of _ (by decide +kernel)) (fun w h => ⟨List.mem_cons_of_mem _ (List.mem_append_right _ (List.mem_append_right _ (List.mem_append_left _ h))), gd_dm_X16_can w h⟩)
theorem gi_dm_X16_event_1 : GoodIn ow_dm_X16_event (wsV RX16 172 RX16 yX16_settle ow_dm_X16_settle) := goodIn_app (goodIn_of _ (by decide +kernel)) (fun w h => ⟨List.mem_cons_of_mem _ (List.mem_append_right _ (List.mem_append_right _ (List.mem_append_right _ (List.mem_append_left _ h)))), gd_dm_X16_settle w h⟩)
def dj_X16_event_149 (p : Program) (l : Launch) (e : Env) (s : State) (m : MethodId) (args : Array Value) (below : List Frame) (meth : Method) (c : Code) (Q : State → Prop) (A : Nat → Prop) (dC : Nat → ClassId) (dI : Nat → Nat → Nat) (a : Nat → Nat) (ac : Nat → ClassId) (g : (St × (St)) → Option (Int32 × (St × (St)))) (r : Int32 × (St × (St))) : Prop := ∀ (s0 : St × (St)) (H : Heap) (locs : List Loc) (ls : Array Slot), g s0 = some r → va_P (dC, dI) vwCl (dw_X16 a ac s0) H → va_D A (dw_X16 a ac s0) → va_S A s.heap H locs → lv_has ls 8 [(0, .ref (a 0))] → W p l e (headSpec ow_dm_X16_event ({ frames := 4, cells := 0, slots := 0, locals := 92 })).room s m args below meth c H locs 0 0 Q (F0 m 149 ls [])
def dj_X16_event_123 (p : Program) (l : Launch) (e : Env) (s : State) (m : MethodId) (args : Array Value) (below : List Frame) (meth : Method) (c : Code) (Q : State → Prop) (A : Nat → Prop) (dC : Nat → ClassId) (dI : Nat → Nat → Nat) (a : Nat → Nat) (ac : Nat → ClassId) (g : Int32 → Int64 → (St × (St)) → Option (Int32 × (St × (St)))) (r : Int32 × (St × (St))) : Prop := ∀ (x1 : Int32) (x2 : Int64) (s0 : St × (St)) (H : Heap) (locs : List Loc) (ls : Array Slot), g x1 x2 s0 = some r → va_P (dC, dI) vwCl (dw_X16 a ac s0) H → va_D A (dw_X16 a ac s0) → va_S A s.heap H locs → lv_has ls 8 [(0, .ref (a 0)), (1, .int x1), (2, .long x2)] → W p l e (headSpec ow_dm_X16_event ({ frames := 4, cells := 0, slots := 0, locals := 92 })).room s m args below meth c H locs 0 0 Q (F0 m 123 ls [])
def dj_X16_event_76 (p : Program) (l : Launch) (e : Env) (s : State) (m : MethodId) (args : Array Value) (below : List Frame) (meth : Method) (c : Code) (Q : State → Prop) (A : Nat → Prop) (dC : Nat → ClassId) (dI : Nat → Nat → Nat) (a : Nat → Nat) (ac : Nat → ClassId) (g : Int32 → Int64 → Int32 → (St × (St)) → Option (Int32 × (St × (St)))) (r : Int32 × (St × (St))) : Prop := ∀ (x1 : Int32) (x2 : Int64) (x7 : Int32) (s0 : St × (St)) (H : Heap) (locs : List Loc) (ls : Array Slot), g x1 x2 x7 s0 = some r → va_P (dC, dI) vwCl (dw_X16 a ac s0) H → va_D A (dw_X16 a ac s0) → va_S A s.heap H locs → lv_has ls 8 [(0, .ref (a 0)), (1, .int x1), (2, .long x2), (7, .int x7)] → W p l e (headSpec ow_dm_X16_event ({ frames := 4, cells := 0, slots := 0, locals := 92 })).room s m args below meth c H locs 0 0 Q (F0 m 76 ls [])
def dj_X16_event_70 (p : Program) (l : Launch) (e : Env) (s : State) (m : MethodId) (args : Array Value) (below : List Frame) (meth : Method) (c : Code) (Q : State → Prop) (A : Nat → Prop) (dC : Nat → ClassId) (dI : Nat → Nat → Nat) (a : Nat → Nat) (ac : Nat → ClassId) (g : Int32 → Int64 → Int32 → (St × (St)) → Option (Int32 × (St × (St)))) (r : Int32 × (St × (St))) : Prop := ∀ (x1 : Int32) (x2 : Int64) (x4 : Int32) (s0 : St × (St)) (H : Heap) (locs : List Loc) (ls : Array Slot), g x1 x2 x4 s0 = some r → va_P (dC, dI) vwCl (dw_X16 a ac s0) H → va_D A (dw_X16 a ac s0) → va_S A s.heap H locs → lv_has ls 8 [(0, .ref (a 0)), (1, .int x1), (2, .long x2), (4, .int x4)] → W p l e (headSpec ow_dm_X16_event ({ frames := 4, cells := 0, slots := 0, locals := 92 })).room s m args below meth c H locs 0 0 Q (F0 m 70 ls [])
def dj_X16_event_55 (p : Program) (l : Launch) (e : Env) (s : State) (m : MethodId) (args : Array Value) (below : List Frame) (meth : Method) (c : Code) (Q : State → Prop) (A : Nat → Prop) (dC : Nat → ClassId) (dI : Nat → Nat → Nat) (a : Nat → Nat) (ac : Nat → ClassId) (g : Int32 → Int64 → Int32 → (St × (St)) → Option (Int32 × (St × (St)))) (r : Int32 × (St × (St))) : Prop := ∀ (x1 : Int32) (x2 : Int64) (x4 : Int32) (s0 : St × (St)) (H : Heap) (locs : List Loc) (ls : Array Slot), g x1 x2 x4 s0 = some r → va_P (dC, dI) vwCl (dw_X16 a ac s0) H → va_D A (dw_X16 a ac s0) → va_S A s.heap H locs → lv_has ls 8 [(0, .ref (a 0)), (1, .int x1), (2, .long x2), (4, .int x4)] → W p l e (headSpec ow_dm_X16_event ({ frames := 4, cells := 0, slots := 0, locals := 92 })).room s m args below meth c H locs 0 0 Q (F0 m 55 ls [])
def dj_X16_event_36 (p : Program) (l : Launch) (e : Env) (s : State) (m : MethodId) (args : Array Value) (below : List Frame) (meth : Method) (c : Code) (Q : State → Prop) (A : Nat → Prop) (dC : Nat → ClassId) (dI : Nat → Nat → Nat) (a : Nat → Nat) (ac : Nat → ClassId) (g : Int32 → Int64 → Int32 → Int32 → (St × (St)) → Option (Int32 × (St × (St)))) (r : Int32 × (St × (St))) : Prop := ∀ (x1 : Int32) (x2 : Int64) (x4 : Int32) (x6 : Int32) (s0 : St × (St)) (H : Heap) (locs : List Loc) (ls : Array Slot), g x1 x2 x4 x6 s0 = some r → va_P (dC, dI) vwCl (dw_X16 a ac s0) H → va_D A (dw_X16 a ac s0) → va_S A s.heap H locs → lv_has ls 8 [(0, .ref (a 0)), (1, .int x1), (2, .long x2), (4, .int x4), (6, .int x6)] → W p l e (headSpec ow_dm_X16_event ({ frames := 4, cells := 0, slots := 0, locals := 92 })).room s m args below meth c H locs 0 0 Q (F0 m 36 ls [])
def dj_X16_event_0 (p : Program) (l : Launch) (e : Env) (s : State) (m : MethodId) (args : Array Value) (below : List Frame) (meth : Method) (c : Code) (Q : State → Prop) (A : Nat → Prop) (dC : Nat → ClassId) (dI : Nat → Nat → Nat) (a : Nat → Nat) (ac : Nat → ClassId) (g : Int32 → Int64 → Int32 → (St × (St)) → Option (Int32 × (St × (St)))) (r : Int32 × (St × (St))) : Prop := ∀ (v0 : Int32) (v1 : Int64) (v2 : Int32) (s0 : St × (St)) (H : Heap) (locs : List Loc) (ls : Array Slot), g v0 v1 v2 s0 = some r → va_P (dC, dI) vwCl (dw_X16 a ac s0) H → va_D A (dw_X16 a ac s0) → va_S A s.heap H locs → lv_has ls 8 [(0, .ref (a 0)), (1, .int v0), (2, .long v1), (4, .int v2)] → W p l e (headSpec ow_dm_X16_event ({ frames := 4, cells := 0, slots := 0, locals := 92 })).room s m args below meth c H locs 0 0 Q (F0 m 0 ls [])
set_option maxHeartbeats 40000000 in
set_option maxRecDepth 100000 in
theorem db_X16_event_149 {p : Program} {l : Launch} {e : Env} {s : State} {m : MethodId} {args : Array Value} {below : List Frame} {meth : Method} {c : Code} {Q : State → Prop} {A : Nat → Prop} {dC : Nat → ClassId} {dI : Nat → Nat → Nat} {a : Nat → Nat} {ac : Nat → ClassId} {n : Nat} {r : Int32 × (St × (St))} (C : nd_C p l s m args c A (dC, dI) cX16_event 8 RX16 ow_dm_X16_event (dk_X16 ac)) (K : nd_Ki p l e (headSpec ow_dm_X16_event ({ frames := 4, cells := 0, slots := 0, locals := 92 })).room s m args below meth c Q A (dC, dI) cX16_event .boolean (St × (St)) (dw_X16 a ac) r) : dj_X16_event_149 p l e s m args below meth c Q A dC dI a ac (df_X16_event_149 n) r := by
  obtain ⟨hlt, hx, hb, hml, hown, hts, hN, hA, hK⟩ := id C
  intro s0 H locs ls h hP hD hS hl
  unfold df_X16_event_149 at h
  refine lv_aload_n hx hb dX16_event_149 rfl (lv_at hl 0 rfl) ?_
  obtain ⟨s13, hq, h⟩ := nd_b1_e h
  have hPc := hP
  have hDc := hD
  have hKc := hK
  have hFc := nd_rs hD hS hA
  refine nd_cVv (As := []) (rest := []) (w' := dw_X16 a ac s13) ⟨hx, hb, hml, hown, hts⟩ (fun sz => dm_X16_settle l hlt dC dI a ac n  s0 hq sz) (cwV 0 hts gi_dm_X16_event_1 rfl rfl rfl (by decide +kernel) ⟨Nat.le_of_ble_eq_true rfl, Nat.le_of_ble_eq_true rfl⟩) hPc hDc hKc hS hA hN (va_recv hKc hPc (ci := 17) (q0 := 0) rfl rfl) rfl hl.1 rfl (Nat.le_of_ble_eq_true rfl) dX16_event_150 (fun H locs hP1 hD1 hk1 hS => ?_)
  have hP := hP1
  have hD := hD1.weaken (fun k q _ h => hFc q.1 h)
  refine lv_iconst (v := 1) hx hb dX16_event_153 (by decide) ?_
  exact K _ _ _ _ _ _ dX16_event_154 (by first | rfl | decide) (Option.some.inj h).symm hP hD hS
set_option maxHeartbeats 40000000 in
set_option maxRecDepth 100000 in
theorem db_X16_event_123 {p : Program} {l : Launch} {e : Env} {s : State} {m : MethodId} {args : Array Value} {below : List Frame} {meth : Method} {c : Code} {Q : State → Prop} {A : Nat → Prop} {dC : Nat → ClassId} {dI : Nat → Nat → Nat} {a : Nat → Nat} {ac : Nat → ClassId} {n : Nat} {r : Int32 × (St × (St))} (C : nd_C p l s m args c A (dC, dI) cX16_event 8 RX16 ow_dm_X16_event (dk_X16 ac)) (K : nd_Ki p l e (headSpec ow_dm_X16_event ({ frames := 4, cells := 0, slots := 0, locals := 92 })).room s m args below meth c Q A (dC, dI) cX16_event .boolean (St × (St)) (dw_X16 a ac) r) : dj_X16_event_123 p l e s m args below meth c Q A dC dI a ac (df_X16_event_123 n) r := by
  obtain ⟨hlt, hx, hb, hml, hown, hts, hN, hA, hK⟩ := id C
  intro x1 x2 s0 H locs ls h hP hD hS hl
  unfold df_X16_event_123 at h
  refine lv_iload_n hx hb dX16_event_123 rfl (lv_at hl 1 rfl) ?_
  refine lv_iconst (v := 4) hx hb dX16_event_124 (by decide) ?_
  refine lv_icmp_ne (tgt := 149) hx hb dX16_event_125 (by decide) (fun c11 => ?_) (fun c11 => ?_)
  · have h := nd_neg h c11
    exact (db_X16_event_149 C K)  s0 _ _ _ h hP hD hS (lv_sub hl [0] rfl)
  · have h := nd_pos h c11
    refine lv_aload_n hx hb dX16_event_128 rfl (lv_at hl 0 rfl) ?_
    refine va_get (D := (dC, dI)) (ci := 17) (v := .ref (a 1)) (C := RX16) (T := TX16) (N := 56) hx hb hts hi_dm_X16_event_X16 hown hK hP 0 rfl rfl 8 (by decide) (hts (.fieldLink RX16 9 "TimeMachineModel$Machine" "words" "[I") (List.mem_of_getElem? (i := 8) rfl)) (fun _ h9 => h9) rfl dX16_event_129 ?_
    refine lv_aload_n hx hb dX16_event_132 rfl (lv_at hl 0 rfl) ?_
    refine va_get (D := (dC, dI)) (ci := 17) (v := .int (sI s0.1 5)) (C := RX16) (T := TX16) (N := 56) hx hb hts hi_dm_X16_event_X16 hown hK hP 0 rfl rfl 9 (by decide) (hts (.fieldLink RX16 126 "TimeMachineModel$Machine" "waitingWords" "I") (List.mem_of_getElem? (i := 9) rfl)) (fun _ h9 => h9) rfl dX16_event_133 ?_
    refine lv_lload_n hx hb dX16_event_136 rfl (lv_at hl 2 rfl) ?_
    refine lv_l2i hx hb dX16_event_137 rfl ?_
    obtain ⟨i15, h⟩ := nd_ck_e h
    refine va_iast (i := (sI s0.1 5)) (x := (x2.toInt32)) hx hb hK hP hD hS 1 0 rfl rfl i15 dX16_event_138 (fun H locs hP hD hS => ?_)
    obtain ⟨s16, es16, h⟩ := nd_let_e h
    have hP : va_P (dC, dI) vwCl (dw_X16 a ac s16) H := by rw [es16]; exact hP
    have hD : va_D A (dw_X16 a ac s16) := by rw [es16]; exact hD
    refine lv_aload_n hx hb dX16_event_139 rfl (lv_at hl 0 rfl) ?_
    refine lv_dup hx hb dX16_event_140 rfl ?_
    refine va_get (D := (dC, dI)) (ci := 17) (v := .int (sI s16.1 5)) (C := RX16) (T := TX16) (N := 56) hx hb hts hi_dm_X16_event_X16 hown hK hP 0 rfl rfl 9 (by decide) (hts (.fieldLink RX16 126 "TimeMachineModel$Machine" "waitingWords" "I") (List.mem_of_getElem? (i := 9) rfl)) (fun _ h9 => h9) rfl dX16_event_141 ?_
    refine lv_iconst (v := 1) hx hb dX16_event_144 (by decide) ?_
    refine lv_iadd hx hb dX16_event_145 ?_
    refine va_put (D := (dC, dI)) (ci := 17) (v := .int ((sI s16.1 5) + 1)) (ty := .int) (C := RX16) (T := TX16) (N := 56) hx hb hts hi_dm_X16_event_X16 tyX16 tyX16_ok nmX16 hown hK hP hD hS 0 rfl rfl 9 (by decide) (hts (.fieldLink RX16 126 "TimeMachineModel$Machine" "waitingWords" "I") (List.mem_of_getElem? (i := 9) rfl)) (fun _ h9 => h9) rfl (by decide +kernel) rfl rfl (Nat.le_of_ble_eq_true rfl) dX16_event_146 (fun H locs hP hD hS => ?_)
    obtain ⟨s17, es17, h⟩ := nd_let_e h
    have hP : va_P (dC, dI) vwCl (dw_X16 a ac s17) H := by rw [es17]; exact hP
    have hD : va_D A (dw_X16 a ac s17) := by rw [es17]; exact hD
    exact (db_X16_event_149 C K)  s17 _ _ _ h hP hD hS (lv_sub hl [0] rfl)
set_option maxHeartbeats 40000000 in
set_option maxRecDepth 100000 in
theorem dB_X16_event_76 {p : Program} {l : Launch} {e : Env} {s : State} {m : MethodId} {args : Array Value} {below : List Frame} {meth : Method} {c : Code} {Q : State → Prop} {A : Nat → Prop} {dC : Nat → ClassId} {dI : Nat → Nat → Nat} {a : Nat → Nat} {ac : Nat → ClassId} {n : Nat} {r : Int32 × (St × (St))} (C : nd_C p l s m args c A (dC, dI) cX16_event 8 RX16 ow_dm_X16_event (dk_X16 ac)) (K : nd_Ki p l e (headSpec ow_dm_X16_event ({ frames := 4, cells := 0, slots := 0, locals := 92 })).room s m args below meth c Q A (dC, dI) cX16_event .boolean (St × (St)) (dw_X16 a ac) r) {g76 : Int32 → Int64 → Int32 → (St × (St)) → Option (Int32 × (St × (St)))} (J76 : dj_X16_event_76 p l e s m args below meth c Q A dC dI a ac g76 r) : dj_X16_event_76 p l e s m args below meth c Q A dC dI a ac (dF_X16_event_76 n g76) r := by
  obtain ⟨hlt, hx, hb, hml, hown, hts, hN, hA, hK⟩ := id C
  intro x1 x2 x7 s0 H locs ls h hP hD hS hl
  unfold dF_X16_event_76 at h
  refine lv_iload hx hb dX16_event_76 (lv_at hl 3 rfl) ?_
  refine lv_if_lt (tgt := 123) hx hb dX16_event_78 (by decide) (fun c10 => ?_) (fun c10 => ?_)
  · have h := nd_pos h c10
    exact (db_X16_event_123 C K) (x1) (x2) s0 _ _ _ h hP hD hS (lv_sub hl [0, 1, 2] rfl)
  · have h := nd_neg h c10
    refine lv_iload_n hx hb dX16_event_81 rfl (lv_at hl 1 rfl) ?_
    refine lv_iconst (v := 1) hx hb dX16_event_82 (by decide) ?_
    refine lv_icmp_ne (tgt := 123) hx hb dX16_event_83 (by decide) (fun c18 => ?_) (fun c18 => ?_)
    · have h := nd_neg h c18
      exact (db_X16_event_123 C K) (x1) (x2) s0 _ _ _ h hP hD hS (lv_sub hl [0, 1, 2] rfl)
    · have h := nd_pos h c18
      refine lv_aload_n hx hb dX16_event_86 rfl (lv_at hl 0 rfl) ?_
      refine va_get (D := (dC, dI)) (ci := 17) (v := .ref (a 33)) (C := RX16) (T := TX16) (N := 56) hx hb hts hi_dm_X16_event_X16 hown hK hP 0 rfl rfl 43 (by decide) (hts (.fieldLink RX16 109 "TimeMachineModel$Machine" "typedBytes" "[I") (List.mem_of_getElem? (i := 10) rfl)) (fun _ h9 => h9) rfl dX16_event_87 ?_
      refine lv_aload_n hx hb dX16_event_90 rfl (lv_at hl 0 rfl) ?_
      refine va_get (D := (dC, dI)) (ci := 17) (v := .int (sI s0.1 7)) (C := RX16) (T := TX16) (N := 56) hx hb hts hi_dm_X16_event_X16 hown hK hP 0 rfl rfl 42 (by decide) (hts (.fieldLink RX16 122 "TimeMachineModel$Machine" "typed" "I") (List.mem_of_getElem? (i := 11) rfl)) (fun _ h9 => h9) rfl dX16_event_91 ?_
      refine lv_lload_n hx hb dX16_event_94 rfl (lv_at hl 2 rfl) ?_
      refine lv_bipush (v := 8) hx hb dX16_event_95 (by decide) ?_
      refine lv_iload hx hb dX16_event_97 (lv_at hl 3 rfl) ?_
      refine lv_imul hx hb dX16_event_99 ?_
      refine lv_lshr hx hb dX16_event_100 rfl ?_
      refine lv_l2i hx hb dX16_event_101 rfl ?_
      refine lv_sipush (v := 255) hx hb dX16_event_102 (by decide) ?_
      refine lv_iand hx hb dX16_event_105 ?_
      obtain ⟨i19, h⟩ := nd_ck_e h
      refine va_iast (i := (sI s0.1 7)) (x := ((((x2 : Int64) >>> (((8 * x7) : Int32).toInt64 &&& 63)).toInt32) &&& 255)) hx hb hK hP hD hS 33 32 rfl rfl i19 dX16_event_106 (fun H locs hP hD hS => ?_)
      obtain ⟨s20, es20, h⟩ := nd_let_e h
      have hP : va_P (dC, dI) vwCl (dw_X16 a ac s20) H := by rw [es20]; exact hP
      have hD : va_D A (dw_X16 a ac s20) := by rw [es20]; exact hD
      refine lv_aload_n hx hb dX16_event_107 rfl (lv_at hl 0 rfl) ?_
      refine lv_dup hx hb dX16_event_108 rfl ?_
      refine va_get (D := (dC, dI)) (ci := 17) (v := .int (sI s20.1 7)) (C := RX16) (T := TX16) (N := 56) hx hb hts hi_dm_X16_event_X16 hown hK hP 0 rfl rfl 42 (by decide) (hts (.fieldLink RX16 122 "TimeMachineModel$Machine" "typed" "I") (List.mem_of_getElem? (i := 11) rfl)) (fun _ h9 => h9) rfl dX16_event_109 ?_
      refine lv_iconst (v := 1) hx hb dX16_event_112 (by decide) ?_
      refine lv_iadd hx hb dX16_event_113 ?_
      refine va_put (D := (dC, dI)) (ci := 17) (v := .int ((sI s20.1 7) + 1)) (ty := .int) (C := RX16) (T := TX16) (N := 56) hx hb hts hi_dm_X16_event_X16 tyX16 tyX16_ok nmX16 hown hK hP hD hS 0 rfl rfl 42 (by decide) (hts (.fieldLink RX16 122 "TimeMachineModel$Machine" "typed" "I") (List.mem_of_getElem? (i := 11) rfl)) (fun _ h9 => h9) rfl (by decide +kernel) rfl rfl (Nat.le_of_ble_eq_true rfl) dX16_event_114 (fun H locs hP hD hS => ?_)
      obtain ⟨s21, es21, h⟩ := nd_let_e h
      have hP : va_P (dC, dI) vwCl (dw_X16 a ac s21) H := by rw [es21]; exact hP
      have hD : va_D A (dw_X16 a ac s21) := by rw [es21]; exact hD
      obtain ⟨z22, ez22, h⟩ := nd_let_e h
      refine lv_iinc (v := z22) (lv' := [(7, .int z22), (0, .ref (a 0)), (1, .int x1), (2, .long x2)]) hx hb dX16_event_117 hl (k := 3) rfl (by rw [ez22]) (by decide) rfl (fun ls hl => ?_)
      refine lv_goto (tgt := 76) hx hb dX16_event_120 (by decide) ?_
      exact (J76) (x1) (x2) (z22) s21 _ _ _ h hP hD hS (lv_sub hl [1, 2, 3, 0] rfl)
set_option maxHeartbeats 40000000 in
set_option maxRecDepth 100000 in
theorem db_X16_event_76 {p : Program} {l : Launch} {e : Env} {s : State} {m : MethodId} {args : Array Value} {below : List Frame} {meth : Method} {c : Code} {Q : State → Prop} {A : Nat → Prop} {dC : Nat → ClassId} {dI : Nat → Nat → Nat} {a : Nat → Nat} {ac : Nat → ClassId} {n : Nat} {r : Int32 × (St × (St))} (C : nd_C p l s m args c A (dC, dI) cX16_event 8 RX16 ow_dm_X16_event (dk_X16 ac)) (K : nd_Ki p l e (headSpec ow_dm_X16_event ({ frames := 4, cells := 0, slots := 0, locals := 92 })).room s m args below meth c Q A (dC, dI) cX16_event .boolean (St × (St)) (dw_X16 a ac) r) (k : Nat) : dj_X16_event_76 p l e s m args below meth c Q A dC dI a ac (df_X16_event_76 n k) r := by
  induction k with
  | zero => intro x1 x2 x7 s0 H locs ls h; exact nomatch (show (none : Option (Int32 × (St × (St)))) = some r from h)
  | succ k ih => exact dB_X16_event_76 C K ih
set_option maxHeartbeats 40000000 in
set_option maxRecDepth 100000 in
theorem db_X16_event_70 {p : Program} {l : Launch} {e : Env} {s : State} {m : MethodId} {args : Array Value} {below : List Frame} {meth : Method} {c : Code} {Q : State → Prop} {A : Nat → Prop} {dC : Nat → ClassId} {dI : Nat → Nat → Nat} {a : Nat → Nat} {ac : Nat → ClassId} {n : Nat} {r : Int32 × (St × (St))} (C : nd_C p l s m args c A (dC, dI) cX16_event 8 RX16 ow_dm_X16_event (dk_X16 ac)) (K : nd_Ki p l e (headSpec ow_dm_X16_event ({ frames := 4, cells := 0, slots := 0, locals := 92 })).room s m args below meth c Q A (dC, dI) cX16_event .boolean (St × (St)) (dw_X16 a ac) r) : dj_X16_event_70 p l e s m args below meth c Q A dC dI a ac (df_X16_event_70 n) r := by
  obtain ⟨hlt, hx, hb, hml, hown, hts, hN, hA, hK⟩ := id C
  intro x1 x2 x4 s0 H locs ls h hP hD hS hl
  unfold df_X16_event_70 at h
  refine lv_iload hx hb dX16_event_70 (lv_at hl 3 rfl) ?_
  refine lv_iconst (v := 1) hx hb dX16_event_72 (by decide) ?_
  refine lv_isub hx hb dX16_event_73 ?_
  refine lv_topi (fun z9 ez9 => ?_)
  have h := nd_at h ez9
  refine lv_istore (lv' := [(7, .int z9), (0, .ref (a 0)), (1, .int x1), (2, .long x2), (4, .int x4)]) hx hb dX16_event_74 hl (by decide) rfl (fun ls hl => ?_)
  exact (db_X16_event_76 C K n) (x1) (x2) (z9) s0 _ _ _ h hP hD hS (lv_sub hl [1, 2, 3, 0] rfl)
set_option maxHeartbeats 40000000 in
set_option maxRecDepth 100000 in
theorem db_X16_event_55 {p : Program} {l : Launch} {e : Env} {s : State} {m : MethodId} {args : Array Value} {below : List Frame} {meth : Method} {c : Code} {Q : State → Prop} {A : Nat → Prop} {dC : Nat → ClassId} {dI : Nat → Nat → Nat} {a : Nat → Nat} {ac : Nat → ClassId} {n : Nat} {r : Int32 × (St × (St))} (C : nd_C p l s m args c A (dC, dI) cX16_event 8 RX16 ow_dm_X16_event (dk_X16 ac)) (K : nd_Ki p l e (headSpec ow_dm_X16_event ({ frames := 4, cells := 0, slots := 0, locals := 92 })).room s m args below meth c Q A (dC, dI) cX16_event .boolean (St × (St)) (dw_X16 a ac) r) : dj_X16_event_55 p l e s m args below meth c Q A dC dI a ac (df_X16_event_55 n) r := by
  obtain ⟨hlt, hx, hb, hml, hown, hts, hN, hA, hK⟩ := id C
  intro x1 x2 x4 s0 H locs ls h hP hD hS hl
  unfold df_X16_event_55 at h
  refine lv_iload_n hx hb dX16_event_55 rfl (lv_at hl 1 rfl) ?_
  refine lv_iconst (v := 3) hx hb dX16_event_56 (by decide) ?_
  refine lv_icmp_ne (tgt := 70) hx hb dX16_event_57 (by decide) (fun c8 => ?_) (fun c8 => ?_)
  · have h := nd_neg h c8
    exact (db_X16_event_70 C K) (x1) (x2) (x4) s0 _ _ _ h hP hD hS (lv_sub hl [0, 1, 2, 3] rfl)
  · have h := nd_pos h c8
    refine lv_aload_n hx hb dX16_event_60 rfl (lv_at hl 0 rfl) ?_
    refine lv_dup hx hb dX16_event_61 rfl ?_
    refine va_get (D := (dC, dI)) (ci := 17) (v := .long (sL s0.1 1)) (C := RX16) (T := TX16) (N := 56) hx hb hts hi_dm_X16_event_X16 hown hK hP 0 rfl rfl 7 (by decide) (hts (.fieldLink RX16 151 "TimeMachineModel$Machine" "clock" "J") (List.mem_of_getElem? (i := 12) rfl)) (fun _ h9 => h9) rfl dX16_event_62 ?_
    refine lv_lload_n hx hb dX16_event_65 rfl (lv_at hl 2 rfl) ?_
    refine lv_ladd hx hb dX16_event_66 ?_
    refine va_put (D := (dC, dI)) (ci := 17) (v := .long (((sL s0.1 1) : Int64) + x2)) (ty := .long) (C := RX16) (T := TX16) (N := 56) hx hb hts hi_dm_X16_event_X16 tyX16 tyX16_ok nmX16 hown hK hP hD hS 0 rfl rfl 7 (by decide) (hts (.fieldLink RX16 151 "TimeMachineModel$Machine" "clock" "J") (List.mem_of_getElem? (i := 12) rfl)) (fun _ h9 => h9) rfl (by decide +kernel) rfl rfl (Nat.le_of_ble_eq_true rfl) dX16_event_67 (fun H locs hP hD hS => ?_)
    obtain ⟨s23, es23, h⟩ := nd_let_e h
    have hP : va_P (dC, dI) vwCl (dw_X16 a ac s23) H := by rw [es23]; exact hP
    have hD : va_D A (dw_X16 a ac s23) := by rw [es23]; exact hD
    exact (db_X16_event_70 C K) (x1) (x2) (x4) s23 _ _ _ h hP hD hS (lv_sub hl [0, 1, 2, 3] rfl)
set_option maxHeartbeats 40000000 in
set_option maxRecDepth 100000 in
theorem db_X16_event_36 {p : Program} {l : Launch} {e : Env} {s : State} {m : MethodId} {args : Array Value} {below : List Frame} {meth : Method} {c : Code} {Q : State → Prop} {A : Nat → Prop} {dC : Nat → ClassId} {dI : Nat → Nat → Nat} {a : Nat → Nat} {ac : Nat → ClassId} {n : Nat} {r : Int32 × (St × (St))} (C : nd_C p l s m args c A (dC, dI) cX16_event 8 RX16 ow_dm_X16_event (dk_X16 ac)) (K : nd_Ki p l e (headSpec ow_dm_X16_event ({ frames := 4, cells := 0, slots := 0, locals := 92 })).room s m args below meth c Q A (dC, dI) cX16_event .boolean (St × (St)) (dw_X16 a ac) r) : dj_X16_event_36 p l e s m args below meth c Q A dC dI a ac (df_X16_event_36 n) r := by
  obtain ⟨hlt, hx, hb, hml, hown, hts, hN, hA, hK⟩ := id C
  intro x1 x2 x4 x6 s0 H locs ls h hP hD hS hl
  unfold df_X16_event_36 at h
  refine lv_iload_n hx hb dX16_event_36 rfl (lv_at hl 1 rfl) ?_
  refine lv_iconst (v := 2) hx hb dX16_event_37 (by decide) ?_
  refine lv_icmp_ne (tgt := 55) hx hb dX16_event_38 (by decide) (fun c7 => ?_) (fun c7 => ?_)
  · have h := nd_neg h c7
    exact (db_X16_event_55 C K) (x1) (x2) (x4) s0 _ _ _ h hP hD hS (lv_sub hl [0, 1, 2, 3] rfl)
  · have h := nd_pos h c7
    refine lv_aload_n hx hb dX16_event_41 rfl (lv_at hl 0 rfl) ?_
    refine va_get (D := (dC, dI)) (ci := 17) (v := .ref (a 5)) (C := RX16) (T := TX16) (N := 56) hx hb hts hi_dm_X16_event_X16 hown hK hP 0 rfl rfl 13 (by decide) (hts (.fieldLink RX16 22 "TimeMachineModel$Machine" "pending" "[I") (List.mem_of_getElem? (i := 13) rfl)) (fun _ h9 => h9) rfl dX16_event_42 ?_
    refine lv_iload hx hb dX16_event_45 (lv_at hl 4 rfl) ?_
    refine lv_dup2_11 hx hb dX16_event_47 rfl rfl ?_
    obtain ⟨i24, h⟩ := nd_ck_e h
    refine va_iald (i := x6) hx hb hK hP 5 4 rfl rfl i24 dX16_event_48 ?_
    refine lv_iconst (v := 1) hx hb dX16_event_49 (by decide) ?_
    refine lv_iload hx hb dX16_event_50 (lv_at hl 3 rfl) ?_
    refine lv_ishl hx hb dX16_event_52 ?_
    refine lv_ior hx hb dX16_event_53 ?_
    obtain ⟨i25, h⟩ := nd_ck_e h
    refine va_iast (i := x6) (x := ((sR s0.1 4 (Int32.toNatClampNeg x6)) ||| ((1 : Int32) <<< ((x4 : Int32) &&& 31)))) hx hb hK hP hD hS 5 4 rfl rfl i25 dX16_event_54 (fun H locs hP hD hS => ?_)
    obtain ⟨s26, es26, h⟩ := nd_let_e h
    have hP : va_P (dC, dI) vwCl (dw_X16 a ac s26) H := by rw [es26]; exact hP
    have hD : va_D A (dw_X16 a ac s26) := by rw [es26]; exact hD
    exact (db_X16_event_55 C K) (x1) (x2) (x4) s26 _ _ _ h hP hD hS (lv_sub hl [0, 1, 2, 3] rfl)
set_option maxHeartbeats 40000000 in
set_option maxRecDepth 100000 in
theorem db_X16_event_0 {p : Program} {l : Launch} {e : Env} {s : State} {m : MethodId} {args : Array Value} {below : List Frame} {meth : Method} {c : Code} {Q : State → Prop} {A : Nat → Prop} {dC : Nat → ClassId} {dI : Nat → Nat → Nat} {a : Nat → Nat} {ac : Nat → ClassId} {n : Nat} {r : Int32 × (St × (St))} (C : nd_C p l s m args c A (dC, dI) cX16_event 8 RX16 ow_dm_X16_event (dk_X16 ac)) (K : nd_Ki p l e (headSpec ow_dm_X16_event ({ frames := 4, cells := 0, slots := 0, locals := 92 })).room s m args below meth c Q A (dC, dI) cX16_event .boolean (St × (St)) (dw_X16 a ac) r) : dj_X16_event_0 p l e s m args below meth c Q A dC dI a ac (df_X16_event_0 n) r := by
  obtain ⟨hlt, hx, hb, hml, hown, hts, hN, hA, hK⟩ := id C
  intro v0 v1 v2 s0 H locs ls h hP hD hS hl
  unfold df_X16_event_0 at h
  refine lv_aload_n hx hb dX16_event_0 rfl (lv_at hl 0 rfl) ?_
  refine lv_iload_n hx hb dX16_event_1 rfl (lv_at hl 1 rfl) ?_
  refine lv_lload_n hx hb dX16_event_2 rfl (lv_at hl 2 rfl) ?_
  refine lv_iload hx hb dX16_event_3 (lv_at hl 3 rfl) ?_
  obtain ⟨q1, s2, hq, h⟩ := nd_b2_e h
  have hPc := hP
  have hDc := hD
  have hKc := hK
  have hFc := nd_rs hD hS hA
  refine nd_cVi (As := [.int v0, .long v1, .int v2]) (rest := []) (q := q1) (w' := dw_X16 a ac s2) ⟨hx, hb, hml, hown, hts⟩ (fun sz => dm_X16_can l hlt dC dI a ac n (v0) (v1) (v2) s0 hq sz) (cwV 3 hts gi_dm_X16_event_0 rfl rfl rfl (by decide +kernel) ⟨Nat.le_of_ble_eq_true rfl, Nat.le_of_ble_eq_true rfl⟩) hPc hDc hKc hS hA hN (va_recv hKc hPc (ci := 17) (q0 := 0) rfl rfl) rfl hl.1 rfl (Nat.le_of_ble_eq_true rfl) dX16_event_5 (fun H locs hP1 hD1 hk1 hS => ?_)
  have hP := hP1
  have hD := hD1.weaken (fun k q _ h => hFc q.1 h)
  refine lv_istore (lv' := [(5, .int q1), (0, .ref (a 0)), (1, .int v0), (2, .long v1), (4, .int v2)]) hx hb dX16_event_8 hl (by decide) rfl (fun ls hl => ?_)
  refine lv_iload hx hb dX16_event_10 (lv_at hl 0 rfl) ?_
  refine lv_if_ne (tgt := 17) hx hb dX16_event_12 (by decide) (fun c4 => ?_) (fun c4 => ?_)
  · have h := nd_neg h c4
    refine lv_lload_n hx hb dX16_event_17 rfl (lv_at hl 3 rfl) ?_
    refine lv_l2i hx hb dX16_event_18 rfl ?_
    refine lv_topi (fun z5 ez5 => ?_)
    have h := nd_at h ez5
    refine lv_istore (lv' := [(6, .int z5), (5, .int q1), (0, .ref (a 0)), (1, .int v0), (2, .long v1), (4, .int v2)]) hx hb dX16_event_19 hl (by decide) rfl (fun ls hl => ?_)
    refine lv_iload_n hx hb dX16_event_21 rfl (lv_at hl 3 rfl) ?_
    refine lv_if_ne (tgt := 36) hx hb dX16_event_22 (by decide) (fun c6 => ?_) (fun c6 => ?_)
    · have h := nd_neg h c6
      exact (db_X16_event_36 C K) (v0) (v1) (v2) (z5) s2 _ _ _ h hP hD hS (lv_sub hl [2, 3, 4, 5, 0] rfl)
    · have h := nd_pos h c6
      refine lv_aload_n hx hb dX16_event_25 rfl (lv_at hl 2 rfl) ?_
      refine lv_aload_n hx hb dX16_event_26 rfl (lv_at hl 2 rfl) ?_
      refine lv_iload hx hb dX16_event_27 (lv_at hl 0 rfl) ?_
      refine lv_dup_x1 hx hb dX16_event_29 rfl rfl ?_
      refine va_put (D := (dC, dI)) (ci := 17) (v := .int z5) (ty := .int) (C := RX16) (T := TX16) (N := 56) hx hb hts hi_dm_X16_event_X16 tyX16 tyX16_ok nmX16 hown hK hP hD hS 0 rfl rfl 3 (by decide) (hts (.fieldLink RX16 144 "TimeMachineModel$Machine" "last" "I") (List.mem_of_getElem? (i := 14) rfl)) (fun _ h9 => h9) rfl (by decide +kernel) rfl rfl (Nat.le_of_ble_eq_true rfl) dX16_event_30 (fun H locs hP hD hS => ?_)
      obtain ⟨s27, es27, h⟩ := nd_let_e h
      have hP : va_P (dC, dI) vwCl (dw_X16 a ac s27) H := by rw [es27]; exact hP
      have hD : va_D A (dw_X16 a ac s27) := by rw [es27]; exact hD
      refine va_put (D := (dC, dI)) (ci := 17) (v := .int z5) (ty := .int) (C := RX16) (T := TX16) (N := 56) hx hb hts hi_dm_X16_event_X16 tyX16 tyX16_ok nmX16 hown hK hP hD hS 0 rfl rfl 2 (by decide) (hts (.fieldLink RX16 141 "TimeMachineModel$Machine" "current" "I") (List.mem_of_getElem? (i := 15) rfl)) (fun _ h9 => h9) rfl (by decide +kernel) rfl rfl (Nat.le_of_ble_eq_true rfl) dX16_event_33 (fun H locs hP hD hS => ?_)
      obtain ⟨s28, es28, h⟩ := nd_let_e h
      have hP : va_P (dC, dI) vwCl (dw_X16 a ac s28) H := by rw [es28]; exact hP
      have hD : va_D A (dw_X16 a ac s28) := by rw [es28]; exact hD
      exact (db_X16_event_36 C K) (v0) (v1) (v2) (z5) s28 _ _ _ h hP hD hS (lv_sub hl [2, 3, 4, 5, 0] rfl)
  · have h := nd_pos h c4
    refine lv_iconst (v := 0) hx hb dX16_event_15 (by decide) ?_
    exact K _ _ _ _ _ _ dX16_event_16 (by first | rfl | decide) (Option.some.inj h).symm hP hD hS
set_option maxHeartbeats 40000000 in
set_option maxRecDepth 100000 in
theorem dm_X16_event (l : Launch) (hlt : l.stackTraces = false) (dC : Nat → ClassId) (dI : Nat → Nat → Nat) (a : Nat → Nat) (ac : Nat → ClassId) (n : Nat) (v0 : Int32) (v1 : Int64) (v2 : Int32) (s0 : St × (St)) {r : Int32 × (St × (St))} (h : df_X16_event n v0 v1 v2 s0 = some r) (sz : Nat) : Met l yX16_event ow_dm_X16_event ({ frames := 4, cells := 0, slots := 0, locals := 92 }) (va_Pc [.ref (a 0), .int v0, .long v1, .int v2] (fun U => U.heap.size = sz ∧ va_P (dC, dI) vwCl (dw_X16 a ac s0) U.heap ∧ va_K (dC, dI) vwCl (dk_X16 ac) U ∧ va_D (fun _ => True) (dw_X16 a ac s0) ∧ nv_E (va_A (dw_X16 a ac s0) sz) U)) (va_Qi (fun x _ => x = r.1) (fun (_ : Unit) t => va_P (dC, dI) vwCl (dw_X16 a ac r.2) t.heap ∧ va_K (dC, dI) vwCl (dk_X16 ac) t ∧ va_D (va_A (dw_X16 a ac s0) sz) (dw_X16 a ac r.2)) (va_A (dw_X16 a ac s0) sz)) 0 0 (va_A (dw_X16 a ac s0) sz) := by
  refine Met.ofW (cc := cX16_event) (maxL := 8) (ret := (some .boolean)) (by decide) rfl ?_
  intro p e s m args below meth c s₁ B hml hv
  obtain ⟨rfl, hsz, hP, hK, hD0, hN⟩ := hv
  have hx := B.exec
  have hb := B.bytes
  have hr := B.returns
  have hts := atoms_spec (ws := ow_dm_X16_event) B.pre
  have hown : s.vm.findClass RX16 = some m.cls := findClass_of_methodNamed B.named
  have hlocks := B.notSynchronized
  subst hsz
  have hD := hD0.self (sz := s.heap.size)
  generalize hAe : va_A (dw_X16 a ac s0) s.heap.size = A at hD hN ⊢
  have hA : ∀ q : Nat, s.heap.size ≤ q → A q := fun q h => by rw [← hAe]; exact Or.inr h
  have hl := lv_entry ([.ref (a 0), .int v0, .long v1, .int v2]) (n := 8) (Nat.le_of_ble_eq_true rfl)
  rw [lg_entry_eq]
  generalize (lg_sl ([.ref (a 0), .int v0, .long v1, .int v2]) ++ List.replicate (8 - (lg_sl ([.ref (a 0), .int v0, .long v1, .int v2])).length) Slot.unset).toArray = ls at hl ⊢
  have hl : lv_has ls 8 [(0, .ref (a 0)), (1, .int v0), (2, .long v1), (4, .int v2)] := hl
  exact db_X16_event_0 (dC := dC) (dI := dI) (a := a) (ac := ac) (n := n) (r := r) ⟨hlt, hx, hb, hml, hown, hts, hN, hA, hK⟩ (fun pc v τ H locs ls d z er hP hD hS => by subst er; exact W.zret (v := v) hx hb hr z (fun t ht hW => ⟨⟨v, (), rfl, rfl, by rw [ht]; exact hP, va_K.moved hW.alike hK, hD⟩, hS.F ht⟩) hS.2.2 d) v0 v1 v2 s0 _ _ _ h hP hD va_S.rf (lv_sub hl [0, 1, 2, 3] rfl)
def ow_dm_X16_fetches : List Cond := .code yX16_fetches cX16_fetches 2 (some .boolean) :: ([.fieldLink RX16 232 "TimeMachineModel$Machine" "p" "I", .methodLink RX16 218 yX16_may, .instanceMethod yX16_may, .selects RX16 yX16_may yX16_may, .initialized RX16] ++ (u_ws RX16 TX16 56 ++ (ow_dm_X16_may ++ [])))
theorem gd_dm_X16_fetches : ∀ w ∈ ow_dm_X16_fetches, (w.onTables && w.keeps) = true ∨ ∃ ty, w = Cond.arrayClass ty := List.forall_mem_cons.mpr ⟨good_of_word rfl, List.forall_mem_append.mpr ⟨fun w h => good_of_word (List.all_eq_true.mp (by decide +kernel) w h), List.forall_mem_append.mpr ⟨gu_X16, List.forall_mem_append.mpr ⟨gd_dm_X16_may, fun _ h => nomatch h⟩⟩⟩⟩
theorem hi_dm_X16_fetches_X16 : ∀ w ∈ u_ws RX16 TX16 56, w ∈ ow_dm_X16_fetches := fun w h => List.mem_cons_of_mem _ (List.mem_append_right _ (List.mem_append_left _ h))
theorem gi_dm_X16_fetches_0 : GoodIn ow_dm_X16_fetches (wsV RX16 218 RX16 yX16_may ow_dm_X16_may) := goodIn_app (goodIn_of _ (by decide +kernel)) (fun w h => ⟨List.mem_cons_of_mem _ (List.mem_append_right _ (List.mem_append_right _ (List.mem_append_left _ h))), gd_dm_X16_may w h⟩)
def dj_X16_fetches_33 (p : Program) (l : Launch) (e : Env) (s : State) (m : MethodId) (args : Array Value) (below : List Frame) (meth : Method) (c : Code) (Q : State → Prop) (A : Nat → Prop) (dC : Nat → ClassId) (dI : Nat → Nat → Nat) (a : Nat → Nat) (ac : Nat → ClassId) (g : Int32 → (St × (St)) → Option (Int32 × (St × (St)))) (r : Int32 × (St × (St))) : Prop := ∀ (y0 : Int32) (s0 : St × (St)) (H : Heap) (locs : List Loc) (ls : Array Slot), g y0 s0 = some r → va_P (dC, dI) vwCl (dw_X16 a ac s0) H → va_D A (dw_X16 a ac s0) → va_S A s.heap H locs → lv_has ls 2 [] → W p l e (headSpec ow_dm_X16_fetches ({ frames := 2, cells := 0, slots := 0, locals := 45 })).room s m args below meth c H locs 0 0 Q (F0 m 33 ls [.int y0])
def dj_X16_fetches_32 (p : Program) (l : Launch) (e : Env) (s : State) (m : MethodId) (args : Array Value) (below : List Frame) (meth : Method) (c : Code) (Q : State → Prop) (A : Nat → Prop) (dC : Nat → ClassId) (dI : Nat → Nat → Nat) (a : Nat → Nat) (ac : Nat → ClassId) (g : (St × (St)) → Option (Int32 × (St × (St)))) (r : Int32 × (St × (St))) : Prop := ∀ (s0 : St × (St)) (H : Heap) (locs : List Loc) (ls : Array Slot), g s0 = some r → va_P (dC, dI) vwCl (dw_X16 a ac s0) H → va_D A (dw_X16 a ac s0) → va_S A s.heap H locs → lv_has ls 2 [] → W p l e (headSpec ow_dm_X16_fetches ({ frames := 2, cells := 0, slots := 0, locals := 45 })).room s m args below meth c H locs 0 0 Q (F0 m 32 ls [])
def dj_X16_fetches_0 (p : Program) (l : Launch) (e : Env) (s : State) (m : MethodId) (args : Array Value) (below : List Frame) (meth : Method) (c : Code) (Q : State → Prop) (A : Nat → Prop) (dC : Nat → ClassId) (dI : Nat → Nat → Nat) (a : Nat → Nat) (ac : Nat → ClassId) (g : Int32 → (St × (St)) → Option (Int32 × (St × (St)))) (r : Int32 × (St × (St))) : Prop := ∀ (v0 : Int32) (s0 : St × (St)) (H : Heap) (locs : List Loc) (ls : Array Slot), g v0 s0 = some r → va_P (dC, dI) vwCl (dw_X16 a ac s0) H → va_D A (dw_X16 a ac s0) → va_S A s.heap H locs → lv_has ls 2 [(0, .ref (a 0)), (1, .int v0)] → W p l e (headSpec ow_dm_X16_fetches ({ frames := 2, cells := 0, slots := 0, locals := 45 })).room s m args below meth c H locs 0 0 Q (F0 m 0 ls [])
set_option maxHeartbeats 40000000 in
set_option maxRecDepth 100000 in
theorem db_X16_fetches_33 {p : Program} {l : Launch} {e : Env} {s : State} {m : MethodId} {args : Array Value} {below : List Frame} {meth : Method} {c : Code} {Q : State → Prop} {A : Nat → Prop} {dC : Nat → ClassId} {dI : Nat → Nat → Nat} {a : Nat → Nat} {ac : Nat → ClassId} {n : Nat} {r : Int32 × (St × (St))} (C : nd_C p l s m args c A (dC, dI) cX16_fetches 2 RX16 ow_dm_X16_fetches (dk_X16 ac)) (K : nd_Ki p l e (headSpec ow_dm_X16_fetches ({ frames := 2, cells := 0, slots := 0, locals := 45 })).room s m args below meth c Q A (dC, dI) cX16_fetches .boolean (St × (St)) (dw_X16 a ac) r) : dj_X16_fetches_33 p l e s m args below meth c Q A dC dI a ac (df_X16_fetches_33 n) r := by
  obtain ⟨hlt, hx, hb, hml, hown, hts, hN, hA, hK⟩ := id C
  intro y0 s0 H locs ls h hP hD hS hl
  unfold df_X16_fetches_33 at h
  obtain ⟨n5, h⟩ := nd_z_e ⟨_, rfl⟩ h
  exact K _ _ _ _ _ _ dX16_fetches_33 n5 (Option.some.inj h).symm hP hD hS
set_option maxHeartbeats 40000000 in
set_option maxRecDepth 100000 in
theorem db_X16_fetches_32 {p : Program} {l : Launch} {e : Env} {s : State} {m : MethodId} {args : Array Value} {below : List Frame} {meth : Method} {c : Code} {Q : State → Prop} {A : Nat → Prop} {dC : Nat → ClassId} {dI : Nat → Nat → Nat} {a : Nat → Nat} {ac : Nat → ClassId} {n : Nat} {r : Int32 × (St × (St))} (C : nd_C p l s m args c A (dC, dI) cX16_fetches 2 RX16 ow_dm_X16_fetches (dk_X16 ac)) (K : nd_Ki p l e (headSpec ow_dm_X16_fetches ({ frames := 2, cells := 0, slots := 0, locals := 45 })).room s m args below meth c Q A (dC, dI) cX16_fetches .boolean (St × (St)) (dw_X16 a ac) r) : dj_X16_fetches_32 p l e s m args below meth c Q A dC dI a ac (df_X16_fetches_32 n) r := by
  obtain ⟨hlt, hx, hb, hml, hown, hts, hN, hA, hK⟩ := id C
  intro s0 H locs ls h hP hD hS hl
  unfold df_X16_fetches_32 at h
  refine lv_iconst (v := 0) hx hb dX16_fetches_32 (by decide) ?_
  exact (db_X16_fetches_33 C K) (0) s0 _ _ _ h hP hD hS (lv_sub hl [] rfl)
