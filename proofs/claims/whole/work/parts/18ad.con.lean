set_option maxHeartbeats 40000000 in
set_option maxRecDepth 100000 in
theorem db_X13_name_133 {p : Program} {l : Launch} {e : Env} {s : State} {m : MethodId} {args : Array Value} {below : List Frame} {meth : Method} {c : Code} {Q : State → Prop} {A : Nat → Prop} {dC : Nat → ClassId} {dI : Nat → Nat → Nat} {a : Nat → Nat} {ac : Nat → ClassId} {n : Nat} {r : St} (C : nd_C p l s m args c A (dC, dI) cX13_name 4 RX13 ow_dm_X13_name (dk_X13 ac)) (K : nd_Kv p l e (headSpec ow_dm_X13_name ({ frames := 4, cells := 0, slots := 0, locals := 87 })).room s m args below meth c Q A (dC, dI) cX13_name (St) (dw_X13 a ac) r) : dj_X13_name_133 p l e s m args below meth c Q A dC dI a ac (df_X13_name_133 n) r := by
  obtain ⟨hlt, hx, hb, hml, hown, hts, hN, hA, hK⟩ := id C
  intro x1 x2 y1 s0 H locs ls h hP hD hS hl
  unfold df_X13_name_133 at h
  obtain ⟨n9, h⟩ := nd_f_e h
  obtain ⟨n10, h⟩ := nd_z_e ⟨_, rfl⟩ h
  refine va_put (D := (dC, dI)) (ci := 14) (v := .int y1) (ty := .boolean) (C := RX13) (T := TX13) (N := 37) hx hb hts hi_dm_X13_name_X13 tyX13 tyX13_ok nmX13 hown hK hP hD hS 0 rfl rfl 31 (by decide) (hts (.fieldLink RX13 457 "TimeMachineModel$Assembler" "missing" "Z") (List.mem_of_getElem? (i := 4) rfl)) (fun _ h9 => h9) rfl (by decide +kernel) n10 n9 (Nat.le_of_ble_eq_true rfl) dX13_name_133 (fun H locs hP hD hS => ?_)
  obtain ⟨s11, es11, h⟩ := nd_let_e h
  have hP : va_P (dC, dI) vwCl (dw_X13 a ac s11) H := by rw [es11]; exact hP
  have hD : va_D A (dw_X13 a ac s11) := by rw [es11]; exact hD
  refine lv_aload_n hx hb dX13_name_136 rfl (lv_at hl 0 rfl) ?_
  refine lv_iload_n hx hb dX13_name_137 rfl (lv_at hl 1 rfl) ?_
  refine lv_if_eq (tgt := 148) hx hb dX13_name_138 (by decide) (fun c12 => ?_) (fun c12 => ?_)
  · have h := nd_pos h c12
    refine lv_iload_n hx hb dX13_name_148 rfl (lv_at hl 2 rfl) ?_
    refine lv_if_ge (tgt := 156) hx hb dX13_name_149 (by decide) (fun c13 => ?_) (fun c13 => ?_)
    · have h := nd_pos h c13
      refine lv_aload_n hx hb dX13_name_156 rfl (lv_at hl 0 rfl) ?_
      refine lv_iload_n hx hb dX13_name_157 rfl (lv_at hl 2 rfl) ?_
      obtain ⟨q14, s15, hq, h⟩ := nd_b2_e h
      have hPc := hP
      have hDc := hD
      have hKc := hK
      have hFc := nd_rs hD hS hA
      refine nd_cVi (As := [.int x2]) (rest := [.ref (a 0)]) (q := q14) (w' := dw_X13 a ac s15) ⟨hx, hb, hml, hown, hts⟩ (fun sz => dm_X13_valueOf l hlt dC dI a ac n (x2) s11 hq sz) (cwV 1 hts gi_dm_X13_name_0 rfl rfl rfl (by decide +kernel) ⟨Nat.le_of_ble_eq_true rfl, Nat.le_of_ble_eq_true rfl⟩) hPc hDc hKc hS hA hN (va_recv hKc hPc (ci := 14) (q0 := 0) rfl rfl) rfl hl.1 rfl (Nat.le_of_ble_eq_true rfl) dX13_name_158 (fun H locs hP1 hD1 hk1 hS => ?_)
      have hP := hP1
      have hD := hD1.weaken (fun k q _ h => hFc q.1 h)
      exact (db_X13_name_161 C K) (q14) s15 _ _ _ h hP hD hS (lv_sub hl [] rfl)
    · have h := nd_neg h c13
      refine lv_iconst (v := 0) hx hb dX13_name_152 (by decide) ?_
      refine lv_goto (tgt := 161) hx hb dX13_name_153 (by decide) ?_
      exact (db_X13_name_161 C K) (0) s11 _ _ _ h hP hD hS (lv_sub hl [] rfl)
  · have h := nd_neg h c12
    refine lv_aload_n hx hb dX13_name_141 rfl (lv_at hl 0 rfl) ?_
    refine va_get (D := (dC, dI)) (ci := 14) (v := .int (sI s11 17)) (C := RX13) (T := TX13) (N := 37) hx hb hts hi_dm_X13_name_X13 hown hK hP 0 rfl rfl 26 (by decide) (hts (.fieldLink RX13 486 "TimeMachineModel$Assembler" "address" "I") (List.mem_of_getElem? (i := 12) rfl)) (fun _ h9 => h9) rfl dX13_name_142 ?_
    refine lv_goto (tgt := 161) hx hb dX13_name_145 (by decide) ?_
    exact (db_X13_name_161 C K) ((sI s11 17)) s11 _ _ _ h hP hD hS (lv_sub hl [] rfl)
set_option maxHeartbeats 40000000 in
set_option maxRecDepth 100000 in
theorem db_X13_name_128 {p : Program} {l : Launch} {e : Env} {s : State} {m : MethodId} {args : Array Value} {below : List Frame} {meth : Method} {c : Code} {Q : State → Prop} {A : Nat → Prop} {dC : Nat → ClassId} {dI : Nat → Nat → Nat} {a : Nat → Nat} {ac : Nat → ClassId} {n : Nat} {r : St} (C : nd_C p l s m args c A (dC, dI) cX13_name 4 RX13 ow_dm_X13_name (dk_X13 ac)) (K : nd_Kv p l e (headSpec ow_dm_X13_name ({ frames := 4, cells := 0, slots := 0, locals := 87 })).room s m args below meth c Q A (dC, dI) cX13_name (St) (dw_X13 a ac) r) : dj_X13_name_128 p l e s m args below meth c Q A dC dI a ac (df_X13_name_128 n) r := by
  obtain ⟨hlt, hx, hb, hml, hown, hts, hN, hA, hK⟩ := id C
  intro x1 x2 s0 H locs ls h hP hD hS hl
  unfold df_X13_name_128 at h
  refine lv_iconst (v := 1) hx hb dX13_name_128 (by decide) ?_
  refine lv_goto (tgt := 133) hx hb dX13_name_129 (by decide) ?_
  exact (db_X13_name_133 C K) (x1) (x2) (1) s0 _ _ _ h hP hD hS (lv_sub hl [0, 1, 2] rfl)
set_option maxHeartbeats 40000000 in
set_option maxRecDepth 100000 in
theorem db_X13_name_132 {p : Program} {l : Launch} {e : Env} {s : State} {m : MethodId} {args : Array Value} {below : List Frame} {meth : Method} {c : Code} {Q : State → Prop} {A : Nat → Prop} {dC : Nat → ClassId} {dI : Nat → Nat → Nat} {a : Nat → Nat} {ac : Nat → ClassId} {n : Nat} {r : St} (C : nd_C p l s m args c A (dC, dI) cX13_name 4 RX13 ow_dm_X13_name (dk_X13 ac)) (K : nd_Kv p l e (headSpec ow_dm_X13_name ({ frames := 4, cells := 0, slots := 0, locals := 87 })).room s m args below meth c Q A (dC, dI) cX13_name (St) (dw_X13 a ac) r) : dj_X13_name_132 p l e s m args below meth c Q A dC dI a ac (df_X13_name_132 n) r := by
  obtain ⟨hlt, hx, hb, hml, hown, hts, hN, hA, hK⟩ := id C
  intro x1 x2 s0 H locs ls h hP hD hS hl
  unfold df_X13_name_132 at h
  refine lv_iconst (v := 0) hx hb dX13_name_132 (by decide) ?_
  exact (db_X13_name_133 C K) (x1) (x2) (0) s0 _ _ _ h hP hD hS (lv_sub hl [0, 1, 2] rfl)
set_option maxHeartbeats 40000000 in
set_option maxRecDepth 100000 in
theorem db_X13_name_109 {p : Program} {l : Launch} {e : Env} {s : State} {m : MethodId} {args : Array Value} {below : List Frame} {meth : Method} {c : Code} {Q : State → Prop} {A : Nat → Prop} {dC : Nat → ClassId} {dI : Nat → Nat → Nat} {a : Nat → Nat} {ac : Nat → ClassId} {n : Nat} {r : St} (C : nd_C p l s m args c A (dC, dI) cX13_name 4 RX13 ow_dm_X13_name (dk_X13 ac)) (K : nd_Kv p l e (headSpec ow_dm_X13_name ({ frames := 4, cells := 0, slots := 0, locals := 87 })).room s m args below meth c Q A (dC, dI) cX13_name (St) (dw_X13 a ac) r) : dj_X13_name_109 p l e s m args below meth c Q A dC dI a ac (df_X13_name_109 n) r := by
  obtain ⟨hlt, hx, hb, hml, hown, hts, hN, hA, hK⟩ := id C
  intro x1 x2 y1 s0 H locs ls h hP hD hS hl
  unfold df_X13_name_109 at h
  obtain ⟨n5, h⟩ := nd_f_e h
  obtain ⟨n6, h⟩ := nd_z_e ⟨_, rfl⟩ h
  refine va_put (D := (dC, dI)) (ci := 14) (v := .int y1) (ty := .boolean) (C := RX13) (T := TX13) (N := 37) hx hb hts hi_dm_X13_name_X13 tyX13 tyX13_ok nmX13 hown hK hP hD hS 0 rfl rfl 33 (by decide) (hts (.fieldLink RX13 483 "TimeMachineModel$Assembler" "loose" "Z") (List.mem_of_getElem? (i := 3) rfl)) (fun _ h9 => h9) rfl (by decide +kernel) n6 n5 (Nat.le_of_ble_eq_true rfl) dX13_name_109 (fun H locs hP hD hS => ?_)
  obtain ⟨s7, es7, h⟩ := nd_let_e h
  have hP : va_P (dC, dI) vwCl (dw_X13 a ac s7) H := by rw [es7]; exact hP
  have hD : va_D A (dw_X13 a ac s7) := by rw [es7]; exact hD
  refine lv_aload_n hx hb dX13_name_112 rfl (lv_at hl 0 rfl) ?_
  refine lv_aload_n hx hb dX13_name_113 rfl (lv_at hl 0 rfl) ?_
  refine va_get (D := (dC, dI)) (ci := 14) (v := .int (sI s7 21)) (C := RX13) (T := TX13) (N := 37) hx hb hts hi_dm_X13_name_X13 hown hK hP 0 rfl rfl 31 (by decide) (hts (.fieldLink RX13 457 "TimeMachineModel$Assembler" "missing" "Z") (List.mem_of_getElem? (i := 4) rfl)) (fun _ h9 => h9) rfl dX13_name_114 ?_
  refine lv_if_ne (tgt := 128) hx hb dX13_name_117 (by decide) (fun c8 => ?_) (fun c8 => ?_)
  · have h := nd_neg h c8
    exact (db_X13_name_128 C K) (x1) (x2) s7 _ _ _ h hP hD hS (lv_sub hl [0, 1, 2] rfl)
  · have h := nd_pos h c8
    refine lv_iload_n hx hb dX13_name_120 rfl (lv_at hl 1 rfl) ?_
    refine lv_if_ne (tgt := 132) hx hb dX13_name_121 (by decide) (fun c20 => ?_) (fun c20 => ?_)
    · have h := nd_neg h c20
      exact (db_X13_name_132 C K) (x1) (x2) s7 _ _ _ h hP hD hS (lv_sub hl [0, 1, 2] rfl)
    · have h := nd_pos h c20
      refine lv_iload_n hx hb dX13_name_124 rfl (lv_at hl 2 rfl) ?_
      refine lv_if_ge (tgt := 132) hx hb dX13_name_125 (by decide) (fun c21 => ?_) (fun c21 => ?_)
      · have h := nd_pos h c21
        exact (db_X13_name_132 C K) (x1) (x2) s7 _ _ _ h hP hD hS (lv_sub hl [0, 1, 2] rfl)
      · have h := nd_neg h c21
        exact (db_X13_name_128 C K) (x1) (x2) s7 _ _ _ h hP hD hS (lv_sub hl [0, 1, 2] rfl)
set_option maxHeartbeats 40000000 in
set_option maxRecDepth 100000 in
theorem db_X13_name_104 {p : Program} {l : Launch} {e : Env} {s : State} {m : MethodId} {args : Array Value} {below : List Frame} {meth : Method} {c : Code} {Q : State → Prop} {A : Nat → Prop} {dC : Nat → ClassId} {dI : Nat → Nat → Nat} {a : Nat → Nat} {ac : Nat → ClassId} {n : Nat} {r : St} (C : nd_C p l s m args c A (dC, dI) cX13_name 4 RX13 ow_dm_X13_name (dk_X13 ac)) (K : nd_Kv p l e (headSpec ow_dm_X13_name ({ frames := 4, cells := 0, slots := 0, locals := 87 })).room s m args below meth c Q A (dC, dI) cX13_name (St) (dw_X13 a ac) r) : dj_X13_name_104 p l e s m args below meth c Q A dC dI a ac (df_X13_name_104 n) r := by
  obtain ⟨hlt, hx, hb, hml, hown, hts, hN, hA, hK⟩ := id C
  intro x1 x2 s0 H locs ls h hP hD hS hl
  unfold df_X13_name_104 at h
  refine lv_iconst (v := 1) hx hb dX13_name_104 (by decide) ?_
  refine lv_goto (tgt := 109) hx hb dX13_name_105 (by decide) ?_
  exact (db_X13_name_109 C K) (x1) (x2) (1) s0 _ _ _ h hP hD hS (lv_sub hl [0, 1, 2] rfl)
set_option maxHeartbeats 40000000 in
set_option maxRecDepth 100000 in
theorem db_X13_name_91 {p : Program} {l : Launch} {e : Env} {s : State} {m : MethodId} {args : Array Value} {below : List Frame} {meth : Method} {c : Code} {Q : State → Prop} {A : Nat → Prop} {dC : Nat → ClassId} {dI : Nat → Nat → Nat} {a : Nat → Nat} {ac : Nat → ClassId} {n : Nat} {r : St} (C : nd_C p l s m args c A (dC, dI) cX13_name 4 RX13 ow_dm_X13_name (dk_X13 ac)) (K : nd_Kv p l e (headSpec ow_dm_X13_name ({ frames := 4, cells := 0, slots := 0, locals := 87 })).room s m args below meth c Q A (dC, dI) cX13_name (St) (dw_X13 a ac) r) : dj_X13_name_91 p l e s m args below meth c Q A dC dI a ac (df_X13_name_91 n) r := by
  obtain ⟨hlt, hx, hb, hml, hown, hts, hN, hA, hK⟩ := id C
  intro x1 x2 y0 s0 H locs ls h hP hD hS hl
  unfold df_X13_name_91 at h
  refine lv_istore_n (lv' := [(3, .int y0), (0, .ref (a 0)), (1, .int x1), (2, .int x2)]) hx hb dX13_name_91 rfl hl (by decide) rfl (fun ls hl => ?_)
  refine lv_aload_n hx hb dX13_name_92 rfl (lv_at hl 1 rfl) ?_
  refine lv_aload_n hx hb dX13_name_93 rfl (lv_at hl 1 rfl) ?_
  refine va_get (D := (dC, dI)) (ci := 14) (v := .int (sI s0 23)) (C := RX13) (T := TX13) (N := 37) hx hb hts hi_dm_X13_name_X13 hown hK hP 0 rfl rfl 33 (by decide) (hts (.fieldLink RX13 483 "TimeMachineModel$Assembler" "loose" "Z") (List.mem_of_getElem? (i := 3) rfl)) (fun _ h9 => h9) rfl dX13_name_94 ?_
  refine lv_if_ne (tgt := 104) hx hb dX13_name_97 (by decide) (fun c4 => ?_) (fun c4 => ?_)
  · have h := nd_neg h c4
    exact (db_X13_name_104 C K) (x1) (x2) s0 _ _ _ h hP hD hS (lv_sub hl [1, 2, 3] rfl)
  · have h := nd_pos h c4
    refine lv_iload_n hx hb dX13_name_100 rfl (lv_at hl 0 rfl) ?_
    refine lv_if_ne (tgt := 108) hx hb dX13_name_101 (by decide) (fun c22 => ?_) (fun c22 => ?_)
    · have h := nd_neg h c22
      refine lv_iconst (v := 0) hx hb dX13_name_108 (by decide) ?_
      exact (db_X13_name_109 C K) (x1) (x2) (0) s0 _ _ _ h hP hD hS (lv_sub hl [1, 2, 3] rfl)
    · have h := nd_pos h c22
      exact (db_X13_name_104 C K) (x1) (x2) s0 _ _ _ h hP hD hS (lv_sub hl [1, 2, 3] rfl)
set_option maxHeartbeats 40000000 in
set_option maxRecDepth 100000 in
theorem db_X13_name_90 {p : Program} {l : Launch} {e : Env} {s : State} {m : MethodId} {args : Array Value} {below : List Frame} {meth : Method} {c : Code} {Q : State → Prop} {A : Nat → Prop} {dC : Nat → ClassId} {dI : Nat → Nat → Nat} {a : Nat → Nat} {ac : Nat → ClassId} {n : Nat} {r : St} (C : nd_C p l s m args c A (dC, dI) cX13_name 4 RX13 ow_dm_X13_name (dk_X13 ac)) (K : nd_Kv p l e (headSpec ow_dm_X13_name ({ frames := 4, cells := 0, slots := 0, locals := 87 })).room s m args below meth c Q A (dC, dI) cX13_name (St) (dw_X13 a ac) r) : dj_X13_name_90 p l e s m args below meth c Q A dC dI a ac (df_X13_name_90 n) r := by
  obtain ⟨hlt, hx, hb, hml, hown, hts, hN, hA, hK⟩ := id C
  intro x1 x2 s0 H locs ls h hP hD hS hl
  unfold df_X13_name_90 at h
  refine lv_iconst (v := 0) hx hb dX13_name_90 (by decide) ?_
  exact (db_X13_name_91 C K) (x1) (x2) (0) s0 _ _ _ h hP hD hS (lv_sub hl [0, 1, 2] rfl)
set_option maxHeartbeats 40000000 in
set_option maxRecDepth 100000 in
theorem db_X13_name_68 {p : Program} {l : Launch} {e : Env} {s : State} {m : MethodId} {args : Array Value} {below : List Frame} {meth : Method} {c : Code} {Q : State → Prop} {A : Nat → Prop} {dC : Nat → ClassId} {dI : Nat → Nat → Nat} {a : Nat → Nat} {ac : Nat → ClassId} {n : Nat} {r : St} (C : nd_C p l s m args c A (dC, dI) cX13_name 4 RX13 ow_dm_X13_name (dk_X13 ac)) (K : nd_Kv p l e (headSpec ow_dm_X13_name ({ frames := 4, cells := 0, slots := 0, locals := 87 })).room s m args below meth c Q A (dC, dI) cX13_name (St) (dw_X13 a ac) r) : dj_X13_name_68 p l e s m args below meth c Q A dC dI a ac (df_X13_name_68 n) r := by
  obtain ⟨hlt, hx, hb, hml, hown, hts, hN, hA, hK⟩ := id C
  intro x1 y0 s0 H locs ls h hP hD hS hl
  unfold df_X13_name_68 at h
  refine lv_istore_n (lv' := [(2, .int y0), (0, .ref (a 0)), (1, .int x1)]) hx hb dX13_name_68 rfl hl (by decide) rfl (fun ls hl => ?_)
  refine lv_iload_n hx hb dX13_name_69 rfl (lv_at hl 0 rfl) ?_
  refine lv_if_lt (tgt := 90) hx hb dX13_name_70 (by decide) (fun c3 => ?_) (fun c3 => ?_)
  · have h := nd_pos h c3
    exact (db_X13_name_90 C K) (x1) (y0) s0 _ _ _ h hP hD hS (lv_sub hl [1, 2, 0] rfl)
  · have h := nd_neg h c3
    refine lv_aload_n hx hb dX13_name_73 rfl (lv_at hl 1 rfl) ?_
    refine va_get (D := (dC, dI)) (ci := 14) (v := .ref (a 8)) (C := RX13) (T := TX13) (N := 37) hx hb hts hi_dm_X13_name_X13 hown hK hP 0 rfl rfl 11 (by decide) (hts (.fieldLink RX13 337 "TimeMachineModel$Assembler" "label" "[I") (List.mem_of_getElem? (i := 13) rfl)) (fun _ h9 => h9) rfl dX13_name_74 ?_
    refine lv_iload_n hx hb dX13_name_77 rfl (lv_at hl 0 rfl) ?_
    obtain ⟨i23, h⟩ := nd_ck_e h
    refine va_iald (i := y0) hx hb hK hP 8 7 rfl rfl i23 dX13_name_78 ?_
    refine lv_bipush (v := 17) hx hb dX13_name_79 (by decide) ?_
    refine lv_ishr hx hb dX13_name_81 ?_
    refine lv_iconst (v := 2) hx hb dX13_name_82 (by decide) ?_
    refine lv_icmp_ne (tgt := 90) hx hb dX13_name_83 (by decide) (fun c24 => ?_) (fun c24 => ?_)
    · have h := nd_neg h c24
      exact (db_X13_name_90 C K) (x1) (y0) s0 _ _ _ h hP hD hS (lv_sub hl [1, 2, 0] rfl)
    · have h := nd_pos h c24
      refine lv_iconst (v := 1) hx hb dX13_name_86 (by decide) ?_
      refine lv_goto (tgt := 91) hx hb dX13_name_87 (by decide) ?_
      exact (db_X13_name_91 C K) (x1) (y0) (1) s0 _ _ _ h hP hD hS (lv_sub hl [1, 2, 0] rfl)
set_option maxHeartbeats 40000000 in
set_option maxRecDepth 100000 in
theorem db_X13_name_52 {p : Program} {l : Launch} {e : Env} {s : State} {m : MethodId} {args : Array Value} {below : List Frame} {meth : Method} {c : Code} {Q : State → Prop} {A : Nat → Prop} {dC : Nat → ClassId} {dI : Nat → Nat → Nat} {a : Nat → Nat} {ac : Nat → ClassId} {n : Nat} {r : St} (C : nd_C p l s m args c A (dC, dI) cX13_name 4 RX13 ow_dm_X13_name (dk_X13 ac)) (K : nd_Kv p l e (headSpec ow_dm_X13_name ({ frames := 4, cells := 0, slots := 0, locals := 87 })).room s m args below meth c Q A (dC, dI) cX13_name (St) (dw_X13 a ac) r) : dj_X13_name_52 p l e s m args below meth c Q A dC dI a ac (df_X13_name_52 n) r := by
  obtain ⟨hlt, hx, hb, hml, hown, hts, hN, hA, hK⟩ := id C
  intro x1 s0 H locs ls h hP hD hS hl
  unfold df_X13_name_52 at h
  refine lv_iconst (v := (-1)) hx hb dX13_name_52 (by decide) ?_
  refine lv_goto (tgt := 68) hx hb dX13_name_53 (by decide) ?_
  exact (db_X13_name_68 C K) (x1) ((-1)) s0 _ _ _ h hP hD hS (lv_sub hl [0, 1] rfl)
set_option maxHeartbeats 40000000 in
set_option maxRecDepth 100000 in
theorem db_X13_name_32 {p : Program} {l : Launch} {e : Env} {s : State} {m : MethodId} {args : Array Value} {below : List Frame} {meth : Method} {c : Code} {Q : State → Prop} {A : Nat → Prop} {dC : Nat → ClassId} {dI : Nat → Nat → Nat} {a : Nat → Nat} {ac : Nat → ClassId} {n : Nat} {r : St} (C : nd_C p l s m args c A (dC, dI) cX13_name 4 RX13 ow_dm_X13_name (dk_X13 ac)) (K : nd_Kv p l e (headSpec ow_dm_X13_name ({ frames := 4, cells := 0, slots := 0, locals := 87 })).room s m args below meth c Q A (dC, dI) cX13_name (St) (dw_X13 a ac) r) : dj_X13_name_32 p l e s m args below meth c Q A dC dI a ac (df_X13_name_32 n) r := by
  obtain ⟨hlt, hx, hb, hml, hown, hts, hN, hA, hK⟩ := id C
  intro y0 s0 H locs ls h hP hD hS hl
  unfold df_X13_name_32 at h
  refine lv_istore_n (lv' := [(1, .int y0), (0, .ref (a 0))]) hx hb dX13_name_32 rfl hl (by decide) rfl (fun ls hl => ?_)
  refine lv_iload_n hx hb dX13_name_33 rfl (lv_at hl 0 rfl) ?_
  refine lv_if_ne (tgt := 52) hx hb dX13_name_34 (by decide) (fun c2 => ?_) (fun c2 => ?_)
  · have h := nd_neg h c2
    exact (db_X13_name_52 C K) (y0) s0 _ _ _ h hP hD hS (lv_sub hl [1, 0] rfl)
  · have h := nd_pos h c2
    refine lv_aload_n hx hb dX13_name_37 rfl (lv_at hl 1 rfl) ?_
    refine lv_aload_n hx hb dX13_name_38 rfl (lv_at hl 1 rfl) ?_
    refine va_get (D := (dC, dI)) (ci := 14) (v := .int (sI s0 9)) (C := RX13) (T := TX13) (N := 37) hx hb hts hi_dm_X13_name_X13 hown hK hP 0 rfl rfl 18 (by decide) (hts (.fieldLink RX13 368 "TimeMachineModel$Assembler" "from" "I") (List.mem_of_getElem? (i := 2) rfl)) (fun _ h9 => h9) rfl dX13_name_39 ?_
    refine lv_aload_n hx hb dX13_name_42 rfl (lv_at hl 1 rfl) ?_
    refine va_get (D := (dC, dI)) (ci := 14) (v := .int (sI s0 10)) (C := RX13) (T := TX13) (N := 37) hx hb hts hi_dm_X13_name_X13 hown hK hP 0 rfl rfl 19 (by decide) (hts (.fieldLink RX13 371 "TimeMachineModel$Assembler" "to" "I") (List.mem_of_getElem? (i := 1) rfl)) (fun _ h9 => h9) rfl dX13_name_43 ?_
    obtain ⟨q25, s26, hq, h⟩ := nd_b2_e h
    have hPc := hP
    have hDc := hD
    have hKc := hK
    have hFc := nd_rs hD hS hA
    refine nd_cVi (As := [.int (sI s0 9), .int (sI s0 10)]) (rest := []) (q := q25) (w' := dw_X13 a ac s26) ⟨hx, hb, hml, hown, hts⟩ (fun sz => dm_X13_register l hlt dC dI a ac n ((sI s0 9)) ((sI s0 10)) s0 hq sz) (cwV 2 hts gi_dm_X13_name_2 rfl rfl rfl (by decide +kernel) ⟨Nat.le_of_ble_eq_true rfl, Nat.le_of_ble_eq_true rfl⟩) hPc hDc hKc hS hA hN (va_recv hKc hPc (ci := 14) (q0 := 0) rfl rfl) rfl hl.1 rfl (Nat.le_of_ble_eq_true rfl) dX13_name_46 (fun H locs hP1 hD1 hk1 hS => ?_)
    have hP := hP1
    have hD := hD1.weaken (fun k q _ h => hFc q.1 h)
    refine lv_if_lt (tgt := 56) hx hb dX13_name_49 (by decide) (fun c28 => ?_) (fun c28 => ?_)
    · have h := nd_pos h c28
      refine lv_aload_n hx hb dX13_name_56 rfl (lv_at hl 1 rfl) ?_
      refine lv_aload_n hx hb dX13_name_57 rfl (lv_at hl 1 rfl) ?_
      refine va_get (D := (dC, dI)) (ci := 14) (v := .int (sI s26 9)) (C := RX13) (T := TX13) (N := 37) hx hb hts hi_dm_X13_name_X13 hown hK hP 0 rfl rfl 18 (by decide) (hts (.fieldLink RX13 368 "TimeMachineModel$Assembler" "from" "I") (List.mem_of_getElem? (i := 2) rfl)) (fun _ h9 => h9) rfl dX13_name_58 ?_
      refine lv_aload_n hx hb dX13_name_61 rfl (lv_at hl 1 rfl) ?_
      refine va_get (D := (dC, dI)) (ci := 14) (v := .int (sI s26 10)) (C := RX13) (T := TX13) (N := 37) hx hb hts hi_dm_X13_name_X13 hown hK hP 0 rfl rfl 19 (by decide) (hts (.fieldLink RX13 371 "TimeMachineModel$Assembler" "to" "I") (List.mem_of_getElem? (i := 1) rfl)) (fun _ h9 => h9) rfl dX13_name_62 ?_
      obtain ⟨q29, s30, hq, h⟩ := nd_b2_e h
      have hPc := hP
      have hDc := hD
      have hKc := hK
      have hFc := nd_rs hD hS hA
      refine nd_cVi (As := [.int (sI s26 9), .int (sI s26 10)]) (rest := []) (q := q29) (w' := dw_X13 a ac s30) ⟨hx, hb, hml, hown, hts⟩ (fun sz => dm_X13_find l hlt dC dI a ac n ((sI s26 9)) ((sI s26 10)) s26 hq sz) (cwV 2 hts gi_dm_X13_name_3 rfl rfl rfl (by decide +kernel) ⟨Nat.le_of_ble_eq_true rfl, Nat.le_of_ble_eq_true rfl⟩) hPc hDc hKc hS hA hN (va_recv hKc hPc (ci := 14) (q0 := 0) rfl rfl) rfl hl.1 rfl (Nat.le_of_ble_eq_true rfl) dX13_name_65 (fun H locs hP1 hD1 hk1 hS => ?_)
      have hP := hP1
      have hD := hD1.weaken (fun k q _ h => hFc q.1 h)
      exact (db_X13_name_68 C K) (y0) (q29) s30 _ _ _ h hP hD hS (lv_sub hl [1, 0] rfl)
    · have h := nd_neg h c28
      exact (db_X13_name_52 C K) (y0) s26 _ _ _ h hP hD hS (lv_sub hl [1, 0] rfl)
set_option maxHeartbeats 40000000 in
set_option maxRecDepth 100000 in
theorem db_X13_name_31 {p : Program} {l : Launch} {e : Env} {s : State} {m : MethodId} {args : Array Value} {below : List Frame} {meth : Method} {c : Code} {Q : State → Prop} {A : Nat → Prop} {dC : Nat → ClassId} {dI : Nat → Nat → Nat} {a : Nat → Nat} {ac : Nat → ClassId} {n : Nat} {r : St} (C : nd_C p l s m args c A (dC, dI) cX13_name 4 RX13 ow_dm_X13_name (dk_X13 ac)) (K : nd_Kv p l e (headSpec ow_dm_X13_name ({ frames := 4, cells := 0, slots := 0, locals := 87 })).room s m args below meth c Q A (dC, dI) cX13_name (St) (dw_X13 a ac) r) : dj_X13_name_31 p l e s m args below meth c Q A dC dI a ac (df_X13_name_31 n) r := by
  obtain ⟨hlt, hx, hb, hml, hown, hts, hN, hA, hK⟩ := id C
  intro s0 H locs ls h hP hD hS hl
  unfold df_X13_name_31 at h
  refine lv_iconst (v := 0) hx hb dX13_name_31 (by decide) ?_
  exact (db_X13_name_32 C K) (0) s0 _ _ _ h hP hD hS (lv_sub hl [0] rfl)
set_option maxHeartbeats 40000000 in
set_option maxRecDepth 100000 in
theorem db_X13_name_0 {p : Program} {l : Launch} {e : Env} {s : State} {m : MethodId} {args : Array Value} {below : List Frame} {meth : Method} {c : Code} {Q : State → Prop} {A : Nat → Prop} {dC : Nat → ClassId} {dI : Nat → Nat → Nat} {a : Nat → Nat} {ac : Nat → ClassId} {n : Nat} {r : St} (C : nd_C p l s m args c A (dC, dI) cX13_name 4 RX13 ow_dm_X13_name (dk_X13 ac)) (K : nd_Kv p l e (headSpec ow_dm_X13_name ({ frames := 4, cells := 0, slots := 0, locals := 87 })).room s m args below meth c Q A (dC, dI) cX13_name (St) (dw_X13 a ac) r) : dj_X13_name_0 p l e s m args below meth c Q A dC dI a ac (df_X13_name_0 n) r := by
  obtain ⟨hlt, hx, hb, hml, hown, hts, hN, hA, hK⟩ := id C
  intro s0 H locs ls h hP hD hS hl
  unfold df_X13_name_0 at h
  refine lv_aload_n hx hb dX13_name_0 rfl (lv_at hl 0 rfl) ?_
  refine va_get (D := (dC, dI)) (ci := 14) (v := .int (sI s0 10)) (C := RX13) (T := TX13) (N := 37) hx hb hts hi_dm_X13_name_X13 hown hK hP 0 rfl rfl 19 (by decide) (hts (.fieldLink RX13 371 "TimeMachineModel$Assembler" "to" "I") (List.mem_of_getElem? (i := 1) rfl)) (fun _ h9 => h9) rfl dX13_name_1 ?_
  refine lv_aload_n hx hb dX13_name_4 rfl (lv_at hl 0 rfl) ?_
  refine va_get (D := (dC, dI)) (ci := 14) (v := .int (sI s0 9)) (C := RX13) (T := TX13) (N := 37) hx hb hts hi_dm_X13_name_X13 hown hK hP 0 rfl rfl 18 (by decide) (hts (.fieldLink RX13 368 "TimeMachineModel$Assembler" "from" "I") (List.mem_of_getElem? (i := 2) rfl)) (fun _ h9 => h9) rfl dX13_name_5 ?_
  refine lv_isub hx hb dX13_name_8 ?_
  refine lv_iconst (v := 1) hx hb dX13_name_9 (by decide) ?_
  refine lv_icmp_ne (tgt := 31) hx hb dX13_name_10 (by decide) (fun c1 => ?_) (fun c1 => ?_)
  · have h := nd_neg h c1
    exact (db_X13_name_31 C K)  s0 _ _ _ h hP hD hS (lv_sub hl [0] rfl)
  · have h := nd_pos h c1
    refine lv_aload_n hx hb dX13_name_13 rfl (lv_at hl 0 rfl) ?_
    refine va_get (D := (dC, dI)) (ci := 14) (v := .ref (a 4)) (C := RX13) (T := TX13) (N := 37) hx hb hts hi_dm_X13_name_X13 hown hK hP 0 rfl rfl 3 (by decide) (hts (.fieldLink RX13 324 "TimeMachineModel$Assembler" "text" "[C") (List.mem_of_getElem? (i := 20) rfl)) (fun _ h9 => h9) rfl dX13_name_14 ?_
    refine lv_aload_n hx hb dX13_name_17 rfl (lv_at hl 0 rfl) ?_
    refine va_get (D := (dC, dI)) (ci := 14) (v := .int (sI s0 9)) (C := RX13) (T := TX13) (N := 37) hx hb hts hi_dm_X13_name_X13 hown hK hP 0 rfl rfl 18 (by decide) (hts (.fieldLink RX13 368 "TimeMachineModel$Assembler" "from" "I") (List.mem_of_getElem? (i := 2) rfl)) (fun _ h9 => h9) rfl dX13_name_18 ?_
    obtain ⟨i32, h⟩ := nd_ck_e h
    refine va_cald (i := (sI s0 9)) hx hb hK hP 4 3 rfl rfl i32 dX13_name_21 ?_
    refine lv_bipush (v := 46) hx hb dX13_name_22 (by decide) ?_
    refine lv_icmp_ne (tgt := 31) hx hb dX13_name_24 (by decide) (fun c33 => ?_) (fun c33 => ?_)
    · have h := nd_neg h c33
      exact (db_X13_name_31 C K)  s0 _ _ _ h hP hD hS (lv_sub hl [0] rfl)
    · have h := nd_pos h c33
      refine lv_iconst (v := 1) hx hb dX13_name_27 (by decide) ?_
      refine lv_goto (tgt := 32) hx hb dX13_name_28 (by decide) ?_
      exact (db_X13_name_32 C K) (1) s0 _ _ _ h hP hD hS (lv_sub hl [0] rfl)
set_option maxHeartbeats 40000000 in
set_option maxRecDepth 100000 in
theorem dm_X13_name (l : Launch) (hlt : l.stackTraces = false) (dC : Nat → ClassId) (dI : Nat → Nat → Nat) (a : Nat → Nat) (ac : Nat → ClassId) (n : Nat) (s0 : St) {r : St} (h : df_X13_name n s0 = some r) (sz : Nat) : Met l yX13_name ow_dm_X13_name ({ frames := 4, cells := 0, slots := 0, locals := 87 }) (va_Pc [.ref (a 0)] (fun U => U.heap.size = sz ∧ va_P (dC, dI) vwCl (dw_X13 a ac s0) U.heap ∧ va_K (dC, dI) vwCl (dk_X13 ac) U ∧ va_D (fun _ => True) (dw_X13 a ac s0) ∧ nv_E (va_A (dw_X13 a ac s0) sz) U)) (va_Qv (fun _ => True) (fun (_ : Unit) t => va_P (dC, dI) vwCl (dw_X13 a ac r) t.heap ∧ va_K (dC, dI) vwCl (dk_X13 ac) t ∧ va_D (va_A (dw_X13 a ac s0) sz) (dw_X13 a ac r)) (va_A (dw_X13 a ac s0) sz)) 0 0 (va_A (dw_X13 a ac s0) sz) := by
  refine Met.ofW (cc := cX13_name) (maxL := 4) (ret := none) (by decide) rfl ?_
  intro p e s m args below meth c s₁ B hml hv
  obtain ⟨rfl, hsz, hP, hK, hD0, hN⟩ := hv
  have hx := B.exec
  have hb := B.bytes
  have hr := B.returns
  have hts := atoms_spec (ws := ow_dm_X13_name) B.pre
  have hown : s.vm.findClass RX13 = some m.cls := findClass_of_methodNamed B.named
  have hlocks := B.notSynchronized
  subst hsz
  have hD := hD0.self (sz := s.heap.size)
  generalize hAe : va_A (dw_X13 a ac s0) s.heap.size = A at hD hN ⊢
  have hA : ∀ q : Nat, s.heap.size ≤ q → A q := fun q h => by rw [← hAe]; exact Or.inr h
  have hl := lv_entry ([.ref (a 0)]) (n := 4) (Nat.le_of_ble_eq_true rfl)
  rw [lg_entry_eq]
  generalize (lg_sl ([.ref (a 0)]) ++ List.replicate (4 - (lg_sl ([.ref (a 0)])).length) Slot.unset).toArray = ls at hl ⊢
  have hl : lv_has ls 4 [(0, .ref (a 0))] := hl
  exact db_X13_name_0 (dC := dC) (dI := dI) (a := a) (ac := ac) (n := n) (r := r) ⟨hlt, hx, hb, hml, hown, hts, hN, hA, hK⟩ (fun pc τ H locs ls d er hP hD hS => by subst er; exact W.vret hx hb hr (fun t ht hW => ⟨⟨(), rfl, trivial, by rw [ht]; exact hP, va_K.moved hW.alike hK, hD⟩, hS.F ht⟩) hS.2.2 d) s0 _ _ _ h hP hD va_S.rf (lv_sub hl [0] rfl)
def ow_dm_X13_operand : List Cond := .code yX13_operand cX13_operand 3 (some .boolean) :: ([.fieldLink RX13 365 "TimeMachineModel$Assembler" "token" "I", .methodLink RX13 492 yX13_name, .instanceMethod yX13_name, .selects RX13 yX13_name yX13_name, .initialized RX13, .methodLink RX13 509 yX13_bind, .instanceMethod yX13_bind, .selects RX13 yX13_bind yX13_bind, .fieldLink RX13 399 "TimeMachineModel$Assembler" "number" "I", .methodLink RX13 489 yX13_value, .instanceMethod yX13_value, .selects RX13 yX13_value yX13_value, .fieldLink RX13 483 "TimeMachineModel$Assembler" "loose" "Z", .fieldLink RX13 324 "TimeMachineModel$Assembler" "text" "[C", .fieldLink RX13 371 "TimeMachineModel$Assembler" "to" "I", .methodLink RX13 495 yX13_near, .instanceMethod yX13_near, .selects RX13 yX13_near yX13_near, .methodLink RX13 416 yX13_scan, .instanceMethod yX13_scan, .selects RX13 yX13_scan yX13_scan, .constantLong RX13 502 (584), .methodLink RX13 499 yX13_sign, .instanceMethod yX13_sign, .selects RX13 yX13_sign yX13_sign, .methodLink RX13 506 yX13_needs, .instanceMethod yX13_needs, .selects RX13 yX13_needs yX13_needs, .constantLong RX13 504 (972), .methodLink RX13 419 yX13_blame, .instanceMethod yX13_blame, .selects RX13 yX13_blame yX13_blame, .fieldLink RX13 368 "TimeMachineModel$Assembler" "from" "I", .methodLink RX13 423 yX13_packed, .instanceMethod yX13_packed, .selects RX13 yX13_packed yX13_packed] ++ (u_ws RX13 TX13 37 ++ (ow_dm_X13_name ++ (ow_dm_X13_bind ++ (ow_dm_X13_value ++ (ow_dm_X13_near ++ (ow_dm_X13_scan ++ (ow_dm_X13_sign ++ (ow_dm_X13_needs ++ (ow_dm_X13_blame ++ (ow_dm_X13_packed ++ [])))))))))))
theorem gd_dm_X13_operand : ∀ w ∈ ow_dm_X13_operand, (w.onTables && w.keeps) = true ∨ ∃ ty, w = Cond.arrayClass ty := List.forall_mem_cons.mpr ⟨good_of_word rfl, List.forall_mem_append.mpr ⟨fun w h => good_of_word (List.all_eq_true.mp (by decide +kernel) w h), List.forall_mem_append.mpr ⟨gu_X13, List.forall_mem_append.mpr ⟨gd_dm_X13_name, List.forall_mem_append.mpr ⟨gd_dm_X13_bind, List.forall_mem_append.mpr ⟨gd_dm_X13_value, List.forall_mem_append.mpr ⟨gd_dm_X13_near, List.forall_mem_append.mpr ⟨gd_dm_X13_scan, List.forall_mem_append.mpr ⟨gd_dm_X13_sign, List.forall_mem_append.mpr ⟨gd_dm_X13_needs, List.forall_mem_append.mpr ⟨gd_dm_X13_blame, List.forall_mem_append.mpr ⟨gd_dm_X13_packed, fun _ h => nomatch h⟩⟩⟩⟩⟩⟩⟩⟩⟩⟩⟩⟩
theorem hi_dm_X13_operand_X13 : ∀ w ∈ u_ws RX13 TX13 37, w ∈ ow_dm_X13_operand := fun w h => List.mem_cons_of_mem _ (List.mem_append_right _ (List.mem_append_left _ h))
theorem gi_dm_X13_operand_0 : GoodIn ow_dm_X13_operand (wsV RX13 492 RX13 yX13_name ow_dm_X13_name) := goodIn_app (goodIn_of _ (by decide +kernel)) (fun w h => ⟨List.mem_cons_of_mem _ (List.mem_append_right _ (List.mem_append_right _ (List.mem_append_left _ h))), gd_dm_X13_name w h⟩)
theorem gi_dm_X13_operand_1 : GoodIn ow_dm_X13_operand (wsV RX13 509 RX13 yX13_bind ow_dm_X13_bind) := goodIn_app (goodIn_of _ (by decide +kernel)) (fun w h => ⟨List.mem_cons_of_mem _ (List.mem_append_right _ (List.mem_append_right _ (List.mem_append_right _ (List.mem_append_left _ h)))), gd_dm_X13_bind w h⟩)
theorem gi_dm_X13_operand_2 : GoodIn ow_dm_X13_operand (wsV RX13 489 RX13 yX13_value ow_dm_X13_value) := goodIn_app (goodIn_of _ (by decide +kernel)) (fun w h => ⟨List.mem_cons_of_mem _ (List.mem_append_right _ (List.mem_append_right _ (List.mem_append_right _ (List.mem_append_right _ (List.mem_append_left _ h))))), gd_dm_X13_value w h⟩)
theorem gi_dm_X13_operand_3 : GoodIn ow_dm_X13_operand (wsV RX13 495 RX13 yX13_near ow_dm_X13_near) := goodIn_app (goodIn_of _ (by decide +kernel)) (fun w h => ⟨List.mem_cons_of_mem _ (List.mem_append_right _ (List.mem_append_right _ (List.mem_append_right _ (List.mem_append_right _ (List.mem_append_right _ (List.mem_append_left _ h)))))), gd_dm_X13_near w h⟩)
theorem gi_dm_X13_operand_4 : GoodIn ow_dm_X13_operand (wsV RX13 416 RX13 yX13_scan ow_dm_X13_scan) := goodIn_app (goodIn_of _ (by decide +kernel)) (fun w h => ⟨List.mem_cons_of_mem _ (List.mem_append_right _ (List.mem_append_right _ (List.mem_append_right _ (List.mem_append_right _ (List.mem_append_right _ (List.mem_append_right _ (List.mem_append_left _ h))))))), gd_dm_X13_scan w h⟩)
theorem gi_dm_X13_operand_5 : GoodIn ow_dm_X13_operand (wsV RX13 499 RX13 yX13_sign ow_dm_X13_sign) := goodIn_app (goodIn_of _ (by decide +kernel)) (fun w h => ⟨List.mem_cons_of_mem _ (List.mem_append_right _ (List.mem_append_right _ (List.mem_append_right _ (List.mem_append_right _ (List.mem_append_right _ (List.mem_append_right _ (List.mem_append_right _ (List.mem_append_left _ h)))))))), gd_dm_X13_sign w h⟩)
theorem gi_dm_X13_operand_6 : GoodIn ow_dm_X13_operand (wsV RX13 506 RX13 yX13_needs ow_dm_X13_needs) := goodIn_app (goodIn_of _ (by decide +kernel)) (fun w h => ⟨List.mem_cons_of_mem _ (List.mem_append_right _ (List.mem_append_right _ (List.mem_append_right _ (List.mem_append_right _ (List.mem_append_right _ (List.mem_append_right _ (List.mem_append_right _ (List.mem_append_right _ (List.mem_append_left _ h))))))))), gd_dm_X13_needs w h⟩)
theorem gi_dm_X13_operand_7 : GoodIn ow_dm_X13_operand (wsV RX13 419 RX13 yX13_blame ow_dm_X13_blame) := goodIn_app (goodIn_of _ (by decide +kernel)) (fun w h => ⟨List.mem_cons_of_mem _ (List.mem_append_right _ (List.mem_append_right _ (List.mem_append_right _ (List.mem_append_right _ (List.mem_append_right _ (List.mem_append_right _ (List.mem_append_right _ (List.mem_append_right _ (List.mem_append_right _ (List.mem_append_left _ h)))))))))), gd_dm_X13_blame w h⟩)
theorem gi_dm_X13_operand_8 : GoodIn ow_dm_X13_operand (wsV RX13 423 RX13 yX13_packed ow_dm_X13_packed) := goodIn_app (goodIn_of _ (by decide +kernel)) (fun w h => ⟨List.mem_cons_of_mem _ (List.mem_append_right _ (List.mem_append_right _ (List.mem_append_right _ (List.mem_append_right _ (List.mem_append_right _ (List.mem_append_right _ (List.mem_append_right _ (List.mem_append_right _ (List.mem_append_right _ (List.mem_append_right _ (List.mem_append_left _ h))))))))))), gd_dm_X13_packed w h⟩)
def dj_X13_operand_242 (p : Program) (l : Launch) (e : Env) (s : State) (m : MethodId) (args : Array Value) (below : List Frame) (meth : Method) (c : Code) (Q : State → Prop) (A : Nat → Prop) (dC : Nat → ClassId) (dI : Nat → Nat → Nat) (a : Nat → Nat) (ac : Nat → ClassId) (g : (St) → Option (Int32 × (St))) (r : Int32 × (St)) : Prop := ∀ (s0 : St) (H : Heap) (locs : List Loc) (ls : Array Slot), g s0 = some r → va_P (dC, dI) vwCl (dw_X13 a ac s0) H → va_D A (dw_X13 a ac s0) → va_S A s.heap H locs → lv_has ls 3 [(0, .ref (a 0))] → W p l e (headSpec ow_dm_X13_operand ({ frames := 6, cells := 0, slots := 0, locals := 135 })).room s m args below meth c H locs 0 0 Q (F0 m 242 ls [])
def dj_X13_operand_122 (p : Program) (l : Launch) (e : Env) (s : State) (m : MethodId) (args : Array Value) (below : List Frame) (meth : Method) (c : Code) (Q : State → Prop) (A : Nat → Prop) (dC : Nat → ClassId) (dI : Nat → Nat → Nat) (a : Nat → Nat) (ac : Nat → ClassId) (g : Int32 → Int32 → (St) → Option (Int32 × (St))) (r : Int32 × (St)) : Prop := ∀ (y2 : Int32) (y3 : Int32) (s0 : St) (H : Heap) (locs : List Loc) (ls : Array Slot), g y2 y3 s0 = some r → va_P (dC, dI) vwCl (dw_X13 a ac s0) H → va_D A (dw_X13 a ac s0) → va_S A s.heap H locs → lv_has ls 3 [(0, .ref (a 0))] → W p l e (headSpec ow_dm_X13_operand ({ frames := 6, cells := 0, slots := 0, locals := 135 })).room s m args below meth c H locs 0 0 Q (F0 m 122 ls [.int y3, .int y2, .ref (a 0), .ref (a 0)])
def dj_X13_operand_233 (p : Program) (l : Launch) (e : Env) (s : State) (m : MethodId) (args : Array Value) (below : List Frame) (meth : Method) (c : Code) (Q : State → Prop) (A : Nat → Prop) (dC : Nat → ClassId) (dI : Nat → Nat → Nat) (a : Nat → Nat) (ac : Nat → ClassId) (g : (St) → Option (Int32 × (St))) (r : Int32 × (St)) : Prop := ∀ (s0 : St) (H : Heap) (locs : List Loc) (ls : Array Slot), g s0 = some r → va_P (dC, dI) vwCl (dw_X13 a ac s0) H → va_D A (dw_X13 a ac s0) → va_S A s.heap H locs → lv_has ls 3 [] → W p l e (headSpec ow_dm_X13_operand ({ frames := 6, cells := 0, slots := 0, locals := 135 })).room s m args below meth c H locs 0 0 Q (F0 m 233 ls [])
def dj_X13_operand_216 (p : Program) (l : Launch) (e : Env) (s : State) (m : MethodId) (args : Array Value) (below : List Frame) (meth : Method) (c : Code) (Q : State → Prop) (A : Nat → Prop) (dC : Nat → ClassId) (dI : Nat → Nat → Nat) (a : Nat → Nat) (ac : Nat → ClassId) (g : Int32 → (St) → Option (Int32 × (St))) (r : Int32 × (St)) : Prop := ∀ (y1 : Int32) (s0 : St) (H : Heap) (locs : List Loc) (ls : Array Slot), g y1 s0 = some r → va_P (dC, dI) vwCl (dw_X13 a ac s0) H → va_D A (dw_X13 a ac s0) → va_S A s.heap H locs → lv_has ls 3 [(0, .ref (a 0))] → W p l e (headSpec ow_dm_X13_operand ({ frames := 6, cells := 0, slots := 0, locals := 135 })).room s m args below meth c H locs 0 0 Q (F0 m 216 ls [.int y1, .ref (a 0)])
def dj_X13_operand_202 (p : Program) (l : Launch) (e : Env) (s : State) (m : MethodId) (args : Array Value) (below : List Frame) (meth : Method) (c : Code) (Q : State → Prop) (A : Nat → Prop) (dC : Nat → ClassId) (dI : Nat → Nat → Nat) (a : Nat → Nat) (ac : Nat → ClassId) (g : Int64 → (St) → Option (Int32 × (St))) (r : Int32 × (St)) : Prop := ∀ (x1 : Int64) (s0 : St) (H : Heap) (locs : List Loc) (ls : Array Slot), g x1 s0 = some r → va_P (dC, dI) vwCl (dw_X13 a ac s0) H → va_D A (dw_X13 a ac s0) → va_S A s.heap H locs → lv_has ls 3 [(0, .ref (a 0)), (1, .long x1)] → W p l e (headSpec ow_dm_X13_operand ({ frames := 6, cells := 0, slots := 0, locals := 135 })).room s m args below meth c H locs 0 0 Q (F0 m 202 ls [])
def dj_X13_operand_180 (p : Program) (l : Launch) (e : Env) (s : State) (m : MethodId) (args : Array Value) (below : List Frame) (meth : Method) (c : Code) (Q : State → Prop) (A : Nat → Prop) (dC : Nat → ClassId) (dI : Nat → Nat → Nat) (a : Nat → Nat) (ac : Nat → ClassId) (g : Int64 → (St) → Option (Int32 × (St))) (r : Int32 × (St)) : Prop := ∀ (y0 : Int64) (s0 : St) (H : Heap) (locs : List Loc) (ls : Array Slot), g y0 s0 = some r → va_P (dC, dI) vwCl (dw_X13 a ac s0) H → va_D A (dw_X13 a ac s0) → va_S A s.heap H locs → lv_has ls 3 [(0, .ref (a 0))] → W p l e (headSpec ow_dm_X13_operand ({ frames := 6, cells := 0, slots := 0, locals := 135 })).room s m args below meth c H locs 0 0 Q (F0 m 180 ls [.long y0])
def dj_X13_operand_0 (p : Program) (l : Launch) (e : Env) (s : State) (m : MethodId) (args : Array Value) (below : List Frame) (meth : Method) (c : Code) (Q : State → Prop) (A : Nat → Prop) (dC : Nat → ClassId) (dI : Nat → Nat → Nat) (a : Nat → Nat) (ac : Nat → ClassId) (g : (St) → Option (Int32 × (St))) (r : Int32 × (St)) : Prop := ∀ (s0 : St) (H : Heap) (locs : List Loc) (ls : Array Slot), g s0 = some r → va_P (dC, dI) vwCl (dw_X13 a ac s0) H → va_D A (dw_X13 a ac s0) → va_S A s.heap H locs → lv_has ls 3 [(0, .ref (a 0))] → W p l e (headSpec ow_dm_X13_operand ({ frames := 6, cells := 0, slots := 0, locals := 135 })).room s m args below meth c H locs 0 0 Q (F0 m 0 ls [])
set_option maxHeartbeats 40000000 in
set_option maxRecDepth 100000 in
theorem db_X13_operand_242 {p : Program} {l : Launch} {e : Env} {s : State} {m : MethodId} {args : Array Value} {below : List Frame} {meth : Method} {c : Code} {Q : State → Prop} {A : Nat → Prop} {dC : Nat → ClassId} {dI : Nat → Nat → Nat} {a : Nat → Nat} {ac : Nat → ClassId} {n : Nat} {r : Int32 × (St)} (C : nd_C p l s m args c A (dC, dI) cX13_operand 3 RX13 ow_dm_X13_operand (dk_X13 ac)) (K : nd_Ki p l e (headSpec ow_dm_X13_operand ({ frames := 6, cells := 0, slots := 0, locals := 135 })).room s m args below meth c Q A (dC, dI) cX13_operand .boolean (St) (dw_X13 a ac) r) : dj_X13_operand_242 p l e s m args below meth c Q A dC dI a ac (df_X13_operand_242 n) r := by
  obtain ⟨hlt, hx, hb, hml, hown, hts, hN, hA, hK⟩ := id C
  intro s0 H locs ls h hP hD hS hl
  unfold df_X13_operand_242 at h
  refine lv_aload_n hx hb dX13_operand_242 rfl (lv_at hl 0 rfl) ?_
  obtain ⟨s6, hq, h⟩ := nd_b1_e h
  have hPc := hP
  have hDc := hD
  have hKc := hK
  have hFc := nd_rs hD hS hA
  refine nd_cVv (As := []) (rest := []) (w' := dw_X13 a ac s6) ⟨hx, hb, hml, hown, hts⟩ (fun sz => dm_X13_bind l hlt dC dI a ac n  s0 hq sz) (cwV 0 hts gi_dm_X13_operand_1 rfl rfl rfl (by decide +kernel) ⟨Nat.le_of_ble_eq_true rfl, Nat.le_of_ble_eq_true rfl⟩) hPc hDc hKc hS hA hN (va_recv hKc hPc (ci := 14) (q0 := 0) rfl rfl) rfl hl.1 rfl (Nat.le_of_ble_eq_true rfl) dX13_operand_243 (fun H locs hP1 hD1 hk1 hS => ?_)
  have hP := hP1
  have hD := hD1.weaken (fun k q _ h => hFc q.1 h)
  refine lv_iconst (v := 1) hx hb dX13_operand_246 (by decide) ?_
  exact K _ _ _ _ _ _ dX13_operand_247 (by first | rfl | decide) (Option.some.inj h).symm hP hD hS
set_option maxHeartbeats 40000000 in
set_option maxRecDepth 100000 in
theorem db_X13_operand_122 {p : Program} {l : Launch} {e : Env} {s : State} {m : MethodId} {args : Array Value} {below : List Frame} {meth : Method} {c : Code} {Q : State → Prop} {A : Nat → Prop} {dC : Nat → ClassId} {dI : Nat → Nat → Nat} {a : Nat → Nat} {ac : Nat → ClassId} {n : Nat} {r : Int32 × (St)} (C : nd_C p l s m args c A (dC, dI) cX13_operand 3 RX13 ow_dm_X13_operand (dk_X13 ac)) (K : nd_Ki p l e (headSpec ow_dm_X13_operand ({ frames := 6, cells := 0, slots := 0, locals := 135 })).room s m args below meth c Q A (dC, dI) cX13_operand .boolean (St) (dw_X13 a ac) r) : dj_X13_operand_122 p l e s m args below meth c Q A dC dI a ac (df_X13_operand_122 n) r := by
  obtain ⟨hlt, hx, hb, hml, hown, hts, hN, hA, hK⟩ := id C
  intro y2 y3 s0 H locs ls h hP hD hS hl
  unfold df_X13_operand_122 at h
  obtain ⟨q16, s17, hq, h⟩ := nd_b2_e h
  have hPc := hP
  have hDc := hD
  have hKc := hK
  have hFc := nd_rs hD hS hA
  refine nd_cVi (As := [.int y2, .int y3]) (rest := [.ref (a 0)]) (q := q16) (w' := dw_X13 a ac s17) ⟨hx, hb, hml, hown, hts⟩ (fun sz => dm_X13_near l hlt dC dI a ac n (y2) (y3) s0 hq sz) (cwV 2 hts gi_dm_X13_operand_3 rfl rfl rfl (by decide +kernel) ⟨Nat.le_of_ble_eq_true rfl, Nat.le_of_ble_eq_true rfl⟩) hPc hDc hKc hS hA hN (va_recv hKc hPc (ci := 14) (q0 := 0) rfl rfl) rfl hl.1 rfl (Nat.le_of_ble_eq_true rfl) dX13_operand_122 (fun H locs hP1 hD1 hk1 hS => ?_)
  have hP := hP1
  have hD := hD1.weaken (fun k q _ h => hFc q.1 h)
  obtain ⟨s20, hq, h⟩ := nd_b1_e h
  have hPc := hP
  have hDc := hD
  have hKc := hK
  have hFc := nd_rs hD hS hA
  refine nd_cVv (As := [.int q16]) (rest := []) (w' := dw_X13 a ac s20) ⟨hx, hb, hml, hown, hts⟩ (fun sz => dm_X13_value l hlt dC dI a ac n (q16) s17 hq sz) (cwV 1 hts gi_dm_X13_operand_2 rfl rfl rfl (by decide +kernel) ⟨Nat.le_of_ble_eq_true rfl, Nat.le_of_ble_eq_true rfl⟩) hPc hDc hKc hS hA hN (va_recv hKc hPc (ci := 14) (q0 := 0) rfl rfl) rfl hl.1 rfl (Nat.le_of_ble_eq_true rfl) dX13_operand_125 (fun H locs hP1 hD1 hk1 hS => ?_)
  have hP := hP1
  have hD := hD1.weaken (fun k q _ h => hFc q.1 h)
  refine lv_goto (tgt := 242) hx hb dX13_operand_128 (by decide) ?_
  exact (db_X13_operand_242 C K)  s20 _ _ _ h hP hD hS (lv_sub hl [0] rfl)
set_option maxHeartbeats 40000000 in
set_option maxRecDepth 100000 in
theorem db_X13_operand_233 {p : Program} {l : Launch} {e : Env} {s : State} {m : MethodId} {args : Array Value} {below : List Frame} {meth : Method} {c : Code} {Q : State → Prop} {A : Nat → Prop} {dC : Nat → ClassId} {dI : Nat → Nat → Nat} {a : Nat → Nat} {ac : Nat → ClassId} {n : Nat} {r : Int32 × (St)} (C : nd_C p l s m args c A (dC, dI) cX13_operand 3 RX13 ow_dm_X13_operand (dk_X13 ac)) (K : nd_Ki p l e (headSpec ow_dm_X13_operand ({ frames := 6, cells := 0, slots := 0, locals := 135 })).room s m args below meth c Q A (dC, dI) cX13_operand .boolean (St) (dw_X13 a ac) r) : dj_X13_operand_233 p l e s m args below meth c Q A dC dI a ac (df_X13_operand_233 n) r := by
  obtain ⟨hlt, hx, hb, hml, hown, hts, hN, hA, hK⟩ := id C
  intro s0 H locs ls h hP hD hS hl
  unfold df_X13_operand_233 at h
  refine lv_iconst (v := 0) hx hb dX13_operand_233 (by decide) ?_
  exact K _ _ _ _ _ _ dX13_operand_234 (by first | rfl | decide) (Option.some.inj h).symm hP hD hS
set_option maxHeartbeats 40000000 in
set_option maxRecDepth 100000 in
theorem db_X13_operand_216 {p : Program} {l : Launch} {e : Env} {s : State} {m : MethodId} {args : Array Value} {below : List Frame} {meth : Method} {c : Code} {Q : State → Prop} {A : Nat → Prop} {dC : Nat → ClassId} {dI : Nat → Nat → Nat} {a : Nat → Nat} {ac : Nat → ClassId} {n : Nat} {r : Int32 × (St)} (C : nd_C p l s m args c A (dC, dI) cX13_operand 3 RX13 ow_dm_X13_operand (dk_X13 ac)) (K : nd_Ki p l e (headSpec ow_dm_X13_operand ({ frames := 6, cells := 0, slots := 0, locals := 135 })).room s m args below meth c Q A (dC, dI) cX13_operand .boolean (St) (dw_X13 a ac) r) : dj_X13_operand_216 p l e s m args below meth c Q A dC dI a ac (df_X13_operand_216 n) r := by
  obtain ⟨hlt, hx, hb, hml, hown, hts, hN, hA, hK⟩ := id C
  intro y1 s0 H locs ls h hP hD hS hl
  unfold df_X13_operand_216 at h
  obtain ⟨s30, hq, h⟩ := nd_b1_e h
  have hPc := hP
  have hDc := hD
  have hKc := hK
  have hFc := nd_rs hD hS hA
  refine nd_cVv (As := [.int y1]) (rest := []) (w' := dw_X13 a ac s30) ⟨hx, hb, hml, hown, hts⟩ (fun sz => dm_X13_sign l hlt dC dI a ac n (y1) s0 hq sz) (cwV 1 hts gi_dm_X13_operand_5 rfl rfl rfl (by decide +kernel) ⟨Nat.le_of_ble_eq_true rfl, Nat.le_of_ble_eq_true rfl⟩) hPc hDc hKc hS hA hN (va_recv hKc hPc (ci := 14) (q0 := 0) rfl rfl) rfl hl.1 rfl (Nat.le_of_ble_eq_true rfl) dX13_operand_216 (fun H locs hP1 hD1 hk1 hS => ?_)
  have hP := hP1
  have hD := hD1.weaken (fun k q _ h => hFc q.1 h)
  refine lv_aload_n hx hb dX13_operand_219 rfl (lv_at hl 0 rfl) ?_
  refine lv_bipush (v := 40) hx hb dX13_operand_220 (by decide) ?_
  obtain ⟨q32, s33, hq, h⟩ := nd_b2_e h
  have hPc := hP
  have hDc := hD
  have hKc := hK
  have hFc := nd_rs hD hS hA
  refine nd_cVi (As := [.int 40]) (rest := []) (q := q32) (w' := dw_X13 a ac s33) ⟨hx, hb, hml, hown, hts⟩ (fun sz => dm_X13_needs l hlt dC dI a ac n (40) s30 hq sz) (cwV 1 hts gi_dm_X13_operand_6 rfl rfl rfl (by decide +kernel) ⟨Nat.le_of_ble_eq_true rfl, Nat.le_of_ble_eq_true rfl⟩) hPc hDc hKc hS hA hN (va_recv hKc hPc (ci := 14) (q0 := 0) rfl rfl) rfl hl.1 rfl (Nat.le_of_ble_eq_true rfl) dX13_operand_222 (fun H locs hP1 hD1 hk1 hS => ?_)
  have hP := hP1
  have hD := hD1.weaken (fun k q _ h => hFc q.1 h)
  refine lv_if_eq (tgt := 233) hx hb dX13_operand_225 (by decide) (fun c35 => ?_) (fun c35 => ?_)
  · have h := nd_pos h c35
    exact (db_X13_operand_233 C K)  s33 _ _ _ h hP hD hS (lv_sub hl [] rfl)
  · have h := nd_neg h c35
    refine lv_aload_n hx hb dX13_operand_228 rfl (lv_at hl 0 rfl) ?_
    refine lv_iconst (v := 1) hx hb dX13_operand_229 (by decide) ?_
    obtain ⟨s37, hq, h⟩ := nd_b1_e h
    have hPc := hP
    have hDc := hD
    have hKc := hK
    have hFc := nd_rs hD hS hA
    refine nd_cVv (As := [.int 1]) (rest := []) (w' := dw_X13 a ac s37) ⟨hx, hb, hml, hown, hts⟩ (fun sz => dm_X13_sign l hlt dC dI a ac n (1) s33 hq sz) (cwV 1 hts gi_dm_X13_operand_5 rfl rfl rfl (by decide +kernel) ⟨Nat.le_of_ble_eq_true rfl, Nat.le_of_ble_eq_true rfl⟩) hPc hDc hKc hS hA hN (va_recv hKc hPc (ci := 14) (q0 := 0) rfl rfl) rfl hl.1 rfl (Nat.le_of_ble_eq_true rfl) dX13_operand_230 (fun H locs hP1 hD1 hk1 hS => ?_)
    have hP := hP1
    have hD := hD1.weaken (fun k q _ h => hFc q.1 h)
    exact (db_X13_operand_233 C K)  s37 _ _ _ h hP hD hS (lv_sub hl [] rfl)
set_option maxHeartbeats 40000000 in
set_option maxRecDepth 100000 in
theorem db_X13_operand_202 {p : Program} {l : Launch} {e : Env} {s : State} {m : MethodId} {args : Array Value} {below : List Frame} {meth : Method} {c : Code} {Q : State → Prop} {A : Nat → Prop} {dC : Nat → ClassId} {dI : Nat → Nat → Nat} {a : Nat → Nat} {ac : Nat → ClassId} {n : Nat} {r : Int32 × (St)} (C : nd_C p l s m args c A (dC, dI) cX13_operand 3 RX13 ow_dm_X13_operand (dk_X13 ac)) (K : nd_Ki p l e (headSpec ow_dm_X13_operand ({ frames := 6, cells := 0, slots := 0, locals := 135 })).room s m args below meth c Q A (dC, dI) cX13_operand .boolean (St) (dw_X13 a ac) r) : dj_X13_operand_202 p l e s m args below meth c Q A dC dI a ac (df_X13_operand_202 n) r := by
  obtain ⟨hlt, hx, hb, hml, hown, hts, hN, hA, hK⟩ := id C
  intro x1 s0 H locs ls h hP hD hS hl
  unfold df_X13_operand_202 at h
  refine lv_aload_n hx hb dX13_operand_202 rfl (lv_at hl 0 rfl) ?_
  refine lv_lload_n hx hb dX13_operand_203 rfl (lv_at hl 1 rfl) ?_
  refine lv_ldc2 hx hb hown (hts (.constantLong RX13 502 (584)) (List.mem_of_getElem? (i := 22) rfl)) dX13_operand_204 ?_
  refine W.lcmp hx hb dX13_operand_207 ?_
  refine lv_if_ne (tgt := 215) hx hb dX13_operand_208 (by decide) (fun c28 => ?_) (fun c28 => ?_)
  · have h := nd_neg h c28
    refine lv_iconst (v := 5) hx hb dX13_operand_215 (by decide) ?_
    exact (db_X13_operand_216 C K) (5) s0 _ _ _ h hP hD hS (lv_sub hl [0] rfl)
  · have h := nd_pos h c28
    refine lv_iconst (v := 4) hx hb dX13_operand_211 (by decide) ?_
    refine lv_goto (tgt := 216) hx hb dX13_operand_212 (by decide) ?_
    exact (db_X13_operand_216 C K) (4) s0 _ _ _ h hP hD hS (lv_sub hl [0] rfl)
set_option maxHeartbeats 40000000 in
set_option maxRecDepth 100000 in
theorem db_X13_operand_180 {p : Program} {l : Launch} {e : Env} {s : State} {m : MethodId} {args : Array Value} {below : List Frame} {meth : Method} {c : Code} {Q : State → Prop} {A : Nat → Prop} {dC : Nat → ClassId} {dI : Nat → Nat → Nat} {a : Nat → Nat} {ac : Nat → ClassId} {n : Nat} {r : Int32 × (St)} (C : nd_C p l s m args c A (dC, dI) cX13_operand 3 RX13 ow_dm_X13_operand (dk_X13 ac)) (K : nd_Ki p l e (headSpec ow_dm_X13_operand ({ frames := 6, cells := 0, slots := 0, locals := 135 })).room s m args below meth c Q A (dC, dI) cX13_operand .boolean (St) (dw_X13 a ac) r) : dj_X13_operand_180 p l e s m args below meth c Q A dC dI a ac (df_X13_operand_180 n) r := by
  obtain ⟨hlt, hx, hb, hml, hown, hts, hN, hA, hK⟩ := id C
  intro y0 s0 H locs ls h hP hD hS hl
  unfold df_X13_operand_180 at h
  refine lv_lstore_n (lv' := [(1, .long y0), (0, .ref (a 0))]) hx hb dX13_operand_180 rfl hl (by decide) rfl (fun ls hl => ?_)
  refine lv_lload_n hx hb dX13_operand_181 rfl (lv_at hl 0 rfl) ?_
  refine lv_ldc2 hx hb hown (hts (.constantLong RX13 502 (584)) (List.mem_of_getElem? (i := 22) rfl)) dX13_operand_182 ?_
  refine W.lcmp hx hb dX13_operand_185 ?_
  refine lv_if_eq (tgt := 202) hx hb dX13_operand_186 (by decide) (fun c27 => ?_) (fun c27 => ?_)
  · have h := nd_pos h c27
    exact (db_X13_operand_202 C K) (y0) s0 _ _ _ h hP hD hS (lv_sub hl [1, 0] rfl)
  · have h := nd_neg h c27
    refine lv_lload_n hx hb dX13_operand_189 rfl (lv_at hl 0 rfl) ?_
    refine lv_ldc2 hx hb hown (hts (.constantLong RX13 504 (972)) (List.mem_of_getElem? (i := 29) rfl)) dX13_operand_190 ?_
    refine W.lcmp hx hb dX13_operand_193 ?_
    refine lv_if_eq (tgt := 202) hx hb dX13_operand_194 (by decide) (fun c39 => ?_) (fun c39 => ?_)
    · have h := nd_pos h c39
      exact (db_X13_operand_202 C K) (y0) s0 _ _ _ h hP hD hS (lv_sub hl [1, 0] rfl)
    · have h := nd_neg h c39
      refine lv_aload_n hx hb dX13_operand_197 rfl (lv_at hl 1 rfl) ?_
      refine lv_iconst (v := 1) hx hb dX13_operand_198 (by decide) ?_
      obtain ⟨s41, hq, h⟩ := nd_b1_e h
      have hPc := hP
      have hDc := hD
      have hKc := hK
      have hFc := nd_rs hD hS hA
      refine nd_cVv (As := [.int 1]) (rest := []) (w' := dw_X13 a ac s41) ⟨hx, hb, hml, hown, hts⟩ (fun sz => dm_X13_blame l hlt dC dI a ac n (1) s0 hq sz) (cwV 1 hts gi_dm_X13_operand_7 rfl rfl rfl (by decide +kernel) ⟨Nat.le_of_ble_eq_true rfl, Nat.le_of_ble_eq_true rfl⟩) hPc hDc hKc hS hA hN (va_recv hKc hPc (ci := 14) (q0 := 0) rfl rfl) rfl hl.1 rfl (Nat.le_of_ble_eq_true rfl) dX13_operand_199 (fun H locs hP1 hD1 hk1 hS => ?_)
      have hP := hP1
      have hD := hD1.weaken (fun k q _ h => hFc q.1 h)
      exact (db_X13_operand_202 C K) (y0) s41 _ _ _ h hP hD hS (lv_sub hl [1, 0] rfl)
set_option maxHeartbeats 40000000 in
set_option maxRecDepth 100000 in
theorem db_X13_operand_0 {p : Program} {l : Launch} {e : Env} {s : State} {m : MethodId} {args : Array Value} {below : List Frame} {meth : Method} {c : Code} {Q : State → Prop} {A : Nat → Prop} {dC : Nat → ClassId} {dI : Nat → Nat → Nat} {a : Nat → Nat} {ac : Nat → ClassId} {n : Nat} {r : Int32 × (St)} (C : nd_C p l s m args c A (dC, dI) cX13_operand 3 RX13 ow_dm_X13_operand (dk_X13 ac)) (K : nd_Ki p l e (headSpec ow_dm_X13_operand ({ frames := 6, cells := 0, slots := 0, locals := 135 })).room s m args below meth c Q A (dC, dI) cX13_operand .boolean (St) (dw_X13 a ac) r) : dj_X13_operand_0 p l e s m args below meth c Q A dC dI a ac (df_X13_operand_0 n) r := by
  obtain ⟨hlt, hx, hb, hml, hown, hts, hN, hA, hK⟩ := id C
  intro s0 H locs ls h hP hD hS hl
  unfold df_X13_operand_0 at h
  refine lv_aload_n hx hb dX13_operand_0 rfl (lv_at hl 0 rfl) ?_
  refine va_get (D := (dC, dI)) (ci := 14) (v := .int (sI s0 8)) (C := RX13) (T := TX13) (N := 37) hx hb hts hi_dm_X13_operand_X13 hown hK hP 0 rfl rfl 17 (by decide) (hts (.fieldLink RX13 365 "TimeMachineModel$Assembler" "token" "I") (List.mem_of_getElem? (i := 1) rfl)) (fun _ h9 => h9) rfl dX13_operand_1 ?_
  by_cases c1 : (sI s0 8) = 1
  · have h := nd_pos h c1
    refine lv_lookup (off := 68) (tgt := 72) hx hb dX13_operand_4 (by decide) (by rw [c1]; decide) (by decide) ?_
    refine lv_aload_n hx hb dX13_operand_72 rfl (lv_at hl 0 rfl) ?_
    obtain ⟨s3, hq, h⟩ := nd_b1_e h
    have hPc := hP
    have hDc := hD
    have hKc := hK
    have hFc := nd_rs hD hS hA
    refine nd_cVv (As := []) (rest := []) (w' := dw_X13 a ac s3) ⟨hx, hb, hml, hown, hts⟩ (fun sz => dm_X13_name l hlt dC dI a ac n  s0 hq sz) (cwV 0 hts gi_dm_X13_operand_0 rfl rfl rfl (by decide +kernel) ⟨Nat.le_of_ble_eq_true rfl, Nat.le_of_ble_eq_true rfl⟩) hPc hDc hKc hS hA hN (va_recv hKc hPc (ci := 14) (q0 := 0) rfl rfl) rfl hl.1 rfl (Nat.le_of_ble_eq_true rfl) dX13_operand_73 (fun H locs hP1 hD1 hk1 hS => ?_)
    have hP := hP1
    have hD := hD1.weaken (fun k q _ h => hFc q.1 h)
    refine lv_goto (tgt := 242) hx hb dX13_operand_76 (by decide) ?_
    exact (db_X13_operand_242 C K)  s3 _ _ _ h hP hD hS (lv_sub hl [0] rfl)
  have h := nd_neg h c1
  by_cases c8 : (sI s0 8) = 2
  · have h := nd_pos h c8
    refine lv_lookup (off := 75) (tgt := 79) hx hb dX13_operand_4 (by decide) (by rw [c8]; decide) (by decide) ?_
    refine lv_aload_n hx hb dX13_operand_79 rfl (lv_at hl 0 rfl) ?_
    refine lv_aload_n hx hb dX13_operand_80 rfl (lv_at hl 0 rfl) ?_
    refine va_get (D := (dC, dI)) (ci := 14) (v := .int (sI s0 11)) (C := RX13) (T := TX13) (N := 37) hx hb hts hi_dm_X13_operand_X13 hown hK hP 0 rfl rfl 20 (by decide) (hts (.fieldLink RX13 399 "TimeMachineModel$Assembler" "number" "I") (List.mem_of_getElem? (i := 9) rfl)) (fun _ h9 => h9) rfl dX13_operand_81 ?_
    obtain ⟨s10, hq, h⟩ := nd_b1_e h
    have hPc := hP
    have hDc := hD
    have hKc := hK
    have hFc := nd_rs hD hS hA
    refine nd_cVv (As := [.int (sI s0 11)]) (rest := []) (w' := dw_X13 a ac s10) ⟨hx, hb, hml, hown, hts⟩ (fun sz => dm_X13_value l hlt dC dI a ac n ((sI s0 11)) s0 hq sz) (cwV 1 hts gi_dm_X13_operand_2 rfl rfl rfl (by decide +kernel) ⟨Nat.le_of_ble_eq_true rfl, Nat.le_of_ble_eq_true rfl⟩) hPc hDc hKc hS hA hN (va_recv hKc hPc (ci := 14) (q0 := 0) rfl rfl) rfl hl.1 rfl (Nat.le_of_ble_eq_true rfl) dX13_operand_84 (fun H locs hP1 hD1 hk1 hS => ?_)
    have hP := hP1
    have hD := hD1.weaken (fun k q _ h => hFc q.1 h)
    refine lv_goto (tgt := 242) hx hb dX13_operand_87 (by decide) ?_
    exact (db_X13_operand_242 C K)  s10 _ _ _ h hP hD hS (lv_sub hl [0] rfl)
  have h := nd_neg h c8
  by_cases c12 : (sI s0 8) = 3
  · have h := nd_pos h c12
    refine lv_lookup (off := 86) (tgt := 90) hx hb dX13_operand_4 (by decide) (by rw [c12]; decide) (by decide) ?_
    refine lv_aload_n hx hb dX13_operand_90 rfl (lv_at hl 0 rfl) ?_
    refine lv_iconst (v := 1) hx hb dX13_operand_91 (by decide) ?_
    refine va_put (D := (dC, dI)) (ci := 14) (v := .int 1) (ty := .boolean) (C := RX13) (T := TX13) (N := 37) hx hb hts hi_dm_X13_operand_X13 tyX13 tyX13_ok nmX13 hown hK hP hD hS 0 rfl rfl 33 (by decide) (hts (.fieldLink RX13 483 "TimeMachineModel$Assembler" "loose" "Z") (List.mem_of_getElem? (i := 13) rfl)) (fun _ h9 => h9) rfl (by decide +kernel) (by first | rfl | decide) rfl (Nat.le_of_ble_eq_true rfl) dX13_operand_92 (fun H locs hP hD hS => ?_)
    obtain ⟨s13, es13, h⟩ := nd_let_e h
    have hP : va_P (dC, dI) vwCl (dw_X13 a ac s13) H := by rw [es13]; exact hP
    have hD : va_D A (dw_X13 a ac s13) := by rw [es13]; exact hD
    refine lv_aload_n hx hb dX13_operand_95 rfl (lv_at hl 0 rfl) ?_
    refine lv_aload_n hx hb dX13_operand_96 rfl (lv_at hl 0 rfl) ?_
    refine lv_aload_n hx hb dX13_operand_97 rfl (lv_at hl 0 rfl) ?_
    refine va_get (D := (dC, dI)) (ci := 14) (v := .int (sI s13 11)) (C := RX13) (T := TX13) (N := 37) hx hb hts hi_dm_X13_operand_X13 hown hK hP 0 rfl rfl 20 (by decide) (hts (.fieldLink RX13 399 "TimeMachineModel$Assembler" "number" "I") (List.mem_of_getElem? (i := 9) rfl)) (fun _ h9 => h9) rfl dX13_operand_98 ?_
    refine lv_aload_n hx hb dX13_operand_101 rfl (lv_at hl 0 rfl) ?_
    refine va_get (D := (dC, dI)) (ci := 14) (v := .ref (a 4)) (C := RX13) (T := TX13) (N := 37) hx hb hts hi_dm_X13_operand_X13 hown hK hP 0 rfl rfl 3 (by decide) (hts (.fieldLink RX13 324 "TimeMachineModel$Assembler" "text" "[C") (List.mem_of_getElem? (i := 14) rfl)) (fun _ h9 => h9) rfl dX13_operand_102 ?_
    refine lv_aload_n hx hb dX13_operand_105 rfl (lv_at hl 0 rfl) ?_
    refine va_get (D := (dC, dI)) (ci := 14) (v := .int (sI s13 10)) (C := RX13) (T := TX13) (N := 37) hx hb hts hi_dm_X13_operand_X13 hown hK hP 0 rfl rfl 19 (by decide) (hts (.fieldLink RX13 371 "TimeMachineModel$Assembler" "to" "I") (List.mem_of_getElem? (i := 15) rfl)) (fun _ h9 => h9) rfl dX13_operand_106 ?_
    refine lv_iconst (v := 1) hx hb dX13_operand_109 (by decide) ?_
    refine lv_isub hx hb dX13_operand_110 ?_
    obtain ⟨i14, h⟩ := nd_ck_e h
    refine va_cald (i := ((sI s13 10) - 1)) hx hb hK hP 4 3 rfl rfl i14 dX13_operand_111 ?_
    refine lv_bipush (v := 102) hx hb dX13_operand_112 (by decide) ?_
    refine lv_icmp_ne (tgt := 121) hx hb dX13_operand_114 (by decide) (fun c15 => ?_) (fun c15 => ?_)
    · have h := nd_neg h c15
      refine lv_iconst (v := 0) hx hb dX13_operand_121 (by decide) ?_
      exact (db_X13_operand_122 C K) ((sI s13 11)) (0) s13 _ _ _ h hP hD hS (lv_sub hl [0] rfl)
    · have h := nd_pos h c15
      refine lv_iconst (v := 1) hx hb dX13_operand_117 (by decide) ?_
      refine lv_goto (tgt := 122) hx hb dX13_operand_118 (by decide) ?_
      exact (db_X13_operand_122 C K) ((sI s13 11)) (1) s13 _ _ _ h hP hD hS (lv_sub hl [0] rfl)
  have h := nd_neg h c12
  by_cases c22 : (sI s0 8) = 37
  · have h := nd_pos h c22
    refine lv_lookup (off := 148) (tgt := 152) hx hb dX13_operand_4 (by decide) (by rw [c22]; decide) (by decide) ?_
    refine lv_aload_n hx hb dX13_operand_152 rfl (lv_at hl 0 rfl) ?_
    obtain ⟨s24, hq, h⟩ := nd_b1_e h
    have hPc := hP
    have hDc := hD
    have hKc := hK
    have hFc := nd_rs hD hS hA
    refine nd_cVv (As := []) (rest := []) (w' := dw_X13 a ac s24) ⟨hx, hb, hml, hown, hts⟩ (fun sz => dm_X13_scan l hlt dC dI a ac n  s0 hq sz) (cwV 0 hts gi_dm_X13_operand_4 rfl rfl rfl (by decide +kernel) ⟨Nat.le_of_ble_eq_true rfl, Nat.le_of_ble_eq_true rfl⟩) hPc hDc hKc hS hA hN (va_recv hKc hPc (ci := 14) (q0 := 0) rfl rfl) rfl hl.1 rfl (Nat.le_of_ble_eq_true rfl) dX13_operand_153 (fun H locs hP1 hD1 hk1 hS => ?_)
    have hP := hP1
    have hD := hD1.weaken (fun k q _ h => hFc q.1 h)
    refine lv_aload_n hx hb dX13_operand_156 rfl (lv_at hl 0 rfl) ?_
    refine va_get (D := (dC, dI)) (ci := 14) (v := .int (sI s24 8)) (C := RX13) (T := TX13) (N := 37) hx hb hts hi_dm_X13_operand_X13 hown hK hP 0 rfl rfl 17 (by decide) (hts (.fieldLink RX13 365 "TimeMachineModel$Assembler" "token" "I") (List.mem_of_getElem? (i := 1) rfl)) (fun _ h9 => h9) rfl dX13_operand_157 ?_
    refine lv_iconst (v := 1) hx hb dX13_operand_160 (by decide) ?_
    refine lv_icmp_ne (tgt := 179) hx hb dX13_operand_161 (by decide) (fun c26 => ?_) (fun c26 => ?_)
    · have h := nd_neg h c26
      refine lv_lconst (v := 0) hx hb dX13_operand_179 (by decide) ?_
      exact (db_X13_operand_180 C K) (0) s24 _ _ _ h hP hD hS (lv_sub hl [0] rfl)
    · have h := nd_pos h c26
      refine lv_aload_n hx hb dX13_operand_164 rfl (lv_at hl 0 rfl) ?_
      refine lv_aload_n hx hb dX13_operand_165 rfl (lv_at hl 0 rfl) ?_
      refine va_get (D := (dC, dI)) (ci := 14) (v := .int (sI s24 9)) (C := RX13) (T := TX13) (N := 37) hx hb hts hi_dm_X13_operand_X13 hown hK hP 0 rfl rfl 18 (by decide) (hts (.fieldLink RX13 368 "TimeMachineModel$Assembler" "from" "I") (List.mem_of_getElem? (i := 33) rfl)) (fun _ h9 => h9) rfl dX13_operand_166 ?_
      refine lv_aload_n hx hb dX13_operand_169 rfl (lv_at hl 0 rfl) ?_
      refine va_get (D := (dC, dI)) (ci := 14) (v := .int (sI s24 10)) (C := RX13) (T := TX13) (N := 37) hx hb hts hi_dm_X13_operand_X13 hown hK hP 0 rfl rfl 19 (by decide) (hts (.fieldLink RX13 371 "TimeMachineModel$Assembler" "to" "I") (List.mem_of_getElem? (i := 15) rfl)) (fun _ h9 => h9) rfl dX13_operand_170 ?_
      obtain ⟨q43, s44, hq, h⟩ := nd_b2_e h
      have hPc := hP
      have hDc := hD
      have hKc := hK
      have hFc := nd_rs hD hS hA
      refine nd_cVl (As := [.int (sI s24 9), .int (sI s24 10)]) (rest := []) (q := q43) (w' := dw_X13 a ac s44) ⟨hx, hb, hml, hown, hts⟩ (fun sz => dm_X13_packed l hlt dC dI a ac n ((sI s24 9)) ((sI s24 10)) s24 hq sz) (cwV 2 hts gi_dm_X13_operand_8 rfl rfl rfl (by decide +kernel) ⟨Nat.le_of_ble_eq_true rfl, Nat.le_of_ble_eq_true rfl⟩) hPc hDc hKc hS hA hN (va_recv hKc hPc (ci := 14) (q0 := 0) rfl rfl) rfl hl.1 rfl (Nat.le_of_ble_eq_true rfl) dX13_operand_173 (fun H locs hP1 hD1 hk1 hS => ?_)
      have hP := hP1
      have hD := hD1.weaken (fun k q _ h => hFc q.1 h)
      refine lv_goto (tgt := 180) hx hb dX13_operand_176 (by decide) ?_
      exact (db_X13_operand_180 C K) (q43) s44 _ _ _ h hP hD hS (lv_sub hl [0] rfl)
  have h := nd_neg h c22
  by_cases c46 : (sI s0 8) = 40
  · have h := nd_pos h c46
    refine lv_lookup (off := 127) (tgt := 131) hx hb dX13_operand_4 (by decide) (by rw [c46]; decide) (by decide) ?_
    refine lv_aload_n hx hb dX13_operand_131 rfl (lv_at hl 0 rfl) ?_
    refine lv_iconst (v := 1) hx hb dX13_operand_132 (by decide) ?_
    obtain ⟨s48, hq, h⟩ := nd_b1_e h
    have hPc := hP
    have hDc := hD
    have hKc := hK
    have hFc := nd_rs hD hS hA
    refine nd_cVv (As := [.int 1]) (rest := []) (w' := dw_X13 a ac s48) ⟨hx, hb, hml, hown, hts⟩ (fun sz => dm_X13_sign l hlt dC dI a ac n (1) s0 hq sz) (cwV 1 hts gi_dm_X13_operand_5 rfl rfl rfl (by decide +kernel) ⟨Nat.le_of_ble_eq_true rfl, Nat.le_of_ble_eq_true rfl⟩) hPc hDc hKc hS hA hN (va_recv hKc hPc (ci := 14) (q0 := 0) rfl rfl) rfl hl.1 rfl (Nat.le_of_ble_eq_true rfl) dX13_operand_133 (fun H locs hP1 hD1 hk1 hS => ?_)
    have hP := hP1
    have hD := hD1.weaken (fun k q _ h => hFc q.1 h)
    refine lv_iconst (v := 0) hx hb dX13_operand_136 (by decide) ?_
    exact K _ _ _ _ _ _ dX13_operand_137 (by first | rfl | decide) (Option.some.inj h).symm hP hD hS
  have h := nd_neg h c46
  by_cases c50 : (sI s0 8) = 45
  · have h := nd_pos h c50
    refine lv_lookup (off := 134) (tgt := 138) hx hb dX13_operand_4 (by decide) (by rw [c50]; decide) (by decide) ?_
    refine lv_aload_n hx hb dX13_operand_138 rfl (lv_at hl 0 rfl) ?_
    refine lv_iconst (v := 2) hx hb dX13_operand_139 (by decide) ?_
    obtain ⟨s52, hq, h⟩ := nd_b1_e h
    have hPc := hP
    have hDc := hD
    have hKc := hK
    have hFc := nd_rs hD hS hA
    refine nd_cVv (As := [.int 2]) (rest := []) (w' := dw_X13 a ac s52) ⟨hx, hb, hml, hown, hts⟩ (fun sz => dm_X13_sign l hlt dC dI a ac n (2) s0 hq sz) (cwV 1 hts gi_dm_X13_operand_5 rfl rfl rfl (by decide +kernel) ⟨Nat.le_of_ble_eq_true rfl, Nat.le_of_ble_eq_true rfl⟩) hPc hDc hKc hS hA hN (va_recv hKc hPc (ci := 14) (q0 := 0) rfl rfl) rfl hl.1 rfl (Nat.le_of_ble_eq_true rfl) dX13_operand_140 (fun H locs hP1 hD1 hk1 hS => ?_)
    have hP := hP1
    have hD := hD1.weaken (fun k q _ h => hFc q.1 h)
    refine lv_iconst (v := 0) hx hb dX13_operand_143 (by decide) ?_
    exact K _ _ _ _ _ _ dX13_operand_144 (by first | rfl | decide) (Option.some.inj h).symm hP hD hS
  have h := nd_neg h c50
  by_cases c54 : (sI s0 8) = 126
  · have h := nd_pos h c54
    refine lv_lookup (off := 141) (tgt := 145) hx hb dX13_operand_4 (by decide) (by rw [c54]; decide) (by decide) ?_
    refine lv_aload_n hx hb dX13_operand_145 rfl (lv_at hl 0 rfl) ?_
    refine lv_iconst (v := 3) hx hb dX13_operand_146 (by decide) ?_
    obtain ⟨s56, hq, h⟩ := nd_b1_e h
    have hPc := hP
    have hDc := hD
    have hKc := hK
    have hFc := nd_rs hD hS hA
    refine nd_cVv (As := [.int 3]) (rest := []) (w' := dw_X13 a ac s56) ⟨hx, hb, hml, hown, hts⟩ (fun sz => dm_X13_sign l hlt dC dI a ac n (3) s0 hq sz) (cwV 1 hts gi_dm_X13_operand_5 rfl rfl rfl (by decide +kernel) ⟨Nat.le_of_ble_eq_true rfl, Nat.le_of_ble_eq_true rfl⟩) hPc hDc hKc hS hA hN (va_recv hKc hPc (ci := 14) (q0 := 0) rfl rfl) rfl hl.1 rfl (Nat.le_of_ble_eq_true rfl) dX13_operand_147 (fun H locs hP1 hD1 hk1 hS => ?_)
    have hP := hP1
    have hD := hD1.weaken (fun k q _ h => hFc q.1 h)
    refine lv_iconst (v := 0) hx hb dX13_operand_150 (by decide) ?_
    exact K _ _ _ _ _ _ dX13_operand_151 (by first | rfl | decide) (Option.some.inj h).symm hP hD hS
  have h := nd_neg h c54
  refine lv_lookup (off := 231) (tgt := 235) hx hb dX13_operand_4 (by decide) (show Op.lookupswitch.offset [(1, 68), (2, 75), (3, 86), (37, 148), (40, 127), (45, 134), (126, 141)] 231 ((sI s0 8) : Int32).toInt = 231 by rw [lv_osw c1 (by decide), lv_osw c8 (by decide), lv_osw c12 (by decide), lv_osw c22 (by decide), lv_osw c46 (by decide), lv_osw c50 (by decide), lv_osw c54 (by decide)] <;> rfl) (by decide) ?_
  refine lv_aload_n hx hb dX13_operand_235 rfl (lv_at hl 0 rfl) ?_
  refine lv_iconst (v := 1) hx hb dX13_operand_236 (by decide) ?_
  obtain ⟨s59, hq, h⟩ := nd_b1_e h
  have hPc := hP
  have hDc := hD
  have hKc := hK
  have hFc := nd_rs hD hS hA
  refine nd_cVv (As := [.int 1]) (rest := []) (w' := dw_X13 a ac s59) ⟨hx, hb, hml, hown, hts⟩ (fun sz => dm_X13_blame l hlt dC dI a ac n (1) s0 hq sz) (cwV 1 hts gi_dm_X13_operand_7 rfl rfl rfl (by decide +kernel) ⟨Nat.le_of_ble_eq_true rfl, Nat.le_of_ble_eq_true rfl⟩) hPc hDc hKc hS hA hN (va_recv hKc hPc (ci := 14) (q0 := 0) rfl rfl) rfl hl.1 rfl (Nat.le_of_ble_eq_true rfl) dX13_operand_237 (fun H locs hP1 hD1 hk1 hS => ?_)
  have hP := hP1
  have hD := hD1.weaken (fun k q _ h => hFc q.1 h)
  refine lv_iconst (v := 0) hx hb dX13_operand_240 (by decide) ?_
  exact K _ _ _ _ _ _ dX13_operand_241 (by first | rfl | decide) (Option.some.inj h).symm hP hD hS
set_option maxHeartbeats 40000000 in
set_option maxRecDepth 100000 in
theorem dm_X13_operand (l : Launch) (hlt : l.stackTraces = false) (dC : Nat → ClassId) (dI : Nat → Nat → Nat) (a : Nat → Nat) (ac : Nat → ClassId) (n : Nat) (s0 : St) {r : Int32 × (St)} (h : df_X13_operand n s0 = some r) (sz : Nat) : Met l yX13_operand ow_dm_X13_operand ({ frames := 6, cells := 0, slots := 0, locals := 135 }) (va_Pc [.ref (a 0)] (fun U => U.heap.size = sz ∧ va_P (dC, dI) vwCl (dw_X13 a ac s0) U.heap ∧ va_K (dC, dI) vwCl (dk_X13 ac) U ∧ va_D (fun _ => True) (dw_X13 a ac s0) ∧ nv_E (va_A (dw_X13 a ac s0) sz) U)) (va_Qi (fun x _ => x = r.1) (fun (_ : Unit) t => va_P (dC, dI) vwCl (dw_X13 a ac r.2) t.heap ∧ va_K (dC, dI) vwCl (dk_X13 ac) t ∧ va_D (va_A (dw_X13 a ac s0) sz) (dw_X13 a ac r.2)) (va_A (dw_X13 a ac s0) sz)) 0 0 (va_A (dw_X13 a ac s0) sz) := by
  refine Met.ofW (cc := cX13_operand) (maxL := 3) (ret := (some .boolean)) (by decide) rfl ?_
  intro p e s m args below meth c s₁ B hml hv
  obtain ⟨rfl, hsz, hP, hK, hD0, hN⟩ := hv
  have hx := B.exec
  have hb := B.bytes
  have hr := B.returns
  have hts := atoms_spec (ws := ow_dm_X13_operand) B.pre
  have hown : s.vm.findClass RX13 = some m.cls := findClass_of_methodNamed B.named
  have hlocks := B.notSynchronized
  subst hsz
  have hD := hD0.self (sz := s.heap.size)
  generalize hAe : va_A (dw_X13 a ac s0) s.heap.size = A at hD hN ⊢
  have hA : ∀ q : Nat, s.heap.size ≤ q → A q := fun q h => by rw [← hAe]; exact Or.inr h
  have hl := lv_entry ([.ref (a 0)]) (n := 3) (Nat.le_of_ble_eq_true rfl)
  rw [lg_entry_eq]
  generalize (lg_sl ([.ref (a 0)]) ++ List.replicate (3 - (lg_sl ([.ref (a 0)])).length) Slot.unset).toArray = ls at hl ⊢
  have hl : lv_has ls 3 [(0, .ref (a 0))] := hl
  exact db_X13_operand_0 (dC := dC) (dI := dI) (a := a) (ac := ac) (n := n) (r := r) ⟨hlt, hx, hb, hml, hown, hts, hN, hA, hK⟩ (fun pc v τ H locs ls d z er hP hD hS => by subst er; exact W.zret (v := v) hx hb hr z (fun t ht hW => ⟨⟨v, (), rfl, rfl, by rw [ht]; exact hP, va_K.moved hW.alike hK, hD⟩, hS.F ht⟩) hS.2.2 d) s0 _ _ _ h hP hD va_S.rf (lv_sub hl [0] rfl)
def ow_dm_X13_expression : List Cond := .code yX13_expression cX13_expression 6 (some .int) :: ([.fieldLink RX13 464 "TimeMachineModel$Assembler" "signs" "I", .constant RX13 343 (32800), .fieldLink RX13 467 "TimeMachineModel$Assembler" "values" "I", .fieldLink RX13 457 "TimeMachineModel$Assembler" "missing" "Z", .fieldLink RX13 470 "TimeMachineModel$Assembler" "divided" "Z", .fieldLink RX13 483 "TimeMachineModel$Assembler" "loose" "Z", .fieldLink RX13 410 "TimeMachineModel$Assembler" "fault" "I", .fieldLink RX13 522 "TimeMachineModel$Assembler" "mode" "I", .methodLink RX13 419 yX13_blame, .instanceMethod yX13_blame, .selects RX13 yX13_blame yX13_blame, .initialized RX13, .fieldLink RX13 344 "TimeMachineModel$Assembler" "pile" "[I", .methodLink RX13 519 yX13_join, .instanceMethod yX13_join, .selects RX13 yX13_join yX13_join, .fieldLink RX13 374 "TimeMachineModel$Assembler" "at" "I", .methodLink RX13 416 yX13_scan, .instanceMethod yX13_scan, .selects RX13 yX13_scan yX13_scan, .fieldLink RX13 365 "TimeMachineModel$Assembler" "token" "I", .methodLink RX13 516 yX13_rank, .static yX13_rank, .methodLink RX13 509 yX13_bind, .instanceMethod yX13_bind, .selects RX13 yX13_bind yX13_bind, .methodLink RX13 499 yX13_sign, .instanceMethod yX13_sign, .selects RX13 yX13_sign yX13_sign, .methodLink RX13 512 yX13_operand, .instanceMethod yX13_operand, .selects RX13 yX13_operand yX13_operand] ++ (u_ws RX13 TX13 37 ++ (ow_dm_X13_blame ++ (ow_dm_X13_join ++ (ow_dm_X13_scan ++ (ow_dm_X13_rank ++ (ow_dm_X13_bind ++ (ow_dm_X13_sign ++ (ow_dm_X13_operand ++ [])))))))))
theorem gd_dm_X13_expression : ∀ w ∈ ow_dm_X13_expression, (w.onTables && w.keeps) = true ∨ ∃ ty, w = Cond.arrayClass ty := List.forall_mem_cons.mpr ⟨good_of_word rfl, List.forall_mem_append.mpr ⟨fun w h => good_of_word (List.all_eq_true.mp (by decide +kernel) w h), List.forall_mem_append.mpr ⟨gu_X13, List.forall_mem_append.mpr ⟨gd_dm_X13_blame, List.forall_mem_append.mpr ⟨gd_dm_X13_join, List.forall_mem_append.mpr ⟨gd_dm_X13_scan, List.forall_mem_append.mpr ⟨gd_dm_X13_rank, List.forall_mem_append.mpr ⟨gd_dm_X13_bind, List.forall_mem_append.mpr ⟨gd_dm_X13_sign, List.forall_mem_append.mpr ⟨gd_dm_X13_operand, fun _ h => nomatch h⟩⟩⟩⟩⟩⟩⟩⟩⟩⟩
theorem hi_dm_X13_expression_X13 : ∀ w ∈ u_ws RX13 TX13 37, w ∈ ow_dm_X13_expression := fun w h => List.mem_cons_of_mem _ (List.mem_append_right _ (List.mem_append_left _ h))
theorem gi_dm_X13_expression_0 : GoodIn ow_dm_X13_expression (wsV RX13 419 RX13 yX13_blame ow_dm_X13_blame) := goodIn_app (goodIn_of _ (by decide +kernel)) (fun w h => ⟨List.mem_cons_of_mem _ (List.mem_append_right _ (List.mem_append_right _ (List.mem_append_left _ h))), gd_dm_X13_blame w h⟩)
theorem gi_dm_X13_expression_1 : GoodIn ow_dm_X13_expression (wsV RX13 519 RX13 yX13_join ow_dm_X13_join) := goodIn_app (goodIn_of _ (by decide +kernel)) (fun w h => ⟨List.mem_cons_of_mem _ (List.mem_append_right _ (List.mem_append_right _ (List.mem_append_right _ (List.mem_append_left _ h)))), gd_dm_X13_join w h⟩)
theorem gi_dm_X13_expression_2 : GoodIn ow_dm_X13_expression (wsV RX13 416 RX13 yX13_scan ow_dm_X13_scan) := goodIn_app (goodIn_of _ (by decide +kernel)) (fun w h => ⟨List.mem_cons_of_mem _ (List.mem_append_right _ (List.mem_append_right _ (List.mem_append_right _ (List.mem_append_right _ (List.mem_append_left _ h))))), gd_dm_X13_scan w h⟩)
theorem gi_dm_X13_expression_3 : GoodIn ow_dm_X13_expression (wsS RX13 516 yX13_rank ow_dm_X13_rank) := goodIn_app (goodIn_of _ (by decide +kernel)) (fun w h => ⟨List.mem_cons_of_mem _ (List.mem_append_right _ (List.mem_append_right _ (List.mem_append_right _ (List.mem_append_right _ (List.mem_append_right _ (List.mem_append_left _ h)))))), gd_dm_X13_rank w h⟩)
theorem gi_dm_X13_expression_4 : GoodIn ow_dm_X13_expression (wsV RX13 509 RX13 yX13_bind ow_dm_X13_bind) := goodIn_app (goodIn_of _ (by decide +kernel)) (fun w h => ⟨List.mem_cons_of_mem _ (List.mem_append_right _ (List.mem_append_right _ (List.mem_append_right _ (List.mem_append_right _ (List.mem_append_right _ (List.mem_append_right _ (List.mem_append_left _ h))))))), gd_dm_X13_bind w h⟩)
theorem gi_dm_X13_expression_5 : GoodIn ow_dm_X13_expression (wsV RX13 499 RX13 yX13_sign ow_dm_X13_sign) := goodIn_app (goodIn_of _ (by decide +kernel)) (fun w h => ⟨List.mem_cons_of_mem _ (List.mem_append_right _ (List.mem_append_right _ (List.mem_append_right _ (List.mem_append_right _ (List.mem_append_right _ (List.mem_append_right _ (List.mem_append_right _ (List.mem_append_left _ h)))))))), gd_dm_X13_sign w h⟩)
theorem gi_dm_X13_expression_6 : GoodIn ow_dm_X13_expression (wsV RX13 512 RX13 yX13_operand ow_dm_X13_operand) := goodIn_app (goodIn_of _ (by decide +kernel)) (fun w h => ⟨List.mem_cons_of_mem _ (List.mem_append_right _ (List.mem_append_right _ (List.mem_append_right _ (List.mem_append_right _ (List.mem_append_right _ (List.mem_append_right _ (List.mem_append_right _ (List.mem_append_right _ (List.mem_append_left _ h))))))))), gd_dm_X13_operand w h⟩)
def dj_X13_expression_338 (p : Program) (l : Launch) (e : Env) (s : State) (m : MethodId) (args : Array Value) (below : List Frame) (meth : Method) (c : Code) (Q : State → Prop) (A : Nat → Prop) (dC : Nat → ClassId) (dI : Nat → Nat → Nat) (a : Nat → Nat) (ac : Nat → ClassId) (g : Int32 → (St) → Option (Int32 × (St))) (r : Int32 × (St)) : Prop := ∀ (x4 : Int32) (s0 : St) (H : Heap) (locs : List Loc) (ls : Array Slot), g x4 s0 = some r → va_P (dC, dI) vwCl (dw_X13 a ac s0) H → va_D A (dw_X13 a ac s0) → va_S A s.heap H locs → lv_has ls 6 [(4, .int x4)] → W p l e (headSpec ow_dm_X13_expression ({ frames := 7, cells := 0, slots := 0, locals := 157 })).room s m args below meth c H locs 0 0 Q (F0 m 338 ls [])
def dj_X13_expression_335 (p : Program) (l : Launch) (e : Env) (s : State) (m : MethodId) (args : Array Value) (below : List Frame) (meth : Method) (c : Code) (Q : State → Prop) (A : Nat → Prop) (dC : Nat → ClassId) (dI : Nat → Nat → Nat) (a : Nat → Nat) (ac : Nat → ClassId) (g : Int32 → Int32 → (St) → Option (Int32 × (St))) (r : Int32 × (St)) : Prop := ∀ (x4 : Int32) (y1 : Int32) (s0 : St) (H : Heap) (locs : List Loc) (ls : Array Slot), g x4 y1 s0 = some r → va_P (dC, dI) vwCl (dw_X13 a ac s0) H → va_D A (dw_X13 a ac s0) → va_S A s.heap H locs → lv_has ls 6 [(4, .int x4)] → W p l e (headSpec ow_dm_X13_expression ({ frames := 7, cells := 0, slots := 0, locals := 157 })).room s m args below meth c H locs 0 0 Q (F0 m 335 ls [.int y1, .ref (a 0)])
def dj_X13_expression_320 (p : Program) (l : Launch) (e : Env) (s : State) (m : MethodId) (args : Array Value) (below : List Frame) (meth : Method) (c : Code) (Q : State → Prop) (A : Nat → Prop) (dC : Nat → ClassId) (dI : Nat → Nat → Nat) (a : Nat → Nat) (ac : Nat → ClassId) (g : Int32 → (St) → Option (Int32 × (St))) (r : Int32 × (St)) : Prop := ∀ (x4 : Int32) (s0 : St) (H : Heap) (locs : List Loc) (ls : Array Slot), g x4 s0 = some r → va_P (dC, dI) vwCl (dw_X13 a ac s0) H → va_D A (dw_X13 a ac s0) → va_S A s.heap H locs → lv_has ls 6 [(0, .ref (a 0)), (4, .int x4)] → W p l e (headSpec ow_dm_X13_expression ({ frames := 7, cells := 0, slots := 0, locals := 157 })).room s m args below meth c H locs 0 0 Q (F0 m 320 ls [])
def dj_X13_expression_296 (p : Program) (l : Launch) (e : Env) (s : State) (m : MethodId) (args : Array Value) (below : List Frame) (meth : Method) (c : Code) (Q : State → Prop) (A : Nat → Prop) (dC : Nat → ClassId) (dI : Nat → Nat → Nat) (a : Nat → Nat) (ac : Nat → ClassId) (g : Int32 → (St) → Option (Int32 × (St))) (r : Int32 × (St)) : Prop := ∀ (y0 : Int32) (s0 : St) (H : Heap) (locs : List Loc) (ls : Array Slot), g y0 s0 = some r → va_P (dC, dI) vwCl (dw_X13 a ac s0) H → va_D A (dw_X13 a ac s0) → va_S A s.heap H locs → lv_has ls 6 [(0, .ref (a 0))] → W p l e (headSpec ow_dm_X13_expression ({ frames := 7, cells := 0, slots := 0, locals := 157 })).room s m args below meth c H locs 0 0 Q (F0 m 296 ls [.int y0])
def dj_X13_expression_276 (p : Program) (l : Launch) (e : Env) (s : State) (m : MethodId) (args : Array Value) (below : List Frame) (meth : Method) (c : Code) (Q : State → Prop) (A : Nat → Prop) (dC : Nat → ClassId) (dI : Nat → Nat → Nat) (a : Nat → Nat) (ac : Nat → ClassId) (g : (St) → Option (Int32 × (St))) (r : Int32 × (St)) : Prop := ∀ (s0 : St) (H : Heap) (locs : List Loc) (ls : Array Slot), g s0 = some r → va_P (dC, dI) vwCl (dw_X13 a ac s0) H → va_D A (dw_X13 a ac s0) → va_S A s.heap H locs → lv_has ls 6 [(0, .ref (a 0))] → W p l e (headSpec ow_dm_X13_expression ({ frames := 7, cells := 0, slots := 0, locals := 157 })).room s m args below meth c H locs 0 0 Q (F0 m 276 ls [])
def dj_X13_expression_255 (p : Program) (l : Launch) (e : Env) (s : State) (m : MethodId) (args : Array Value) (below : List Frame) (meth : Method) (c : Code) (Q : State → Prop) (A : Nat → Prop) (dC : Nat → ClassId) (dI : Nat → Nat → Nat) (a : Nat → Nat) (ac : Nat → ClassId) (g : (St) → Option (Int32 × (St))) (r : Int32 × (St)) : Prop := ∀ (s0 : St) (H : Heap) (locs : List Loc) (ls : Array Slot), g s0 = some r → va_P (dC, dI) vwCl (dw_X13 a ac s0) H → va_D A (dw_X13 a ac s0) → va_S A s.heap H locs → lv_has ls 6 [(0, .ref (a 0))] → W p l e (headSpec ow_dm_X13_expression ({ frames := 7, cells := 0, slots := 0, locals := 157 })).room s m args below meth c H locs 0 0 Q (F0 m 255 ls [])
def dj_X13_expression_252 (p : Program) (l : Launch) (e : Env) (s : State) (m : MethodId) (args : Array Value) (below : List Frame) (meth : Method) (c : Code) (Q : State → Prop) (A : Nat → Prop) (dC : Nat → ClassId) (dI : Nat → Nat → Nat) (a : Nat → Nat) (ac : Nat → ClassId) (g : Int32 → Int32 → Int32 → (St) → Option (Int32 × (St))) (r : Int32 × (St)) : Prop := ∀ (x1 : Int32) (x2 : Int32) (x3 : Int32) (s0 : St) (H : Heap) (locs : List Loc) (ls : Array Slot), g x1 x2 x3 s0 = some r → va_P (dC, dI) vwCl (dw_X13 a ac s0) H → va_D A (dw_X13 a ac s0) → va_S A s.heap H locs → lv_has ls 6 [(0, .ref (a 0)), (1, .int x1), (2, .int x2), (3, .int x3)] → W p l e (headSpec ow_dm_X13_expression ({ frames := 7, cells := 0, slots := 0, locals := 157 })).room s m args below meth c H locs 0 0 Q (F0 m 252 ls [])
def dj_X13_expression_246 (p : Program) (l : Launch) (e : Env) (s : State) (m : MethodId) (args : Array Value) (below : List Frame) (meth : Method) (c : Code) (Q : State → Prop) (A : Nat → Prop) (dC : Nat → ClassId) (dI : Nat → Nat → Nat) (a : Nat → Nat) (ac : Nat → ClassId) (g : Int32 → Int32 → Int32 → Int32 → (St) → Option (Int32 × (St))) (r : Int32 × (St)) : Prop := ∀ (x1 : Int32) (x2 : Int32) (x3 : Int32) (x4 : Int32) (s0 : St) (H : Heap) (locs : List Loc) (ls : Array Slot), g x1 x2 x3 x4 s0 = some r → va_P (dC, dI) vwCl (dw_X13 a ac s0) H → va_D A (dw_X13 a ac s0) → va_S A s.heap H locs → lv_has ls 6 [(0, .ref (a 0)), (1, .int x1), (2, .int x2), (3, .int x3), (4, .int x4)] → W p l e (headSpec ow_dm_X13_expression ({ frames := 7, cells := 0, slots := 0, locals := 157 })).room s m args below meth c H locs 0 0 Q (F0 m 246 ls [])
def dj_X13_expression_235 (p : Program) (l : Launch) (e : Env) (s : State) (m : MethodId) (args : Array Value) (below : List Frame) (meth : Method) (c : Code) (Q : State → Prop) (A : Nat → Prop) (dC : Nat → ClassId) (dI : Nat → Nat → Nat) (a : Nat → Nat) (ac : Nat → ClassId) (g : Int32 → Int32 → Int32 → (St) → Option (Int32 × (St))) (r : Int32 × (St)) : Prop := ∀ (x1 : Int32) (x2 : Int32) (x4 : Int32) (s0 : St) (H : Heap) (locs : List Loc) (ls : Array Slot), g x1 x2 x4 s0 = some r → va_P (dC, dI) vwCl (dw_X13 a ac s0) H → va_D A (dw_X13 a ac s0) → va_S A s.heap H locs → lv_has ls 6 [(0, .ref (a 0)), (1, .int x1), (2, .int x2), (4, .int x4)] → W p l e (headSpec ow_dm_X13_expression ({ frames := 7, cells := 0, slots := 0, locals := 157 })).room s m args below meth c H locs 0 0 Q (F0 m 235 ls [])
def dj_X13_expression_193 (p : Program) (l : Launch) (e : Env) (s : State) (m : MethodId) (args : Array Value) (below : List Frame) (meth : Method) (c : Code) (Q : State → Prop) (A : Nat → Prop) (dC : Nat → ClassId) (dI : Nat → Nat → Nat) (a : Nat → Nat) (ac : Nat → ClassId) (g : Int32 → Int32 → Int32 → (St) → Option (Int32 × (St))) (r : Int32 × (St)) : Prop := ∀ (x1 : Int32) (x2 : Int32) (x3 : Int32) (s0 : St) (H : Heap) (locs : List Loc) (ls : Array Slot), g x1 x2 x3 s0 = some r → va_P (dC, dI) vwCl (dw_X13 a ac s0) H → va_D A (dw_X13 a ac s0) → va_S A s.heap H locs → lv_has ls 6 [(0, .ref (a 0)), (1, .int x1), (2, .int x2), (3, .int x3)] → W p l e (headSpec ow_dm_X13_expression ({ frames := 7, cells := 0, slots := 0, locals := 157 })).room s m args below meth c H locs 0 0 Q (F0 m 193 ls [])
def dj_X13_expression_180 (p : Program) (l : Launch) (e : Env) (s : State) (m : MethodId) (args : Array Value) (below : List Frame) (meth : Method) (c : Code) (Q : State → Prop) (A : Nat → Prop) (dC : Nat → ClassId) (dI : Nat → Nat → Nat) (a : Nat → Nat) (ac : Nat → ClassId) (g : Int32 → Int32 → Int32 → Int32 → (St) → Option (Int32 × (St))) (r : Int32 × (St)) : Prop := ∀ (x1 : Int32) (x2 : Int32) (x3 : Int32) (x4 : Int32) (s0 : St) (H : Heap) (locs : List Loc) (ls : Array Slot), g x1 x2 x3 x4 s0 = some r → va_P (dC, dI) vwCl (dw_X13 a ac s0) H → va_D A (dw_X13 a ac s0) → va_S A s.heap H locs → lv_has ls 6 [(0, .ref (a 0)), (1, .int x1), (2, .int x2), (3, .int x3), (4, .int x4)] → W p l e (headSpec ow_dm_X13_expression ({ frames := 7, cells := 0, slots := 0, locals := 157 })).room s m args below meth c H locs 0 0 Q (F0 m 180 ls [])
def dj_X13_expression_167 (p : Program) (l : Launch) (e : Env) (s : State) (m : MethodId) (args : Array Value) (below : List Frame) (meth : Method) (c : Code) (Q : State → Prop) (A : Nat → Prop) (dC : Nat → ClassId) (dI : Nat → Nat → Nat) (a : Nat → Nat) (ac : Nat → ClassId) (g : Int32 → Int32 → (St) → Option (Int32 × (St))) (r : Int32 × (St)) : Prop := ∀ (x1 : Int32) (x3 : Int32) (s0 : St) (H : Heap) (locs : List Loc) (ls : Array Slot), g x1 x3 s0 = some r → va_P (dC, dI) vwCl (dw_X13 a ac s0) H → va_D A (dw_X13 a ac s0) → va_S A s.heap H locs → lv_has ls 6 [(0, .ref (a 0)), (1, .int x1), (3, .int x3)] → W p l e (headSpec ow_dm_X13_expression ({ frames := 7, cells := 0, slots := 0, locals := 157 })).room s m args below meth c H locs 0 0 Q (F0 m 167 ls [])
def dj_X13_expression_129 (p : Program) (l : Launch) (e : Env) (s : State) (m : MethodId) (args : Array Value) (below : List Frame) (meth : Method) (c : Code) (Q : State → Prop) (A : Nat → Prop) (dC : Nat → ClassId) (dI : Nat → Nat → Nat) (a : Nat → Nat) (ac : Nat → ClassId) (g : Int32 → Int32 → (St) → Option (Int32 × (St))) (r : Int32 × (St)) : Prop := ∀ (x1 : Int32) (x3 : Int32) (s0 : St) (H : Heap) (locs : List Loc) (ls : Array Slot), g x1 x3 s0 = some r → va_P (dC, dI) vwCl (dw_X13 a ac s0) H → va_D A (dw_X13 a ac s0) → va_S A s.heap H locs → lv_has ls 6 [(0, .ref (a 0)), (1, .int x1), (3, .int x3)] → W p l e (headSpec ow_dm_X13_expression ({ frames := 7, cells := 0, slots := 0, locals := 157 })).room s m args below meth c H locs 0 0 Q (F0 m 129 ls [])
def dj_X13_expression_108 (p : Program) (l : Launch) (e : Env) (s : State) (m : MethodId) (args : Array Value) (below : List Frame) (meth : Method) (c : Code) (Q : State → Prop) (A : Nat → Prop) (dC : Nat → ClassId) (dI : Nat → Nat → Nat) (a : Nat → Nat) (ac : Nat → ClassId) (g : Int32 → Int32 → Int32 → (St) → Option (Int32 × (St))) (r : Int32 × (St)) : Prop := ∀ (x2 : Int32) (x3 : Int32) (y0 : Int32) (s0 : St) (H : Heap) (locs : List Loc) (ls : Array Slot), g x2 x3 y0 s0 = some r → va_P (dC, dI) vwCl (dw_X13 a ac s0) H → va_D A (dw_X13 a ac s0) → va_S A s.heap H locs → lv_has ls 6 [(0, .ref (a 0)), (2, .int x2), (3, .int x3)] → W p l e (headSpec ow_dm_X13_expression ({ frames := 7, cells := 0, slots := 0, locals := 157 })).room s m args below meth c H locs 0 0 Q (F0 m 108 ls [.int y0])
def dj_X13_expression_95 (p : Program) (l : Launch) (e : Env) (s : State) (m : MethodId) (args : Array Value) (below : List Frame) (meth : Method) (c : Code) (Q : State → Prop) (A : Nat → Prop) (dC : Nat → ClassId) (dI : Nat → Nat → Nat) (a : Nat → Nat) (ac : Nat → ClassId) (g : Int32 → Int32 → Int32 → Int32 → (St) → Option (Int32 × (St))) (r : Int32 × (St)) : Prop := ∀ (x1 : Int32) (x3 : Int32) (x5 : Int32) (y0 : Int32) (s0 : St) (H : Heap) (locs : List Loc) (ls : Array Slot), g x1 x3 x5 y0 s0 = some r → va_P (dC, dI) vwCl (dw_X13 a ac s0) H → va_D A (dw_X13 a ac s0) → va_S A s.heap H locs → lv_has ls 6 [(0, .ref (a 0)), (1, .int x1), (3, .int x3), (5, .int x5)] → W p l e (headSpec ow_dm_X13_expression ({ frames := 7, cells := 0, slots := 0, locals := 157 })).room s m args below meth c H locs 0 0 Q (F0 m 95 ls [.int y0])
def dj_X13_expression_81 (p : Program) (l : Launch) (e : Env) (s : State) (m : MethodId) (args : Array Value) (below : List Frame) (meth : Method) (c : Code) (Q : State → Prop) (A : Nat → Prop) (dC : Nat → ClassId) (dI : Nat → Nat → Nat) (a : Nat → Nat) (ac : Nat → ClassId) (g : Int32 → Int32 → Int32 → (St) → Option (Int32 × (St))) (r : Int32 × (St)) : Prop := ∀ (x1 : Int32) (x3 : Int32) (y0 : Int32) (s0 : St) (H : Heap) (locs : List Loc) (ls : Array Slot), g x1 x3 y0 s0 = some r → va_P (dC, dI) vwCl (dw_X13 a ac s0) H → va_D A (dw_X13 a ac s0) → va_S A s.heap H locs → lv_has ls 6 [(0, .ref (a 0)), (1, .int x1), (3, .int x3)] → W p l e (headSpec ow_dm_X13_expression ({ frames := 7, cells := 0, slots := 0, locals := 157 })).room s m args below meth c H locs 0 0 Q (F0 m 81 ls [.int y0])
def dj_X13_expression_76 (p : Program) (l : Launch) (e : Env) (s : State) (m : MethodId) (args : Array Value) (below : List Frame) (meth : Method) (c : Code) (Q : State → Prop) (A : Nat → Prop) (dC : Nat → ClassId) (dI : Nat → Nat → Nat) (a : Nat → Nat) (ac : Nat → ClassId) (g : Int32 → Int32 → (St) → Option (Int32 × (St))) (r : Int32 × (St)) : Prop := ∀ (x1 : Int32) (x3 : Int32) (s0 : St) (H : Heap) (locs : List Loc) (ls : Array Slot), g x1 x3 s0 = some r → va_P (dC, dI) vwCl (dw_X13 a ac s0) H → va_D A (dw_X13 a ac s0) → va_S A s.heap H locs → lv_has ls 6 [(0, .ref (a 0)), (1, .int x1), (3, .int x3)] → W p l e (headSpec ow_dm_X13_expression ({ frames := 7, cells := 0, slots := 0, locals := 157 })).room s m args below meth c H locs 0 0 Q (F0 m 76 ls [])
def dj_X13_expression_33 (p : Program) (l : Launch) (e : Env) (s : State) (m : MethodId) (args : Array Value) (below : List Frame) (meth : Method) (c : Code) (Q : State → Prop) (A : Nat → Prop) (dC : Nat → ClassId) (dI : Nat → Nat → Nat) (a : Nat → Nat) (ac : Nat → ClassId) (g : Int32 → Int32 → Int32 → (St) → Option (Int32 × (St))) (r : Int32 × (St)) : Prop := ∀ (x1 : Int32) (x2 : Int32) (x3 : Int32) (s0 : St) (H : Heap) (locs : List Loc) (ls : Array Slot), g x1 x2 x3 s0 = some r → va_P (dC, dI) vwCl (dw_X13 a ac s0) H → va_D A (dw_X13 a ac s0) → va_S A s.heap H locs → lv_has ls 6 [(0, .ref (a 0)), (1, .int x1), (2, .int x2), (3, .int x3)] → W p l e (headSpec ow_dm_X13_expression ({ frames := 7, cells := 0, slots := 0, locals := 157 })).room s m args below meth c H locs 0 0 Q (F0 m 33 ls [])
def dj_X13_expression_0 (p : Program) (l : Launch) (e : Env) (s : State) (m : MethodId) (args : Array Value) (below : List Frame) (meth : Method) (c : Code) (Q : State → Prop) (A : Nat → Prop) (dC : Nat → ClassId) (dI : Nat → Nat → Nat) (a : Nat → Nat) (ac : Nat → ClassId) (g : (St) → Option (Int32 × (St))) (r : Int32 × (St)) : Prop := ∀ (s0 : St) (H : Heap) (locs : List Loc) (ls : Array Slot), g s0 = some r → va_P (dC, dI) vwCl (dw_X13 a ac s0) H → va_D A (dw_X13 a ac s0) → va_S A s.heap H locs → lv_has ls 6 [(0, .ref (a 0))] → W p l e (headSpec ow_dm_X13_expression ({ frames := 7, cells := 0, slots := 0, locals := 157 })).room s m args below meth c H locs 0 0 Q (F0 m 0 ls [])
set_option maxHeartbeats 40000000 in
set_option maxRecDepth 100000 in
theorem db_X13_expression_338 {p : Program} {l : Launch} {e : Env} {s : State} {m : MethodId} {args : Array Value} {below : List Frame} {meth : Method} {c : Code} {Q : State → Prop} {A : Nat → Prop} {dC : Nat → ClassId} {dI : Nat → Nat → Nat} {a : Nat → Nat} {ac : Nat → ClassId} {n : Nat} {r : Int32 × (St)} (C : nd_C p l s m args c A (dC, dI) cX13_expression 6 RX13 ow_dm_X13_expression (dk_X13 ac)) (K : nd_Ki p l e (headSpec ow_dm_X13_expression ({ frames := 7, cells := 0, slots := 0, locals := 157 })).room s m args below meth c Q A (dC, dI) cX13_expression .int (St) (dw_X13 a ac) r) : dj_X13_expression_338 p l e s m args below meth c Q A dC dI a ac (df_X13_expression_338 n) r := by
  obtain ⟨hlt, hx, hb, hml, hown, hts, hN, hA, hK⟩ := id C
  intro x4 s0 H locs ls h hP hD hS hl
  unfold df_X13_expression_338 at h
  refine lv_iload hx hb dX13_expression_338 (lv_at hl 0 rfl) ?_
  exact K _ _ _ _ _ _ dX13_expression_340 rfl (Option.some.inj h).symm hP hD hS
set_option maxHeartbeats 40000000 in
set_option maxRecDepth 100000 in
theorem db_X13_expression_335 {p : Program} {l : Launch} {e : Env} {s : State} {m : MethodId} {args : Array Value} {below : List Frame} {meth : Method} {c : Code} {Q : State → Prop} {A : Nat → Prop} {dC : Nat → ClassId} {dI : Nat → Nat → Nat} {a : Nat → Nat} {ac : Nat → ClassId} {n : Nat} {r : Int32 × (St)} (C : nd_C p l s m args c A (dC, dI) cX13_expression 6 RX13 ow_dm_X13_expression (dk_X13 ac)) (K : nd_Ki p l e (headSpec ow_dm_X13_expression ({ frames := 7, cells := 0, slots := 0, locals := 157 })).room s m args below meth c Q A (dC, dI) cX13_expression .int (St) (dw_X13 a ac) r) : dj_X13_expression_335 p l e s m args below meth c Q A dC dI a ac (df_X13_expression_335 n) r := by
  obtain ⟨hlt, hx, hb, hml, hown, hts, hN, hA, hK⟩ := id C
  intro x4 y1 s0 H locs ls h hP hD hS hl
  unfold df_X13_expression_335 at h
  obtain ⟨s13, hq, h⟩ := nd_b1_e h
  have hPc := hP
  have hDc := hD
  have hKc := hK
  have hFc := nd_rs hD hS hA
  refine nd_cVv (As := [.int y1]) (rest := []) (w' := dw_X13 a ac s13) ⟨hx, hb, hml, hown, hts⟩ (fun sz => dm_X13_blame l hlt dC dI a ac n (y1) s0 hq sz) (cwV 1 hts gi_dm_X13_expression_0 rfl rfl rfl (by decide +kernel) ⟨Nat.le_of_ble_eq_true rfl, Nat.le_of_ble_eq_true rfl⟩) hPc hDc hKc hS hA hN (va_recv hKc hPc (ci := 14) (q0 := 0) rfl rfl) rfl hl.1 rfl (Nat.le_of_ble_eq_true rfl) dX13_expression_335 (fun H locs hP1 hD1 hk1 hS => ?_)
  have hP := hP1
  have hD := hD1.weaken (fun k q _ h => hFc q.1 h)
  exact (db_X13_expression_338 C K) (x4) s13 _ _ _ h hP hD hS (lv_sub hl [0] rfl)
set_option maxHeartbeats 40000000 in
set_option maxRecDepth 100000 in
theorem db_X13_expression_320 {p : Program} {l : Launch} {e : Env} {s : State} {m : MethodId} {args : Array Value} {below : List Frame} {meth : Method} {c : Code} {Q : State → Prop} {A : Nat → Prop} {dC : Nat → ClassId} {dI : Nat → Nat → Nat} {a : Nat → Nat} {ac : Nat → ClassId} {n : Nat} {r : Int32 × (St)} (C : nd_C p l s m args c A (dC, dI) cX13_expression 6 RX13 ow_dm_X13_expression (dk_X13 ac)) (K : nd_Ki p l e (headSpec ow_dm_X13_expression ({ frames := 7, cells := 0, slots := 0, locals := 157 })).room s m args below meth c Q A (dC, dI) cX13_expression .int (St) (dw_X13 a ac) r) : dj_X13_expression_320 p l e s m args below meth c Q A dC dI a ac (df_X13_expression_320 n) r := by
  obtain ⟨hlt, hx, hb, hml, hown, hts, hN, hA, hK⟩ := id C
  intro x4 s0 H locs ls h hP hD hS hl
  unfold df_X13_expression_320 at h
  refine lv_aload_n hx hb dX13_expression_320 rfl (lv_at hl 0 rfl) ?_
  refine lv_aload_n hx hb dX13_expression_321 rfl (lv_at hl 0 rfl) ?_
  refine va_get (D := (dC, dI)) (ci := 14) (v := .int (sI s0 21)) (C := RX13) (T := TX13) (N := 37) hx hb hts hi_dm_X13_expression_X13 hown hK hP 0 rfl rfl 31 (by decide) (hts (.fieldLink RX13 457 "TimeMachineModel$Assembler" "missing" "Z") (List.mem_of_getElem? (i := 4) rfl)) (fun _ h9 => h9) rfl dX13_expression_322 ?_
  refine lv_if_eq (tgt := 333) hx hb dX13_expression_325 (by decide) (fun c11 => ?_) (fun c11 => ?_)
  · have h := nd_pos h c11
    refine lv_bipush (v := 9) hx hb dX13_expression_333 (by decide) ?_
    exact (db_X13_expression_335 C K) (x4) (9) s0 _ _ _ h hP hD hS (lv_sub hl [1] rfl)
  · have h := nd_neg h c11
    refine lv_bipush (v := 8) hx hb dX13_expression_328 (by decide) ?_
    refine lv_goto (tgt := 335) hx hb dX13_expression_330 (by decide) ?_
    exact (db_X13_expression_335 C K) (x4) (8) s0 _ _ _ h hP hD hS (lv_sub hl [1] rfl)
set_option maxHeartbeats 40000000 in
set_option maxRecDepth 100000 in
theorem db_X13_expression_296 {p : Program} {l : Launch} {e : Env} {s : State} {m : MethodId} {args : Array Value} {below : List Frame} {meth : Method} {c : Code} {Q : State → Prop} {A : Nat → Prop} {dC : Nat → ClassId} {dI : Nat → Nat → Nat} {a : Nat → Nat} {ac : Nat → ClassId} {n : Nat} {r : Int32 × (St)} (C : nd_C p l s m args c A (dC, dI) cX13_expression 6 RX13 ow_dm_X13_expression (dk_X13 ac)) (K : nd_Ki p l e (headSpec ow_dm_X13_expression ({ frames := 7, cells := 0, slots := 0, locals := 157 })).room s m args below meth c Q A (dC, dI) cX13_expression .int (St) (dw_X13 a ac) r) : dj_X13_expression_296 p l e s m args below meth c Q A dC dI a ac (df_X13_expression_296 n) r := by
  obtain ⟨hlt, hx, hb, hml, hown, hts, hN, hA, hK⟩ := id C
  intro y0 s0 H locs ls h hP hD hS hl
  unfold df_X13_expression_296 at h
  refine lv_istore (lv' := [(4, .int y0), (0, .ref (a 0))]) hx hb dX13_expression_296 hl (by decide) rfl (fun ls hl => ?_)
  refine lv_aload_n hx hb dX13_expression_298 rfl (lv_at hl 1 rfl) ?_
  refine va_get (D := (dC, dI)) (ci := 14) (v := .int (sI s0 15)) (C := RX13) (T := TX13) (N := 37) hx hb hts hi_dm_X13_expression_X13 hown hK hP 0 rfl rfl 24 (by decide) (hts (.fieldLink RX13 522 "TimeMachineModel$Assembler" "mode" "I") (List.mem_of_getElem? (i := 8) rfl)) (fun _ h9 => h9) rfl dX13_expression_299 ?_
  refine lv_iconst (v := 2) hx hb dX13_expression_302 (by decide) ?_
  refine lv_icmp_ne (tgt := 338) hx hb dX13_expression_303 (by decide) (fun c9 => ?_) (fun c9 => ?_)
  · have h := nd_neg h c9
    exact (db_X13_expression_338 C K) (y0) s0 _ _ _ h hP hD hS (lv_sub hl [0] rfl)
  · have h := nd_pos h c9
    refine lv_aload_n hx hb dX13_expression_306 rfl (lv_at hl 1 rfl) ?_
    refine va_get (D := (dC, dI)) (ci := 14) (v := .int (sI s0 21)) (C := RX13) (T := TX13) (N := 37) hx hb hts hi_dm_X13_expression_X13 hown hK hP 0 rfl rfl 31 (by decide) (hts (.fieldLink RX13 457 "TimeMachineModel$Assembler" "missing" "Z") (List.mem_of_getElem? (i := 4) rfl)) (fun _ h9 => h9) rfl dX13_expression_307 ?_
    refine lv_if_ne (tgt := 320) hx hb dX13_expression_310 (by decide) (fun c10 => ?_) (fun c10 => ?_)
    · have h := nd_neg h c10
      exact (db_X13_expression_320 C K) (y0) s0 _ _ _ h hP hD hS (lv_sub hl [1, 0] rfl)
    · have h := nd_pos h c10
      refine lv_aload_n hx hb dX13_expression_313 rfl (lv_at hl 1 rfl) ?_
      refine va_get (D := (dC, dI)) (ci := 14) (v := .int (sI s0 22)) (C := RX13) (T := TX13) (N := 37) hx hb hts hi_dm_X13_expression_X13 hown hK hP 0 rfl rfl 32 (by decide) (hts (.fieldLink RX13 470 "TimeMachineModel$Assembler" "divided" "Z") (List.mem_of_getElem? (i := 5) rfl)) (fun _ h9 => h9) rfl dX13_expression_314 ?_
      refine lv_if_eq (tgt := 338) hx hb dX13_expression_317 (by decide) (fun c15 => ?_) (fun c15 => ?_)
      · have h := nd_pos h c15
        exact (db_X13_expression_338 C K) (y0) s0 _ _ _ h hP hD hS (lv_sub hl [0] rfl)
      · have h := nd_neg h c15
        exact (db_X13_expression_320 C K) (y0) s0 _ _ _ h hP hD hS (lv_sub hl [1, 0] rfl)
set_option maxHeartbeats 40000000 in
set_option maxRecDepth 100000 in
theorem db_X13_expression_276 {p : Program} {l : Launch} {e : Env} {s : State} {m : MethodId} {args : Array Value} {below : List Frame} {meth : Method} {c : Code} {Q : State → Prop} {A : Nat → Prop} {dC : Nat → ClassId} {dI : Nat → Nat → Nat} {a : Nat → Nat} {ac : Nat → ClassId} {n : Nat} {r : Int32 × (St)} (C : nd_C p l s m args c A (dC, dI) cX13_expression 6 RX13 ow_dm_X13_expression (dk_X13 ac)) (K : nd_Ki p l e (headSpec ow_dm_X13_expression ({ frames := 7, cells := 0, slots := 0, locals := 157 })).room s m args below meth c Q A (dC, dI) cX13_expression .int (St) (dw_X13 a ac) r) : dj_X13_expression_276 p l e s m args below meth c Q A dC dI a ac (df_X13_expression_276 n) r := by
  obtain ⟨hlt, hx, hb, hml, hown, hts, hN, hA, hK⟩ := id C
  intro s0 H locs ls h hP hD hS hl
  unfold df_X13_expression_276 at h
  refine lv_aload_n hx hb dX13_expression_276 rfl (lv_at hl 0 rfl) ?_
  refine va_get (D := (dC, dI)) (ci := 14) (v := .int (sI s0 12)) (C := RX13) (T := TX13) (N := 37) hx hb hts hi_dm_X13_expression_X13 hown hK hP 0 rfl rfl 21 (by decide) (hts (.fieldLink RX13 410 "TimeMachineModel$Assembler" "fault" "I") (List.mem_of_getElem? (i := 7) rfl)) (fun _ h9 => h9) rfl dX13_expression_277 ?_
  refine lv_if_ne (tgt := 295) hx hb dX13_expression_280 (by decide) (fun c8 => ?_) (fun c8 => ?_)
  · have h := nd_neg h c8
    refine lv_iconst (v := 0) hx hb dX13_expression_295 (by decide) ?_
    exact (db_X13_expression_296 C K) (0) s0 _ _ _ h hP hD hS (lv_sub hl [0] rfl)
  · have h := nd_pos h c8
    refine lv_aload_n hx hb dX13_expression_283 rfl (lv_at hl 0 rfl) ?_
    refine va_get (D := (dC, dI)) (ci := 14) (v := .ref (a 10)) (C := RX13) (T := TX13) (N := 37) hx hb hts hi_dm_X13_expression_X13 hown hK hP 0 rfl rfl 34 (by decide) (hts (.fieldLink RX13 344 "TimeMachineModel$Assembler" "pile" "[I") (List.mem_of_getElem? (i := 13) rfl)) (fun _ h9 => h9) rfl dX13_expression_284 ?_
    refine lv_aload_n hx hb dX13_expression_287 rfl (lv_at hl 0 rfl) ?_
    refine va_get (D := (dC, dI)) (ci := 14) (v := .int (sI s0 25)) (C := RX13) (T := TX13) (N := 37) hx hb hts hi_dm_X13_expression_X13 hown hK hP 0 rfl rfl 36 (by decide) (hts (.fieldLink RX13 467 "TimeMachineModel$Assembler" "values" "I") (List.mem_of_getElem? (i := 3) rfl)) (fun _ h9 => h9) rfl dX13_expression_288 ?_
    obtain ⟨i16, h⟩ := nd_ck_e h
    refine va_iald (i := (sI s0 25)) hx hb hK hP 10 9 rfl rfl i16 dX13_expression_291 ?_
    refine lv_goto (tgt := 296) hx hb dX13_expression_292 (by decide) ?_
    exact (db_X13_expression_296 C K) ((sR s0 8 (Int32.toNatClampNeg (sI s0 25)))) s0 _ _ _ h hP hD hS (lv_sub hl [0] rfl)
set_option maxHeartbeats 40000000 in
set_option maxRecDepth 100000 in
theorem dB_X13_expression_255 {p : Program} {l : Launch} {e : Env} {s : State} {m : MethodId} {args : Array Value} {below : List Frame} {meth : Method} {c : Code} {Q : State → Prop} {A : Nat → Prop} {dC : Nat → ClassId} {dI : Nat → Nat → Nat} {a : Nat → Nat} {ac : Nat → ClassId} {n : Nat} {r : Int32 × (St)} (C : nd_C p l s m args c A (dC, dI) cX13_expression 6 RX13 ow_dm_X13_expression (dk_X13 ac)) (K : nd_Ki p l e (headSpec ow_dm_X13_expression ({ frames := 7, cells := 0, slots := 0, locals := 157 })).room s m args below meth c Q A (dC, dI) cX13_expression .int (St) (dw_X13 a ac) r) {g255 : (St) → Option (Int32 × (St))} (J255 : dj_X13_expression_255 p l e s m args below meth c Q A dC dI a ac g255 r) : dj_X13_expression_255 p l e s m args below meth c Q A dC dI a ac (dF_X13_expression_255 n g255) r := by
  obtain ⟨hlt, hx, hb, hml, hown, hts, hN, hA, hK⟩ := id C
  intro s0 H locs ls h hP hD hS hl
  unfold dF_X13_expression_255 at h
  refine lv_aload_n hx hb dX13_expression_255 rfl (lv_at hl 0 rfl) ?_
  refine va_get (D := (dC, dI)) (ci := 14) (v := .int (sI s0 24)) (C := RX13) (T := TX13) (N := 37) hx hb hts hi_dm_X13_expression_X13 hown hK hP 0 rfl rfl 35 (by decide) (hts (.fieldLink RX13 464 "TimeMachineModel$Assembler" "signs" "I") (List.mem_of_getElem? (i := 1) rfl)) (fun _ h9 => h9) rfl dX13_expression_256 ?_
  refine lv_if_le (tgt := 276) hx hb dX13_expression_259 (by decide) (fun c7 => ?_) (fun c7 => ?_)
  · have h := nd_pos h c7
    exact (db_X13_expression_276 C K)  s0 _ _ _ h hP hD hS (lv_sub hl [0] rfl)
  · have h := nd_neg h c7
    refine lv_aload_n hx hb dX13_expression_262 rfl (lv_at hl 0 rfl) ?_
    refine va_get (D := (dC, dI)) (ci := 14) (v := .int (sI s0 12)) (C := RX13) (T := TX13) (N := 37) hx hb hts hi_dm_X13_expression_X13 hown hK hP 0 rfl rfl 21 (by decide) (hts (.fieldLink RX13 410 "TimeMachineModel$Assembler" "fault" "I") (List.mem_of_getElem? (i := 7) rfl)) (fun _ h9 => h9) rfl dX13_expression_263 ?_
    refine lv_if_ne (tgt := 276) hx hb dX13_expression_266 (by decide) (fun c17 => ?_) (fun c17 => ?_)
    · have h := nd_neg h c17
      exact (db_X13_expression_276 C K)  s0 _ _ _ h hP hD hS (lv_sub hl [0] rfl)
    · have h := nd_pos h c17
      refine lv_aload_n hx hb dX13_expression_269 rfl (lv_at hl 0 rfl) ?_
      obtain ⟨s19, hq, h⟩ := nd_b1_e h
      have hPc := hP
      have hDc := hD
      have hKc := hK
      have hFc := nd_rs hD hS hA
      refine nd_cVv (As := []) (rest := []) (w' := dw_X13 a ac s19) ⟨hx, hb, hml, hown, hts⟩ (fun sz => dm_X13_join l hlt dC dI a ac n  s0 hq sz) (cwV 0 hts gi_dm_X13_expression_1 rfl rfl rfl (by decide +kernel) ⟨Nat.le_of_ble_eq_true rfl, Nat.le_of_ble_eq_true rfl⟩) hPc hDc hKc hS hA hN (va_recv hKc hPc (ci := 14) (q0 := 0) rfl rfl) rfl hl.1 rfl (Nat.le_of_ble_eq_true rfl) dX13_expression_270 (fun H locs hP1 hD1 hk1 hS => ?_)
      have hP := hP1
      have hD := hD1.weaken (fun k q _ h => hFc q.1 h)
      refine lv_goto (tgt := 255) hx hb dX13_expression_273 (by decide) ?_
      exact (J255)  s19 _ _ _ h hP hD hS (lv_sub hl [0] rfl)
set_option maxHeartbeats 40000000 in
set_option maxRecDepth 100000 in
theorem db_X13_expression_255 {p : Program} {l : Launch} {e : Env} {s : State} {m : MethodId} {args : Array Value} {below : List Frame} {meth : Method} {c : Code} {Q : State → Prop} {A : Nat → Prop} {dC : Nat → ClassId} {dI : Nat → Nat → Nat} {a : Nat → Nat} {ac : Nat → ClassId} {n : Nat} {r : Int32 × (St)} (C : nd_C p l s m args c A (dC, dI) cX13_expression 6 RX13 ow_dm_X13_expression (dk_X13 ac)) (K : nd_Ki p l e (headSpec ow_dm_X13_expression ({ frames := 7, cells := 0, slots := 0, locals := 157 })).room s m args below meth c Q A (dC, dI) cX13_expression .int (St) (dw_X13 a ac) r) (k : Nat) : dj_X13_expression_255 p l e s m args below meth c Q A dC dI a ac (df_X13_expression_255 n k) r := by
  induction k with
  | zero => intro s0 H locs ls h; exact nomatch (show (none : Option (Int32 × (St))) = some r from h)
  | succ k ih => exact dB_X13_expression_255 C K ih
set_option maxHeartbeats 40000000 in
set_option maxRecDepth 100000 in
theorem db_X13_expression_252 {p : Program} {l : Launch} {e : Env} {s : State} {m : MethodId} {args : Array Value} {below : List Frame} {meth : Method} {c : Code} {Q : State → Prop} {A : Nat → Prop} {dC : Nat → ClassId} {dI : Nat → Nat → Nat} {a : Nat → Nat} {ac : Nat → ClassId} {n : Nat} {r : Int32 × (St)} (C : nd_C p l s m args c A (dC, dI) cX13_expression 6 RX13 ow_dm_X13_expression (dk_X13 ac)) (K : nd_Ki p l e (headSpec ow_dm_X13_expression ({ frames := 7, cells := 0, slots := 0, locals := 157 })).room s m args below meth c Q A (dC, dI) cX13_expression .int (St) (dw_X13 a ac) r) {g33 : Int32 → Int32 → Int32 → (St) → Option (Int32 × (St))} (J33 : dj_X13_expression_33 p l e s m args below meth c Q A dC dI a ac g33 r) : dj_X13_expression_252 p l e s m args below meth c Q A dC dI a ac (df_X13_expression_252 n g33) r := by
  obtain ⟨hlt, hx, hb, hml, hown, hts, hN, hA, hK⟩ := id C
  intro x1 x2 x3 s0 H locs ls h hP hD hS hl
  unfold df_X13_expression_252 at h
  refine lv_goto (tgt := 33) hx hb dX13_expression_252 (by decide) ?_
  exact (J33) (x1) (x2) (x3) s0 _ _ _ h hP hD hS (lv_sub hl [0, 1, 2, 3] rfl)
set_option maxHeartbeats 40000000 in
set_option maxRecDepth 100000 in
theorem db_X13_expression_246 {p : Program} {l : Launch} {e : Env} {s : State} {m : MethodId} {args : Array Value} {below : List Frame} {meth : Method} {c : Code} {Q : State → Prop} {A : Nat → Prop} {dC : Nat → ClassId} {dI : Nat → Nat → Nat} {a : Nat → Nat} {ac : Nat → ClassId} {n : Nat} {r : Int32 × (St)} (C : nd_C p l s m args c A (dC, dI) cX13_expression 6 RX13 ow_dm_X13_expression (dk_X13 ac)) (K : nd_Ki p l e (headSpec ow_dm_X13_expression ({ frames := 7, cells := 0, slots := 0, locals := 157 })).room s m args below meth c Q A (dC, dI) cX13_expression .int (St) (dw_X13 a ac) r) {g33 : Int32 → Int32 → Int32 → (St) → Option (Int32 × (St))} (J33 : dj_X13_expression_33 p l e s m args below meth c Q A dC dI a ac g33 r) : dj_X13_expression_246 p l e s m args below meth c Q A dC dI a ac (df_X13_expression_246 n g33) r := by
  obtain ⟨hlt, hx, hb, hml, hown, hts, hN, hA, hK⟩ := id C
  intro x1 x2 x3 x4 s0 H locs ls h hP hD hS hl
  unfold df_X13_expression_246 at h
  refine lv_aload_n hx hb dX13_expression_246 rfl (lv_at hl 0 rfl) ?_
  refine lv_iload hx hb dX13_expression_247 (lv_at hl 4 rfl) ?_
  refine va_put (D := (dC, dI)) (ci := 14) (v := .int x4) (ty := .int) (C := RX13) (T := TX13) (N := 37) hx hb hts hi_dm_X13_expression_X13 tyX13 tyX13_ok nmX13 hown hK hP hD hS 0 rfl rfl 16 (by decide) (hts (.fieldLink RX13 374 "TimeMachineModel$Assembler" "at" "I") (List.mem_of_getElem? (i := 17) rfl)) (fun _ h9 => h9) rfl (by decide +kernel) rfl rfl (Nat.le_of_ble_eq_true rfl) dX13_expression_249 (fun H locs hP hD hS => ?_)
  obtain ⟨s33, es33, h⟩ := nd_let_e h
  have hP : va_P (dC, dI) vwCl (dw_X13 a ac s33) H := by rw [es33]; exact hP
  have hD : va_D A (dw_X13 a ac s33) := by rw [es33]; exact hD
  exact (db_X13_expression_252 C K J33) (x1) (x2) (x3) s33 _ _ _ h hP hD hS (lv_sub hl [0, 1, 2, 3] rfl)
set_option maxHeartbeats 40000000 in
set_option maxRecDepth 100000 in
theorem db_X13_expression_235 {p : Program} {l : Launch} {e : Env} {s : State} {m : MethodId} {args : Array Value} {below : List Frame} {meth : Method} {c : Code} {Q : State → Prop} {A : Nat → Prop} {dC : Nat → ClassId} {dI : Nat → Nat → Nat} {a : Nat → Nat} {ac : Nat → ClassId} {n : Nat} {r : Int32 × (St)} (C : nd_C p l s m args c A (dC, dI) cX13_expression 6 RX13 ow_dm_X13_expression (dk_X13 ac)) (K : nd_Ki p l e (headSpec ow_dm_X13_expression ({ frames := 7, cells := 0, slots := 0, locals := 157 })).room s m args below meth c Q A (dC, dI) cX13_expression .int (St) (dw_X13 a ac) r) {g33 : Int32 → Int32 → Int32 → (St) → Option (Int32 × (St))} (J33 : dj_X13_expression_33 p l e s m args below meth c Q A dC dI a ac g33 r) : dj_X13_expression_235 p l e s m args below meth c Q A dC dI a ac (df_X13_expression_235 n g33) r := by
  obtain ⟨hlt, hx, hb, hml, hown, hts, hN, hA, hK⟩ := id C
  intro x1 x2 x4 s0 H locs ls h hP hD hS hl
  unfold df_X13_expression_235 at h
  refine lv_iconst (v := 0) hx hb dX13_expression_235 (by decide) ?_
  refine lv_istore_n (lv' := [(3, .int 0), (0, .ref (a 0)), (1, .int x1), (2, .int x2), (4, .int x4)]) hx hb dX13_expression_236 rfl hl (by decide) rfl (fun ls hl => ?_)
  refine lv_iload_n hx hb dX13_expression_237 rfl (lv_at hl 2 rfl) ?_
  refine lv_if_le (tgt := 246) hx hb dX13_expression_238 (by decide) (fun c32 => ?_) (fun c32 => ?_)
  · have h := nd_pos h c32
    exact (db_X13_expression_246 C K J33) (x1) (x2) (0) (x4) s0 _ _ _ h hP hD hS (lv_sub hl [1, 2, 3, 0, 4] rfl)
  · have h := nd_neg h c32
    refine lv_aload_n hx hb dX13_expression_241 rfl (lv_at hl 1 rfl) ?_
    refine lv_iconst (v := 1) hx hb dX13_expression_242 (by decide) ?_
    obtain ⟨s35, hq, h⟩ := nd_b1_e h
    have hPc := hP
    have hDc := hD
    have hKc := hK
    have hFc := nd_rs hD hS hA
    refine nd_cVv (As := [.int 1]) (rest := []) (w' := dw_X13 a ac s35) ⟨hx, hb, hml, hown, hts⟩ (fun sz => dm_X13_blame l hlt dC dI a ac n (1) s0 hq sz) (cwV 1 hts gi_dm_X13_expression_0 rfl rfl rfl (by decide +kernel) ⟨Nat.le_of_ble_eq_true rfl, Nat.le_of_ble_eq_true rfl⟩) hPc hDc hKc hS hA hN (va_recv hKc hPc (ci := 14) (q0 := 0) rfl rfl) rfl hl.1 rfl (Nat.le_of_ble_eq_true rfl) dX13_expression_243 (fun H locs hP1 hD1 hk1 hS => ?_)
    have hP := hP1
    have hD := hD1.weaken (fun k q _ h => hFc q.1 h)
    exact (db_X13_expression_246 C K J33) (x1) (x2) (0) (x4) s35 _ _ _ h hP hD hS (lv_sub hl [1, 2, 3, 0, 4] rfl)
set_option maxHeartbeats 40000000 in
set_option maxRecDepth 100000 in
theorem dB_X13_expression_193 {p : Program} {l : Launch} {e : Env} {s : State} {m : MethodId} {args : Array Value} {below : List Frame} {meth : Method} {c : Code} {Q : State → Prop} {A : Nat → Prop} {dC : Nat → ClassId} {dI : Nat → Nat → Nat} {a : Nat → Nat} {ac : Nat → ClassId} {n : Nat} {r : Int32 × (St)} (C : nd_C p l s m args c A (dC, dI) cX13_expression 6 RX13 ow_dm_X13_expression (dk_X13 ac)) (K : nd_Ki p l e (headSpec ow_dm_X13_expression ({ frames := 7, cells := 0, slots := 0, locals := 157 })).room s m args below meth c Q A (dC, dI) cX13_expression .int (St) (dw_X13 a ac) r) {g33 : Int32 → Int32 → Int32 → (St) → Option (Int32 × (St))} (J33 : dj_X13_expression_33 p l e s m args below meth c Q A dC dI a ac g33 r) {g193 : Int32 → Int32 → Int32 → (St) → Option (Int32 × (St))} (J193 : dj_X13_expression_193 p l e s m args below meth c Q A dC dI a ac g193 r) : dj_X13_expression_193 p l e s m args below meth c Q A dC dI a ac (dF_X13_expression_193 n g33 g193) r := by
  obtain ⟨hlt, hx, hb, hml, hown, hts, hN, hA, hK⟩ := id C
  intro x1 x2 x3 s0 H locs ls h hP hD hS hl
  unfold dF_X13_expression_193 at h
  refine lv_aload_n hx hb dX13_expression_193 rfl (lv_at hl 0 rfl) ?_
  refine va_get (D := (dC, dI)) (ci := 14) (v := .ref (a 10)) (C := RX13) (T := TX13) (N := 37) hx hb hts hi_dm_X13_expression_X13 hown hK hP 0 rfl rfl 34 (by decide) (hts (.fieldLink RX13 344 "TimeMachineModel$Assembler" "pile" "[I") (List.mem_of_getElem? (i := 13) rfl)) (fun _ h9 => h9) rfl dX13_expression_194 ?_
  refine lv_aload_n hx hb dX13_expression_197 rfl (lv_at hl 0 rfl) ?_
  refine va_get (D := (dC, dI)) (ci := 14) (v := .int (sI s0 24)) (C := RX13) (T := TX13) (N := 37) hx hb hts hi_dm_X13_expression_X13 hown hK hP 0 rfl rfl 35 (by decide) (hts (.fieldLink RX13 464 "TimeMachineModel$Assembler" "signs" "I") (List.mem_of_getElem? (i := 1) rfl)) (fun _ h9 => h9) rfl dX13_expression_198 ?_
  refine lv_iconst (v := 1) hx hb dX13_expression_201 (by decide) ?_
  refine lv_isub hx hb dX13_expression_202 ?_
  obtain ⟨i38, h⟩ := nd_ck_e h
  refine va_iald (i := ((sI s0 24) - 1)) hx hb hK hP 10 9 rfl rfl i38 dX13_expression_203 ?_
  refine lv_iconst (v := 1) hx hb dX13_expression_204 (by decide) ?_
  refine lv_icmp_eq (tgt := 215) hx hb dX13_expression_205 (by decide) (fun c39 => ?_) (fun c39 => ?_)
  · have h := nd_pos h c39
    refine lv_aload_n hx hb dX13_expression_215 rfl (lv_at hl 0 rfl) ?_
    refine lv_dup hx hb dX13_expression_216 rfl ?_
    refine va_get (D := (dC, dI)) (ci := 14) (v := .int (sI s0 24)) (C := RX13) (T := TX13) (N := 37) hx hb hts hi_dm_X13_expression_X13 hown hK hP 0 rfl rfl 35 (by decide) (hts (.fieldLink RX13 464 "TimeMachineModel$Assembler" "signs" "I") (List.mem_of_getElem? (i := 1) rfl)) (fun _ h9 => h9) rfl dX13_expression_217 ?_
    refine lv_iconst (v := 1) hx hb dX13_expression_220 (by decide) ?_
    refine lv_isub hx hb dX13_expression_221 ?_
    refine va_put (D := (dC, dI)) (ci := 14) (v := .int ((sI s0 24) - 1)) (ty := .int) (C := RX13) (T := TX13) (N := 37) hx hb hts hi_dm_X13_expression_X13 tyX13 tyX13_ok nmX13 hown hK hP hD hS 0 rfl rfl 35 (by decide) (hts (.fieldLink RX13 464 "TimeMachineModel$Assembler" "signs" "I") (List.mem_of_getElem? (i := 1) rfl)) (fun _ h9 => h9) rfl (by decide +kernel) rfl rfl (Nat.le_of_ble_eq_true rfl) dX13_expression_222 (fun H locs hP hD hS => ?_)
    obtain ⟨s40, es40, h⟩ := nd_let_e h
    have hP : va_P (dC, dI) vwCl (dw_X13 a ac s40) H := by rw [es40]; exact hP
    have hD : va_D A (dw_X13 a ac s40) := by rw [es40]; exact hD
    obtain ⟨z41, ez41, h⟩ := nd_let_e h
    refine lv_iinc (v := z41) (lv' := [(1, .int z41), (0, .ref (a 0)), (2, .int x2), (3, .int x3)]) hx hb dX13_expression_225 hl (k := 1) rfl (by rw [ez41]) (by decide) rfl (fun ls hl => ?_)
    refine lv_aload_n hx hb dX13_expression_228 rfl (lv_at hl 1 rfl) ?_
    obtain ⟨s43, hq, h⟩ := nd_b1_e h
    have hPc := hP
    have hDc := hD
    have hKc := hK
    have hFc := nd_rs hD hS hA
    refine nd_cVv (As := []) (rest := []) (w' := dw_X13 a ac s43) ⟨hx, hb, hml, hown, hts⟩ (fun sz => dm_X13_bind l hlt dC dI a ac n  s40 hq sz) (cwV 0 hts gi_dm_X13_expression_4 rfl rfl rfl (by decide +kernel) ⟨Nat.le_of_ble_eq_true rfl, Nat.le_of_ble_eq_true rfl⟩) hPc hDc hKc hS hA hN (va_recv hKc hPc (ci := 14) (q0 := 0) rfl rfl) rfl hl.1 rfl (Nat.le_of_ble_eq_true rfl) dX13_expression_229 (fun H locs hP1 hD1 hk1 hS => ?_)
    have hP := hP1
    have hD := hD1.weaken (fun k q _ h => hFc q.1 h)
    refine lv_goto (tgt := 252) hx hb dX13_expression_232 (by decide) ?_
    exact (db_X13_expression_252 C K J33) (z41) (x2) (x3) s43 _ _ _ h hP hD hS (lv_sub hl [1, 0, 2, 3] rfl)
  · have h := nd_neg h c39
    refine lv_aload_n hx hb dX13_expression_208 rfl (lv_at hl 0 rfl) ?_
    obtain ⟨s46, hq, h⟩ := nd_b1_e h
    have hPc := hP
    have hDc := hD
    have hKc := hK
    have hFc := nd_rs hD hS hA
    refine nd_cVv (As := []) (rest := []) (w' := dw_X13 a ac s46) ⟨hx, hb, hml, hown, hts⟩ (fun sz => dm_X13_join l hlt dC dI a ac n  s0 hq sz) (cwV 0 hts gi_dm_X13_expression_1 rfl rfl rfl (by decide +kernel) ⟨Nat.le_of_ble_eq_true rfl, Nat.le_of_ble_eq_true rfl⟩) hPc hDc hKc hS hA hN (va_recv hKc hPc (ci := 14) (q0 := 0) rfl rfl) rfl hl.1 rfl (Nat.le_of_ble_eq_true rfl) dX13_expression_209 (fun H locs hP1 hD1 hk1 hS => ?_)
    have hP := hP1
    have hD := hD1.weaken (fun k q _ h => hFc q.1 h)
    refine lv_goto (tgt := 193) hx hb dX13_expression_212 (by decide) ?_
    exact (J193) (x1) (x2) (x3) s46 _ _ _ h hP hD hS (lv_sub hl [0, 1, 2, 3] rfl)
set_option maxHeartbeats 40000000 in
set_option maxRecDepth 100000 in
theorem db_X13_expression_193 {p : Program} {l : Launch} {e : Env} {s : State} {m : MethodId} {args : Array Value} {below : List Frame} {meth : Method} {c : Code} {Q : State → Prop} {A : Nat → Prop} {dC : Nat → ClassId} {dI : Nat → Nat → Nat} {a : Nat → Nat} {ac : Nat → ClassId} {n : Nat} {r : Int32 × (St)} (C : nd_C p l s m args c A (dC, dI) cX13_expression 6 RX13 ow_dm_X13_expression (dk_X13 ac)) (K : nd_Ki p l e (headSpec ow_dm_X13_expression ({ frames := 7, cells := 0, slots := 0, locals := 157 })).room s m args below meth c Q A (dC, dI) cX13_expression .int (St) (dw_X13 a ac) r) {g33 : Int32 → Int32 → Int32 → (St) → Option (Int32 × (St))} (J33 : dj_X13_expression_33 p l e s m args below meth c Q A dC dI a ac g33 r) (k : Nat) : dj_X13_expression_193 p l e s m args below meth c Q A dC dI a ac (df_X13_expression_193 n g33 k) r := by
  induction k with
  | zero => intro x1 x2 x3 s0 H locs ls h; exact nomatch (show (none : Option (Int32 × (St))) = some r from h)
  | succ k ih => exact dB_X13_expression_193 C K J33 ih
set_option maxHeartbeats 40000000 in
set_option maxRecDepth 100000 in
theorem db_X13_expression_180 {p : Program} {l : Launch} {e : Env} {s : State} {m : MethodId} {args : Array Value} {below : List Frame} {meth : Method} {c : Code} {Q : State → Prop} {A : Nat → Prop} {dC : Nat → ClassId} {dI : Nat → Nat → Nat} {a : Nat → Nat} {ac : Nat → ClassId} {n : Nat} {r : Int32 × (St)} (C : nd_C p l s m args c A (dC, dI) cX13_expression 6 RX13 ow_dm_X13_expression (dk_X13 ac)) (K : nd_Ki p l e (headSpec ow_dm_X13_expression ({ frames := 7, cells := 0, slots := 0, locals := 157 })).room s m args below meth c Q A (dC, dI) cX13_expression .int (St) (dw_X13 a ac) r) {g33 : Int32 → Int32 → Int32 → (St) → Option (Int32 × (St))} (J33 : dj_X13_expression_33 p l e s m args below meth c Q A dC dI a ac g33 r) : dj_X13_expression_180 p l e s m args below meth c Q A dC dI a ac (df_X13_expression_180 n g33) r := by
  obtain ⟨hlt, hx, hb, hml, hown, hts, hN, hA, hK⟩ := id C
  intro x1 x2 x3 x4 s0 H locs ls h hP hD hS hl
  unfold df_X13_expression_180 at h
  refine lv_aload_n hx hb dX13_expression_180 rfl (lv_at hl 0 rfl) ?_
  refine va_get (D := (dC, dI)) (ci := 14) (v := .int (sI s0 8)) (C := RX13) (T := TX13) (N := 37) hx hb hts hi_dm_X13_expression_X13 hown hK hP 0 rfl rfl 17 (by decide) (hts (.fieldLink RX13 365 "TimeMachineModel$Assembler" "token" "I") (List.mem_of_getElem? (i := 21) rfl)) (fun _ h9 => h9) rfl dX13_expression_181 ?_
  refine lv_bipush (v := 41) hx hb dX13_expression_184 (by decide) ?_
  refine lv_icmp_ne (tgt := 235) hx hb dX13_expression_186 (by decide) (fun c31 => ?_) (fun c31 => ?_)
  · have h := nd_neg h c31
    exact (db_X13_expression_235 C K J33) (x1) (x2) (x4) s0 _ _ _ h hP hD hS (lv_sub hl [0, 1, 2, 4] rfl)
  · have h := nd_pos h c31
    refine lv_iload_n hx hb dX13_expression_189 rfl (lv_at hl 1 rfl) ?_
    refine lv_if_le (tgt := 235) hx hb dX13_expression_190 (by decide) (fun c37 => ?_) (fun c37 => ?_)
    · have h := nd_pos h c37
      exact (db_X13_expression_235 C K J33) (x1) (x2) (x4) s0 _ _ _ h hP hD hS (lv_sub hl [0, 1, 2, 4] rfl)
    · have h := nd_neg h c37
      exact (db_X13_expression_193 C K J33 n) (x1) (x2) (x3) s0 _ _ _ h hP hD hS (lv_sub hl [0, 1, 2, 3] rfl)
set_option maxHeartbeats 40000000 in
set_option maxRecDepth 100000 in
theorem db_X13_expression_167 {p : Program} {l : Launch} {e : Env} {s : State} {m : MethodId} {args : Array Value} {below : List Frame} {meth : Method} {c : Code} {Q : State → Prop} {A : Nat → Prop} {dC : Nat → ClassId} {dI : Nat → Nat → Nat} {a : Nat → Nat} {ac : Nat → ClassId} {n : Nat} {r : Int32 × (St)} (C : nd_C p l s m args c A (dC, dI) cX13_expression 6 RX13 ow_dm_X13_expression (dk_X13 ac)) (K : nd_Ki p l e (headSpec ow_dm_X13_expression ({ frames := 7, cells := 0, slots := 0, locals := 157 })).room s m args below meth c Q A (dC, dI) cX13_expression .int (St) (dw_X13 a ac) r) {g33 : Int32 → Int32 → Int32 → (St) → Option (Int32 × (St))} (J33 : dj_X13_expression_33 p l e s m args below meth c Q A dC dI a ac g33 r) : dj_X13_expression_167 p l e s m args below meth c Q A dC dI a ac (df_X13_expression_167 n g33) r := by
  obtain ⟨hlt, hx, hb, hml, hown, hts, hN, hA, hK⟩ := id C
  intro x1 x3 s0 H locs ls h hP hD hS hl
  unfold df_X13_expression_167 at h
  refine lv_aload_n hx hb dX13_expression_167 rfl (lv_at hl 0 rfl) ?_
  refine lv_aload_n hx hb dX13_expression_168 rfl (lv_at hl 0 rfl) ?_
  refine va_get (D := (dC, dI)) (ci := 14) (v := .int (sI s0 8)) (C := RX13) (T := TX13) (N := 37) hx hb hts hi_dm_X13_expression_X13 hown hK hP 0 rfl rfl 17 (by decide) (hts (.fieldLink RX13 365 "TimeMachineModel$Assembler" "token" "I") (List.mem_of_getElem? (i := 21) rfl)) (fun _ h9 => h9) rfl dX13_expression_169 ?_
  obtain ⟨s51, hq, h⟩ := nd_b1_e h
  have hPc := hP
  have hDc := hD
  have hKc := hK
  have hFc := nd_rs hD hS hA
  refine nd_cVv (As := [.int (sI s0 8)]) (rest := []) (w' := dw_X13 a ac s51) ⟨hx, hb, hml, hown, hts⟩ (fun sz => dm_X13_sign l hlt dC dI a ac n ((sI s0 8)) s0 hq sz) (cwV 1 hts gi_dm_X13_expression_5 rfl rfl rfl (by decide +kernel) ⟨Nat.le_of_ble_eq_true rfl, Nat.le_of_ble_eq_true rfl⟩) hPc hDc hKc hS hA hN (va_recv hKc hPc (ci := 14) (q0 := 0) rfl rfl) rfl hl.1 rfl (Nat.le_of_ble_eq_true rfl) dX13_expression_172 (fun H locs hP1 hD1 hk1 hS => ?_)
  have hP := hP1
  have hD := hD1.weaken (fun k q _ h => hFc q.1 h)
  refine lv_iconst (v := 1) hx hb dX13_expression_175 (by decide) ?_
  refine lv_istore_n (lv' := [(2, .int 1), (0, .ref (a 0)), (1, .int x1), (3, .int x3)]) hx hb dX13_expression_176 rfl hl (by decide) rfl (fun ls hl => ?_)
  refine lv_goto (tgt := 252) hx hb dX13_expression_177 (by decide) ?_
  exact (db_X13_expression_252 C K J33) (x1) (1) (x3) s51 _ _ _ h hP hD hS (lv_sub hl [1, 2, 0, 3] rfl)
set_option maxHeartbeats 40000000 in
set_option maxRecDepth 100000 in
theorem dB_X13_expression_129 {p : Program} {l : Launch} {e : Env} {s : State} {m : MethodId} {args : Array Value} {below : List Frame} {meth : Method} {c : Code} {Q : State → Prop} {A : Nat → Prop} {dC : Nat → ClassId} {dI : Nat → Nat → Nat} {a : Nat → Nat} {ac : Nat → ClassId} {n : Nat} {r : Int32 × (St)} (C : nd_C p l s m args c A (dC, dI) cX13_expression 6 RX13 ow_dm_X13_expression (dk_X13 ac)) (K : nd_Ki p l e (headSpec ow_dm_X13_expression ({ frames := 7, cells := 0, slots := 0, locals := 157 })).room s m args below meth c Q A (dC, dI) cX13_expression .int (St) (dw_X13 a ac) r) {g33 : Int32 → Int32 → Int32 → (St) → Option (Int32 × (St))} (J33 : dj_X13_expression_33 p l e s m args below meth c Q A dC dI a ac g33 r) {g129 : Int32 → Int32 → (St) → Option (Int32 × (St))} (J129 : dj_X13_expression_129 p l e s m args below meth c Q A dC dI a ac g129 r) : dj_X13_expression_129 p l e s m args below meth c Q A dC dI a ac (dF_X13_expression_129 n g33 g129) r := by
  obtain ⟨hlt, hx, hb, hml, hown, hts, hN, hA, hK⟩ := id C
  intro x1 x3 s0 H locs ls h hP hD hS hl
  unfold dF_X13_expression_129 at h
  refine lv_aload_n hx hb dX13_expression_129 rfl (lv_at hl 0 rfl) ?_
  refine va_get (D := (dC, dI)) (ci := 14) (v := .int (sI s0 24)) (C := RX13) (T := TX13) (N := 37) hx hb hts hi_dm_X13_expression_X13 hown hK hP 0 rfl rfl 35 (by decide) (hts (.fieldLink RX13 464 "TimeMachineModel$Assembler" "signs" "I") (List.mem_of_getElem? (i := 1) rfl)) (fun _ h9 => h9) rfl dX13_expression_130 ?_
  refine lv_if_le (tgt := 167) hx hb dX13_expression_133 (by decide) (fun c49 => ?_) (fun c49 => ?_)
  · have h := nd_pos h c49
    exact (db_X13_expression_167 C K J33) (x1) (x3) s0 _ _ _ h hP hD hS (lv_sub hl [0, 1, 2] rfl)
  · have h := nd_neg h c49
    refine lv_aload_n hx hb dX13_expression_136 rfl (lv_at hl 0 rfl) ?_
    refine va_get (D := (dC, dI)) (ci := 14) (v := .ref (a 10)) (C := RX13) (T := TX13) (N := 37) hx hb hts hi_dm_X13_expression_X13 hown hK hP 0 rfl rfl 34 (by decide) (hts (.fieldLink RX13 344 "TimeMachineModel$Assembler" "pile" "[I") (List.mem_of_getElem? (i := 13) rfl)) (fun _ h9 => h9) rfl dX13_expression_137 ?_
    refine lv_aload_n hx hb dX13_expression_140 rfl (lv_at hl 0 rfl) ?_
    refine va_get (D := (dC, dI)) (ci := 14) (v := .int (sI s0 24)) (C := RX13) (T := TX13) (N := 37) hx hb hts hi_dm_X13_expression_X13 hown hK hP 0 rfl rfl 35 (by decide) (hts (.fieldLink RX13 464 "TimeMachineModel$Assembler" "signs" "I") (List.mem_of_getElem? (i := 1) rfl)) (fun _ h9 => h9) rfl dX13_expression_141 ?_
    refine lv_iconst (v := 1) hx hb dX13_expression_144 (by decide) ?_
    refine lv_isub hx hb dX13_expression_145 ?_
    obtain ⟨i53, h⟩ := nd_ck_e h
    refine va_iald (i := ((sI s0 24) - 1)) hx hb hK hP 10 9 rfl rfl i53 dX13_expression_146 ?_
    obtain ⟨q54, s55, hq, h⟩ := nd_b2_e h
    have hPc : va_P (dC, dI) vwCl (dw_P a ac ()) H := nd_p0
    have hDc : va_D A (dw_P a ac ()) := nd_d0
    have hKc : va_K (dC, dI) vwCl (dk_P ac) s := nd_y0 hK
    have hFc : ∀ q, va_A (dw_P a ac ()) H.size q → A q := nd_r0 hS hA
    refine nd_cSi (As := [.int (sR s0 8 (Int32.toNatClampNeg ((sI s0 24) - 1)))]) (rest := []) (q := q54) (w' := dw_P a ac s55) ⟨hx, hb, hml, hown, hts⟩ (fun sz => dm_X13_rank l hlt dC dI a ac n ((sR s0 8 (Int32.toNatClampNeg ((sI s0 24) - 1)))) () hq sz) (cwS 1 hts gi_dm_X13_expression_3 rfl rfl rfl (by decide +kernel) ⟨Nat.le_of_ble_eq_true rfl, Nat.le_of_ble_eq_true rfl⟩) hPc hDc hKc hS hA hN rfl hl.1 rfl (Nat.le_of_ble_eq_true rfl) dX13_expression_147 (fun H locs hP1 hD1 hk1 hS => ?_)
    have hP := nd_n0 hP hk1
    refine lv_aload_n hx hb dX13_expression_150 rfl (lv_at hl 0 rfl) ?_
    refine va_get (D := (dC, dI)) (ci := 14) (v := .int (sI s0 8)) (C := RX13) (T := TX13) (N := 37) hx hb hts hi_dm_X13_expression_X13 hown hK hP 0 rfl rfl 17 (by decide) (hts (.fieldLink RX13 365 "TimeMachineModel$Assembler" "token" "I") (List.mem_of_getElem? (i := 21) rfl)) (fun _ h9 => h9) rfl dX13_expression_151 ?_
    obtain ⟨q57, s58, hq, h⟩ := nd_b2_e h
    have hPc : va_P (dC, dI) vwCl (dw_P a ac ()) H := nd_p0
    have hDc : va_D A (dw_P a ac ()) := nd_d0
    have hKc : va_K (dC, dI) vwCl (dk_P ac) s := nd_y0 hK
    have hFc : ∀ q, va_A (dw_P a ac ()) H.size q → A q := nd_r0 hS hA
    refine nd_cSi (As := [.int (sI s0 8)]) (rest := [.int q54]) (q := q57) (w' := dw_P a ac s58) ⟨hx, hb, hml, hown, hts⟩ (fun sz => dm_X13_rank l hlt dC dI a ac n ((sI s0 8)) () hq sz) (cwS 1 hts gi_dm_X13_expression_3 rfl rfl rfl (by decide +kernel) ⟨Nat.le_of_ble_eq_true rfl, Nat.le_of_ble_eq_true rfl⟩) hPc hDc hKc hS hA hN rfl hl.1 rfl (Nat.le_of_ble_eq_true rfl) dX13_expression_154 (fun H locs hP1 hD1 hk1 hS => ?_)
    have hP := nd_n0 hP hk1
    refine lv_icmp_lt (tgt := 167) hx hb dX13_expression_157 (by decide) (fun c60 => ?_) (fun c60 => ?_)
    · have h := nd_pos h c60
      exact (db_X13_expression_167 C K J33) (x1) (x3) s0 _ _ _ h hP hD hS (lv_sub hl [0, 1, 2] rfl)
    · have h := nd_neg h c60
      refine lv_aload_n hx hb dX13_expression_160 rfl (lv_at hl 0 rfl) ?_
      obtain ⟨s62, hq, h⟩ := nd_b1_e h
      have hPc := hP
      have hDc := hD
      have hKc := hK
      have hFc := nd_rs hD hS hA
      refine nd_cVv (As := []) (rest := []) (w' := dw_X13 a ac s62) ⟨hx, hb, hml, hown, hts⟩ (fun sz => dm_X13_join l hlt dC dI a ac n  s0 hq sz) (cwV 0 hts gi_dm_X13_expression_1 rfl rfl rfl (by decide +kernel) ⟨Nat.le_of_ble_eq_true rfl, Nat.le_of_ble_eq_true rfl⟩) hPc hDc hKc hS hA hN (va_recv hKc hPc (ci := 14) (q0 := 0) rfl rfl) rfl hl.1 rfl (Nat.le_of_ble_eq_true rfl) dX13_expression_161 (fun H locs hP1 hD1 hk1 hS => ?_)
      have hP := hP1
      have hD := hD1.weaken (fun k q _ h => hFc q.1 h)
      refine lv_goto (tgt := 129) hx hb dX13_expression_164 (by decide) ?_
      exact (J129) (x1) (x3) s62 _ _ _ h hP hD hS (lv_sub hl [0, 1, 2] rfl)
set_option maxHeartbeats 40000000 in
set_option maxRecDepth 100000 in
theorem db_X13_expression_129 {p : Program} {l : Launch} {e : Env} {s : State} {m : MethodId} {args : Array Value} {below : List Frame} {meth : Method} {c : Code} {Q : State → Prop} {A : Nat → Prop} {dC : Nat → ClassId} {dI : Nat → Nat → Nat} {a : Nat → Nat} {ac : Nat → ClassId} {n : Nat} {r : Int32 × (St)} (C : nd_C p l s m args c A (dC, dI) cX13_expression 6 RX13 ow_dm_X13_expression (dk_X13 ac)) (K : nd_Ki p l e (headSpec ow_dm_X13_expression ({ frames := 7, cells := 0, slots := 0, locals := 157 })).room s m args below meth c Q A (dC, dI) cX13_expression .int (St) (dw_X13 a ac) r) {g33 : Int32 → Int32 → Int32 → (St) → Option (Int32 × (St))} (J33 : dj_X13_expression_33 p l e s m args below meth c Q A dC dI a ac g33 r) (k : Nat) : dj_X13_expression_129 p l e s m args below meth c Q A dC dI a ac (df_X13_expression_129 n g33 k) r := by
  induction k with
  | zero => intro x1 x3 s0 H locs ls h; exact nomatch (show (none : Option (Int32 × (St))) = some r from h)
  | succ k ih => exact dB_X13_expression_129 C K J33 ih
set_option maxHeartbeats 40000000 in
set_option maxRecDepth 100000 in
theorem db_X13_expression_108 {p : Program} {l : Launch} {e : Env} {s : State} {m : MethodId} {args : Array Value} {below : List Frame} {meth : Method} {c : Code} {Q : State → Prop} {A : Nat → Prop} {dC : Nat → ClassId} {dI : Nat → Nat → Nat} {a : Nat → Nat} {ac : Nat → ClassId} {n : Nat} {r : Int32 × (St)} (C : nd_C p l s m args c A (dC, dI) cX13_expression 6 RX13 ow_dm_X13_expression (dk_X13 ac)) (K : nd_Ki p l e (headSpec ow_dm_X13_expression ({ frames := 7, cells := 0, slots := 0, locals := 157 })).room s m args below meth c Q A (dC, dI) cX13_expression .int (St) (dw_X13 a ac) r) {g33 : Int32 → Int32 → Int32 → (St) → Option (Int32 × (St))} (J33 : dj_X13_expression_33 p l e s m args below meth c Q A dC dI a ac g33 r) : dj_X13_expression_108 p l e s m args below meth c Q A dC dI a ac (df_X13_expression_108 n g33) r := by
  obtain ⟨hlt, hx, hb, hml, hown, hts, hN, hA, hK⟩ := id C
  intro x2 x3 y0 s0 H locs ls h hP hD hS hl
  unfold df_X13_expression_108 at h
  refine lv_istore_n (lv' := [(1, .int y0), (0, .ref (a 0)), (2, .int x2), (3, .int x3)]) hx hb dX13_expression_108 rfl hl (by decide) rfl (fun ls hl => ?_)
  refine lv_goto (tgt := 252) hx hb dX13_expression_109 (by decide) ?_
  exact (db_X13_expression_252 C K J33) (y0) (x2) (x3) s0 _ _ _ h hP hD hS (lv_sub hl [1, 0, 2, 3] rfl)
set_option maxHeartbeats 40000000 in
set_option maxRecDepth 100000 in
theorem db_X13_expression_95 {p : Program} {l : Launch} {e : Env} {s : State} {m : MethodId} {args : Array Value} {below : List Frame} {meth : Method} {c : Code} {Q : State → Prop} {A : Nat → Prop} {dC : Nat → ClassId} {dI : Nat → Nat → Nat} {a : Nat → Nat} {ac : Nat → ClassId} {n : Nat} {r : Int32 × (St)} (C : nd_C p l s m args c A (dC, dI) cX13_expression 6 RX13 ow_dm_X13_expression (dk_X13 ac)) (K : nd_Ki p l e (headSpec ow_dm_X13_expression ({ frames := 7, cells := 0, slots := 0, locals := 157 })).room s m args below meth c Q A (dC, dI) cX13_expression .int (St) (dw_X13 a ac) r) {g33 : Int32 → Int32 → Int32 → (St) → Option (Int32 × (St))} (J33 : dj_X13_expression_33 p l e s m args below meth c Q A dC dI a ac g33 r) : dj_X13_expression_95 p l e s m args below meth c Q A dC dI a ac (df_X13_expression_95 n g33) r := by
  obtain ⟨hlt, hx, hb, hml, hown, hts, hN, hA, hK⟩ := id C
  intro x1 x3 x5 y0 s0 H locs ls h hP hD hS hl
  unfold df_X13_expression_95 at h
  refine lv_istore_n (lv' := [(2, .int y0), (0, .ref (a 0)), (1, .int x1), (3, .int x3), (5, .int x5)]) hx hb dX13_expression_95 rfl hl (by decide) rfl (fun ls hl => ?_)
  refine lv_iload hx hb dX13_expression_96 (lv_at hl 4 rfl) ?_
  refine lv_if_eq (tgt := 107) hx hb dX13_expression_98 (by decide) (fun c69 => ?_) (fun c69 => ?_)
  · have h := nd_pos h c69
    refine lv_iload_n hx hb dX13_expression_107 rfl (lv_at hl 2 rfl) ?_
    exact (db_X13_expression_108 C K J33) (y0) (x3) (x1) s0 _ _ _ h hP hD hS (lv_sub hl [1, 0, 3] rfl)
  · have h := nd_neg h c69
    refine lv_iload_n hx hb dX13_expression_101 rfl (lv_at hl 2 rfl) ?_
    refine lv_iconst (v := 1) hx hb dX13_expression_102 (by decide) ?_
    refine lv_iadd hx hb dX13_expression_103 ?_
    refine lv_goto (tgt := 108) hx hb dX13_expression_104 (by decide) ?_
    exact (db_X13_expression_108 C K J33) (y0) (x3) ((x1 + 1)) s0 _ _ _ h hP hD hS (lv_sub hl [1, 0, 3] rfl)
set_option maxHeartbeats 40000000 in
set_option maxRecDepth 100000 in
theorem db_X13_expression_81 {p : Program} {l : Launch} {e : Env} {s : State} {m : MethodId} {args : Array Value} {below : List Frame} {meth : Method} {c : Code} {Q : State → Prop} {A : Nat → Prop} {dC : Nat → ClassId} {dI : Nat → Nat → Nat} {a : Nat → Nat} {ac : Nat → ClassId} {n : Nat} {r : Int32 × (St)} (C : nd_C p l s m args c A (dC, dI) cX13_expression 6 RX13 ow_dm_X13_expression (dk_X13 ac)) (K : nd_Ki p l e (headSpec ow_dm_X13_expression ({ frames := 7, cells := 0, slots := 0, locals := 157 })).room s m args below meth c Q A (dC, dI) cX13_expression .int (St) (dw_X13 a ac) r) {g33 : Int32 → Int32 → Int32 → (St) → Option (Int32 × (St))} (J33 : dj_X13_expression_33 p l e s m args below meth c Q A dC dI a ac g33 r) : dj_X13_expression_81 p l e s m args below meth c Q A dC dI a ac (df_X13_expression_81 n g33) r := by
  obtain ⟨hlt, hx, hb, hml, hown, hts, hN, hA, hK⟩ := id C
  intro x1 x3 y0 s0 H locs ls h hP hD hS hl
  unfold df_X13_expression_81 at h
  refine lv_istore (lv' := [(5, .int y0), (0, .ref (a 0)), (1, .int x1), (3, .int x3)]) hx hb dX13_expression_81 hl (by decide) rfl (fun ls hl => ?_)
  refine lv_aload_n hx hb dX13_expression_83 rfl (lv_at hl 1 rfl) ?_
  obtain ⟨q65, s66, hq, h⟩ := nd_b2_e h
  have hPc := hP
  have hDc := hD
  have hKc := hK
  have hFc := nd_rs hD hS hA
  refine nd_cVi (As := []) (rest := []) (q := q65) (w' := dw_X13 a ac s66) ⟨hx, hb, hml, hown, hts⟩ (fun sz => dm_X13_operand l hlt dC dI a ac n  s0 hq sz) (cwV 0 hts gi_dm_X13_expression_6 rfl rfl rfl (by decide +kernel) ⟨Nat.le_of_ble_eq_true rfl, Nat.le_of_ble_eq_true rfl⟩) hPc hDc hKc hS hA hN (va_recv hKc hPc (ci := 14) (q0 := 0) rfl rfl) rfl hl.1 rfl (Nat.le_of_ble_eq_true rfl) dX13_expression_84 (fun H locs hP1 hD1 hk1 hS => ?_)
  have hP := hP1
  have hD := hD1.weaken (fun k q _ h => hFc q.1 h)
  refine lv_if_ne (tgt := 94) hx hb dX13_expression_87 (by decide) (fun c68 => ?_) (fun c68 => ?_)
  · have h := nd_neg h c68
    refine lv_iconst (v := 0) hx hb dX13_expression_94 (by decide) ?_
    exact (db_X13_expression_95 C K J33) (x1) (x3) (y0) (0) s66 _ _ _ h hP hD hS (lv_sub hl [1, 2, 3, 0] rfl)
  · have h := nd_pos h c68
    refine lv_iconst (v := 1) hx hb dX13_expression_90 (by decide) ?_
    refine lv_goto (tgt := 95) hx hb dX13_expression_91 (by decide) ?_
    exact (db_X13_expression_95 C K J33) (x1) (x3) (y0) (1) s66 _ _ _ h hP hD hS (lv_sub hl [1, 2, 3, 0] rfl)
set_option maxHeartbeats 40000000 in
set_option maxRecDepth 100000 in
theorem db_X13_expression_76 {p : Program} {l : Launch} {e : Env} {s : State} {m : MethodId} {args : Array Value} {below : List Frame} {meth : Method} {c : Code} {Q : State → Prop} {A : Nat → Prop} {dC : Nat → ClassId} {dI : Nat → Nat → Nat} {a : Nat → Nat} {ac : Nat → ClassId} {n : Nat} {r : Int32 × (St)} (C : nd_C p l s m args c A (dC, dI) cX13_expression 6 RX13 ow_dm_X13_expression (dk_X13 ac)) (K : nd_Ki p l e (headSpec ow_dm_X13_expression ({ frames := 7, cells := 0, slots := 0, locals := 157 })).room s m args below meth c Q A (dC, dI) cX13_expression .int (St) (dw_X13 a ac) r) {g33 : Int32 → Int32 → Int32 → (St) → Option (Int32 × (St))} (J33 : dj_X13_expression_33 p l e s m args below meth c Q A dC dI a ac g33 r) : dj_X13_expression_76 p l e s m args below meth c Q A dC dI a ac (df_X13_expression_76 n g33) r := by
  obtain ⟨hlt, hx, hb, hml, hown, hts, hN, hA, hK⟩ := id C
  intro x1 x3 s0 H locs ls h hP hD hS hl
  unfold df_X13_expression_76 at h
  refine lv_iconst (v := 1) hx hb dX13_expression_76 (by decide) ?_
  refine lv_goto (tgt := 81) hx hb dX13_expression_77 (by decide) ?_
  exact (db_X13_expression_81 C K J33) (x1) (x3) (1) s0 _ _ _ h hP hD hS (lv_sub hl [0, 1, 2] rfl)
set_option maxHeartbeats 40000000 in
set_option maxRecDepth 100000 in
theorem dB_X13_expression_33 {p : Program} {l : Launch} {e : Env} {s : State} {m : MethodId} {args : Array Value} {below : List Frame} {meth : Method} {c : Code} {Q : State → Prop} {A : Nat → Prop} {dC : Nat → ClassId} {dI : Nat → Nat → Nat} {a : Nat → Nat} {ac : Nat → ClassId} {n : Nat} {r : Int32 × (St)} (C : nd_C p l s m args c A (dC, dI) cX13_expression 6 RX13 ow_dm_X13_expression (dk_X13 ac)) (K : nd_Ki p l e (headSpec ow_dm_X13_expression ({ frames := 7, cells := 0, slots := 0, locals := 157 })).room s m args below meth c Q A (dC, dI) cX13_expression .int (St) (dw_X13 a ac) r) {g33 : Int32 → Int32 → Int32 → (St) → Option (Int32 × (St))} (J33 : dj_X13_expression_33 p l e s m args below meth c Q A dC dI a ac g33 r) : dj_X13_expression_33 p l e s m args below meth c Q A dC dI a ac (dF_X13_expression_33 n g33) r := by
  obtain ⟨hlt, hx, hb, hml, hown, hts, hN, hA, hK⟩ := id C
  intro x1 x2 x3 s0 H locs ls h hP hD hS hl
  unfold dF_X13_expression_33 at h
  refine lv_iload_n hx hb dX13_expression_33 rfl (lv_at hl 3 rfl) ?_
  refine lv_if_eq (tgt := 255) hx hb dX13_expression_34 (by decide) (fun c6 => ?_) (fun c6 => ?_)
  · have h := nd_pos h c6
    exact (db_X13_expression_255 C K n)  s0 _ _ _ h hP hD hS (lv_sub hl [0] rfl)
  · have h := nd_neg h c6
    refine lv_aload_n hx hb dX13_expression_37 rfl (lv_at hl 0 rfl) ?_
    refine va_get (D := (dC, dI)) (ci := 14) (v := .int (sI s0 12)) (C := RX13) (T := TX13) (N := 37) hx hb hts hi_dm_X13_expression_X13 hown hK hP 0 rfl rfl 21 (by decide) (hts (.fieldLink RX13 410 "TimeMachineModel$Assembler" "fault" "I") (List.mem_of_getElem? (i := 7) rfl)) (fun _ h9 => h9) rfl dX13_expression_38 ?_
    refine lv_if_ne (tgt := 255) hx hb dX13_expression_41 (by decide) (fun c21 => ?_) (fun c21 => ?_)
    · have h := nd_neg h c21
      exact (db_X13_expression_255 C K n)  s0 _ _ _ h hP hD hS (lv_sub hl [0] rfl)
    · have h := nd_pos h c21
      refine lv_aload_n hx hb dX13_expression_44 rfl (lv_at hl 0 rfl) ?_
      refine va_get (D := (dC, dI)) (ci := 14) (v := .int (sI s0 7)) (C := RX13) (T := TX13) (N := 37) hx hb hts hi_dm_X13_expression_X13 hown hK hP 0 rfl rfl 16 (by decide) (hts (.fieldLink RX13 374 "TimeMachineModel$Assembler" "at" "I") (List.mem_of_getElem? (i := 17) rfl)) (fun _ h9 => h9) rfl dX13_expression_45 ?_
      refine lv_topi (fun z22 ez22 => ?_)
      have h := nd_at h ez22
      refine lv_istore (lv' := [(4, .int z22), (0, .ref (a 0)), (1, .int x1), (2, .int x2), (3, .int x3)]) hx hb dX13_expression_48 hl (by decide) rfl (fun ls hl => ?_)
      refine lv_aload_n hx hb dX13_expression_50 rfl (lv_at hl 1 rfl) ?_
      obtain ⟨s24, hq, h⟩ := nd_b1_e h
      have hPc := hP
      have hDc := hD
      have hKc := hK
      have hFc := nd_rs hD hS hA
      refine nd_cVv (As := []) (rest := []) (w' := dw_X13 a ac s24) ⟨hx, hb, hml, hown, hts⟩ (fun sz => dm_X13_scan l hlt dC dI a ac n  s0 hq sz) (cwV 0 hts gi_dm_X13_expression_2 rfl rfl rfl (by decide +kernel) ⟨Nat.le_of_ble_eq_true rfl, Nat.le_of_ble_eq_true rfl⟩) hPc hDc hKc hS hA hN (va_recv hKc hPc (ci := 14) (q0 := 0) rfl rfl) rfl hl.1 rfl (Nat.le_of_ble_eq_true rfl) dX13_expression_51 (fun H locs hP1 hD1 hk1 hS => ?_)
      have hP := hP1
      have hD := hD1.weaken (fun k q _ h => hFc q.1 h)
      refine lv_iload_n hx hb dX13_expression_54 rfl (lv_at hl 3 rfl) ?_
      refine lv_if_eq (tgt := 112) hx hb dX13_expression_55 (by decide) (fun c26 => ?_) (fun c26 => ?_)
      · have h := nd_pos h c26
        refine lv_aload_n hx hb dX13_expression_112 rfl (lv_at hl 1 rfl) ?_
        refine va_get (D := (dC, dI)) (ci := 14) (v := .int (sI s24 8)) (C := RX13) (T := TX13) (N := 37) hx hb hts hi_dm_X13_expression_X13 hown hK hP 0 rfl rfl 17 (by decide) (hts (.fieldLink RX13 365 "TimeMachineModel$Assembler" "token" "I") (List.mem_of_getElem? (i := 21) rfl)) (fun _ h9 => h9) rfl dX13_expression_113 ?_
        obtain ⟨q27, s28, hq, h⟩ := nd_b2_e h
        have hPc : va_P (dC, dI) vwCl (dw_P a ac ()) H := nd_p0
        have hDc : va_D A (dw_P a ac ()) := nd_d0
        have hKc : va_K (dC, dI) vwCl (dk_P ac) s := nd_y0 hK
        have hFc : ∀ q, va_A (dw_P a ac ()) H.size q → A q := nd_r0 hS hA
        refine nd_cSi (As := [.int (sI s24 8)]) (rest := []) (q := q27) (w' := dw_P a ac s28) ⟨hx, hb, hml, hown, hts⟩ (fun sz => dm_X13_rank l hlt dC dI a ac n ((sI s24 8)) () hq sz) (cwS 1 hts gi_dm_X13_expression_3 rfl rfl rfl (by decide +kernel) ⟨Nat.le_of_ble_eq_true rfl, Nat.le_of_ble_eq_true rfl⟩) hPc hDc hKc hS hA hN rfl hl.1 rfl (Nat.le_of_ble_eq_true rfl) dX13_expression_116 (fun H locs hP1 hD1 hk1 hS => ?_)
        have hP := nd_n0 hP hk1
        refine lv_if_le (tgt := 180) hx hb dX13_expression_119 (by decide) (fun c30 => ?_) (fun c30 => ?_)
        · have h := nd_pos h c30
          exact (db_X13_expression_180 C K J33) (x1) (x2) (x3) (z22) s24 _ _ _ h hP hD hS (lv_sub hl [1, 2, 3, 4, 0] rfl)
        · have h := nd_neg h c30
          refine lv_aload_n hx hb dX13_expression_122 rfl (lv_at hl 1 rfl) ?_
          refine va_get (D := (dC, dI)) (ci := 14) (v := .int (sI s24 8)) (C := RX13) (T := TX13) (N := 37) hx hb hts hi_dm_X13_expression_X13 hown hK hP 0 rfl rfl 17 (by decide) (hts (.fieldLink RX13 365 "TimeMachineModel$Assembler" "token" "I") (List.mem_of_getElem? (i := 21) rfl)) (fun _ h9 => h9) rfl dX13_expression_123 ?_
          refine lv_if_eq (tgt := 180) hx hb dX13_expression_126 (by decide) (fun c48 => ?_) (fun c48 => ?_)
          · have h := nd_pos h c48
            exact (db_X13_expression_180 C K J33) (x1) (x2) (x3) (z22) s24 _ _ _ h hP hD hS (lv_sub hl [1, 2, 3, 4, 0] rfl)
          · have h := nd_neg h c48
            exact (db_X13_expression_129 C K J33 n) (x1) (x3) s24 _ _ _ h hP hD hS (lv_sub hl [1, 2, 4] rfl)
      · have h := nd_neg h c26
        refine lv_aload_n hx hb dX13_expression_58 rfl (lv_at hl 1 rfl) ?_
        refine va_get (D := (dC, dI)) (ci := 14) (v := .int (sI s24 8)) (C := RX13) (T := TX13) (N := 37) hx hb hts hi_dm_X13_expression_X13 hown hK hP 0 rfl rfl 17 (by decide) (hts (.fieldLink RX13 365 "TimeMachineModel$Assembler" "token" "I") (List.mem_of_getElem? (i := 21) rfl)) (fun _ h9 => h9) rfl dX13_expression_59 ?_
        refine lv_bipush (v := 40) hx hb dX13_expression_62 (by decide) ?_
        refine lv_icmp_eq (tgt := 76) hx hb dX13_expression_64 (by decide) (fun c64 => ?_) (fun c64 => ?_)
        · have h := nd_pos h c64
          exact (db_X13_expression_76 C K J33) (x1) (x3) s24 _ _ _ h hP hD hS (lv_sub hl [1, 2, 4] rfl)
        · have h := nd_neg h c64
          refine lv_aload_n hx hb dX13_expression_67 rfl (lv_at hl 1 rfl) ?_
          refine va_get (D := (dC, dI)) (ci := 14) (v := .int (sI s24 8)) (C := RX13) (T := TX13) (N := 37) hx hb hts hi_dm_X13_expression_X13 hown hK hP 0 rfl rfl 17 (by decide) (hts (.fieldLink RX13 365 "TimeMachineModel$Assembler" "token" "I") (List.mem_of_getElem? (i := 21) rfl)) (fun _ h9 => h9) rfl dX13_expression_68 ?_
          refine lv_bipush (v := 37) hx hb dX13_expression_71 (by decide) ?_
          refine lv_icmp_ne (tgt := 80) hx hb dX13_expression_73 (by decide) (fun c70 => ?_) (fun c70 => ?_)
          · have h := nd_neg h c70
            refine lv_iconst (v := 0) hx hb dX13_expression_80 (by decide) ?_
            exact (db_X13_expression_81 C K J33) (x1) (x3) (0) s24 _ _ _ h hP hD hS (lv_sub hl [1, 2, 4] rfl)
          · have h := nd_pos h c70
            exact (db_X13_expression_76 C K J33) (x1) (x3) s24 _ _ _ h hP hD hS (lv_sub hl [1, 2, 4] rfl)
set_option maxHeartbeats 40000000 in
set_option maxRecDepth 100000 in
theorem db_X13_expression_33 {p : Program} {l : Launch} {e : Env} {s : State} {m : MethodId} {args : Array Value} {below : List Frame} {meth : Method} {c : Code} {Q : State → Prop} {A : Nat → Prop} {dC : Nat → ClassId} {dI : Nat → Nat → Nat} {a : Nat → Nat} {ac : Nat → ClassId} {n : Nat} {r : Int32 × (St)} (C : nd_C p l s m args c A (dC, dI) cX13_expression 6 RX13 ow_dm_X13_expression (dk_X13 ac)) (K : nd_Ki p l e (headSpec ow_dm_X13_expression ({ frames := 7, cells := 0, slots := 0, locals := 157 })).room s m args below meth c Q A (dC, dI) cX13_expression .int (St) (dw_X13 a ac) r) (k : Nat) : dj_X13_expression_33 p l e s m args below meth c Q A dC dI a ac (df_X13_expression_33 n k) r := by
  induction k with
  | zero => intro x1 x2 x3 s0 H locs ls h; exact nomatch (show (none : Option (Int32 × (St))) = some r from h)
  | succ k ih => exact dB_X13_expression_33 C K ih
set_option maxHeartbeats 40000000 in
set_option maxRecDepth 100000 in
theorem db_X13_expression_0 {p : Program} {l : Launch} {e : Env} {s : State} {m : MethodId} {args : Array Value} {below : List Frame} {meth : Method} {c : Code} {Q : State → Prop} {A : Nat → Prop} {dC : Nat → ClassId} {dI : Nat → Nat → Nat} {a : Nat → Nat} {ac : Nat → ClassId} {n : Nat} {r : Int32 × (St)} (C : nd_C p l s m args c A (dC, dI) cX13_expression 6 RX13 ow_dm_X13_expression (dk_X13 ac)) (K : nd_Ki p l e (headSpec ow_dm_X13_expression ({ frames := 7, cells := 0, slots := 0, locals := 157 })).room s m args below meth c Q A (dC, dI) cX13_expression .int (St) (dw_X13 a ac) r) : dj_X13_expression_0 p l e s m args below meth c Q A dC dI a ac (df_X13_expression_0 n) r := by
  obtain ⟨hlt, hx, hb, hml, hown, hts, hN, hA, hK⟩ := id C
  intro s0 H locs ls h hP hD hS hl
  unfold df_X13_expression_0 at h
  refine lv_aload_n hx hb dX13_expression_0 rfl (lv_at hl 0 rfl) ?_
  refine lv_iconst (v := 0) hx hb dX13_expression_1 (by decide) ?_
  refine va_put (D := (dC, dI)) (ci := 14) (v := .int 0) (ty := .int) (C := RX13) (T := TX13) (N := 37) hx hb hts hi_dm_X13_expression_X13 tyX13 tyX13_ok nmX13 hown hK hP hD hS 0 rfl rfl 35 (by decide) (hts (.fieldLink RX13 464 "TimeMachineModel$Assembler" "signs" "I") (List.mem_of_getElem? (i := 1) rfl)) (fun _ h9 => h9) rfl (by decide +kernel) rfl rfl (Nat.le_of_ble_eq_true rfl) dX13_expression_2 (fun H locs hP hD hS => ?_)
  obtain ⟨s1, es1, h⟩ := nd_let_e h
  have hP : va_P (dC, dI) vwCl (dw_X13 a ac s1) H := by rw [es1]; exact hP
  have hD : va_D A (dw_X13 a ac s1) := by rw [es1]; exact hD
  refine lv_aload_n hx hb dX13_expression_5 rfl (lv_at hl 0 rfl) ?_
  refine lv_ldcw hx hb hown (hts (.constant RX13 343 (32800)) (List.mem_of_getElem? (i := 2) rfl)) dX13_expression_6 ?_
  refine va_put (D := (dC, dI)) (ci := 14) (v := .int 32800) (ty := .int) (C := RX13) (T := TX13) (N := 37) hx hb hts hi_dm_X13_expression_X13 tyX13 tyX13_ok nmX13 hown hK hP hD hS 0 rfl rfl 36 (by decide) (hts (.fieldLink RX13 467 "TimeMachineModel$Assembler" "values" "I") (List.mem_of_getElem? (i := 3) rfl)) (fun _ h9 => h9) rfl (by decide +kernel) rfl rfl (Nat.le_of_ble_eq_true rfl) dX13_expression_9 (fun H locs hP hD hS => ?_)
  obtain ⟨s2, es2, h⟩ := nd_let_e h
  have hP : va_P (dC, dI) vwCl (dw_X13 a ac s2) H := by rw [es2]; exact hP
  have hD : va_D A (dw_X13 a ac s2) := by rw [es2]; exact hD
  refine lv_aload_n hx hb dX13_expression_12 rfl (lv_at hl 0 rfl) ?_
  refine lv_iconst (v := 0) hx hb dX13_expression_13 (by decide) ?_
  refine va_put (D := (dC, dI)) (ci := 14) (v := .int 0) (ty := .boolean) (C := RX13) (T := TX13) (N := 37) hx hb hts hi_dm_X13_expression_X13 tyX13 tyX13_ok nmX13 hown hK hP hD hS 0 rfl rfl 31 (by decide) (hts (.fieldLink RX13 457 "TimeMachineModel$Assembler" "missing" "Z") (List.mem_of_getElem? (i := 4) rfl)) (fun _ h9 => h9) rfl (by decide +kernel) (by first | rfl | decide) rfl (Nat.le_of_ble_eq_true rfl) dX13_expression_14 (fun H locs hP hD hS => ?_)
  obtain ⟨s3, es3, h⟩ := nd_let_e h
  have hP : va_P (dC, dI) vwCl (dw_X13 a ac s3) H := by rw [es3]; exact hP
  have hD : va_D A (dw_X13 a ac s3) := by rw [es3]; exact hD
  refine lv_aload_n hx hb dX13_expression_17 rfl (lv_at hl 0 rfl) ?_
  refine lv_iconst (v := 0) hx hb dX13_expression_18 (by decide) ?_
  refine va_put (D := (dC, dI)) (ci := 14) (v := .int 0) (ty := .boolean) (C := RX13) (T := TX13) (N := 37) hx hb hts hi_dm_X13_expression_X13 tyX13 tyX13_ok nmX13 hown hK hP hD hS 0 rfl rfl 32 (by decide) (hts (.fieldLink RX13 470 "TimeMachineModel$Assembler" "divided" "Z") (List.mem_of_getElem? (i := 5) rfl)) (fun _ h9 => h9) rfl (by decide +kernel) (by first | rfl | decide) rfl (Nat.le_of_ble_eq_true rfl) dX13_expression_19 (fun H locs hP hD hS => ?_)
  obtain ⟨s4, es4, h⟩ := nd_let_e h
  have hP : va_P (dC, dI) vwCl (dw_X13 a ac s4) H := by rw [es4]; exact hP
  have hD : va_D A (dw_X13 a ac s4) := by rw [es4]; exact hD
  refine lv_aload_n hx hb dX13_expression_22 rfl (lv_at hl 0 rfl) ?_
  refine lv_iconst (v := 0) hx hb dX13_expression_23 (by decide) ?_
  refine va_put (D := (dC, dI)) (ci := 14) (v := .int 0) (ty := .boolean) (C := RX13) (T := TX13) (N := 37) hx hb hts hi_dm_X13_expression_X13 tyX13 tyX13_ok nmX13 hown hK hP hD hS 0 rfl rfl 33 (by decide) (hts (.fieldLink RX13 483 "TimeMachineModel$Assembler" "loose" "Z") (List.mem_of_getElem? (i := 6) rfl)) (fun _ h9 => h9) rfl (by decide +kernel) (by first | rfl | decide) rfl (Nat.le_of_ble_eq_true rfl) dX13_expression_24 (fun H locs hP hD hS => ?_)
  obtain ⟨s5, es5, h⟩ := nd_let_e h
  have hP : va_P (dC, dI) vwCl (dw_X13 a ac s5) H := by rw [es5]; exact hP
  have hD : va_D A (dw_X13 a ac s5) := by rw [es5]; exact hD
  refine lv_iconst (v := 0) hx hb dX13_expression_27 (by decide) ?_
  refine lv_istore_n (lv' := [(1, .int 0), (0, .ref (a 0))]) hx hb dX13_expression_28 rfl hl (by decide) rfl (fun ls hl => ?_)
  refine lv_iconst (v := 1) hx hb dX13_expression_29 (by decide) ?_
  refine lv_istore_n (lv' := [(2, .int 1), (1, .int 0), (0, .ref (a 0))]) hx hb dX13_expression_30 rfl hl (by decide) rfl (fun ls hl => ?_)
  refine lv_iconst (v := 1) hx hb dX13_expression_31 (by decide) ?_
  refine lv_istore_n (lv' := [(3, .int 1), (2, .int 1), (1, .int 0), (0, .ref (a 0))]) hx hb dX13_expression_32 rfl hl (by decide) rfl (fun ls hl => ?_)
  exact (db_X13_expression_33 C K n) (0) (1) (1) s5 _ _ _ h hP hD hS (lv_sub hl [3, 2, 1, 0] rfl)
set_option maxHeartbeats 40000000 in
set_option maxRecDepth 100000 in
theorem dm_X13_expression (l : Launch) (hlt : l.stackTraces = false) (dC : Nat → ClassId) (dI : Nat → Nat → Nat) (a : Nat → Nat) (ac : Nat → ClassId) (n : Nat) (s0 : St) {r : Int32 × (St)} (h : df_X13_expression n s0 = some r) (sz : Nat) : Met l yX13_expression ow_dm_X13_expression ({ frames := 7, cells := 0, slots := 0, locals := 157 }) (va_Pc [.ref (a 0)] (fun U => U.heap.size = sz ∧ va_P (dC, dI) vwCl (dw_X13 a ac s0) U.heap ∧ va_K (dC, dI) vwCl (dk_X13 ac) U ∧ va_D (fun _ => True) (dw_X13 a ac s0) ∧ nv_E (va_A (dw_X13 a ac s0) sz) U)) (va_Qi (fun x _ => x = r.1) (fun (_ : Unit) t => va_P (dC, dI) vwCl (dw_X13 a ac r.2) t.heap ∧ va_K (dC, dI) vwCl (dk_X13 ac) t ∧ va_D (va_A (dw_X13 a ac s0) sz) (dw_X13 a ac r.2)) (va_A (dw_X13 a ac s0) sz)) 0 0 (va_A (dw_X13 a ac s0) sz) := by
  refine Met.ofW (cc := cX13_expression) (maxL := 6) (ret := (some .int)) (by decide) rfl ?_
  intro p e s m args below meth c s₁ B hml hv
  obtain ⟨rfl, hsz, hP, hK, hD0, hN⟩ := hv
  have hx := B.exec
  have hb := B.bytes
  have hr := B.returns
  have hts := atoms_spec (ws := ow_dm_X13_expression) B.pre
  have hown : s.vm.findClass RX13 = some m.cls := findClass_of_methodNamed B.named
  have hlocks := B.notSynchronized
  subst hsz
  have hD := hD0.self (sz := s.heap.size)
  generalize hAe : va_A (dw_X13 a ac s0) s.heap.size = A at hD hN ⊢
  have hA : ∀ q : Nat, s.heap.size ≤ q → A q := fun q h => by rw [← hAe]; exact Or.inr h
  have hl := lv_entry ([.ref (a 0)]) (n := 6) (Nat.le_of_ble_eq_true rfl)
  rw [lg_entry_eq]
  generalize (lg_sl ([.ref (a 0)]) ++ List.replicate (6 - (lg_sl ([.ref (a 0)])).length) Slot.unset).toArray = ls at hl ⊢
  have hl : lv_has ls 6 [(0, .ref (a 0))] := hl
  exact db_X13_expression_0 (dC := dC) (dI := dI) (a := a) (ac := ac) (n := n) (r := r) ⟨hlt, hx, hb, hml, hown, hts, hN, hA, hK⟩ (fun pc v τ H locs ls d z er hP hD hS => by subst er; exact W.zret (v := v) hx hb hr z (fun t ht hW => ⟨⟨v, (), rfl, rfl, by rw [ht]; exact hP, va_K.moved hW.alike hK, hD⟩, hS.F ht⟩) hS.2.2 d) s0 _ _ _ h hP hD va_S.rf (lv_sub hl [0] rfl)
def ow_dm_X13_fits : List Cond := .code yX13_fits cX13_fits 5 none :: ([.fieldLink RX13 522 "TimeMachineModel$Assembler" "mode" "I", .methodLink RX13 419 yX13_blame, .instanceMethod yX13_blame, .selects RX13 yX13_blame yX13_blame, .initialized RX13] ++ (u_ws RX13 TX13 37 ++ (ow_dm_X13_blame ++ [])))
theorem gd_dm_X13_fits : ∀ w ∈ ow_dm_X13_fits, (w.onTables && w.keeps) = true ∨ ∃ ty, w = Cond.arrayClass ty := List.forall_mem_cons.mpr ⟨good_of_word rfl, List.forall_mem_append.mpr ⟨fun w h => good_of_word (List.all_eq_true.mp (by decide +kernel) w h), List.forall_mem_append.mpr ⟨gu_X13, List.forall_mem_append.mpr ⟨gd_dm_X13_blame, fun _ h => nomatch h⟩⟩⟩⟩
theorem hi_dm_X13_fits_X13 : ∀ w ∈ u_ws RX13 TX13 37, w ∈ ow_dm_X13_fits := fun w h => List.mem_cons_of_mem _ (List.mem_append_right _ (List.mem_append_left _ h))
theorem gi_dm_X13_fits_0 : GoodIn ow_dm_X13_fits (wsV RX13 419 RX13 yX13_blame ow_dm_X13_blame) := goodIn_app (goodIn_of _ (by decide +kernel)) (fun w h => ⟨List.mem_cons_of_mem _ (List.mem_append_right _ (List.mem_append_right _ (List.mem_append_left _ h))), gd_dm_X13_blame w h⟩)
def dj_X13_fits_31 (p : Program) (l : Launch) (e : Env) (s : State) (m : MethodId) (args : Array Value) (below : List Frame) (meth : Method) (c : Code) (Q : State → Prop) (A : Nat → Prop) (dC : Nat → ClassId) (dI : Nat → Nat → Nat) (a : Nat → Nat) (ac : Nat → ClassId) (g : (St) → Option (St)) (r : St) : Prop := ∀ (s0 : St) (H : Heap) (locs : List Loc) (ls : Array Slot), g s0 = some r → va_P (dC, dI) vwCl (dw_X13 a ac s0) H → va_D A (dw_X13 a ac s0) → va_S A s.heap H locs → lv_has ls 5 [] → W p l e (headSpec ow_dm_X13_fits ({ frames := 1, cells := 0, slots := 0, locals := 21 })).room s m args below meth c H locs 0 0 Q (F0 m 31 ls [])
def dj_X13_fits_25 (p : Program) (l : Launch) (e : Env) (s : State) (m : MethodId) (args : Array Value) (below : List Frame) (meth : Method) (c : Code) (Q : State → Prop) (A : Nat → Prop) (dC : Nat → ClassId) (dI : Nat → Nat → Nat) (a : Nat → Nat) (ac : Nat → ClassId) (g : (St) → Option (St)) (r : St) : Prop := ∀ (s0 : St) (H : Heap) (locs : List Loc) (ls : Array Slot), g s0 = some r → va_P (dC, dI) vwCl (dw_X13 a ac s0) H → va_D A (dw_X13 a ac s0) → va_S A s.heap H locs → lv_has ls 5 [(0, .ref (a 0))] → W p l e (headSpec ow_dm_X13_fits ({ frames := 1, cells := 0, slots := 0, locals := 21 })).room s m args below meth c H locs 0 0 Q (F0 m 25 ls [])
def dj_X13_fits_0 (p : Program) (l : Launch) (e : Env) (s : State) (m : MethodId) (args : Array Value) (below : List Frame) (meth : Method) (c : Code) (Q : State → Prop) (A : Nat → Prop) (dC : Nat → ClassId) (dI : Nat → Nat → Nat) (a : Nat → Nat) (ac : Nat → ClassId) (g : Int32 → Int32 → Int32 → Int32 → (St) → Option (St)) (r : St) : Prop := ∀ (v0 : Int32) (v1 : Int32) (v2 : Int32) (v3 : Int32) (s0 : St) (H : Heap) (locs : List Loc) (ls : Array Slot), g v0 v1 v2 v3 s0 = some r → va_P (dC, dI) vwCl (dw_X13 a ac s0) H → va_D A (dw_X13 a ac s0) → va_S A s.heap H locs → lv_has ls 5 [(0, .ref (a 0)), (1, .int v0), (2, .int v1), (3, .int v2), (4, .int v3)] → W p l e (headSpec ow_dm_X13_fits ({ frames := 1, cells := 0, slots := 0, locals := 21 })).room s m args below meth c H locs 0 0 Q (F0 m 0 ls [])
set_option maxHeartbeats 40000000 in
set_option maxRecDepth 100000 in
theorem db_X13_fits_31 {p : Program} {l : Launch} {e : Env} {s : State} {m : MethodId} {args : Array Value} {below : List Frame} {meth : Method} {c : Code} {Q : State → Prop} {A : Nat → Prop} {dC : Nat → ClassId} {dI : Nat → Nat → Nat} {a : Nat → Nat} {ac : Nat → ClassId} {n : Nat} {r : St} (C : nd_C p l s m args c A (dC, dI) cX13_fits 5 RX13 ow_dm_X13_fits (dk_X13 ac)) (K : nd_Kv p l e (headSpec ow_dm_X13_fits ({ frames := 1, cells := 0, slots := 0, locals := 21 })).room s m args below meth c Q A (dC, dI) cX13_fits (St) (dw_X13 a ac) r) : dj_X13_fits_31 p l e s m args below meth c Q A dC dI a ac (df_X13_fits_31 n) r := by
  obtain ⟨hlt, hx, hb, hml, hown, hts, hN, hA, hK⟩ := id C
  intro s0 H locs ls h hP hD hS hl
  unfold df_X13_fits_31 at h
  exact K _ _ _ _ _ dX13_fits_31 (Option.some.inj h).symm hP hD hS
set_option maxHeartbeats 40000000 in
set_option maxRecDepth 100000 in
theorem db_X13_fits_25 {p : Program} {l : Launch} {e : Env} {s : State} {m : MethodId} {args : Array Value} {below : List Frame} {meth : Method} {c : Code} {Q : State → Prop} {A : Nat → Prop} {dC : Nat → ClassId} {dI : Nat → Nat → Nat} {a : Nat → Nat} {ac : Nat → ClassId} {n : Nat} {r : St} (C : nd_C p l s m args c A (dC, dI) cX13_fits 5 RX13 ow_dm_X13_fits (dk_X13 ac)) (K : nd_Kv p l e (headSpec ow_dm_X13_fits ({ frames := 1, cells := 0, slots := 0, locals := 21 })).room s m args below meth c Q A (dC, dI) cX13_fits (St) (dw_X13 a ac) r) : dj_X13_fits_25 p l e s m args below meth c Q A dC dI a ac (df_X13_fits_25 n) r := by
  obtain ⟨hlt, hx, hb, hml, hown, hts, hN, hA, hK⟩ := id C
  intro s0 H locs ls h hP hD hS hl
  unfold df_X13_fits_25 at h
  refine lv_aload_n hx hb dX13_fits_25 rfl (lv_at hl 0 rfl) ?_
  refine lv_bipush (v := 10) hx hb dX13_fits_26 (by decide) ?_
  obtain ⟨s4, hq, h⟩ := nd_b1_e h
  have hPc := hP
  have hDc := hD
  have hKc := hK
  have hFc := nd_rs hD hS hA
  refine nd_cVv (As := [.int 10]) (rest := []) (w' := dw_X13 a ac s4) ⟨hx, hb, hml, hown, hts⟩ (fun sz => dm_X13_blame l hlt dC dI a ac n (10) s0 hq sz) (cwV 1 hts gi_dm_X13_fits_0 rfl rfl rfl (by decide +kernel) ⟨Nat.le_of_ble_eq_true rfl, Nat.le_of_ble_eq_true rfl⟩) hPc hDc hKc hS hA hN (va_recv hKc hPc (ci := 14) (q0 := 0) rfl rfl) rfl hl.1 rfl (Nat.le_of_ble_eq_true rfl) dX13_fits_28 (fun H locs hP1 hD1 hk1 hS => ?_)
  have hP := hP1
  have hD := hD1.weaken (fun k q _ h => hFc q.1 h)
  exact (db_X13_fits_31 C K)  s4 _ _ _ h hP hD hS (lv_sub hl [] rfl)
set_option maxHeartbeats 40000000 in
set_option maxRecDepth 100000 in
theorem db_X13_fits_0 {p : Program} {l : Launch} {e : Env} {s : State} {m : MethodId} {args : Array Value} {below : List Frame} {meth : Method} {c : Code} {Q : State → Prop} {A : Nat → Prop} {dC : Nat → ClassId} {dI : Nat → Nat → Nat} {a : Nat → Nat} {ac : Nat → ClassId} {n : Nat} {r : St} (C : nd_C p l s m args c A (dC, dI) cX13_fits 5 RX13 ow_dm_X13_fits (dk_X13 ac)) (K : nd_Kv p l e (headSpec ow_dm_X13_fits ({ frames := 1, cells := 0, slots := 0, locals := 21 })).room s m args below meth c Q A (dC, dI) cX13_fits (St) (dw_X13 a ac) r) : dj_X13_fits_0 p l e s m args below meth c Q A dC dI a ac (df_X13_fits_0 n) r := by
  obtain ⟨hlt, hx, hb, hml, hown, hts, hN, hA, hK⟩ := id C
  intro v0 v1 v2 v3 s0 H locs ls h hP hD hS hl
  unfold df_X13_fits_0 at h
  refine lv_aload_n hx hb dX13_fits_0 rfl (lv_at hl 0 rfl) ?_
  refine va_get (D := (dC, dI)) (ci := 14) (v := .int (sI s0 15)) (C := RX13) (T := TX13) (N := 37) hx hb hts hi_dm_X13_fits_X13 hown hK hP 0 rfl rfl 24 (by decide) (hts (.fieldLink RX13 522 "TimeMachineModel$Assembler" "mode" "I") (List.mem_of_getElem? (i := 1) rfl)) (fun _ h9 => h9) rfl dX13_fits_1 ?_
  refine lv_iconst (v := 2) hx hb dX13_fits_4 (by decide) ?_
  refine lv_icmp_ne (tgt := 31) hx hb dX13_fits_5 (by decide) (fun c1 => ?_) (fun c1 => ?_)
  · have h := nd_neg h c1
    exact (db_X13_fits_31 C K)  s0 _ _ _ h hP hD hS (lv_sub hl [] rfl)
  · have h := nd_pos h c1
    refine lv_iload_n hx hb dX13_fits_8 rfl (lv_at hl 1 rfl) ?_
    refine lv_iload_n hx hb dX13_fits_9 rfl (lv_at hl 2 rfl) ?_
    refine lv_icmp_lt (tgt := 25) hx hb dX13_fits_10 (by decide) (fun c2 => ?_) (fun c2 => ?_)
    · have h := nd_pos h c2
      exact (db_X13_fits_25 C K)  s0 _ _ _ h hP hD hS (lv_sub hl [0] rfl)
    · have h := nd_neg h c2
      refine lv_iload_n hx hb dX13_fits_13 rfl (lv_at hl 1 rfl) ?_
      refine lv_iload_n hx hb dX13_fits_14 rfl (lv_at hl 3 rfl) ?_
      refine lv_icmp_gt (tgt := 25) hx hb dX13_fits_15 (by decide) (fun c6 => ?_) (fun c6 => ?_)
      · have h := nd_pos h c6
        exact (db_X13_fits_25 C K)  s0 _ _ _ h hP hD hS (lv_sub hl [0] rfl)
      · have h := nd_neg h c6
        refine lv_iload_n hx hb dX13_fits_18 rfl (lv_at hl 1 rfl) ?_
        refine lv_iload hx hb dX13_fits_19 (lv_at hl 4 rfl) ?_
        obtain ⟨i7, h⟩ := nd_nz_e h
        refine lv_irem hx hb dX13_fits_21 i7 ?_
        refine lv_if_eq (tgt := 31) hx hb dX13_fits_22 (by decide) (fun c8 => ?_) (fun c8 => ?_)
        · have h := nd_pos h c8
          exact (db_X13_fits_31 C K)  s0 _ _ _ h hP hD hS (lv_sub hl [] rfl)
        · have h := nd_neg h c8
          exact (db_X13_fits_25 C K)  s0 _ _ _ h hP hD hS (lv_sub hl [0] rfl)
set_option maxHeartbeats 40000000 in
set_option maxRecDepth 100000 in
theorem dm_X13_fits (l : Launch) (hlt : l.stackTraces = false) (dC : Nat → ClassId) (dI : Nat → Nat → Nat) (a : Nat → Nat) (ac : Nat → ClassId) (n : Nat) (v0 : Int32) (v1 : Int32) (v2 : Int32) (v3 : Int32) (s0 : St) {r : St} (h : df_X13_fits n v0 v1 v2 v3 s0 = some r) (sz : Nat) : Met l yX13_fits ow_dm_X13_fits ({ frames := 1, cells := 0, slots := 0, locals := 21 }) (va_Pc [.ref (a 0), .int v0, .int v1, .int v2, .int v3] (fun U => U.heap.size = sz ∧ va_P (dC, dI) vwCl (dw_X13 a ac s0) U.heap ∧ va_K (dC, dI) vwCl (dk_X13 ac) U ∧ va_D (fun _ => True) (dw_X13 a ac s0) ∧ nv_E (va_A (dw_X13 a ac s0) sz) U)) (va_Qv (fun _ => True) (fun (_ : Unit) t => va_P (dC, dI) vwCl (dw_X13 a ac r) t.heap ∧ va_K (dC, dI) vwCl (dk_X13 ac) t ∧ va_D (va_A (dw_X13 a ac s0) sz) (dw_X13 a ac r)) (va_A (dw_X13 a ac s0) sz)) 0 0 (va_A (dw_X13 a ac s0) sz) := by
  refine Met.ofW (cc := cX13_fits) (maxL := 5) (ret := none) (by decide) rfl ?_
  intro p e s m args below meth c s₁ B hml hv
  obtain ⟨rfl, hsz, hP, hK, hD0, hN⟩ := hv
  have hx := B.exec
  have hb := B.bytes
  have hr := B.returns
  have hts := atoms_spec (ws := ow_dm_X13_fits) B.pre
  have hown : s.vm.findClass RX13 = some m.cls := findClass_of_methodNamed B.named
  have hlocks := B.notSynchronized
  subst hsz
  have hD := hD0.self (sz := s.heap.size)
  generalize hAe : va_A (dw_X13 a ac s0) s.heap.size = A at hD hN ⊢
  have hA : ∀ q : Nat, s.heap.size ≤ q → A q := fun q h => by rw [← hAe]; exact Or.inr h
  have hl := lv_entry ([.ref (a 0), .int v0, .int v1, .int v2, .int v3]) (n := 5) (Nat.le_of_ble_eq_true rfl)
  rw [lg_entry_eq]
  generalize (lg_sl ([.ref (a 0), .int v0, .int v1, .int v2, .int v3]) ++ List.replicate (5 - (lg_sl ([.ref (a 0), .int v0, .int v1, .int v2, .int v3])).length) Slot.unset).toArray = ls at hl ⊢
  have hl : lv_has ls 5 [(0, .ref (a 0)), (1, .int v0), (2, .int v1), (3, .int v2), (4, .int v3)] := hl
  exact db_X13_fits_0 (dC := dC) (dI := dI) (a := a) (ac := ac) (n := n) (r := r) ⟨hlt, hx, hb, hml, hown, hts, hN, hA, hK⟩ (fun pc τ H locs ls d er hP hD hS => by subst er; exact W.vret hx hb hr (fun t ht hW => ⟨⟨(), rfl, trivial, by rw [ht]; exact hP, va_K.moved hW.alike hK, hD⟩, hS.F ht⟩) hS.2.2 d) v0 v1 v2 v3 s0 _ _ _ h hP hD va_S.rf (lv_sub hl [0, 1, 2, 3, 4] rfl)
def ow_dm_X13_within : List Cond := .code yX13_within cX13_within 5 (some .int) :: ([.methodLink RX13 525 yX13_expression, .instanceMethod yX13_expression, .selects RX13 yX13_expression yX13_expression, .initialized RX13, .methodLink RX13 528 yX13_fits, .instanceMethod yX13_fits, .selects RX13 yX13_fits yX13_fits] ++ (ow_dm_X13_expression ++ (ow_dm_X13_fits ++ [])))
theorem gd_dm_X13_within : ∀ w ∈ ow_dm_X13_within, (w.onTables && w.keeps) = true ∨ ∃ ty, w = Cond.arrayClass ty := List.forall_mem_cons.mpr ⟨good_of_word rfl, List.forall_mem_append.mpr ⟨fun w h => good_of_word (List.all_eq_true.mp (by decide +kernel) w h), List.forall_mem_append.mpr ⟨gd_dm_X13_expression, List.forall_mem_append.mpr ⟨gd_dm_X13_fits, fun _ h => nomatch h⟩⟩⟩⟩
theorem gi_dm_X13_within_0 : GoodIn ow_dm_X13_within (wsV RX13 525 RX13 yX13_expression ow_dm_X13_expression) := goodIn_app (goodIn_of _ (by decide +kernel)) (fun w h => ⟨List.mem_cons_of_mem _ (List.mem_append_right _ (List.mem_append_left _ h)), gd_dm_X13_expression w h⟩)
theorem gi_dm_X13_within_1 : GoodIn ow_dm_X13_within (wsV RX13 528 RX13 yX13_fits ow_dm_X13_fits) := goodIn_app (goodIn_of _ (by decide +kernel)) (fun w h => ⟨List.mem_cons_of_mem _ (List.mem_append_right _ (List.mem_append_right _ (List.mem_append_left _ h))), gd_dm_X13_fits w h⟩)
def dj_X13_within_0 (p : Program) (l : Launch) (e : Env) (s : State) (m : MethodId) (args : Array Value) (below : List Frame) (meth : Method) (c : Code) (Q : State → Prop) (A : Nat → Prop) (dC : Nat → ClassId) (dI : Nat → Nat → Nat) (a : Nat → Nat) (ac : Nat → ClassId) (g : Int32 → Int32 → Int32 → (St) → Option (Int32 × (St))) (r : Int32 × (St)) : Prop := ∀ (v0 : Int32) (v1 : Int32) (v2 : Int32) (s0 : St) (H : Heap) (locs : List Loc) (ls : Array Slot), g v0 v1 v2 s0 = some r → va_P (dC, dI) vwCl (dw_X13 a ac s0) H → va_D A (dw_X13 a ac s0) → va_S A s.heap H locs → lv_has ls 5 [(0, .ref (a 0)), (1, .int v0), (2, .int v1), (3, .int v2)] → W p l e (headSpec ow_dm_X13_within ({ frames := 8, cells := 0, slots := 0, locals := 182 })).room s m args below meth c H locs 0 0 Q (F0 m 0 ls [])
set_option maxHeartbeats 40000000 in
set_option maxRecDepth 100000 in
theorem db_X13_within_0 {p : Program} {l : Launch} {e : Env} {s : State} {m : MethodId} {args : Array Value} {below : List Frame} {meth : Method} {c : Code} {Q : State → Prop} {A : Nat → Prop} {dC : Nat → ClassId} {dI : Nat → Nat → Nat} {a : Nat → Nat} {ac : Nat → ClassId} {n : Nat} {r : Int32 × (St)} (C : nd_C p l s m args c A (dC, dI) cX13_within 5 RX13 ow_dm_X13_within (dk_X13 ac)) (K : nd_Ki p l e (headSpec ow_dm_X13_within ({ frames := 8, cells := 0, slots := 0, locals := 182 })).room s m args below meth c Q A (dC, dI) cX13_within .int (St) (dw_X13 a ac) r) : dj_X13_within_0 p l e s m args below meth c Q A dC dI a ac (df_X13_within_0 n) r := by
  obtain ⟨hlt, hx, hb, hml, hown, hts, hN, hA, hK⟩ := id C
  intro v0 v1 v2 s0 H locs ls h hP hD hS hl
  unfold df_X13_within_0 at h
  refine lv_aload_n hx hb dX13_within_0 rfl (lv_at hl 0 rfl) ?_
  obtain ⟨q1, s2, hq, h⟩ := nd_b2_e h
  have hPc := hP
  have hDc := hD
  have hKc := hK
  have hFc := nd_rs hD hS hA
  refine nd_cVi (As := []) (rest := []) (q := q1) (w' := dw_X13 a ac s2) ⟨hx, hb, hml, hown, hts⟩ (fun sz => dm_X13_expression l hlt dC dI a ac n  s0 hq sz) (cwV 0 hts gi_dm_X13_within_0 rfl rfl rfl (by decide +kernel) ⟨Nat.le_of_ble_eq_true rfl, Nat.le_of_ble_eq_true rfl⟩) hPc hDc hKc hS hA hN (va_recv hKc hPc (ci := 14) (q0 := 0) rfl rfl) rfl hl.1 rfl (Nat.le_of_ble_eq_true rfl) dX13_within_1 (fun H locs hP1 hD1 hk1 hS => ?_)
  have hP := hP1
  have hD := hD1.weaken (fun k q _ h => hFc q.1 h)
  refine lv_istore (lv' := [(4, .int q1), (0, .ref (a 0)), (1, .int v0), (2, .int v1), (3, .int v2)]) hx hb dX13_within_4 hl (by decide) rfl (fun ls hl => ?_)
  refine lv_aload_n hx hb dX13_within_6 rfl (lv_at hl 1 rfl) ?_
  refine lv_iload hx hb dX13_within_7 (lv_at hl 0 rfl) ?_
  refine lv_iload_n hx hb dX13_within_9 rfl (lv_at hl 2 rfl) ?_
  refine lv_iload_n hx hb dX13_within_10 rfl (lv_at hl 3 rfl) ?_
  refine lv_iload_n hx hb dX13_within_11 rfl (lv_at hl 4 rfl) ?_
  obtain ⟨s5, hq, h⟩ := nd_b1_e h
  have hPc := hP
  have hDc := hD
  have hKc := hK
  have hFc := nd_rs hD hS hA
  refine nd_cVv (As := [.int q1, .int v0, .int v1, .int v2]) (rest := []) (w' := dw_X13 a ac s5) ⟨hx, hb, hml, hown, hts⟩ (fun sz => dm_X13_fits l hlt dC dI a ac n (q1) (v0) (v1) (v2) s2 hq sz) (cwV 4 hts gi_dm_X13_within_1 rfl rfl rfl (by decide +kernel) ⟨Nat.le_of_ble_eq_true rfl, Nat.le_of_ble_eq_true rfl⟩) hPc hDc hKc hS hA hN (va_recv hKc hPc (ci := 14) (q0 := 0) rfl rfl) rfl hl.1 rfl (Nat.le_of_ble_eq_true rfl) dX13_within_12 (fun H locs hP1 hD1 hk1 hS => ?_)
  have hP := hP1
  have hD := hD1.weaken (fun k q _ h => hFc q.1 h)
  refine lv_iload hx hb dX13_within_15 (lv_at hl 0 rfl) ?_
  exact K _ _ _ _ _ _ dX13_within_17 rfl (Option.some.inj h).symm hP hD hS
set_option maxHeartbeats 40000000 in
set_option maxRecDepth 100000 in
theorem dm_X13_within (l : Launch) (hlt : l.stackTraces = false) (dC : Nat → ClassId) (dI : Nat → Nat → Nat) (a : Nat → Nat) (ac : Nat → ClassId) (n : Nat) (v0 : Int32) (v1 : Int32) (v2 : Int32) (s0 : St) {r : Int32 × (St)} (h : df_X13_within n v0 v1 v2 s0 = some r) (sz : Nat) : Met l yX13_within ow_dm_X13_within ({ frames := 8, cells := 0, slots := 0, locals := 182 }) (va_Pc [.ref (a 0), .int v0, .int v1, .int v2] (fun U => U.heap.size = sz ∧ va_P (dC, dI) vwCl (dw_X13 a ac s0) U.heap ∧ va_K (dC, dI) vwCl (dk_X13 ac) U ∧ va_D (fun _ => True) (dw_X13 a ac s0) ∧ nv_E (va_A (dw_X13 a ac s0) sz) U)) (va_Qi (fun x _ => x = r.1) (fun (_ : Unit) t => va_P (dC, dI) vwCl (dw_X13 a ac r.2) t.heap ∧ va_K (dC, dI) vwCl (dk_X13 ac) t ∧ va_D (va_A (dw_X13 a ac s0) sz) (dw_X13 a ac r.2)) (va_A (dw_X13 a ac s0) sz)) 0 0 (va_A (dw_X13 a ac s0) sz) := by
  refine Met.ofW (cc := cX13_within) (maxL := 5) (ret := (some .int)) (by decide) rfl ?_
  intro p e s m args below meth c s₁ B hml hv
  obtain ⟨rfl, hsz, hP, hK, hD0, hN⟩ := hv
  have hx := B.exec
  have hb := B.bytes
  have hr := B.returns
  have hts := atoms_spec (ws := ow_dm_X13_within) B.pre
  have hown : s.vm.findClass RX13 = some m.cls := findClass_of_methodNamed B.named
  have hlocks := B.notSynchronized
  subst hsz
  have hD := hD0.self (sz := s.heap.size)
  generalize hAe : va_A (dw_X13 a ac s0) s.heap.size = A at hD hN ⊢
  have hA : ∀ q : Nat, s.heap.size ≤ q → A q := fun q h => by rw [← hAe]; exact Or.inr h
  have hl := lv_entry ([.ref (a 0), .int v0, .int v1, .int v2]) (n := 5) (Nat.le_of_ble_eq_true rfl)
  rw [lg_entry_eq]
  generalize (lg_sl ([.ref (a 0), .int v0, .int v1, .int v2]) ++ List.replicate (5 - (lg_sl ([.ref (a 0), .int v0, .int v1, .int v2])).length) Slot.unset).toArray = ls at hl ⊢
  have hl : lv_has ls 5 [(0, .ref (a 0)), (1, .int v0), (2, .int v1), (3, .int v2)] := hl
  exact db_X13_within_0 (dC := dC) (dI := dI) (a := a) (ac := ac) (n := n) (r := r) ⟨hlt, hx, hb, hml, hown, hts, hN, hA, hK⟩ (fun pc v τ H locs ls d z er hP hD hS => by subst er; exact W.zret (v := v) hx hb hr z (fun t ht hW => ⟨⟨v, (), rfl, rfl, by rw [ht]; exact hP, va_K.moved hW.alike hK, hD⟩, hS.F ht⟩) hS.2.2 d) v0 v1 v2 s0 _ _ _ h hP hD va_S.rf (lv_sub hl [0, 1, 2, 3] rfl)
