set_option maxHeartbeats 40000000 in
set_option maxRecDepth 100000 in
theorem db_X18_branches_91 {p : Program} {l : Launch} {e : Env} {s : State} {m : MethodId} {args : Array Value} {below : List Frame} {meth : Method} {c : Code} {Q : State → Prop} {A : Nat → Prop} {dC : Nat → ClassId} {dI : Nat → Nat → Nat} {a : Nat → Nat} {ac : Nat → ClassId} {n : Nat} {r : St} (C : nd_C p l s m args c A (dC, dI) cX18_branches 1 RX18 ow_dm_X18_branches (dk_X18 ac)) (K : nd_Kv p l e (headSpec ow_dm_X18_branches ({ frames := 4, cells := 0, slots := 0, locals := 89 })).room s m args below meth c Q A (dC, dI) cX18_branches (St) (dw_X18 a ac) r) : dj_X18_branches_91 p l e s m args below meth c Q A dC dI a ac (df_X18_branches_91 n) r := by
  obtain ⟨hlt, hx, hb, hml, hown, hts, hN, hA, hK⟩ := id C
  intro y1 s0 H locs ls h hP hD hS hl
  unfold df_X18_branches_91 at h
  obtain ⟨s9, hq, h⟩ := nd_b1_e h
  have hPc := hP
  have hDc := hD
  have hKc := hK
  have hFc := nd_rs hD hS hA
  refine va_callv (va_runV (As := [.long y1]) (rest := []) ⟨hx, hb, hml, hown, hts⟩ (dm_X18_name l hlt dC dI a ac n (y1) s0 hq _) (cwV 1 hts gi_dm_X18_branches_0 rfl rfl rfl (by decide +kernel) ⟨Nat.le_of_ble_eq_true rfl, Nat.le_of_ble_eq_true rfl⟩) ⟨fun a U g mk q => by obtain ⟨q0, q1, qP, qK, qD, qN⟩ := q; exact ⟨q0, q1, qP, va_K.moved (u := U) (U := U.calling g mk a) (Vm.Alike.refl U.vm) qK, qD, nv_same rfl rfl qN⟩, va_recv hKc hPc (ci := 19) (q0 := 0) rfl rfl, fun U hU hW => ⟨rfl, by rw [hU], by rw [hU]; exact hPc, va_K.moved hW.alike hKc, hDc.weaken (fun _ _ _ _ => trivial), nv_call hS hFc hU hW hN⟩⟩ rfl rfl hl.1 rfl (lv_room (Nat.le_of_ble_eq_true rfl)) dX18_branches_91 ⟨by decide +kernel, by decide +kernel⟩) hS (fun q _ h => hFc q h) hFc (fun u t H locs ht hvm hw hB hz1 hk1 hS => ?_)
  obtain ⟨hP1, -, hD1⟩ := hB
  rw [ht] at hP1
  have hP := hP1
  have hD := hD1.weaken (fun k q _ h => hFc q.1 h)
  refine W.widen (k := 0) (n := 0) (Nat.le_refl _) (Nat.le_refl _) ?_
  refine lv_aload_n hx hb dX18_branches_94 rfl (lv_at hl 0 rfl) ?_
  refine lv_aload_n hx hb dX18_branches_95 rfl (lv_at hl 0 rfl) ?_
  refine va_get (D := (dC, dI)) (ci := 19) (v := .int (sI s9 5)) (C := RX18) (T := TX18) (N := 10) hx hb hts hi_dm_X18_branches_X18 hown hK hP 0 rfl rfl 6 (by decide) (hts (.fieldLink RX18 74 "TimeMachineModel$Reader" "a" "I") (List.mem_of_getElem? (i := 7) rfl)) (fun _ h9 => h9) rfl dX18_branches_96 ?_
  obtain ⟨s12, hq, h⟩ := nd_b1_e h
  have hPc := hP
  have hDc := hD
  have hKc := hK
  have hFc := nd_rs hD hS hA
  refine va_callv (va_runV (As := [.int (sI s9 5)]) (rest := []) ⟨hx, hb, hml, hown, hts⟩ (dm_X18_register l hlt dC dI a ac n ((sI s9 5)) s9 hq _) (cwV 1 hts gi_dm_X18_branches_1 rfl rfl rfl (by decide +kernel) ⟨Nat.le_of_ble_eq_true rfl, Nat.le_of_ble_eq_true rfl⟩) ⟨fun a U g mk q => by obtain ⟨q0, q1, qP, qK, qD, qN⟩ := q; exact ⟨q0, q1, qP, va_K.moved (u := U) (U := U.calling g mk a) (Vm.Alike.refl U.vm) qK, qD, nv_same rfl rfl qN⟩, va_recv hKc hPc (ci := 19) (q0 := 0) rfl rfl, fun U hU hW => ⟨rfl, by rw [hU], by rw [hU]; exact hPc, va_K.moved hW.alike hKc, hDc.weaken (fun _ _ _ _ => trivial), nv_call hS hFc hU hW hN⟩⟩ rfl rfl hl.1 rfl (lv_room (Nat.le_of_ble_eq_true rfl)) dX18_branches_99 ⟨by decide +kernel, by decide +kernel⟩) hS (fun q _ h => hFc q h) hFc (fun u t H locs ht hvm hw hB hz1 hk1 hS => ?_)
  obtain ⟨hP1, -, hD1⟩ := hB
  rw [ht] at hP1
  have hP := hP1
  have hD := hD1.weaken (fun k q _ h => hFc q.1 h)
  refine W.widen (k := 0) (n := 0) (Nat.le_refl _) (Nat.le_refl _) ?_
  refine lv_aload_n hx hb dX18_branches_102 rfl (lv_at hl 0 rfl) ?_
  refine lv_aload_n hx hb dX18_branches_103 rfl (lv_at hl 0 rfl) ?_
  refine va_get (D := (dC, dI)) (ci := 19) (v := .int (sI s12 6)) (C := RX18) (T := TX18) (N := 10) hx hb hts hi_dm_X18_branches_X18 hown hK hP 0 rfl rfl 7 (by decide) (hts (.fieldLink RX18 77 "TimeMachineModel$Reader" "b" "I") (List.mem_of_getElem? (i := 11) rfl)) (fun _ h9 => h9) rfl dX18_branches_104 ?_
  obtain ⟨s15, hq, h⟩ := nd_b1_e h
  have hPc := hP
  have hDc := hD
  have hKc := hK
  have hFc := nd_rs hD hS hA
  refine va_callv (va_runV (As := [.int (sI s12 6)]) (rest := []) ⟨hx, hb, hml, hown, hts⟩ (dm_X18_register l hlt dC dI a ac n ((sI s12 6)) s12 hq _) (cwV 1 hts gi_dm_X18_branches_1 rfl rfl rfl (by decide +kernel) ⟨Nat.le_of_ble_eq_true rfl, Nat.le_of_ble_eq_true rfl⟩) ⟨fun a U g mk q => by obtain ⟨q0, q1, qP, qK, qD, qN⟩ := q; exact ⟨q0, q1, qP, va_K.moved (u := U) (U := U.calling g mk a) (Vm.Alike.refl U.vm) qK, qD, nv_same rfl rfl qN⟩, va_recv hKc hPc (ci := 19) (q0 := 0) rfl rfl, fun U hU hW => ⟨rfl, by rw [hU], by rw [hU]; exact hPc, va_K.moved hW.alike hKc, hDc.weaken (fun _ _ _ _ => trivial), nv_call hS hFc hU hW hN⟩⟩ rfl rfl hl.1 rfl (lv_room (Nat.le_of_ble_eq_true rfl)) dX18_branches_107 ⟨by decide +kernel, by decide +kernel⟩) hS (fun q _ h => hFc q h) hFc (fun u t H locs ht hvm hw hB hz1 hk1 hS => ?_)
  obtain ⟨hP1, -, hD1⟩ := hB
  rw [ht] at hP1
  have hP := hP1
  have hD := hD1.weaken (fun k q _ h => hFc q.1 h)
  refine W.widen (k := 0) (n := 0) (Nat.le_refl _) (Nat.le_refl _) ?_
  refine lv_aload_n hx hb dX18_branches_110 rfl (lv_at hl 0 rfl) ?_
  refine lv_aload_n hx hb dX18_branches_111 rfl (lv_at hl 0 rfl) ?_
  refine va_get (D := (dC, dI)) (ci := 19) (v := .int (sI s15 3)) (C := RX18) (T := TX18) (N := 10) hx hb hts hi_dm_X18_branches_X18 hown hK hP 0 rfl rfl 4 (by decide) (hts (.fieldLink RX18 20 "TimeMachineModel$Reader" "bits" "I") (List.mem_of_getElem? (i := 12) rfl)) (fun _ h9 => h9) rfl dX18_branches_112 ?_
  refine lv_bipush (v := 31) hx hb dX18_branches_115 (by decide) ?_
  refine lv_ishr hx hb dX18_branches_117 ?_
  refine lv_bipush (v := 12) hx hb dX18_branches_118 (by decide) ?_
  refine lv_ishl hx hb dX18_branches_120 ?_
  refine lv_aload_n hx hb dX18_branches_121 rfl (lv_at hl 0 rfl) ?_
  refine lv_bipush (v := 7) hx hb dX18_branches_122 (by decide) ?_
  refine lv_iconst (v := 1) hx hb dX18_branches_124 (by decide) ?_
  obtain ⟨q17, s18, hq, h⟩ := nd_b2_e h
  have hPc := hP
  have hDc := hD
  have hKc := hK
  have hFc := nd_rs hD hS hA
  refine va_calli (va_runV (As := [.int 7, .int 1]) (rest := [.int (((((sI s15 3) : Int32) >>> ((31 : Int32) &&& 31)) : Int32) <<< ((12 : Int32) &&& 31)), .ref (a 0)]) ⟨hx, hb, hml, hown, hts⟩ (dm_X18_part l hlt dC dI a ac n (7) (1) s15 hq _) (cwV 2 hts gi_dm_X18_branches_2 rfl rfl rfl (by decide +kernel) ⟨Nat.le_of_ble_eq_true rfl, Nat.le_of_ble_eq_true rfl⟩) ⟨fun a U g mk q => by obtain ⟨q0, q1, qP, qK, qD, qN⟩ := q; exact ⟨q0, q1, qP, va_K.moved (u := U) (U := U.calling g mk a) (Vm.Alike.refl U.vm) qK, qD, nv_same rfl rfl qN⟩, va_recv hKc hPc (ci := 19) (q0 := 0) rfl rfl, fun U hU hW => ⟨rfl, by rw [hU], by rw [hU]; exact hPc, va_K.moved hW.alike hKc, hDc.weaken (fun _ _ _ _ => trivial), nv_call hS hFc hU hW hN⟩⟩ rfl rfl hl.1 rfl (lv_room (Nat.le_of_ble_eq_true rfl)) dX18_branches_125 ⟨by decide +kernel, by decide +kernel⟩) hS (fun q _ h => hFc q h) hFc (fun r19 u t H locs ht hvm hw hB hz1 hk1 hS => ?_)
  obtain rfl : q17 = r19 := Eq.symm hw
  obtain ⟨hP1, -, hD1⟩ := hB
  rw [ht] at hP1
  have hP := hP1
  have hD := hD1.weaken (fun k q _ h => hFc q.1 h)
  refine W.widen (k := 0) (n := 0) (Nat.le_refl _) (Nat.le_refl _) ?_
  refine lv_bipush (v := 11) hx hb dX18_branches_128 (by decide) ?_
  refine lv_ishl hx hb dX18_branches_130 ?_
  refine lv_ior hx hb dX18_branches_131 ?_
  refine lv_aload_n hx hb dX18_branches_132 rfl (lv_at hl 0 rfl) ?_
  refine lv_bipush (v := 25) hx hb dX18_branches_133 (by decide) ?_
  refine lv_bipush (v := 6) hx hb dX18_branches_135 (by decide) ?_
  obtain ⟨q20, s21, hq, h⟩ := nd_b2_e h
  have hPc := hP
  have hDc := hD
  have hKc := hK
  have hFc := nd_rs hD hS hA
  refine va_calli (va_runV (As := [.int 25, .int 6]) (rest := [.int ((((((sI s15 3) : Int32) >>> ((31 : Int32) &&& 31)) : Int32) <<< ((12 : Int32) &&& 31)) ||| ((q17 : Int32) <<< ((11 : Int32) &&& 31))), .ref (a 0)]) ⟨hx, hb, hml, hown, hts⟩ (dm_X18_part l hlt dC dI a ac n (25) (6) s18 hq _) (cwV 2 hts gi_dm_X18_branches_2 rfl rfl rfl (by decide +kernel) ⟨Nat.le_of_ble_eq_true rfl, Nat.le_of_ble_eq_true rfl⟩) ⟨fun a U g mk q => by obtain ⟨q0, q1, qP, qK, qD, qN⟩ := q; exact ⟨q0, q1, qP, va_K.moved (u := U) (U := U.calling g mk a) (Vm.Alike.refl U.vm) qK, qD, nv_same rfl rfl qN⟩, va_recv hKc hPc (ci := 19) (q0 := 0) rfl rfl, fun U hU hW => ⟨rfl, by rw [hU], by rw [hU]; exact hPc, va_K.moved hW.alike hKc, hDc.weaken (fun _ _ _ _ => trivial), nv_call hS hFc hU hW hN⟩⟩ rfl rfl hl.1 rfl (lv_room (Nat.le_of_ble_eq_true rfl)) dX18_branches_137 ⟨by decide +kernel, by decide +kernel⟩) hS (fun q _ h => hFc q h) hFc (fun r22 u t H locs ht hvm hw hB hz1 hk1 hS => ?_)
  obtain rfl : q20 = r22 := Eq.symm hw
  obtain ⟨hP1, -, hD1⟩ := hB
  rw [ht] at hP1
  have hP := hP1
  have hD := hD1.weaken (fun k q _ h => hFc q.1 h)
  refine W.widen (k := 0) (n := 0) (Nat.le_refl _) (Nat.le_refl _) ?_
  refine lv_iconst (v := 5) hx hb dX18_branches_140 (by decide) ?_
  refine lv_ishl hx hb dX18_branches_141 ?_
  refine lv_ior hx hb dX18_branches_142 ?_
  refine lv_aload_n hx hb dX18_branches_143 rfl (lv_at hl 0 rfl) ?_
  refine lv_bipush (v := 8) hx hb dX18_branches_144 (by decide) ?_
  refine lv_iconst (v := 4) hx hb dX18_branches_146 (by decide) ?_
  obtain ⟨q23, s24, hq, h⟩ := nd_b2_e h
  have hPc := hP
  have hDc := hD
  have hKc := hK
  have hFc := nd_rs hD hS hA
  refine va_calli (va_runV (As := [.int 8, .int 4]) (rest := [.int (((((((sI s15 3) : Int32) >>> ((31 : Int32) &&& 31)) : Int32) <<< ((12 : Int32) &&& 31)) ||| ((q17 : Int32) <<< ((11 : Int32) &&& 31))) ||| ((q20 : Int32) <<< ((5 : Int32) &&& 31))), .ref (a 0)]) ⟨hx, hb, hml, hown, hts⟩ (dm_X18_part l hlt dC dI a ac n (8) (4) s21 hq _) (cwV 2 hts gi_dm_X18_branches_2 rfl rfl rfl (by decide +kernel) ⟨Nat.le_of_ble_eq_true rfl, Nat.le_of_ble_eq_true rfl⟩) ⟨fun a U g mk q => by obtain ⟨q0, q1, qP, qK, qD, qN⟩ := q; exact ⟨q0, q1, qP, va_K.moved (u := U) (U := U.calling g mk a) (Vm.Alike.refl U.vm) qK, qD, nv_same rfl rfl qN⟩, va_recv hKc hPc (ci := 19) (q0 := 0) rfl rfl, fun U hU hW => ⟨rfl, by rw [hU], by rw [hU]; exact hPc, va_K.moved hW.alike hKc, hDc.weaken (fun _ _ _ _ => trivial), nv_call hS hFc hU hW hN⟩⟩ rfl rfl hl.1 rfl (lv_room (Nat.le_of_ble_eq_true rfl)) dX18_branches_147 ⟨by decide +kernel, by decide +kernel⟩) hS (fun q _ h => hFc q h) hFc (fun r25 u t H locs ht hvm hw hB hz1 hk1 hS => ?_)
  obtain rfl : q23 = r25 := Eq.symm hw
  obtain ⟨hP1, -, hD1⟩ := hB
  rw [ht] at hP1
  have hP := hP1
  have hD := hD1.weaken (fun k q _ h => hFc q.1 h)
  refine W.widen (k := 0) (n := 0) (Nat.le_refl _) (Nat.le_refl _) ?_
  refine lv_iconst (v := 1) hx hb dX18_branches_150 (by decide) ?_
  refine lv_ishl hx hb dX18_branches_151 ?_
  refine lv_ior hx hb dX18_branches_152 ?_
  obtain ⟨s27, hq, h⟩ := nd_b1_e h
  have hPc := hP
  have hDc := hD
  have hKc := hK
  have hFc := nd_rs hD hS hA
  refine va_callv (va_runV (As := [.int ((((((((sI s15 3) : Int32) >>> ((31 : Int32) &&& 31)) : Int32) <<< ((12 : Int32) &&& 31)) ||| ((q17 : Int32) <<< ((11 : Int32) &&& 31))) ||| ((q20 : Int32) <<< ((5 : Int32) &&& 31))) ||| ((q23 : Int32) <<< ((1 : Int32) &&& 31)))]) (rest := []) ⟨hx, hb, hml, hown, hts⟩ (dm_X18_target l hlt dC dI a ac n (((((((((sI s15 3) : Int32) >>> ((31 : Int32) &&& 31)) : Int32) <<< ((12 : Int32) &&& 31)) ||| ((q17 : Int32) <<< ((11 : Int32) &&& 31))) ||| ((q20 : Int32) <<< ((5 : Int32) &&& 31))) ||| ((q23 : Int32) <<< ((1 : Int32) &&& 31)))) s24 hq _) (cwV 1 hts gi_dm_X18_branches_3 rfl rfl rfl (by decide +kernel) ⟨Nat.le_of_ble_eq_true rfl, Nat.le_of_ble_eq_true rfl⟩) ⟨fun a U g mk q => by obtain ⟨q0, q1, qP, qK, qD, qN⟩ := q; exact ⟨q0, q1, qP, va_K.moved (u := U) (U := U.calling g mk a) (Vm.Alike.refl U.vm) qK, qD, nv_same rfl rfl qN⟩, va_recv hKc hPc (ci := 19) (q0 := 0) rfl rfl, fun U hU hW => ⟨rfl, by rw [hU], by rw [hU]; exact hPc, va_K.moved hW.alike hKc, hDc.weaken (fun _ _ _ _ => trivial), nv_call hS hFc hU hW hN⟩⟩ rfl rfl hl.1 rfl (lv_room (Nat.le_of_ble_eq_true rfl)) dX18_branches_153 ⟨by decide +kernel, by decide +kernel⟩) hS (fun q _ h => hFc q h) hFc (fun u t H locs ht hvm hw hB hz1 hk1 hS => ?_)
  obtain ⟨hP1, -, hD1⟩ := hB
  rw [ht] at hP1
  have hP := hP1
  have hD := hD1.weaken (fun k q _ h => hFc q.1 h)
  refine W.widen (k := 0) (n := 0) (Nat.le_refl _) (Nat.le_refl _) ?_
  exact K _ _ _ _ _ dX18_branches_156 (Option.some.inj h).symm hP hD hS
set_option maxHeartbeats 40000000 in
set_option maxRecDepth 100000 in
theorem db_X18_branches_0 {p : Program} {l : Launch} {e : Env} {s : State} {m : MethodId} {args : Array Value} {below : List Frame} {meth : Method} {c : Code} {Q : State → Prop} {A : Nat → Prop} {dC : Nat → ClassId} {dI : Nat → Nat → Nat} {a : Nat → Nat} {ac : Nat → ClassId} {n : Nat} {r : St} (C : nd_C p l s m args c A (dC, dI) cX18_branches 1 RX18 ow_dm_X18_branches (dk_X18 ac)) (K : nd_Kv p l e (headSpec ow_dm_X18_branches ({ frames := 4, cells := 0, slots := 0, locals := 89 })).room s m args below meth c Q A (dC, dI) cX18_branches (St) (dw_X18 a ac) r) : dj_X18_branches_0 p l e s m args below meth c Q A dC dI a ac (df_X18_branches_0 n) r := by
  obtain ⟨hlt, hx, hb, hml, hown, hts, hN, hA, hK⟩ := id C
  intro s0 H locs ls h hP hD hS hl
  unfold df_X18_branches_0 at h
  refine lv_aload_n hx hb dX18_branches_0 rfl (lv_at hl 0 rfl) ?_
  refine va_get (D := (dC, dI)) (ci := 19) (v := .int (sI s0 7)) (C := RX18) (T := TX18) (N := 10) hx hb hts hi_dm_X18_branches_X18 hown hK hP 0 rfl rfl 8 (by decide) (hts (.fieldLink RX18 80 "TimeMachineModel$Reader" "f" "I") (List.mem_of_getElem? (i := 1) rfl)) (fun _ h9 => h9) rfl dX18_branches_1 ?_
  refine lv_iconst (v := 2) hx hb dX18_branches_4 (by decide) ?_
  refine lv_icmp_eq (tgt := 16) hx hb dX18_branches_5 (by decide) (fun c1 => ?_) (fun c1 => ?_)
  · have h := nd_pos h c1
    exact (db_X18_branches_16 C K)  s0 _ _ _ h hP hD hS (lv_sub hl [] rfl)
  · have h := nd_neg h c1
    refine lv_aload_n hx hb dX18_branches_8 rfl (lv_at hl 0 rfl) ?_
    refine va_get (D := (dC, dI)) (ci := 19) (v := .int (sI s0 7)) (C := RX18) (T := TX18) (N := 10) hx hb hts hi_dm_X18_branches_X18 hown hK hP 0 rfl rfl 8 (by decide) (hts (.fieldLink RX18 80 "TimeMachineModel$Reader" "f" "I") (List.mem_of_getElem? (i := 1) rfl)) (fun _ h9 => h9) rfl dX18_branches_9 ?_
    refine lv_iconst (v := 3) hx hb dX18_branches_12 (by decide) ?_
    refine lv_icmp_ne (tgt := 17) hx hb dX18_branches_13 (by decide) (fun c2 => ?_) (fun c2 => ?_)
    · have h := nd_neg h c2
      refine lv_aload_n hx hb dX18_branches_17 rfl (lv_at hl 0 rfl) ?_
      refine lv_aload_n hx hb dX18_branches_18 rfl (lv_at hl 0 rfl) ?_
      refine va_get (D := (dC, dI)) (ci := 19) (v := .int (sI s0 7)) (C := RX18) (T := TX18) (N := 10) hx hb hts hi_dm_X18_branches_X18 hown hK hP 0 rfl rfl 8 (by decide) (hts (.fieldLink RX18 80 "TimeMachineModel$Reader" "f" "I") (List.mem_of_getElem? (i := 1) rfl)) (fun _ h9 => h9) rfl dX18_branches_19 ?_
      refine lv_if_ne (tgt := 31) hx hb dX18_branches_22 (by decide) (fun c3 => ?_) (fun c3 => ?_)
      · have h := nd_neg h c3
        refine lv_aload_n hx hb dX18_branches_31 rfl (lv_at hl 0 rfl) ?_
        refine va_get (D := (dC, dI)) (ci := 19) (v := .int (sI s0 7)) (C := RX18) (T := TX18) (N := 10) hx hb hts hi_dm_X18_branches_X18 hown hK hP 0 rfl rfl 8 (by decide) (hts (.fieldLink RX18 80 "TimeMachineModel$Reader" "f" "I") (List.mem_of_getElem? (i := 1) rfl)) (fun _ h9 => h9) rfl dX18_branches_32 ?_
        refine lv_iconst (v := 1) hx hb dX18_branches_35 (by decide) ?_
        refine lv_icmp_ne (tgt := 45) hx hb dX18_branches_36 (by decide) (fun c4 => ?_) (fun c4 => ?_)
        · have h := nd_neg h c4
          refine lv_aload_n hx hb dX18_branches_45 rfl (lv_at hl 0 rfl) ?_
          refine va_get (D := (dC, dI)) (ci := 19) (v := .int (sI s0 7)) (C := RX18) (T := TX18) (N := 10) hx hb hts hi_dm_X18_branches_X18 hown hK hP 0 rfl rfl 8 (by decide) (hts (.fieldLink RX18 80 "TimeMachineModel$Reader" "f" "I") (List.mem_of_getElem? (i := 1) rfl)) (fun _ h9 => h9) rfl dX18_branches_46 ?_
          refine lv_iconst (v := 4) hx hb dX18_branches_49 (by decide) ?_
          refine lv_icmp_ne (tgt := 59) hx hb dX18_branches_50 (by decide) (fun c5 => ?_) (fun c5 => ?_)
          · have h := nd_neg h c5
            refine lv_aload_n hx hb dX18_branches_59 rfl (lv_at hl 0 rfl) ?_
            refine va_get (D := (dC, dI)) (ci := 19) (v := .int (sI s0 7)) (C := RX18) (T := TX18) (N := 10) hx hb hts hi_dm_X18_branches_X18 hown hK hP 0 rfl rfl 8 (by decide) (hts (.fieldLink RX18 80 "TimeMachineModel$Reader" "f" "I") (List.mem_of_getElem? (i := 1) rfl)) (fun _ h9 => h9) rfl dX18_branches_60 ?_
            refine lv_iconst (v := 5) hx hb dX18_branches_63 (by decide) ?_
            refine lv_icmp_ne (tgt := 73) hx hb dX18_branches_64 (by decide) (fun c6 => ?_) (fun c6 => ?_)
            · have h := nd_neg h c6
              refine lv_aload_n hx hb dX18_branches_73 rfl (lv_at hl 0 rfl) ?_
              refine va_get (D := (dC, dI)) (ci := 19) (v := .int (sI s0 7)) (C := RX18) (T := TX18) (N := 10) hx hb hts hi_dm_X18_branches_X18 hown hK hP 0 rfl rfl 8 (by decide) (hts (.fieldLink RX18 80 "TimeMachineModel$Reader" "f" "I") (List.mem_of_getElem? (i := 1) rfl)) (fun _ h9 => h9) rfl dX18_branches_74 ?_
              refine lv_bipush (v := 6) hx hb dX18_branches_77 (by decide) ?_
              refine lv_icmp_ne (tgt := 88) hx hb dX18_branches_79 (by decide) (fun c7 => ?_) (fun c7 => ?_)
              · have h := nd_neg h c7
                refine lv_ldc2 hx hb hown (hts (.constantLong RX18 170 (1969579874)) (List.mem_of_getElem? (i := 2) rfl)) dX18_branches_88 ?_
                exact (db_X18_branches_91 C K) (1969579874) s0 _ _ _ h hP hD hS (lv_sub hl [0] rfl)
              · have h := nd_pos h c7
                refine lv_ldc2 hx hb hown (hts (.constantLong RX18 168 (1970564194)) (List.mem_of_getElem? (i := 19) rfl)) dX18_branches_82 ?_
                refine lv_goto (tgt := 91) hx hb dX18_branches_85 (by decide) ?_
                exact (db_X18_branches_91 C K) (1970564194) s0 _ _ _ h hP hD hS (lv_sub hl [0] rfl)
            · have h := nd_pos h c6
              refine lv_ldc2 hx hb hown (hts (.constantLong RX18 166 (6645602)) (List.mem_of_getElem? (i := 20) rfl)) dX18_branches_67 ?_
              refine lv_goto (tgt := 91) hx hb dX18_branches_70 (by decide) ?_
              exact (db_X18_branches_91 C K) (6645602) s0 _ _ _ h hP hD hS (lv_sub hl [0] rfl)
          · have h := nd_pos h c5
            refine lv_ldc2 hx hb hown (hts (.constantLong RX18 164 (7629922)) (List.mem_of_getElem? (i := 21) rfl)) dX18_branches_53 ?_
            refine lv_goto (tgt := 91) hx hb dX18_branches_56 (by decide) ?_
            exact (db_X18_branches_91 C K) (7629922) s0 _ _ _ h hP hD hS (lv_sub hl [0] rfl)
        · have h := nd_pos h c4
          refine lv_ldc2 hx hb hown (hts (.constantLong RX18 162 (6647394)) (List.mem_of_getElem? (i := 22) rfl)) dX18_branches_39 ?_
          refine lv_goto (tgt := 91) hx hb dX18_branches_42 (by decide) ?_
          exact (db_X18_branches_91 C K) (6647394) s0 _ _ _ h hP hD hS (lv_sub hl [0] rfl)
      · have h := nd_pos h c3
        refine lv_ldc2 hx hb hown (hts (.constantLong RX18 160 (7431522)) (List.mem_of_getElem? (i := 23) rfl)) dX18_branches_25 ?_
        refine lv_goto (tgt := 91) hx hb dX18_branches_28 (by decide) ?_
        exact (db_X18_branches_91 C K) (7431522) s0 _ _ _ h hP hD hS (lv_sub hl [0] rfl)
    · have h := nd_pos h c2
      exact (db_X18_branches_16 C K)  s0 _ _ _ h hP hD hS (lv_sub hl [] rfl)
set_option maxHeartbeats 40000000 in
set_option maxRecDepth 100000 in
theorem dm_X18_branches (l : Launch) (hlt : l.stackTraces = false) (dC : Nat → ClassId) (dI : Nat → Nat → Nat) (a : Nat → Nat) (ac : Nat → ClassId) (n : Nat) (s0 : St) {r : St} (h : df_X18_branches n s0 = some r) (sz : Nat) : Met l yX18_branches ow_dm_X18_branches ({ frames := 4, cells := 0, slots := 0, locals := 89 }) (va_Pc [.ref (a 0)] (fun U => U.heap.size = sz ∧ va_P (dC, dI) vwCl (dw_X18 a ac s0) U.heap ∧ va_K (dC, dI) vwCl (dk_X18 ac) U ∧ va_D (fun _ => True) (dw_X18 a ac s0) ∧ nv_E (va_A (dw_X18 a ac s0) sz) U)) (va_Qv (fun _ => True) (fun (_ : Unit) t => va_P (dC, dI) vwCl (dw_X18 a ac r) t.heap ∧ va_K (dC, dI) vwCl (dk_X18 ac) t ∧ va_D (va_A (dw_X18 a ac s0) sz) (dw_X18 a ac r)) (va_A (dw_X18 a ac s0) sz)) 0 0 (va_A (dw_X18 a ac s0) sz) := by
  refine Met.ofW (cc := cX18_branches) (maxL := 1) (ret := none) (by decide) rfl ?_
  intro p e s m args below meth c s₁ B hml hv
  obtain ⟨rfl, hsz, hP, hK, hD0, hN⟩ := hv
  have hx := B.exec
  have hb := B.bytes
  have hr := B.returns
  have hts := atoms_spec (ws := ow_dm_X18_branches) B.pre
  have hown : s.vm.findClass RX18 = some m.cls := findClass_of_methodNamed B.named
  have hlocks := B.notSynchronized
  subst hsz
  have hD := hD0.self (sz := s.heap.size)
  generalize hAe : va_A (dw_X18 a ac s0) s.heap.size = A at hD hN ⊢
  have hA : ∀ q : Nat, s.heap.size ≤ q → A q := fun q h => by rw [← hAe]; exact Or.inr h
  have hl := lv_entry ([.ref (a 0)]) (n := 1) (Nat.le_of_ble_eq_true rfl)
  rw [lg_entry_eq]
  generalize (lg_sl ([.ref (a 0)]) ++ List.replicate (1 - (lg_sl ([.ref (a 0)])).length) Slot.unset).toArray = ls at hl ⊢
  have hl : lv_has ls 1 [(0, .ref (a 0))] := hl
  exact db_X18_branches_0 (dC := dC) (dI := dI) (a := a) (ac := ac) (n := n) (r := r) ⟨hlt, hx, hb, hml, hown, hts, hN, hA, hK⟩ (fun pc τ H locs ls d er hP hD hS => by subst er; exact W.vret hx hb hr (fun t ht hW => ⟨⟨(), rfl, trivial, by rw [ht]; exact hP, va_K.moved hW.alike hK, hD⟩, hS.F ht⟩) hS.2.2 d) s0 _ _ _ h hP hD va_S.rf (lv_sub hl [0] rfl)
def ow_dm_X18_atomic : List Cond := .code yX18_atomic cX18_atomic 5 none :: ([.fieldLink RX18 80 "TimeMachineModel$Reader" "f" "I", .constantLong RX18 183 (7302497), .methodLink RX18 65 yX18_name, .instanceMethod yX18_name, .selects RX18 yX18_name yX18_name, .initialized RX18, .fieldLink RX18 47 "TimeMachineModel$Reader" "operands" "I", .constantLong RX18 195 (30510), .methodLink RX18 50 yX18_say, .instanceMethod yX18_say, .selects RX18 yX18_say yX18_say, .methodLink RX18 172 yX18_part, .instanceMethod yX18_part, .selects RX18 yX18_part yX18_part, .fieldLink RX18 68 "TimeMachineModel$Reader" "d" "I", .methodLink RX18 71 yX18_register, .instanceMethod yX18_register, .selects RX18 yX18_register yX18_register, .methodLink RX18 53 yX18_next, .instanceMethod yX18_next, .selects RX18 yX18_next yX18_next, .fieldLink RX18 74 "TimeMachineModel$Reader" "a" "I", .methodLink RX18 62 yX18_bracket, .instanceMethod yX18_bracket, .selects RX18 yX18_bracket yX18_bracket, .fieldLink RX18 77 "TimeMachineModel$Reader" "b" "I", .constantLong RX18 201 (465776501038), .constantLong RX18 199 (7430446), .constantLong RX18 197 (7107118), .constantLong RX18 193 (1970823533), .constantLong RX18 191 (1970170221), .constantLong RX18 189 (7889261), .constantLong RX18 187 (7235949), .constantLong RX18 95 (29295), .constantLong RX18 97 (6581857), .constantLong RX18 91 (7499640), .constantLong RX18 83 (6579297), .constantLong RX18 185 (1885435763), .constantLong RX18 181 (25459), .constantLong RX18 179 (29292)] ++ (u_ws RX18 TX18 10 ++ (ow_dm_X18_name ++ (ow_dm_X18_say ++ (ow_dm_X18_part ++ (ow_dm_X18_register ++ (ow_dm_X18_next ++ (ow_dm_X18_bracket ++ []))))))))
theorem gd_dm_X18_atomic : ∀ w ∈ ow_dm_X18_atomic, (w.onTables && w.keeps) = true ∨ ∃ ty, w = Cond.arrayClass ty := List.forall_mem_cons.mpr ⟨good_of_word rfl, List.forall_mem_append.mpr ⟨fun w h => good_of_word (List.all_eq_true.mp (by decide +kernel) w h), List.forall_mem_append.mpr ⟨gu_X18, List.forall_mem_append.mpr ⟨gd_dm_X18_name, List.forall_mem_append.mpr ⟨gd_dm_X18_say, List.forall_mem_append.mpr ⟨gd_dm_X18_part, List.forall_mem_append.mpr ⟨gd_dm_X18_register, List.forall_mem_append.mpr ⟨gd_dm_X18_next, List.forall_mem_append.mpr ⟨gd_dm_X18_bracket, fun _ h => nomatch h⟩⟩⟩⟩⟩⟩⟩⟩⟩
theorem hi_dm_X18_atomic_X18 : ∀ w ∈ u_ws RX18 TX18 10, w ∈ ow_dm_X18_atomic := fun w h => List.mem_cons_of_mem _ (List.mem_append_right _ (List.mem_append_left _ h))
theorem gi_dm_X18_atomic_0 : GoodIn ow_dm_X18_atomic (wsV RX18 65 RX18 yX18_name ow_dm_X18_name) := goodIn_app (goodIn_of _ (by decide +kernel)) (fun w h => ⟨List.mem_cons_of_mem _ (List.mem_append_right _ (List.mem_append_right _ (List.mem_append_left _ h))), gd_dm_X18_name w h⟩)
theorem gi_dm_X18_atomic_1 : GoodIn ow_dm_X18_atomic (wsV RX18 50 RX18 yX18_say ow_dm_X18_say) := goodIn_app (goodIn_of _ (by decide +kernel)) (fun w h => ⟨List.mem_cons_of_mem _ (List.mem_append_right _ (List.mem_append_right _ (List.mem_append_right _ (List.mem_append_left _ h)))), gd_dm_X18_say w h⟩)
theorem gi_dm_X18_atomic_2 : GoodIn ow_dm_X18_atomic (wsV RX18 172 RX18 yX18_part ow_dm_X18_part) := goodIn_app (goodIn_of _ (by decide +kernel)) (fun w h => ⟨List.mem_cons_of_mem _ (List.mem_append_right _ (List.mem_append_right _ (List.mem_append_right _ (List.mem_append_right _ (List.mem_append_left _ h))))), gd_dm_X18_part w h⟩)
theorem gi_dm_X18_atomic_3 : GoodIn ow_dm_X18_atomic (wsV RX18 71 RX18 yX18_register ow_dm_X18_register) := goodIn_app (goodIn_of _ (by decide +kernel)) (fun w h => ⟨List.mem_cons_of_mem _ (List.mem_append_right _ (List.mem_append_right _ (List.mem_append_right _ (List.mem_append_right _ (List.mem_append_right _ (List.mem_append_left _ h)))))), gd_dm_X18_register w h⟩)
theorem gi_dm_X18_atomic_4 : GoodIn ow_dm_X18_atomic (wsV RX18 53 RX18 yX18_next ow_dm_X18_next) := goodIn_app (goodIn_of _ (by decide +kernel)) (fun w h => ⟨List.mem_cons_of_mem _ (List.mem_append_right _ (List.mem_append_right _ (List.mem_append_right _ (List.mem_append_right _ (List.mem_append_right _ (List.mem_append_right _ (List.mem_append_left _ h))))))), gd_dm_X18_next w h⟩)
theorem gi_dm_X18_atomic_5 : GoodIn ow_dm_X18_atomic (wsV RX18 62 RX18 yX18_bracket ow_dm_X18_bracket) := goodIn_app (goodIn_of _ (by decide +kernel)) (fun w h => ⟨List.mem_cons_of_mem _ (List.mem_append_right _ (List.mem_append_right _ (List.mem_append_right _ (List.mem_append_right _ (List.mem_append_right _ (List.mem_append_right _ (List.mem_append_right _ (List.mem_append_left _ h)))))))), gd_dm_X18_bracket w h⟩)
def dj_X18_atomic_20 (p : Program) (l : Launch) (e : Env) (s : State) (m : MethodId) (args : Array Value) (below : List Frame) (meth : Method) (c : Code) (Q : State → Prop) (A : Nat → Prop) (dC : Nat → ClassId) (dI : Nat → Nat → Nat) (a : Nat → Nat) (ac : Nat → ClassId) (g : (St) → Option (St)) (r : St) : Prop := ∀ (s0 : St) (H : Heap) (locs : List Loc) (ls : Array Slot), g s0 = some r → va_P (dC, dI) vwCl (dw_X18 a ac s0) H → va_D A (dw_X18 a ac s0) → va_S A s.heap H locs → lv_has ls 5 [] → W p l e (headSpec ow_dm_X18_atomic ({ frames := 3, cells := 0, slots := 0, locals := 67 })).room s m args below meth c H locs 0 0 Q (F0 m 20 ls [])
def dj_X18_atomic_305 (p : Program) (l : Launch) (e : Env) (s : State) (m : MethodId) (args : Array Value) (below : List Frame) (meth : Method) (c : Code) (Q : State → Prop) (A : Nat → Prop) (dC : Nat → ClassId) (dI : Nat → Nat → Nat) (a : Nat → Nat) (ac : Nat → ClassId) (g : (St) → Option (St)) (r : St) : Prop := ∀ (s0 : St) (H : Heap) (locs : List Loc) (ls : Array Slot), g s0 = some r → va_P (dC, dI) vwCl (dw_X18 a ac s0) H → va_D A (dw_X18 a ac s0) → va_S A s.heap H locs → lv_has ls 5 [(0, .ref (a 0))] → W p l e (headSpec ow_dm_X18_atomic ({ frames := 3, cells := 0, slots := 0, locals := 67 })).room s m args below meth c H locs 0 0 Q (F0 m 305 ls [])
def dj_X18_atomic_284 (p : Program) (l : Launch) (e : Env) (s : State) (m : MethodId) (args : Array Value) (below : List Frame) (meth : Method) (c : Code) (Q : State → Prop) (A : Nat → Prop) (dC : Nat → ClassId) (dI : Nat → Nat → Nat) (a : Nat → Nat) (ac : Nat → ClassId) (g : Int32 → (St) → Option (St)) (r : St) : Prop := ∀ (x1 : Int32) (s0 : St) (H : Heap) (locs : List Loc) (ls : Array Slot), g x1 s0 = some r → va_P (dC, dI) vwCl (dw_X18 a ac s0) H → va_D A (dw_X18 a ac s0) → va_S A s.heap H locs → lv_has ls 5 [(0, .ref (a 0)), (1, .int x1)] → W p l e (headSpec ow_dm_X18_atomic ({ frames := 3, cells := 0, slots := 0, locals := 67 })).room s m args below meth c H locs 0 0 Q (F0 m 284 ls [])
def dj_X18_atomic_281 (p : Program) (l : Launch) (e : Env) (s : State) (m : MethodId) (args : Array Value) (below : List Frame) (meth : Method) (c : Code) (Q : State → Prop) (A : Nat → Prop) (dC : Nat → ClassId) (dI : Nat → Nat → Nat) (a : Nat → Nat) (ac : Nat → ClassId) (g : Int32 → Int64 → (St) → Option (St)) (r : St) : Prop := ∀ (x1 : Int32) (y1 : Int64) (s0 : St) (H : Heap) (locs : List Loc) (ls : Array Slot), g x1 y1 s0 = some r → va_P (dC, dI) vwCl (dw_X18 a ac s0) H → va_D A (dw_X18 a ac s0) → va_S A s.heap H locs → lv_has ls 5 [(0, .ref (a 0)), (1, .int x1)] → W p l e (headSpec ow_dm_X18_atomic ({ frames := 3, cells := 0, slots := 0, locals := 67 })).room s m args below meth c H locs 0 0 Q (F0 m 281 ls [.long y1, .ref (a 0)])
def dj_X18_atomic_226 (p : Program) (l : Launch) (e : Env) (s : State) (m : MethodId) (args : Array Value) (below : List Frame) (meth : Method) (c : Code) (Q : State → Prop) (A : Nat → Prop) (dC : Nat → ClassId) (dI : Nat → Nat → Nat) (a : Nat → Nat) (ac : Nat → ClassId) (g : Int32 → (St) → Option (St)) (r : St) : Prop := ∀ (x1 : Int32) (s0 : St) (H : Heap) (locs : List Loc) (ls : Array Slot), g x1 s0 = some r → va_P (dC, dI) vwCl (dw_X18 a ac s0) H → va_D A (dw_X18 a ac s0) → va_S A s.heap H locs → lv_has ls 5 [(0, .ref (a 0)), (1, .int x1)] → W p l e (headSpec ow_dm_X18_atomic ({ frames := 3, cells := 0, slots := 0, locals := 67 })).room s m args below meth c H locs 0 0 Q (F0 m 226 ls [])
def dj_X18_atomic_223 (p : Program) (l : Launch) (e : Env) (s : State) (m : MethodId) (args : Array Value) (below : List Frame) (meth : Method) (c : Code) (Q : State → Prop) (A : Nat → Prop) (dC : Nat → ClassId) (dI : Nat → Nat → Nat) (a : Nat → Nat) (ac : Nat → ClassId) (g : Int32 → Int64 → (St) → Option (St)) (r : St) : Prop := ∀ (x1 : Int32) (y1 : Int64) (s0 : St) (H : Heap) (locs : List Loc) (ls : Array Slot), g x1 y1 s0 = some r → va_P (dC, dI) vwCl (dw_X18 a ac s0) H → va_D A (dw_X18 a ac s0) → va_S A s.heap H locs → lv_has ls 5 [(0, .ref (a 0)), (1, .int x1)] → W p l e (headSpec ow_dm_X18_atomic ({ frames := 3, cells := 0, slots := 0, locals := 67 })).room s m args below meth c H locs 0 0 Q (F0 m 223 ls [.long y1, .ref (a 0)])
def dj_X18_atomic_110 (p : Program) (l : Launch) (e : Env) (s : State) (m : MethodId) (args : Array Value) (below : List Frame) (meth : Method) (c : Code) (Q : State → Prop) (A : Nat → Prop) (dC : Nat → ClassId) (dI : Nat → Nat → Nat) (a : Nat → Nat) (ac : Nat → ClassId) (g : Int32 → Int32 → Int64 → (St) → Option (St)) (r : St) : Prop := ∀ (x1 : Int32) (x2 : Int32) (y1 : Int64) (s0 : St) (H : Heap) (locs : List Loc) (ls : Array Slot), g x1 x2 y1 s0 = some r → va_P (dC, dI) vwCl (dw_X18 a ac s0) H → va_D A (dw_X18 a ac s0) → va_S A s.heap H locs → lv_has ls 5 [(0, .ref (a 0)), (1, .int x1), (2, .int x2)] → W p l e (headSpec ow_dm_X18_atomic ({ frames := 3, cells := 0, slots := 0, locals := 67 })).room s m args below meth c H locs 0 0 Q (F0 m 110 ls [.long y1, .ref (a 0)])
def dj_X18_atomic_76 (p : Program) (l : Launch) (e : Env) (s : State) (m : MethodId) (args : Array Value) (below : List Frame) (meth : Method) (c : Code) (Q : State → Prop) (A : Nat → Prop) (dC : Nat → ClassId) (dI : Nat → Nat → Nat) (a : Nat → Nat) (ac : Nat → ClassId) (g : Int32 → Int32 → Int32 → (St) → Option (St)) (r : St) : Prop := ∀ (x1 : Int32) (x2 : Int32) (y0 : Int32) (s0 : St) (H : Heap) (locs : List Loc) (ls : Array Slot), g x1 x2 y0 s0 = some r → va_P (dC, dI) vwCl (dw_X18 a ac s0) H → va_D A (dw_X18 a ac s0) → va_S A s.heap H locs → lv_has ls 5 [(0, .ref (a 0)), (1, .int x1), (2, .int x2)] → W p l e (headSpec ow_dm_X18_atomic ({ frames := 3, cells := 0, slots := 0, locals := 67 })).room s m args below meth c H locs 0 0 Q (F0 m 76 ls [.int y0])
def dj_X18_atomic_71 (p : Program) (l : Launch) (e : Env) (s : State) (m : MethodId) (args : Array Value) (below : List Frame) (meth : Method) (c : Code) (Q : State → Prop) (A : Nat → Prop) (dC : Nat → ClassId) (dI : Nat → Nat → Nat) (a : Nat → Nat) (ac : Nat → ClassId) (g : Int32 → Int32 → (St) → Option (St)) (r : St) : Prop := ∀ (x1 : Int32) (x2 : Int32) (s0 : St) (H : Heap) (locs : List Loc) (ls : Array Slot), g x1 x2 s0 = some r → va_P (dC, dI) vwCl (dw_X18 a ac s0) H → va_D A (dw_X18 a ac s0) → va_S A s.heap H locs → lv_has ls 5 [(0, .ref (a 0)), (1, .int x1), (2, .int x2)] → W p l e (headSpec ow_dm_X18_atomic ({ frames := 3, cells := 0, slots := 0, locals := 67 })).room s m args below meth c H locs 0 0 Q (F0 m 71 ls [])
def dj_X18_atomic_49 (p : Program) (l : Launch) (e : Env) (s : State) (m : MethodId) (args : Array Value) (below : List Frame) (meth : Method) (c : Code) (Q : State → Prop) (A : Nat → Prop) (dC : Nat → ClassId) (dI : Nat → Nat → Nat) (a : Nat → Nat) (ac : Nat → ClassId) (g : Int32 → Int32 → Int32 → (St) → Option (St)) (r : St) : Prop := ∀ (x1 : Int32) (x2 : Int32) (y0 : Int32) (s0 : St) (H : Heap) (locs : List Loc) (ls : Array Slot), g x1 x2 y0 s0 = some r → va_P (dC, dI) vwCl (dw_X18 a ac s0) H → va_D A (dw_X18 a ac s0) → va_S A s.heap H locs → lv_has ls 5 [(0, .ref (a 0)), (1, .int x1), (2, .int x2)] → W p l e (headSpec ow_dm_X18_atomic ({ frames := 3, cells := 0, slots := 0, locals := 67 })).room s m args below meth c H locs 0 0 Q (F0 m 49 ls [.int y0])
def dj_X18_atomic_48 (p : Program) (l : Launch) (e : Env) (s : State) (m : MethodId) (args : Array Value) (below : List Frame) (meth : Method) (c : Code) (Q : State → Prop) (A : Nat → Prop) (dC : Nat → ClassId) (dI : Nat → Nat → Nat) (a : Nat → Nat) (ac : Nat → ClassId) (g : Int32 → Int32 → (St) → Option (St)) (r : St) : Prop := ∀ (x1 : Int32) (x2 : Int32) (s0 : St) (H : Heap) (locs : List Loc) (ls : Array Slot), g x1 x2 s0 = some r → va_P (dC, dI) vwCl (dw_X18 a ac s0) H → va_D A (dw_X18 a ac s0) → va_S A s.heap H locs → lv_has ls 5 [(0, .ref (a 0)), (1, .int x1), (2, .int x2)] → W p l e (headSpec ow_dm_X18_atomic ({ frames := 3, cells := 0, slots := 0, locals := 67 })).room s m args below meth c H locs 0 0 Q (F0 m 48 ls [])
def dj_X18_atomic_31 (p : Program) (l : Launch) (e : Env) (s : State) (m : MethodId) (args : Array Value) (below : List Frame) (meth : Method) (c : Code) (Q : State → Prop) (A : Nat → Prop) (dC : Nat → ClassId) (dI : Nat → Nat → Nat) (a : Nat → Nat) (ac : Nat → ClassId) (g : Int32 → Int32 → (St) → Option (St)) (r : St) : Prop := ∀ (x1 : Int32) (y0 : Int32) (s0 : St) (H : Heap) (locs : List Loc) (ls : Array Slot), g x1 y0 s0 = some r → va_P (dC, dI) vwCl (dw_X18 a ac s0) H → va_D A (dw_X18 a ac s0) → va_S A s.heap H locs → lv_has ls 5 [(0, .ref (a 0)), (1, .int x1)] → W p l e (headSpec ow_dm_X18_atomic ({ frames := 3, cells := 0, slots := 0, locals := 67 })).room s m args below meth c H locs 0 0 Q (F0 m 31 ls [.int y0])
def dj_X18_atomic_21 (p : Program) (l : Launch) (e : Env) (s : State) (m : MethodId) (args : Array Value) (below : List Frame) (meth : Method) (c : Code) (Q : State → Prop) (A : Nat → Prop) (dC : Nat → ClassId) (dI : Nat → Nat → Nat) (a : Nat → Nat) (ac : Nat → ClassId) (g : Int32 → (St) → Option (St)) (r : St) : Prop := ∀ (x1 : Int32) (s0 : St) (H : Heap) (locs : List Loc) (ls : Array Slot), g x1 s0 = some r → va_P (dC, dI) vwCl (dw_X18 a ac s0) H → va_D A (dw_X18 a ac s0) → va_S A s.heap H locs → lv_has ls 5 [(0, .ref (a 0)), (1, .int x1)] → W p l e (headSpec ow_dm_X18_atomic ({ frames := 3, cells := 0, slots := 0, locals := 67 })).room s m args below meth c H locs 0 0 Q (F0 m 21 ls [])
def dj_X18_atomic_0 (p : Program) (l : Launch) (e : Env) (s : State) (m : MethodId) (args : Array Value) (below : List Frame) (meth : Method) (c : Code) (Q : State → Prop) (A : Nat → Prop) (dC : Nat → ClassId) (dI : Nat → Nat → Nat) (a : Nat → Nat) (ac : Nat → ClassId) (g : Int32 → (St) → Option (St)) (r : St) : Prop := ∀ (v0 : Int32) (s0 : St) (H : Heap) (locs : List Loc) (ls : Array Slot), g v0 s0 = some r → va_P (dC, dI) vwCl (dw_X18 a ac s0) H → va_D A (dw_X18 a ac s0) → va_S A s.heap H locs → lv_has ls 5 [(0, .ref (a 0)), (1, .int v0)] → W p l e (headSpec ow_dm_X18_atomic ({ frames := 3, cells := 0, slots := 0, locals := 67 })).room s m args below meth c H locs 0 0 Q (F0 m 0 ls [])
set_option maxHeartbeats 40000000 in
set_option maxRecDepth 100000 in
theorem db_X18_atomic_20 {p : Program} {l : Launch} {e : Env} {s : State} {m : MethodId} {args : Array Value} {below : List Frame} {meth : Method} {c : Code} {Q : State → Prop} {A : Nat → Prop} {dC : Nat → ClassId} {dI : Nat → Nat → Nat} {a : Nat → Nat} {ac : Nat → ClassId} {n : Nat} {r : St} (C : nd_C p l s m args c A (dC, dI) cX18_atomic 5 RX18 ow_dm_X18_atomic (dk_X18 ac)) (K : nd_Kv p l e (headSpec ow_dm_X18_atomic ({ frames := 3, cells := 0, slots := 0, locals := 67 })).room s m args below meth c Q A (dC, dI) cX18_atomic (St) (dw_X18 a ac) r) : dj_X18_atomic_20 p l e s m args below meth c Q A dC dI a ac (df_X18_atomic_20 n) r := by
  obtain ⟨hlt, hx, hb, hml, hown, hts, hN, hA, hK⟩ := id C
  intro s0 H locs ls h hP hD hS hl
  unfold df_X18_atomic_20 at h
  exact K _ _ _ _ _ dX18_atomic_20 (Option.some.inj h).symm hP hD hS
set_option maxHeartbeats 40000000 in
set_option maxRecDepth 100000 in
theorem db_X18_atomic_305 {p : Program} {l : Launch} {e : Env} {s : State} {m : MethodId} {args : Array Value} {below : List Frame} {meth : Method} {c : Code} {Q : State → Prop} {A : Nat → Prop} {dC : Nat → ClassId} {dI : Nat → Nat → Nat} {a : Nat → Nat} {ac : Nat → ClassId} {n : Nat} {r : St} (C : nd_C p l s m args c A (dC, dI) cX18_atomic 5 RX18 ow_dm_X18_atomic (dk_X18 ac)) (K : nd_Kv p l e (headSpec ow_dm_X18_atomic ({ frames := 3, cells := 0, slots := 0, locals := 67 })).room s m args below meth c Q A (dC, dI) cX18_atomic (St) (dw_X18 a ac) r) : dj_X18_atomic_305 p l e s m args below meth c Q A dC dI a ac (df_X18_atomic_305 n) r := by
  obtain ⟨hlt, hx, hb, hml, hown, hts, hN, hA, hK⟩ := id C
  intro s0 H locs ls h hP hD hS hl
  unfold df_X18_atomic_305 at h
  refine lv_aload_n hx hb dX18_atomic_305 rfl (lv_at hl 0 rfl) ?_
  obtain ⟨s26, hq, h⟩ := nd_b1_e h
  have hPc := hP
  have hDc := hD
  have hKc := hK
  have hFc := nd_rs hD hS hA
  refine va_callv (va_runV (As := []) (rest := []) ⟨hx, hb, hml, hown, hts⟩ (dm_X18_next l hlt dC dI a ac n  s0 hq _) (cwV 0 hts gi_dm_X18_atomic_4 rfl rfl rfl (by decide +kernel) ⟨Nat.le_of_ble_eq_true rfl, Nat.le_of_ble_eq_true rfl⟩) ⟨fun a U g mk q => by obtain ⟨q0, q1, qP, qK, qD, qN⟩ := q; exact ⟨q0, q1, qP, va_K.moved (u := U) (U := U.calling g mk a) (Vm.Alike.refl U.vm) qK, qD, nv_same rfl rfl qN⟩, va_recv hKc hPc (ci := 19) (q0 := 0) rfl rfl, fun U hU hW => ⟨rfl, by rw [hU], by rw [hU]; exact hPc, va_K.moved hW.alike hKc, hDc.weaken (fun _ _ _ _ => trivial), nv_call hS hFc hU hW hN⟩⟩ rfl rfl hl.1 rfl (lv_room (Nat.le_of_ble_eq_true rfl)) dX18_atomic_306 ⟨by decide +kernel, by decide +kernel⟩) hS (fun q _ h => hFc q h) hFc (fun u t H locs ht hvm hw hB hz1 hk1 hS => ?_)
  obtain ⟨hP1, -, hD1⟩ := hB
  rw [ht] at hP1
  have hP := hP1
  have hD := hD1.weaken (fun k q _ h => hFc q.1 h)
  refine W.widen (k := 0) (n := 0) (Nat.le_refl _) (Nat.le_refl _) ?_
  refine lv_aload_n hx hb dX18_atomic_309 rfl (lv_at hl 0 rfl) ?_
  refine lv_aload_n hx hb dX18_atomic_310 rfl (lv_at hl 0 rfl) ?_
  refine va_get (D := (dC, dI)) (ci := 19) (v := .int (sI s26 5)) (C := RX18) (T := TX18) (N := 10) hx hb hts hi_dm_X18_atomic_X18 hown hK hP 0 rfl rfl 6 (by decide) (hts (.fieldLink RX18 74 "TimeMachineModel$Reader" "a" "I") (List.mem_of_getElem? (i := 22) rfl)) (fun _ h9 => h9) rfl dX18_atomic_311 ?_
  obtain ⟨s29, hq, h⟩ := nd_b1_e h
  have hPc := hP
  have hDc := hD
  have hKc := hK
  have hFc := nd_rs hD hS hA
  refine va_callv (va_runV (As := [.int (sI s26 5)]) (rest := []) ⟨hx, hb, hml, hown, hts⟩ (dm_X18_bracket l hlt dC dI a ac n ((sI s26 5)) s26 hq _) (cwV 1 hts gi_dm_X18_atomic_5 rfl rfl rfl (by decide +kernel) ⟨Nat.le_of_ble_eq_true rfl, Nat.le_of_ble_eq_true rfl⟩) ⟨fun a U g mk q => by obtain ⟨q0, q1, qP, qK, qD, qN⟩ := q; exact ⟨q0, q1, qP, va_K.moved (u := U) (U := U.calling g mk a) (Vm.Alike.refl U.vm) qK, qD, nv_same rfl rfl qN⟩, va_recv hKc hPc (ci := 19) (q0 := 0) rfl rfl, fun U hU hW => ⟨rfl, by rw [hU], by rw [hU]; exact hPc, va_K.moved hW.alike hKc, hDc.weaken (fun _ _ _ _ => trivial), nv_call hS hFc hU hW hN⟩⟩ rfl rfl hl.1 rfl (lv_room (Nat.le_of_ble_eq_true rfl)) dX18_atomic_314 ⟨by decide +kernel, by decide +kernel⟩) hS (fun q _ h => hFc q h) hFc (fun u t H locs ht hvm hw hB hz1 hk1 hS => ?_)
  obtain ⟨hP1, -, hD1⟩ := hB
  rw [ht] at hP1
  have hP := hP1
  have hD := hD1.weaken (fun k q _ h => hFc q.1 h)
  refine W.widen (k := 0) (n := 0) (Nat.le_refl _) (Nat.le_refl _) ?_
  exact K _ _ _ _ _ dX18_atomic_317 (Option.some.inj h).symm hP hD hS
set_option maxHeartbeats 40000000 in
set_option maxRecDepth 100000 in
theorem db_X18_atomic_284 {p : Program} {l : Launch} {e : Env} {s : State} {m : MethodId} {args : Array Value} {below : List Frame} {meth : Method} {c : Code} {Q : State → Prop} {A : Nat → Prop} {dC : Nat → ClassId} {dI : Nat → Nat → Nat} {a : Nat → Nat} {ac : Nat → ClassId} {n : Nat} {r : St} (C : nd_C p l s m args c A (dC, dI) cX18_atomic 5 RX18 ow_dm_X18_atomic (dk_X18 ac)) (K : nd_Kv p l e (headSpec ow_dm_X18_atomic ({ frames := 3, cells := 0, slots := 0, locals := 67 })).room s m args below meth c Q A (dC, dI) cX18_atomic (St) (dw_X18 a ac) r) : dj_X18_atomic_284 p l e s m args below meth c Q A dC dI a ac (df_X18_atomic_284 n) r := by
  obtain ⟨hlt, hx, hb, hml, hown, hts, hN, hA, hK⟩ := id C
  intro x1 s0 H locs ls h hP hD hS hl
  unfold df_X18_atomic_284 at h
  refine lv_aload_n hx hb dX18_atomic_284 rfl (lv_at hl 0 rfl) ?_
  refine lv_aload_n hx hb dX18_atomic_285 rfl (lv_at hl 0 rfl) ?_
  refine va_get (D := (dC, dI)) (ci := 19) (v := .int (sI s0 4)) (C := RX18) (T := TX18) (N := 10) hx hb hts hi_dm_X18_atomic_X18 hown hK hP 0 rfl rfl 5 (by decide) (hts (.fieldLink RX18 68 "TimeMachineModel$Reader" "d" "I") (List.mem_of_getElem? (i := 15) rfl)) (fun _ h9 => h9) rfl dX18_atomic_286 ?_
  obtain ⟨s22, hq, h⟩ := nd_b1_e h
  have hPc := hP
  have hDc := hD
  have hKc := hK
  have hFc := nd_rs hD hS hA
  refine va_callv (va_runV (As := [.int (sI s0 4)]) (rest := []) ⟨hx, hb, hml, hown, hts⟩ (dm_X18_register l hlt dC dI a ac n ((sI s0 4)) s0 hq _) (cwV 1 hts gi_dm_X18_atomic_3 rfl rfl rfl (by decide +kernel) ⟨Nat.le_of_ble_eq_true rfl, Nat.le_of_ble_eq_true rfl⟩) ⟨fun a U g mk q => by obtain ⟨q0, q1, qP, qK, qD, qN⟩ := q; exact ⟨q0, q1, qP, va_K.moved (u := U) (U := U.calling g mk a) (Vm.Alike.refl U.vm) qK, qD, nv_same rfl rfl qN⟩, va_recv hKc hPc (ci := 19) (q0 := 0) rfl rfl, fun U hU hW => ⟨rfl, by rw [hU], by rw [hU]; exact hPc, va_K.moved hW.alike hKc, hDc.weaken (fun _ _ _ _ => trivial), nv_call hS hFc hU hW hN⟩⟩ rfl rfl hl.1 rfl (lv_room (Nat.le_of_ble_eq_true rfl)) dX18_atomic_289 ⟨by decide +kernel, by decide +kernel⟩) hS (fun q _ h => hFc q h) hFc (fun u t H locs ht hvm hw hB hz1 hk1 hS => ?_)
  obtain ⟨hP1, -, hD1⟩ := hB
  rw [ht] at hP1
  have hP := hP1
  have hD := hD1.weaken (fun k q _ h => hFc q.1 h)
  refine W.widen (k := 0) (n := 0) (Nat.le_refl _) (Nat.le_refl _) ?_
  refine lv_iload_n hx hb dX18_atomic_292 rfl (lv_at hl 1 rfl) ?_
  refine lv_iconst (v := 2) hx hb dX18_atomic_293 (by decide) ?_
  refine lv_icmp_eq (tgt := 305) hx hb dX18_atomic_294 (by decide) (fun c24 => ?_) (fun c24 => ?_)
  · have h := nd_pos h c24
    exact (db_X18_atomic_305 C K)  s22 _ _ _ h hP hD hS (lv_sub hl [0] rfl)
  · have h := nd_neg h c24
    refine lv_aload_n hx hb dX18_atomic_297 rfl (lv_at hl 0 rfl) ?_
    refine lv_aload_n hx hb dX18_atomic_298 rfl (lv_at hl 0 rfl) ?_
    refine va_get (D := (dC, dI)) (ci := 19) (v := .int (sI s22 6)) (C := RX18) (T := TX18) (N := 10) hx hb hts hi_dm_X18_atomic_X18 hown hK hP 0 rfl rfl 7 (by decide) (hts (.fieldLink RX18 77 "TimeMachineModel$Reader" "b" "I") (List.mem_of_getElem? (i := 26) rfl)) (fun _ h9 => h9) rfl dX18_atomic_299 ?_
    obtain ⟨s32, hq, h⟩ := nd_b1_e h
    have hPc := hP
    have hDc := hD
    have hKc := hK
    have hFc := nd_rs hD hS hA
    refine va_callv (va_runV (As := [.int (sI s22 6)]) (rest := []) ⟨hx, hb, hml, hown, hts⟩ (dm_X18_register l hlt dC dI a ac n ((sI s22 6)) s22 hq _) (cwV 1 hts gi_dm_X18_atomic_3 rfl rfl rfl (by decide +kernel) ⟨Nat.le_of_ble_eq_true rfl, Nat.le_of_ble_eq_true rfl⟩) ⟨fun a U g mk q => by obtain ⟨q0, q1, qP, qK, qD, qN⟩ := q; exact ⟨q0, q1, qP, va_K.moved (u := U) (U := U.calling g mk a) (Vm.Alike.refl U.vm) qK, qD, nv_same rfl rfl qN⟩, va_recv hKc hPc (ci := 19) (q0 := 0) rfl rfl, fun U hU hW => ⟨rfl, by rw [hU], by rw [hU]; exact hPc, va_K.moved hW.alike hKc, hDc.weaken (fun _ _ _ _ => trivial), nv_call hS hFc hU hW hN⟩⟩ rfl rfl hl.1 rfl (lv_room (Nat.le_of_ble_eq_true rfl)) dX18_atomic_302 ⟨by decide +kernel, by decide +kernel⟩) hS (fun q _ h => hFc q h) hFc (fun u t H locs ht hvm hw hB hz1 hk1 hS => ?_)
    obtain ⟨hP1, -, hD1⟩ := hB
    rw [ht] at hP1
    have hP := hP1
    have hD := hD1.weaken (fun k q _ h => hFc q.1 h)
    refine W.widen (k := 0) (n := 0) (Nat.le_refl _) (Nat.le_refl _) ?_
    exact (db_X18_atomic_305 C K)  s32 _ _ _ h hP hD hS (lv_sub hl [0] rfl)
set_option maxHeartbeats 40000000 in
set_option maxRecDepth 100000 in
theorem db_X18_atomic_281 {p : Program} {l : Launch} {e : Env} {s : State} {m : MethodId} {args : Array Value} {below : List Frame} {meth : Method} {c : Code} {Q : State → Prop} {A : Nat → Prop} {dC : Nat → ClassId} {dI : Nat → Nat → Nat} {a : Nat → Nat} {ac : Nat → ClassId} {n : Nat} {r : St} (C : nd_C p l s m args c A (dC, dI) cX18_atomic 5 RX18 ow_dm_X18_atomic (dk_X18 ac)) (K : nd_Kv p l e (headSpec ow_dm_X18_atomic ({ frames := 3, cells := 0, slots := 0, locals := 67 })).room s m args below meth c Q A (dC, dI) cX18_atomic (St) (dw_X18 a ac) r) : dj_X18_atomic_281 p l e s m args below meth c Q A dC dI a ac (df_X18_atomic_281 n) r := by
  obtain ⟨hlt, hx, hb, hml, hown, hts, hN, hA, hK⟩ := id C
  intro x1 y1 s0 H locs ls h hP hD hS hl
  unfold df_X18_atomic_281 at h
  obtain ⟨s43, hq, h⟩ := nd_b1_e h
  have hPc := hP
  have hDc := hD
  have hKc := hK
  have hFc := nd_rs hD hS hA
  refine va_callv (va_runV (As := [.long y1]) (rest := []) ⟨hx, hb, hml, hown, hts⟩ (dm_X18_say l hlt dC dI a ac n (y1) s0 hq _) (cwV 1 hts gi_dm_X18_atomic_1 rfl rfl rfl (by decide +kernel) ⟨Nat.le_of_ble_eq_true rfl, Nat.le_of_ble_eq_true rfl⟩) ⟨fun a U g mk q => by obtain ⟨q0, q1, qP, qK, qD, qN⟩ := q; exact ⟨q0, q1, qP, va_K.moved (u := U) (U := U.calling g mk a) (Vm.Alike.refl U.vm) qK, qD, nv_same rfl rfl qN⟩, va_recv hKc hPc (ci := 19) (q0 := 0) rfl rfl, fun U hU hW => ⟨rfl, by rw [hU], by rw [hU]; exact hPc, va_K.moved hW.alike hKc, hDc.weaken (fun _ _ _ _ => trivial), nv_call hS hFc hU hW hN⟩⟩ rfl rfl hl.1 rfl (lv_room (Nat.le_of_ble_eq_true rfl)) dX18_atomic_281 ⟨by decide +kernel, by decide +kernel⟩) hS (fun q _ h => hFc q h) hFc (fun u t H locs ht hvm hw hB hz1 hk1 hS => ?_)
  obtain ⟨hP1, -, hD1⟩ := hB
  rw [ht] at hP1
  have hP := hP1
  have hD := hD1.weaken (fun k q _ h => hFc q.1 h)
  refine W.widen (k := 0) (n := 0) (Nat.le_refl _) (Nat.le_refl _) ?_
  exact (db_X18_atomic_284 C K) (x1) s43 _ _ _ h hP hD hS (lv_sub hl [0, 1] rfl)
set_option maxHeartbeats 40000000 in
set_option maxRecDepth 100000 in
theorem db_X18_atomic_226 {p : Program} {l : Launch} {e : Env} {s : State} {m : MethodId} {args : Array Value} {below : List Frame} {meth : Method} {c : Code} {Q : State → Prop} {A : Nat → Prop} {dC : Nat → ClassId} {dI : Nat → Nat → Nat} {a : Nat → Nat} {ac : Nat → ClassId} {n : Nat} {r : St} (C : nd_C p l s m args c A (dC, dI) cX18_atomic 5 RX18 ow_dm_X18_atomic (dk_X18 ac)) (K : nd_Kv p l e (headSpec ow_dm_X18_atomic ({ frames := 3, cells := 0, slots := 0, locals := 67 })).room s m args below meth c Q A (dC, dI) cX18_atomic (St) (dw_X18 a ac) r) : dj_X18_atomic_226 p l e s m args below meth c Q A dC dI a ac (df_X18_atomic_226 n) r := by
  obtain ⟨hlt, hx, hb, hml, hown, hts, hN, hA, hK⟩ := id C
  intro x1 s0 H locs ls h hP hD hS hl
  unfold df_X18_atomic_226 at h
  refine lv_aload_n hx hb dX18_atomic_226 rfl (lv_at hl 0 rfl) ?_
  refine lv_ldc2 hx hb hown (hts (.constantLong RX18 195 (30510)) (List.mem_of_getElem? (i := 8) rfl)) dX18_atomic_227 ?_
  obtain ⟨s15, hq, h⟩ := nd_b1_e h
  have hPc := hP
  have hDc := hD
  have hKc := hK
  have hFc := nd_rs hD hS hA
  refine va_callv (va_runV (As := [.long 30510]) (rest := []) ⟨hx, hb, hml, hown, hts⟩ (dm_X18_say l hlt dC dI a ac n (30510) s0 hq _) (cwV 1 hts gi_dm_X18_atomic_1 rfl rfl rfl (by decide +kernel) ⟨Nat.le_of_ble_eq_true rfl, Nat.le_of_ble_eq_true rfl⟩) ⟨fun a U g mk q => by obtain ⟨q0, q1, qP, qK, qD, qN⟩ := q; exact ⟨q0, q1, qP, va_K.moved (u := U) (U := U.calling g mk a) (Vm.Alike.refl U.vm) qK, qD, nv_same rfl rfl qN⟩, va_recv hKc hPc (ci := 19) (q0 := 0) rfl rfl, fun U hU hW => ⟨rfl, by rw [hU], by rw [hU]; exact hPc, va_K.moved hW.alike hKc, hDc.weaken (fun _ _ _ _ => trivial), nv_call hS hFc hU hW hN⟩⟩ rfl rfl hl.1 rfl (lv_room (Nat.le_of_ble_eq_true rfl)) dX18_atomic_230 ⟨by decide +kernel, by decide +kernel⟩) hS (fun q _ h => hFc q h) hFc (fun u t H locs ht hvm hw hB hz1 hk1 hS => ?_)
  obtain ⟨hP1, -, hD1⟩ := hB
  rw [ht] at hP1
  have hP := hP1
  have hD := hD1.weaken (fun k q _ h => hFc q.1 h)
  refine W.widen (k := 0) (n := 0) (Nat.le_refl _) (Nat.le_refl _) ?_
  refine lv_aload_n hx hb dX18_atomic_233 rfl (lv_at hl 0 rfl) ?_
  refine lv_bipush (v := 25) hx hb dX18_atomic_234 (by decide) ?_
  refine lv_iconst (v := 2) hx hb dX18_atomic_236 (by decide) ?_
  obtain ⟨q17, s18, hq, h⟩ := nd_b2_e h
  have hPc := hP
  have hDc := hD
  have hKc := hK
  have hFc := nd_rs hD hS hA
  refine va_calli (va_runV (As := [.int 25, .int 2]) (rest := []) ⟨hx, hb, hml, hown, hts⟩ (dm_X18_part l hlt dC dI a ac n (25) (2) s15 hq _) (cwV 2 hts gi_dm_X18_atomic_2 rfl rfl rfl (by decide +kernel) ⟨Nat.le_of_ble_eq_true rfl, Nat.le_of_ble_eq_true rfl⟩) ⟨fun a U g mk q => by obtain ⟨q0, q1, qP, qK, qD, qN⟩ := q; exact ⟨q0, q1, qP, va_K.moved (u := U) (U := U.calling g mk a) (Vm.Alike.refl U.vm) qK, qD, nv_same rfl rfl qN⟩, va_recv hKc hPc (ci := 19) (q0 := 0) rfl rfl, fun U hU hW => ⟨rfl, by rw [hU], by rw [hU]; exact hPc, va_K.moved hW.alike hKc, hDc.weaken (fun _ _ _ _ => trivial), nv_call hS hFc hU hW hN⟩⟩ rfl rfl hl.1 rfl (lv_room (Nat.le_of_ble_eq_true rfl)) dX18_atomic_237 ⟨by decide +kernel, by decide +kernel⟩) hS (fun q _ h => hFc q h) hFc (fun r19 u t H locs ht hvm hw hB hz1 hk1 hS => ?_)
  obtain rfl : q17 = r19 := Eq.symm hw
  obtain ⟨hP1, -, hD1⟩ := hB
  rw [ht] at hP1
  have hP := hP1
  have hD := hD1.weaken (fun k q _ h => hFc q.1 h)
  refine W.widen (k := 0) (n := 0) (Nat.le_refl _) (Nat.le_refl _) ?_
  refine lv_if_eq (tgt := 284) hx hb dX18_atomic_240 (by decide) (fun c20 => ?_) (fun c20 => ?_)
  · have h := nd_pos h c20
    exact (db_X18_atomic_284 C K) (x1) s18 _ _ _ h hP hD hS (lv_sub hl [0, 1] rfl)
  · have h := nd_neg h c20
    refine lv_aload_n hx hb dX18_atomic_243 rfl (lv_at hl 0 rfl) ?_
    refine lv_aload_n hx hb dX18_atomic_244 rfl (lv_at hl 0 rfl) ?_
    refine lv_bipush (v := 25) hx hb dX18_atomic_245 (by decide) ?_
    refine lv_iconst (v := 2) hx hb dX18_atomic_247 (by decide) ?_
    obtain ⟨q34, s35, hq, h⟩ := nd_b2_e h
    have hPc := hP
    have hDc := hD
    have hKc := hK
    have hFc := nd_rs hD hS hA
    refine va_calli (va_runV (As := [.int 25, .int 2]) (rest := [.ref (a 0)]) ⟨hx, hb, hml, hown, hts⟩ (dm_X18_part l hlt dC dI a ac n (25) (2) s18 hq _) (cwV 2 hts gi_dm_X18_atomic_2 rfl rfl rfl (by decide +kernel) ⟨Nat.le_of_ble_eq_true rfl, Nat.le_of_ble_eq_true rfl⟩) ⟨fun a U g mk q => by obtain ⟨q0, q1, qP, qK, qD, qN⟩ := q; exact ⟨q0, q1, qP, va_K.moved (u := U) (U := U.calling g mk a) (Vm.Alike.refl U.vm) qK, qD, nv_same rfl rfl qN⟩, va_recv hKc hPc (ci := 19) (q0 := 0) rfl rfl, fun U hU hW => ⟨rfl, by rw [hU], by rw [hU]; exact hPc, va_K.moved hW.alike hKc, hDc.weaken (fun _ _ _ _ => trivial), nv_call hS hFc hU hW hN⟩⟩ rfl rfl hl.1 rfl (lv_room (Nat.le_of_ble_eq_true rfl)) dX18_atomic_248 ⟨by decide +kernel, by decide +kernel⟩) hS (fun q _ h => hFc q h) hFc (fun r36 u t H locs ht hvm hw hB hz1 hk1 hS => ?_)
    obtain rfl : q34 = r36 := Eq.symm hw
    obtain ⟨hP1, -, hD1⟩ := hB
    rw [ht] at hP1
    have hP := hP1
    have hD := hD1.weaken (fun k q _ h => hFc q.1 h)
    refine W.widen (k := 0) (n := 0) (Nat.le_refl _) (Nat.le_refl _) ?_
    refine lv_iconst (v := 1) hx hb dX18_atomic_251 (by decide) ?_
    refine lv_icmp_ne (tgt := 261) hx hb dX18_atomic_252 (by decide) (fun c37 => ?_) (fun c37 => ?_)
    · have h := nd_neg h c37
      refine lv_aload_n hx hb dX18_atomic_261 rfl (lv_at hl 0 rfl) ?_
      refine lv_bipush (v := 25) hx hb dX18_atomic_262 (by decide) ?_
      refine lv_iconst (v := 2) hx hb dX18_atomic_264 (by decide) ?_
      obtain ⟨q38, s39, hq, h⟩ := nd_b2_e h
      have hPc := hP
      have hDc := hD
      have hKc := hK
      have hFc := nd_rs hD hS hA
      refine va_calli (va_runV (As := [.int 25, .int 2]) (rest := [.ref (a 0)]) ⟨hx, hb, hml, hown, hts⟩ (dm_X18_part l hlt dC dI a ac n (25) (2) s35 hq _) (cwV 2 hts gi_dm_X18_atomic_2 rfl rfl rfl (by decide +kernel) ⟨Nat.le_of_ble_eq_true rfl, Nat.le_of_ble_eq_true rfl⟩) ⟨fun a U g mk q => by obtain ⟨q0, q1, qP, qK, qD, qN⟩ := q; exact ⟨q0, q1, qP, va_K.moved (u := U) (U := U.calling g mk a) (Vm.Alike.refl U.vm) qK, qD, nv_same rfl rfl qN⟩, va_recv hKc hPc (ci := 19) (q0 := 0) rfl rfl, fun U hU hW => ⟨rfl, by rw [hU], by rw [hU]; exact hPc, va_K.moved hW.alike hKc, hDc.weaken (fun _ _ _ _ => trivial), nv_call hS hFc hU hW hN⟩⟩ rfl rfl hl.1 rfl (lv_room (Nat.le_of_ble_eq_true rfl)) dX18_atomic_265 ⟨by decide +kernel, by decide +kernel⟩) hS (fun q _ h => hFc q h) hFc (fun r40 u t H locs ht hvm hw hB hz1 hk1 hS => ?_)
      obtain rfl : q38 = r40 := Eq.symm hw
      obtain ⟨hP1, -, hD1⟩ := hB
      rw [ht] at hP1
      have hP := hP1
      have hD := hD1.weaken (fun k q _ h => hFc q.1 h)
      refine W.widen (k := 0) (n := 0) (Nat.le_refl _) (Nat.le_refl _) ?_
      refine lv_iconst (v := 2) hx hb dX18_atomic_268 (by decide) ?_
      refine lv_icmp_ne (tgt := 278) hx hb dX18_atomic_269 (by decide) (fun c41 => ?_) (fun c41 => ?_)
      · have h := nd_neg h c41
        refine lv_ldc2 hx hb hown (hts (.constantLong RX18 201 (465776501038)) (List.mem_of_getElem? (i := 27) rfl)) dX18_atomic_278 ?_
        exact (db_X18_atomic_281 C K) (x1) (465776501038) s39 _ _ _ h hP hD hS (lv_sub hl [0, 1] rfl)
      · have h := nd_pos h c41
        refine lv_ldc2 hx hb hown (hts (.constantLong RX18 199 (7430446)) (List.mem_of_getElem? (i := 28) rfl)) dX18_atomic_272 ?_
        refine lv_goto (tgt := 281) hx hb dX18_atomic_275 (by decide) ?_
        exact (db_X18_atomic_281 C K) (x1) (7430446) s39 _ _ _ h hP hD hS (lv_sub hl [0, 1] rfl)
    · have h := nd_pos h c37
      refine lv_ldc2 hx hb hown (hts (.constantLong RX18 197 (7107118)) (List.mem_of_getElem? (i := 29) rfl)) dX18_atomic_255 ?_
      refine lv_goto (tgt := 281) hx hb dX18_atomic_258 (by decide) ?_
      exact (db_X18_atomic_281 C K) (x1) (7107118) s35 _ _ _ h hP hD hS (lv_sub hl [0, 1] rfl)
set_option maxHeartbeats 40000000 in
set_option maxRecDepth 100000 in
theorem db_X18_atomic_223 {p : Program} {l : Launch} {e : Env} {s : State} {m : MethodId} {args : Array Value} {below : List Frame} {meth : Method} {c : Code} {Q : State → Prop} {A : Nat → Prop} {dC : Nat → ClassId} {dI : Nat → Nat → Nat} {a : Nat → Nat} {ac : Nat → ClassId} {n : Nat} {r : St} (C : nd_C p l s m args c A (dC, dI) cX18_atomic 5 RX18 ow_dm_X18_atomic (dk_X18 ac)) (K : nd_Kv p l e (headSpec ow_dm_X18_atomic ({ frames := 3, cells := 0, slots := 0, locals := 67 })).room s m args below meth c Q A (dC, dI) cX18_atomic (St) (dw_X18 a ac) r) : dj_X18_atomic_223 p l e s m args below meth c Q A dC dI a ac (df_X18_atomic_223 n) r := by
  obtain ⟨hlt, hx, hb, hml, hown, hts, hN, hA, hK⟩ := id C
  intro x1 y1 s0 H locs ls h hP hD hS hl
  unfold df_X18_atomic_223 at h
  obtain ⟨s55, hq, h⟩ := nd_b1_e h
  have hPc := hP
  have hDc := hD
  have hKc := hK
  have hFc := nd_rs hD hS hA
  refine va_callv (va_runV (As := [.long y1]) (rest := []) ⟨hx, hb, hml, hown, hts⟩ (dm_X18_say l hlt dC dI a ac n (y1) s0 hq _) (cwV 1 hts gi_dm_X18_atomic_1 rfl rfl rfl (by decide +kernel) ⟨Nat.le_of_ble_eq_true rfl, Nat.le_of_ble_eq_true rfl⟩) ⟨fun a U g mk q => by obtain ⟨q0, q1, qP, qK, qD, qN⟩ := q; exact ⟨q0, q1, qP, va_K.moved (u := U) (U := U.calling g mk a) (Vm.Alike.refl U.vm) qK, qD, nv_same rfl rfl qN⟩, va_recv hKc hPc (ci := 19) (q0 := 0) rfl rfl, fun U hU hW => ⟨rfl, by rw [hU], by rw [hU]; exact hPc, va_K.moved hW.alike hKc, hDc.weaken (fun _ _ _ _ => trivial), nv_call hS hFc hU hW hN⟩⟩ rfl rfl hl.1 rfl (lv_room (Nat.le_of_ble_eq_true rfl)) dX18_atomic_223 ⟨by decide +kernel, by decide +kernel⟩) hS (fun q _ h => hFc q h) hFc (fun u t H locs ht hvm hw hB hz1 hk1 hS => ?_)
  obtain ⟨hP1, -, hD1⟩ := hB
  rw [ht] at hP1
  have hP := hP1
  have hD := hD1.weaken (fun k q _ h => hFc q.1 h)
  refine W.widen (k := 0) (n := 0) (Nat.le_refl _) (Nat.le_refl _) ?_
  exact (db_X18_atomic_226 C K) (x1) s55 _ _ _ h hP hD hS (lv_sub hl [0, 1] rfl)
set_option maxHeartbeats 40000000 in
set_option maxRecDepth 100000 in
theorem db_X18_atomic_110 {p : Program} {l : Launch} {e : Env} {s : State} {m : MethodId} {args : Array Value} {below : List Frame} {meth : Method} {c : Code} {Q : State → Prop} {A : Nat → Prop} {dC : Nat → ClassId} {dI : Nat → Nat → Nat} {a : Nat → Nat} {ac : Nat → ClassId} {n : Nat} {r : St} (C : nd_C p l s m args c A (dC, dI) cX18_atomic 5 RX18 ow_dm_X18_atomic (dk_X18 ac)) (K : nd_Kv p l e (headSpec ow_dm_X18_atomic ({ frames := 3, cells := 0, slots := 0, locals := 67 })).room s m args below meth c Q A (dC, dI) cX18_atomic (St) (dw_X18 a ac) r) : dj_X18_atomic_110 p l e s m args below meth c Q A dC dI a ac (df_X18_atomic_110 n) r := by
  obtain ⟨hlt, hx, hb, hml, hown, hts, hN, hA, hK⟩ := id C
  intro x1 x2 y1 s0 H locs ls h hP hD hS hl
  unfold df_X18_atomic_110 at h
  obtain ⟨s10, hq, h⟩ := nd_b1_e h
  have hPc := hP
  have hDc := hD
  have hKc := hK
  have hFc := nd_rs hD hS hA
  refine va_callv (va_runV (As := [.long y1]) (rest := []) ⟨hx, hb, hml, hown, hts⟩ (dm_X18_name l hlt dC dI a ac n (y1) s0 hq _) (cwV 1 hts gi_dm_X18_atomic_0 rfl rfl rfl (by decide +kernel) ⟨Nat.le_of_ble_eq_true rfl, Nat.le_of_ble_eq_true rfl⟩) ⟨fun a U g mk q => by obtain ⟨q0, q1, qP, qK, qD, qN⟩ := q; exact ⟨q0, q1, qP, va_K.moved (u := U) (U := U.calling g mk a) (Vm.Alike.refl U.vm) qK, qD, nv_same rfl rfl qN⟩, va_recv hKc hPc (ci := 19) (q0 := 0) rfl rfl, fun U hU hW => ⟨rfl, by rw [hU], by rw [hU]; exact hPc, va_K.moved hW.alike hKc, hDc.weaken (fun _ _ _ _ => trivial), nv_call hS hFc hU hW hN⟩⟩ rfl rfl hl.1 rfl (lv_room (Nat.le_of_ble_eq_true rfl)) dX18_atomic_110 ⟨by decide +kernel, by decide +kernel⟩) hS (fun q _ h => hFc q h) hFc (fun u t H locs ht hvm hw hB hz1 hk1 hS => ?_)
  obtain ⟨hP1, -, hD1⟩ := hB
  rw [ht] at hP1
  have hP := hP1
  have hD := hD1.weaken (fun k q _ h => hFc q.1 h)
  refine W.widen (k := 0) (n := 0) (Nat.le_refl _) (Nat.le_refl _) ?_
  refine lv_aload_n hx hb dX18_atomic_113 rfl (lv_at hl 0 rfl) ?_
  refine lv_iconst (v := 0) hx hb dX18_atomic_114 (by decide) ?_
  refine va_put (D := (dC, dI)) (ci := 19) (v := .int 0) (ty := .int) (C := RX18) (T := TX18) (N := 10) hx hb hts hi_dm_X18_atomic_X18 tyX18 tyX18_ok nmX18 hown hK hP hD hS 0 rfl rfl 2 (by decide) (hts (.fieldLink RX18 47 "TimeMachineModel$Reader" "operands" "I") (List.mem_of_getElem? (i := 7) rfl)) (fun _ h9 => h9) rfl (by decide +kernel) rfl rfl (Nat.le_of_ble_eq_true rfl) dX18_atomic_115 (fun H locs hP hD hS => ?_)
  obtain ⟨s12, es12, h⟩ := nd_let_e h
  have hP : va_P (dC, dI) vwCl (dw_X18 a ac s12) H := by rw [es12]; exact hP
  have hD : va_D A (dw_X18 a ac s12) := by rw [es12]; exact hD
  refine lv_iload_n hx hb dX18_atomic_118 rfl (lv_at hl 1 rfl) ?_
  refine lv_iconst (v := 2) hx hb dX18_atomic_119 (by decide) ?_
  refine lv_icmp_eq (tgt := 226) hx hb dX18_atomic_120 (by decide) (fun c13 => ?_) (fun c13 => ?_)
  · have h := nd_pos h c13
    exact (db_X18_atomic_226 C K) (x1) s12 _ _ _ h hP hD hS (lv_sub hl [0, 1] rfl)
  · have h := nd_neg h c13
    refine lv_iload_n hx hb dX18_atomic_123 rfl (lv_at hl 1 rfl) ?_
    refine lv_iconst (v := 3) hx hb dX18_atomic_124 (by decide) ?_
    refine lv_icmp_eq (tgt := 226) hx hb dX18_atomic_125 (by decide) (fun c45 => ?_) (fun c45 => ?_)
    · have h := nd_pos h c45
      exact (db_X18_atomic_226 C K) (x1) s12 _ _ _ h hP hD hS (lv_sub hl [0, 1] rfl)
    · have h := nd_neg h c45
      refine lv_aload_n hx hb dX18_atomic_128 rfl (lv_at hl 0 rfl) ?_
      refine lv_iload_n hx hb dX18_atomic_129 rfl (lv_at hl 2 rfl) ?_
      refine lv_if_eq (tgt := 139) hx hb dX18_atomic_130 (by decide) (fun c46 => ?_) (fun c46 => ?_)
      · have h := nd_pos h c46
        refine lv_iload_n hx hb dX18_atomic_139 rfl (lv_at hl 1 rfl) ?_
        refine lv_if_ne (tgt := 149) hx hb dX18_atomic_140 (by decide) (fun c47 => ?_) (fun c47 => ?_)
        · have h := nd_neg h c47
          refine lv_iload_n hx hb dX18_atomic_149 rfl (lv_at hl 1 rfl) ?_
          refine lv_iconst (v := 4) hx hb dX18_atomic_150 (by decide) ?_
          refine lv_icmp_ne (tgt := 160) hx hb dX18_atomic_151 (by decide) (fun c48 => ?_) (fun c48 => ?_)
          · have h := nd_neg h c48
            refine lv_iload_n hx hb dX18_atomic_160 rfl (lv_at hl 1 rfl) ?_
            refine lv_bipush (v := 12) hx hb dX18_atomic_161 (by decide) ?_
            refine lv_icmp_ne (tgt := 172) hx hb dX18_atomic_163 (by decide) (fun c49 => ?_) (fun c49 => ?_)
            · have h := nd_neg h c49
              refine lv_iload_n hx hb dX18_atomic_172 rfl (lv_at hl 1 rfl) ?_
              refine lv_bipush (v := 8) hx hb dX18_atomic_173 (by decide) ?_
              refine lv_icmp_ne (tgt := 184) hx hb dX18_atomic_175 (by decide) (fun c50 => ?_) (fun c50 => ?_)
              · have h := nd_neg h c50
                refine lv_iload_n hx hb dX18_atomic_184 rfl (lv_at hl 1 rfl) ?_
                refine lv_bipush (v := 16) hx hb dX18_atomic_185 (by decide) ?_
                refine lv_icmp_ne (tgt := 196) hx hb dX18_atomic_187 (by decide) (fun c51 => ?_) (fun c51 => ?_)
                · have h := nd_neg h c51
                  refine lv_iload_n hx hb dX18_atomic_196 rfl (lv_at hl 1 rfl) ?_
                  refine lv_bipush (v := 20) hx hb dX18_atomic_197 (by decide) ?_
                  refine lv_icmp_ne (tgt := 208) hx hb dX18_atomic_199 (by decide) (fun c52 => ?_) (fun c52 => ?_)
                  · have h := nd_neg h c52
                    refine lv_iload_n hx hb dX18_atomic_208 rfl (lv_at hl 1 rfl) ?_
                    refine lv_bipush (v := 24) hx hb dX18_atomic_209 (by decide) ?_
                    refine lv_icmp_ne (tgt := 220) hx hb dX18_atomic_211 (by decide) (fun c53 => ?_) (fun c53 => ?_)
                    · have h := nd_neg h c53
                      refine lv_ldc2 hx hb hown (hts (.constantLong RX18 193 (1970823533)) (List.mem_of_getElem? (i := 30) rfl)) dX18_atomic_220 ?_
                      exact (db_X18_atomic_223 C K) (x1) (1970823533) s12 _ _ _ h hP hD hS (lv_sub hl [0, 1] rfl)
                    · have h := nd_pos h c53
                      refine lv_ldc2 hx hb hown (hts (.constantLong RX18 191 (1970170221)) (List.mem_of_getElem? (i := 31) rfl)) dX18_atomic_214 ?_
                      refine lv_goto (tgt := 223) hx hb dX18_atomic_217 (by decide) ?_
                      exact (db_X18_atomic_223 C K) (x1) (1970170221) s12 _ _ _ h hP hD hS (lv_sub hl [0, 1] rfl)
                  · have h := nd_pos h c52
                    refine lv_ldc2 hx hb hown (hts (.constantLong RX18 189 (7889261)) (List.mem_of_getElem? (i := 32) rfl)) dX18_atomic_202 ?_
                    refine lv_goto (tgt := 223) hx hb dX18_atomic_205 (by decide) ?_
                    exact (db_X18_atomic_223 C K) (x1) (7889261) s12 _ _ _ h hP hD hS (lv_sub hl [0, 1] rfl)
                · have h := nd_pos h c51
                  refine lv_ldc2 hx hb hown (hts (.constantLong RX18 187 (7235949)) (List.mem_of_getElem? (i := 33) rfl)) dX18_atomic_190 ?_
                  refine lv_goto (tgt := 223) hx hb dX18_atomic_193 (by decide) ?_
                  exact (db_X18_atomic_223 C K) (x1) (7235949) s12 _ _ _ h hP hD hS (lv_sub hl [0, 1] rfl)
              · have h := nd_pos h c50
                refine lv_ldc2 hx hb hown (hts (.constantLong RX18 95 (29295)) (List.mem_of_getElem? (i := 34) rfl)) dX18_atomic_178 ?_
                refine lv_goto (tgt := 223) hx hb dX18_atomic_181 (by decide) ?_
                exact (db_X18_atomic_223 C K) (x1) (29295) s12 _ _ _ h hP hD hS (lv_sub hl [0, 1] rfl)
            · have h := nd_pos h c49
              refine lv_ldc2 hx hb hown (hts (.constantLong RX18 97 (6581857)) (List.mem_of_getElem? (i := 35) rfl)) dX18_atomic_166 ?_
              refine lv_goto (tgt := 223) hx hb dX18_atomic_169 (by decide) ?_
              exact (db_X18_atomic_223 C K) (x1) (6581857) s12 _ _ _ h hP hD hS (lv_sub hl [0, 1] rfl)
          · have h := nd_pos h c48
            refine lv_ldc2 hx hb hown (hts (.constantLong RX18 91 (7499640)) (List.mem_of_getElem? (i := 36) rfl)) dX18_atomic_154 ?_
            refine lv_goto (tgt := 223) hx hb dX18_atomic_157 (by decide) ?_
            exact (db_X18_atomic_223 C K) (x1) (7499640) s12 _ _ _ h hP hD hS (lv_sub hl [0, 1] rfl)
        · have h := nd_pos h c47
          refine lv_ldc2 hx hb hown (hts (.constantLong RX18 83 (6579297)) (List.mem_of_getElem? (i := 37) rfl)) dX18_atomic_143 ?_
          refine lv_goto (tgt := 223) hx hb dX18_atomic_146 (by decide) ?_
          exact (db_X18_atomic_223 C K) (x1) (6579297) s12 _ _ _ h hP hD hS (lv_sub hl [0, 1] rfl)
      · have h := nd_neg h c46
        refine lv_ldc2 hx hb hown (hts (.constantLong RX18 185 (1885435763)) (List.mem_of_getElem? (i := 38) rfl)) dX18_atomic_133 ?_
        refine lv_goto (tgt := 223) hx hb dX18_atomic_136 (by decide) ?_
        exact (db_X18_atomic_223 C K) (x1) (1885435763) s12 _ _ _ h hP hD hS (lv_sub hl [0, 1] rfl)
set_option maxHeartbeats 40000000 in
set_option maxRecDepth 100000 in
theorem db_X18_atomic_76 {p : Program} {l : Launch} {e : Env} {s : State} {m : MethodId} {args : Array Value} {below : List Frame} {meth : Method} {c : Code} {Q : State → Prop} {A : Nat → Prop} {dC : Nat → ClassId} {dI : Nat → Nat → Nat} {a : Nat → Nat} {ac : Nat → ClassId} {n : Nat} {r : St} (C : nd_C p l s m args c A (dC, dI) cX18_atomic 5 RX18 ow_dm_X18_atomic (dk_X18 ac)) (K : nd_Kv p l e (headSpec ow_dm_X18_atomic ({ frames := 3, cells := 0, slots := 0, locals := 67 })).room s m args below meth c Q A (dC, dI) cX18_atomic (St) (dw_X18 a ac) r) : dj_X18_atomic_76 p l e s m args below meth c Q A dC dI a ac (df_X18_atomic_76 n) r := by
  obtain ⟨hlt, hx, hb, hml, hown, hts, hN, hA, hK⟩ := id C
  intro x1 x2 y0 s0 H locs ls h hP hD hS hl
  unfold df_X18_atomic_76 at h
  refine lv_istore (lv' := [(4, .int y0), (0, .ref (a 0)), (1, .int x1), (2, .int x2)]) hx hb dX18_atomic_76 hl (by decide) rfl (fun ls hl => ?_)
  refine lv_iload hx hb dX18_atomic_78 (lv_at hl 0 rfl) ?_
  refine lv_if_ne (tgt := 84) hx hb dX18_atomic_80 (by decide) (fun c6 => ?_) (fun c6 => ?_)
  · have h := nd_neg h c6
    refine lv_aload_n hx hb dX18_atomic_84 rfl (lv_at hl 1 rfl) ?_
    refine lv_iload_n hx hb dX18_atomic_85 rfl (lv_at hl 2 rfl) ?_
    refine lv_iconst (v := 2) hx hb dX18_atomic_86 (by decide) ?_
    refine lv_icmp_ne (tgt := 96) hx hb dX18_atomic_87 (by decide) (fun c7 => ?_) (fun c7 => ?_)
    · have h := nd_neg h c7
      refine lv_iload_n hx hb dX18_atomic_96 rfl (lv_at hl 2 rfl) ?_
      refine lv_iconst (v := 3) hx hb dX18_atomic_97 (by decide) ?_
      refine lv_icmp_ne (tgt := 107) hx hb dX18_atomic_98 (by decide) (fun c8 => ?_) (fun c8 => ?_)
      · have h := nd_neg h c8
        refine lv_ldc2 hx hb hown (hts (.constantLong RX18 183 (7302497)) (List.mem_of_getElem? (i := 2) rfl)) dX18_atomic_107 ?_
        exact (db_X18_atomic_110 C K) (x1) (x2) (7302497) s0 _ _ _ h hP hD hS (lv_sub hl [1, 2, 3] rfl)
      · have h := nd_pos h c8
        refine lv_ldc2 hx hb hown (hts (.constantLong RX18 181 (25459)) (List.mem_of_getElem? (i := 39) rfl)) dX18_atomic_101 ?_
        refine lv_goto (tgt := 110) hx hb dX18_atomic_104 (by decide) ?_
        exact (db_X18_atomic_110 C K) (x1) (x2) (25459) s0 _ _ _ h hP hD hS (lv_sub hl [1, 2, 3] rfl)
    · have h := nd_pos h c7
      refine lv_ldc2 hx hb hown (hts (.constantLong RX18 179 (29292)) (List.mem_of_getElem? (i := 40) rfl)) dX18_atomic_90 ?_
      refine lv_goto (tgt := 110) hx hb dX18_atomic_93 (by decide) ?_
      exact (db_X18_atomic_110 C K) (x1) (x2) (29292) s0 _ _ _ h hP hD hS (lv_sub hl [1, 2, 3] rfl)
  · have h := nd_pos h c6
    exact K _ _ _ _ _ dX18_atomic_83 (Option.some.inj h).symm hP hD hS
set_option maxHeartbeats 40000000 in
set_option maxRecDepth 100000 in
theorem db_X18_atomic_71 {p : Program} {l : Launch} {e : Env} {s : State} {m : MethodId} {args : Array Value} {below : List Frame} {meth : Method} {c : Code} {Q : State → Prop} {A : Nat → Prop} {dC : Nat → ClassId} {dI : Nat → Nat → Nat} {a : Nat → Nat} {ac : Nat → ClassId} {n : Nat} {r : St} (C : nd_C p l s m args c A (dC, dI) cX18_atomic 5 RX18 ow_dm_X18_atomic (dk_X18 ac)) (K : nd_Kv p l e (headSpec ow_dm_X18_atomic ({ frames := 3, cells := 0, slots := 0, locals := 67 })).room s m args below meth c Q A (dC, dI) cX18_atomic (St) (dw_X18 a ac) r) : dj_X18_atomic_71 p l e s m args below meth c Q A dC dI a ac (df_X18_atomic_71 n) r := by
  obtain ⟨hlt, hx, hb, hml, hown, hts, hN, hA, hK⟩ := id C
  intro x1 x2 s0 H locs ls h hP hD hS hl
  unfold df_X18_atomic_71 at h
  refine lv_iconst (v := 1) hx hb dX18_atomic_71 (by decide) ?_
  refine lv_goto (tgt := 76) hx hb dX18_atomic_72 (by decide) ?_
  exact (db_X18_atomic_76 C K) (x1) (x2) (1) s0 _ _ _ h hP hD hS (lv_sub hl [0, 1, 2] rfl)
set_option maxHeartbeats 40000000 in
set_option maxRecDepth 100000 in
theorem db_X18_atomic_49 {p : Program} {l : Launch} {e : Env} {s : State} {m : MethodId} {args : Array Value} {below : List Frame} {meth : Method} {c : Code} {Q : State → Prop} {A : Nat → Prop} {dC : Nat → ClassId} {dI : Nat → Nat → Nat} {a : Nat → Nat} {ac : Nat → ClassId} {n : Nat} {r : St} (C : nd_C p l s m args c A (dC, dI) cX18_atomic 5 RX18 ow_dm_X18_atomic (dk_X18 ac)) (K : nd_Kv p l e (headSpec ow_dm_X18_atomic ({ frames := 3, cells := 0, slots := 0, locals := 67 })).room s m args below meth c Q A (dC, dI) cX18_atomic (St) (dw_X18 a ac) r) : dj_X18_atomic_49 p l e s m args below meth c Q A dC dI a ac (df_X18_atomic_49 n) r := by
  obtain ⟨hlt, hx, hb, hml, hown, hts, hN, hA, hK⟩ := id C
  intro x1 x2 y0 s0 H locs ls h hP hD hS hl
  unfold df_X18_atomic_49 at h
  refine lv_istore_n (lv' := [(3, .int y0), (0, .ref (a 0)), (1, .int x1), (2, .int x2)]) hx hb dX18_atomic_49 rfl hl (by decide) rfl (fun ls hl => ?_)
  refine lv_iload_n hx hb dX18_atomic_50 rfl (lv_at hl 2 rfl) ?_
  refine lv_iconst (v := 5) hx hb dX18_atomic_51 (by decide) ?_
  refine lv_icmp_lt (tgt := 71) hx hb dX18_atomic_52 (by decide) (fun c5 => ?_) (fun c5 => ?_)
  · have h := nd_pos h c5
    exact (db_X18_atomic_71 C K) (x1) (x2) s0 _ _ _ h hP hD hS (lv_sub hl [1, 2, 3] rfl)
  · have h := nd_neg h c5
    refine lv_iload_n hx hb dX18_atomic_55 rfl (lv_at hl 2 rfl) ?_
    refine lv_bipush (v := 8) hx hb dX18_atomic_56 (by decide) ?_
    refine lv_icmp_eq (tgt := 71) hx hb dX18_atomic_58 (by decide) (fun c57 => ?_) (fun c57 => ?_)
    · have h := nd_pos h c57
      exact (db_X18_atomic_71 C K) (x1) (x2) s0 _ _ _ h hP hD hS (lv_sub hl [1, 2, 3] rfl)
    · have h := nd_neg h c57
      refine lv_iload_n hx hb dX18_atomic_61 rfl (lv_at hl 2 rfl) ?_
      refine lv_bipush (v := 12) hx hb dX18_atomic_62 (by decide) ?_
      refine lv_icmp_eq (tgt := 71) hx hb dX18_atomic_64 (by decide) (fun c58 => ?_) (fun c58 => ?_)
      · have h := nd_pos h c58
        exact (db_X18_atomic_71 C K) (x1) (x2) s0 _ _ _ h hP hD hS (lv_sub hl [1, 2, 3] rfl)
      · have h := nd_neg h c58
        refine lv_iload_n hx hb dX18_atomic_67 rfl (lv_at hl 0 rfl) ?_
        refine lv_if_eq (tgt := 75) hx hb dX18_atomic_68 (by decide) (fun c59 => ?_) (fun c59 => ?_)
        · have h := nd_pos h c59
          refine lv_iconst (v := 0) hx hb dX18_atomic_75 (by decide) ?_
          exact (db_X18_atomic_76 C K) (x1) (x2) (0) s0 _ _ _ h hP hD hS (lv_sub hl [1, 2, 3] rfl)
        · have h := nd_neg h c59
          exact (db_X18_atomic_71 C K) (x1) (x2) s0 _ _ _ h hP hD hS (lv_sub hl [1, 2, 3] rfl)
set_option maxHeartbeats 40000000 in
set_option maxRecDepth 100000 in
theorem db_X18_atomic_48 {p : Program} {l : Launch} {e : Env} {s : State} {m : MethodId} {args : Array Value} {below : List Frame} {meth : Method} {c : Code} {Q : State → Prop} {A : Nat → Prop} {dC : Nat → ClassId} {dI : Nat → Nat → Nat} {a : Nat → Nat} {ac : Nat → ClassId} {n : Nat} {r : St} (C : nd_C p l s m args c A (dC, dI) cX18_atomic 5 RX18 ow_dm_X18_atomic (dk_X18 ac)) (K : nd_Kv p l e (headSpec ow_dm_X18_atomic ({ frames := 3, cells := 0, slots := 0, locals := 67 })).room s m args below meth c Q A (dC, dI) cX18_atomic (St) (dw_X18 a ac) r) : dj_X18_atomic_48 p l e s m args below meth c Q A dC dI a ac (df_X18_atomic_48 n) r := by
  obtain ⟨hlt, hx, hb, hml, hown, hts, hN, hA, hK⟩ := id C
  intro x1 x2 s0 H locs ls h hP hD hS hl
  unfold df_X18_atomic_48 at h
  refine lv_iconst (v := 0) hx hb dX18_atomic_48 (by decide) ?_
  exact (db_X18_atomic_49 C K) (x1) (x2) (0) s0 _ _ _ h hP hD hS (lv_sub hl [0, 1, 2] rfl)
set_option maxHeartbeats 40000000 in
set_option maxRecDepth 100000 in
theorem db_X18_atomic_31 {p : Program} {l : Launch} {e : Env} {s : State} {m : MethodId} {args : Array Value} {below : List Frame} {meth : Method} {c : Code} {Q : State → Prop} {A : Nat → Prop} {dC : Nat → ClassId} {dI : Nat → Nat → Nat} {a : Nat → Nat} {ac : Nat → ClassId} {n : Nat} {r : St} (C : nd_C p l s m args c A (dC, dI) cX18_atomic 5 RX18 ow_dm_X18_atomic (dk_X18 ac)) (K : nd_Kv p l e (headSpec ow_dm_X18_atomic ({ frames := 3, cells := 0, slots := 0, locals := 67 })).room s m args below meth c Q A (dC, dI) cX18_atomic (St) (dw_X18 a ac) r) : dj_X18_atomic_31 p l e s m args below meth c Q A dC dI a ac (df_X18_atomic_31 n) r := by
  obtain ⟨hlt, hx, hb, hml, hown, hts, hN, hA, hK⟩ := id C
  intro x1 y0 s0 H locs ls h hP hD hS hl
  unfold df_X18_atomic_31 at h
  refine lv_istore_n (lv' := [(2, .int y0), (0, .ref (a 0)), (1, .int x1)]) hx hb dX18_atomic_31 rfl hl (by decide) rfl (fun ls hl => ?_)
  refine lv_iload_n hx hb dX18_atomic_32 rfl (lv_at hl 2 rfl) ?_
  refine lv_bipush (v := 16) hx hb dX18_atomic_33 (by decide) ?_
  refine lv_icmp_lt (tgt := 48) hx hb dX18_atomic_35 (by decide) (fun c4 => ?_) (fun c4 => ?_)
  · have h := nd_pos h c4
    exact (db_X18_atomic_48 C K) (x1) (y0) s0 _ _ _ h hP hD hS (lv_sub hl [1, 2, 0] rfl)
  · have h := nd_neg h c4
    refine lv_iload_n hx hb dX18_atomic_38 rfl (lv_at hl 2 rfl) ?_
    refine lv_iconst (v := 4) hx hb dX18_atomic_39 (by decide) ?_
    refine lv_irem hx hb dX18_atomic_40 (by decide) ?_
    refine lv_if_ne (tgt := 48) hx hb dX18_atomic_41 (by decide) (fun c60 => ?_) (fun c60 => ?_)
    · have h := nd_neg h c60
      exact (db_X18_atomic_48 C K) (x1) (y0) s0 _ _ _ h hP hD hS (lv_sub hl [1, 2, 0] rfl)
    · have h := nd_pos h c60
      refine lv_iconst (v := 1) hx hb dX18_atomic_44 (by decide) ?_
      refine lv_goto (tgt := 49) hx hb dX18_atomic_45 (by decide) ?_
      exact (db_X18_atomic_49 C K) (x1) (y0) (1) s0 _ _ _ h hP hD hS (lv_sub hl [1, 2, 0] rfl)
set_option maxHeartbeats 40000000 in
set_option maxRecDepth 100000 in
theorem db_X18_atomic_21 {p : Program} {l : Launch} {e : Env} {s : State} {m : MethodId} {args : Array Value} {below : List Frame} {meth : Method} {c : Code} {Q : State → Prop} {A : Nat → Prop} {dC : Nat → ClassId} {dI : Nat → Nat → Nat} {a : Nat → Nat} {ac : Nat → ClassId} {n : Nat} {r : St} (C : nd_C p l s m args c A (dC, dI) cX18_atomic 5 RX18 ow_dm_X18_atomic (dk_X18 ac)) (K : nd_Kv p l e (headSpec ow_dm_X18_atomic ({ frames := 3, cells := 0, slots := 0, locals := 67 })).room s m args below meth c Q A (dC, dI) cX18_atomic (St) (dw_X18 a ac) r) : dj_X18_atomic_21 p l e s m args below meth c Q A dC dI a ac (df_X18_atomic_21 n) r := by
  obtain ⟨hlt, hx, hb, hml, hown, hts, hN, hA, hK⟩ := id C
  intro x1 s0 H locs ls h hP hD hS hl
  unfold df_X18_atomic_21 at h
  refine lv_iload_n hx hb dX18_atomic_21 rfl (lv_at hl 1 rfl) ?_
  refine lv_iconst (v := 1) hx hb dX18_atomic_22 (by decide) ?_
  refine lv_icmp_ne (tgt := 30) hx hb dX18_atomic_23 (by decide) (fun c3 => ?_) (fun c3 => ?_)
  · have h := nd_neg h c3
    refine lv_iconst (v := 0) hx hb dX18_atomic_30 (by decide) ?_
    exact (db_X18_atomic_31 C K) (x1) (0) s0 _ _ _ h hP hD hS (lv_sub hl [0, 1] rfl)
  · have h := nd_pos h c3
    refine lv_iconst (v := 1) hx hb dX18_atomic_26 (by decide) ?_
    refine lv_goto (tgt := 31) hx hb dX18_atomic_27 (by decide) ?_
    exact (db_X18_atomic_31 C K) (x1) (1) s0 _ _ _ h hP hD hS (lv_sub hl [0, 1] rfl)
set_option maxHeartbeats 40000000 in
set_option maxRecDepth 100000 in
theorem db_X18_atomic_0 {p : Program} {l : Launch} {e : Env} {s : State} {m : MethodId} {args : Array Value} {below : List Frame} {meth : Method} {c : Code} {Q : State → Prop} {A : Nat → Prop} {dC : Nat → ClassId} {dI : Nat → Nat → Nat} {a : Nat → Nat} {ac : Nat → ClassId} {n : Nat} {r : St} (C : nd_C p l s m args c A (dC, dI) cX18_atomic 5 RX18 ow_dm_X18_atomic (dk_X18 ac)) (K : nd_Kv p l e (headSpec ow_dm_X18_atomic ({ frames := 3, cells := 0, slots := 0, locals := 67 })).room s m args below meth c Q A (dC, dI) cX18_atomic (St) (dw_X18 a ac) r) : dj_X18_atomic_0 p l e s m args below meth c Q A dC dI a ac (df_X18_atomic_0 n) r := by
  obtain ⟨hlt, hx, hb, hml, hown, hts, hN, hA, hK⟩ := id C
  intro v0 s0 H locs ls h hP hD hS hl
  unfold df_X18_atomic_0 at h
  refine lv_aload_n hx hb dX18_atomic_0 rfl (lv_at hl 0 rfl) ?_
  refine va_get (D := (dC, dI)) (ci := 19) (v := .int (sI s0 7)) (C := RX18) (T := TX18) (N := 10) hx hb hts hi_dm_X18_atomic_X18 hown hK hP 0 rfl rfl 8 (by decide) (hts (.fieldLink RX18 80 "TimeMachineModel$Reader" "f" "I") (List.mem_of_getElem? (i := 1) rfl)) (fun _ h9 => h9) rfl dX18_atomic_1 ?_
  refine lv_iconst (v := 2) hx hb dX18_atomic_4 (by decide) ?_
  refine lv_icmp_ne (tgt := 20) hx hb dX18_atomic_5 (by decide) (fun c1 => ?_) (fun c1 => ?_)
  · have h := nd_neg h c1
    exact (db_X18_atomic_20 C K)  s0 _ _ _ h hP hD hS (lv_sub hl [] rfl)
  · have h := nd_pos h c1
    refine lv_iload_n hx hb dX18_atomic_8 rfl (lv_at hl 1 rfl) ?_
    refine lv_iconst (v := 2) hx hb dX18_atomic_9 (by decide) ?_
    refine lv_icmp_ne (tgt := 21) hx hb dX18_atomic_10 (by decide) (fun c2 => ?_) (fun c2 => ?_)
    · have h := nd_neg h c2
      exact (db_X18_atomic_21 C K) (v0) s0 _ _ _ h hP hD hS (lv_sub hl [0, 1] rfl)
    · have h := nd_pos h c2
      refine lv_aload_n hx hb dX18_atomic_13 rfl (lv_at hl 0 rfl) ?_
      refine va_get (D := (dC, dI)) (ci := 19) (v := .int (sI s0 6)) (C := RX18) (T := TX18) (N := 10) hx hb hts hi_dm_X18_atomic_X18 hown hK hP 0 rfl rfl 7 (by decide) (hts (.fieldLink RX18 77 "TimeMachineModel$Reader" "b" "I") (List.mem_of_getElem? (i := 26) rfl)) (fun _ h9 => h9) rfl dX18_atomic_14 ?_
      refine lv_if_eq (tgt := 21) hx hb dX18_atomic_17 (by decide) (fun c61 => ?_) (fun c61 => ?_)
      · have h := nd_pos h c61
        exact (db_X18_atomic_21 C K) (v0) s0 _ _ _ h hP hD hS (lv_sub hl [0, 1] rfl)
      · have h := nd_neg h c61
        exact (db_X18_atomic_20 C K)  s0 _ _ _ h hP hD hS (lv_sub hl [] rfl)
set_option maxHeartbeats 40000000 in
set_option maxRecDepth 100000 in
theorem dm_X18_atomic (l : Launch) (hlt : l.stackTraces = false) (dC : Nat → ClassId) (dI : Nat → Nat → Nat) (a : Nat → Nat) (ac : Nat → ClassId) (n : Nat) (v0 : Int32) (s0 : St) {r : St} (h : df_X18_atomic n v0 s0 = some r) (sz : Nat) : Met l yX18_atomic ow_dm_X18_atomic ({ frames := 3, cells := 0, slots := 0, locals := 67 }) (va_Pc [.ref (a 0), .int v0] (fun U => U.heap.size = sz ∧ va_P (dC, dI) vwCl (dw_X18 a ac s0) U.heap ∧ va_K (dC, dI) vwCl (dk_X18 ac) U ∧ va_D (fun _ => True) (dw_X18 a ac s0) ∧ nv_E (va_A (dw_X18 a ac s0) sz) U)) (va_Qv (fun _ => True) (fun (_ : Unit) t => va_P (dC, dI) vwCl (dw_X18 a ac r) t.heap ∧ va_K (dC, dI) vwCl (dk_X18 ac) t ∧ va_D (va_A (dw_X18 a ac s0) sz) (dw_X18 a ac r)) (va_A (dw_X18 a ac s0) sz)) 0 0 (va_A (dw_X18 a ac s0) sz) := by
  refine Met.ofW (cc := cX18_atomic) (maxL := 5) (ret := none) (by decide) rfl ?_
  intro p e s m args below meth c s₁ B hml hv
  obtain ⟨rfl, hsz, hP, hK, hD0, hN⟩ := hv
  have hx := B.exec
  have hb := B.bytes
  have hr := B.returns
  have hts := atoms_spec (ws := ow_dm_X18_atomic) B.pre
  have hown : s.vm.findClass RX18 = some m.cls := findClass_of_methodNamed B.named
  have hlocks := B.notSynchronized
  subst hsz
  have hD := hD0.self (sz := s.heap.size)
  generalize hAe : va_A (dw_X18 a ac s0) s.heap.size = A at hD hN ⊢
  have hA : ∀ q : Nat, s.heap.size ≤ q → A q := fun q h => by rw [← hAe]; exact Or.inr h
  have hl := lv_entry ([.ref (a 0), .int v0]) (n := 5) (Nat.le_of_ble_eq_true rfl)
  rw [lg_entry_eq]
  generalize (lg_sl ([.ref (a 0), .int v0]) ++ List.replicate (5 - (lg_sl ([.ref (a 0), .int v0])).length) Slot.unset).toArray = ls at hl ⊢
  have hl : lv_has ls 5 [(0, .ref (a 0)), (1, .int v0)] := hl
  exact db_X18_atomic_0 (dC := dC) (dI := dI) (a := a) (ac := ac) (n := n) (r := r) ⟨hlt, hx, hb, hml, hown, hts, hN, hA, hK⟩ (fun pc τ H locs ls d er hP hD hS => by subst er; exact W.vret hx hb hr (fun t ht hW => ⟨⟨(), rfl, trivial, by rw [ht]; exact hP, va_K.moved hW.alike hK, hD⟩, hS.F ht⟩) hS.2.2 d) v0 s0 _ _ _ h hP hD va_S.rf (lv_sub hl [0, 1] rfl)
def ow_dm_X18_system : List Cond := .code yX18_system cX18_system 3 none :: ([.fieldLink RX18 20 "TimeMachineModel$Reader" "bits" "I", .constantLong RX18 206 (118066057994853), .methodLink RX18 65 yX18_name, .instanceMethod yX18_name, .selects RX18 yX18_name yX18_name, .initialized RX18, .methodLink RX18 172 yX18_part, .instanceMethod yX18_part, .selects RX18 yX18_part yX18_part, .fieldLink RX18 80 "TimeMachineModel$Reader" "f" "I", .fieldLink RX18 74 "TimeMachineModel$Reader" "a" "I", .constantLong RX18 208 (25714), .constantLong RX18 214 (32762639552835177), .methodLink RX18 50 yX18_say, .instanceMethod yX18_say, .selects RX18 yX18_say yX18_say, .fieldLink RX18 68 "TimeMachineModel$Reader" "d" "I", .methodLink RX18 71 yX18_register, .instanceMethod yX18_register, .selects RX18 yX18_register yX18_register, .methodLink RX18 29 yX18_put, .instanceMethod yX18_put, .selects RX18 yX18_put yX18_put, .constantLong RX18 212 (1701669236), .constantLong RX18 210 (435610155363), .constantLong RX18 204 (465674789733), .constant RX18 203 (1048691)] ++ (u_ws RX18 TX18 10 ++ (ow_dm_X18_name ++ (ow_dm_X18_part ++ (ow_dm_X18_say ++ (ow_dm_X18_register ++ (ow_dm_X18_put ++ [])))))))
theorem gd_dm_X18_system : ∀ w ∈ ow_dm_X18_system, (w.onTables && w.keeps) = true ∨ ∃ ty, w = Cond.arrayClass ty := List.forall_mem_cons.mpr ⟨good_of_word rfl, List.forall_mem_append.mpr ⟨fun w h => good_of_word (List.all_eq_true.mp (by decide +kernel) w h), List.forall_mem_append.mpr ⟨gu_X18, List.forall_mem_append.mpr ⟨gd_dm_X18_name, List.forall_mem_append.mpr ⟨gd_dm_X18_part, List.forall_mem_append.mpr ⟨gd_dm_X18_say, List.forall_mem_append.mpr ⟨gd_dm_X18_register, List.forall_mem_append.mpr ⟨gd_dm_X18_put, fun _ h => nomatch h⟩⟩⟩⟩⟩⟩⟩⟩
theorem hi_dm_X18_system_X18 : ∀ w ∈ u_ws RX18 TX18 10, w ∈ ow_dm_X18_system := fun w h => List.mem_cons_of_mem _ (List.mem_append_right _ (List.mem_append_left _ h))
theorem gi_dm_X18_system_0 : GoodIn ow_dm_X18_system (wsV RX18 65 RX18 yX18_name ow_dm_X18_name) := goodIn_app (goodIn_of _ (by decide +kernel)) (fun w h => ⟨List.mem_cons_of_mem _ (List.mem_append_right _ (List.mem_append_right _ (List.mem_append_left _ h))), gd_dm_X18_name w h⟩)
theorem gi_dm_X18_system_1 : GoodIn ow_dm_X18_system (wsV RX18 172 RX18 yX18_part ow_dm_X18_part) := goodIn_app (goodIn_of _ (by decide +kernel)) (fun w h => ⟨List.mem_cons_of_mem _ (List.mem_append_right _ (List.mem_append_right _ (List.mem_append_right _ (List.mem_append_left _ h)))), gd_dm_X18_part w h⟩)
theorem gi_dm_X18_system_2 : GoodIn ow_dm_X18_system (wsV RX18 50 RX18 yX18_say ow_dm_X18_say) := goodIn_app (goodIn_of _ (by decide +kernel)) (fun w h => ⟨List.mem_cons_of_mem _ (List.mem_append_right _ (List.mem_append_right _ (List.mem_append_right _ (List.mem_append_right _ (List.mem_append_left _ h))))), gd_dm_X18_say w h⟩)
theorem gi_dm_X18_system_3 : GoodIn ow_dm_X18_system (wsV RX18 71 RX18 yX18_register ow_dm_X18_register) := goodIn_app (goodIn_of _ (by decide +kernel)) (fun w h => ⟨List.mem_cons_of_mem _ (List.mem_append_right _ (List.mem_append_right _ (List.mem_append_right _ (List.mem_append_right _ (List.mem_append_right _ (List.mem_append_left _ h)))))), gd_dm_X18_register w h⟩)
theorem gi_dm_X18_system_4 : GoodIn ow_dm_X18_system (wsV RX18 29 RX18 yX18_put ow_dm_X18_put) := goodIn_app (goodIn_of _ (by decide +kernel)) (fun w h => ⟨List.mem_cons_of_mem _ (List.mem_append_right _ (List.mem_append_right _ (List.mem_append_right _ (List.mem_append_right _ (List.mem_append_right _ (List.mem_append_right _ (List.mem_append_left _ h))))))), gd_dm_X18_put w h⟩)
def dj_X18_system_92 (p : Program) (l : Launch) (e : Env) (s : State) (m : MethodId) (args : Array Value) (below : List Frame) (meth : Method) (c : Code) (Q : State → Prop) (A : Nat → Prop) (dC : Nat → ClassId) (dI : Nat → Nat → Nat) (a : Nat → Nat) (ac : Nat → ClassId) (g : (St) → Option (St)) (r : St) : Prop := ∀ (s0 : St) (H : Heap) (locs : List Loc) (ls : Array Slot), g s0 = some r → va_P (dC, dI) vwCl (dw_X18 a ac s0) H → va_D A (dw_X18 a ac s0) → va_S A s.heap H locs → lv_has ls 3 [] → W p l e (headSpec ow_dm_X18_system ({ frames := 3, cells := 0, slots := 0, locals := 67 })).room s m args below meth c H locs 0 0 Q (F0 m 92 ls [])
def dj_X18_system_141 (p : Program) (l : Launch) (e : Env) (s : State) (m : MethodId) (args : Array Value) (below : List Frame) (meth : Method) (c : Code) (Q : State → Prop) (A : Nat → Prop) (dC : Nat → ClassId) (dI : Nat → Nat → Nat) (a : Nat → Nat) (ac : Nat → ClassId) (g : (St) → Option (St)) (r : St) : Prop := ∀ (s0 : St) (H : Heap) (locs : List Loc) (ls : Array Slot), g s0 = some r → va_P (dC, dI) vwCl (dw_X18 a ac s0) H → va_D A (dw_X18 a ac s0) → va_S A s.heap H locs → lv_has ls 3 [(0, .ref (a 0))] → W p l e (headSpec ow_dm_X18_system ({ frames := 3, cells := 0, slots := 0, locals := 67 })).room s m args below meth c H locs 0 0 Q (F0 m 141 ls [])
def dj_X18_system_125 (p : Program) (l : Launch) (e : Env) (s : State) (m : MethodId) (args : Array Value) (below : List Frame) (meth : Method) (c : Code) (Q : State → Prop) (A : Nat → Prop) (dC : Nat → ClassId) (dI : Nat → Nat → Nat) (a : Nat → Nat) (ac : Nat → ClassId) (g : Int32 → Int64 → (St) → Option (St)) (r : St) : Prop := ∀ (x1 : Int32) (y1 : Int64) (s0 : St) (H : Heap) (locs : List Loc) (ls : Array Slot), g x1 y1 s0 = some r → va_P (dC, dI) vwCl (dw_X18 a ac s0) H → va_D A (dw_X18 a ac s0) → va_S A s.heap H locs → lv_has ls 3 [(0, .ref (a 0)), (1, .int x1)] → W p l e (headSpec ow_dm_X18_system ({ frames := 3, cells := 0, slots := 0, locals := 67 })).room s m args below meth c H locs 0 0 Q (F0 m 125 ls [.long y1, .ref (a 0)])
def dj_X18_system_87 (p : Program) (l : Launch) (e : Env) (s : State) (m : MethodId) (args : Array Value) (below : List Frame) (meth : Method) (c : Code) (Q : State → Prop) (A : Nat → Prop) (dC : Nat → ClassId) (dI : Nat → Nat → Nat) (a : Nat → Nat) (ac : Nat → ClassId) (g : Int32 → Int32 → (St) → Option (St)) (r : St) : Prop := ∀ (x1 : Int32) (x2 : Int32) (s0 : St) (H : Heap) (locs : List Loc) (ls : Array Slot), g x1 x2 s0 = some r → va_P (dC, dI) vwCl (dw_X18 a ac s0) H → va_D A (dw_X18 a ac s0) → va_S A s.heap H locs → lv_has ls 3 [(0, .ref (a 0)), (1, .int x1), (2, .int x2)] → W p l e (headSpec ow_dm_X18_system ({ frames := 3, cells := 0, slots := 0, locals := 67 })).room s m args below meth c H locs 0 0 Q (F0 m 87 ls [])
def dj_X18_system_40 (p : Program) (l : Launch) (e : Env) (s : State) (m : MethodId) (args : Array Value) (below : List Frame) (meth : Method) (c : Code) (Q : State → Prop) (A : Nat → Prop) (dC : Nat → ClassId) (dI : Nat → Nat → Nat) (a : Nat → Nat) (ac : Nat → ClassId) (g : (St) → Option (St)) (r : St) : Prop := ∀ (s0 : St) (H : Heap) (locs : List Loc) (ls : Array Slot), g s0 = some r → va_P (dC, dI) vwCl (dw_X18 a ac s0) H → va_D A (dw_X18 a ac s0) → va_S A s.heap H locs → lv_has ls 3 [(0, .ref (a 0))] → W p l e (headSpec ow_dm_X18_system ({ frames := 3, cells := 0, slots := 0, locals := 67 })).room s m args below meth c H locs 0 0 Q (F0 m 40 ls [])
def dj_X18_system_37 (p : Program) (l : Launch) (e : Env) (s : State) (m : MethodId) (args : Array Value) (below : List Frame) (meth : Method) (c : Code) (Q : State → Prop) (A : Nat → Prop) (dC : Nat → ClassId) (dI : Nat → Nat → Nat) (a : Nat → Nat) (ac : Nat → ClassId) (g : Int64 → (St) → Option (St)) (r : St) : Prop := ∀ (y1 : Int64) (s0 : St) (H : Heap) (locs : List Loc) (ls : Array Slot), g y1 s0 = some r → va_P (dC, dI) vwCl (dw_X18 a ac s0) H → va_D A (dw_X18 a ac s0) → va_S A s.heap H locs → lv_has ls 3 [(0, .ref (a 0))] → W p l e (headSpec ow_dm_X18_system ({ frames := 3, cells := 0, slots := 0, locals := 67 })).room s m args below meth c H locs 0 0 Q (F0 m 37 ls [.long y1, .ref (a 0)])
def dj_X18_system_18 (p : Program) (l : Launch) (e : Env) (s : State) (m : MethodId) (args : Array Value) (below : List Frame) (meth : Method) (c : Code) (Q : State → Prop) (A : Nat → Prop) (dC : Nat → ClassId) (dI : Nat → Nat → Nat) (a : Nat → Nat) (ac : Nat → ClassId) (g : (St) → Option (St)) (r : St) : Prop := ∀ (s0 : St) (H : Heap) (locs : List Loc) (ls : Array Slot), g s0 = some r → va_P (dC, dI) vwCl (dw_X18 a ac s0) H → va_D A (dw_X18 a ac s0) → va_S A s.heap H locs → lv_has ls 3 [(0, .ref (a 0))] → W p l e (headSpec ow_dm_X18_system ({ frames := 3, cells := 0, slots := 0, locals := 67 })).room s m args below meth c H locs 0 0 Q (F0 m 18 ls [])
def dj_X18_system_0 (p : Program) (l : Launch) (e : Env) (s : State) (m : MethodId) (args : Array Value) (below : List Frame) (meth : Method) (c : Code) (Q : State → Prop) (A : Nat → Prop) (dC : Nat → ClassId) (dI : Nat → Nat → Nat) (a : Nat → Nat) (ac : Nat → ClassId) (g : (St) → Option (St)) (r : St) : Prop := ∀ (s0 : St) (H : Heap) (locs : List Loc) (ls : Array Slot), g s0 = some r → va_P (dC, dI) vwCl (dw_X18 a ac s0) H → va_D A (dw_X18 a ac s0) → va_S A s.heap H locs → lv_has ls 3 [(0, .ref (a 0))] → W p l e (headSpec ow_dm_X18_system ({ frames := 3, cells := 0, slots := 0, locals := 67 })).room s m args below meth c H locs 0 0 Q (F0 m 0 ls [])
set_option maxHeartbeats 40000000 in
set_option maxRecDepth 100000 in
theorem db_X18_system_92 {p : Program} {l : Launch} {e : Env} {s : State} {m : MethodId} {args : Array Value} {below : List Frame} {meth : Method} {c : Code} {Q : State → Prop} {A : Nat → Prop} {dC : Nat → ClassId} {dI : Nat → Nat → Nat} {a : Nat → Nat} {ac : Nat → ClassId} {n : Nat} {r : St} (C : nd_C p l s m args c A (dC, dI) cX18_system 3 RX18 ow_dm_X18_system (dk_X18 ac)) (K : nd_Kv p l e (headSpec ow_dm_X18_system ({ frames := 3, cells := 0, slots := 0, locals := 67 })).room s m args below meth c Q A (dC, dI) cX18_system (St) (dw_X18 a ac) r) : dj_X18_system_92 p l e s m args below meth c Q A dC dI a ac (df_X18_system_92 n) r := by
  obtain ⟨hlt, hx, hb, hml, hown, hts, hN, hA, hK⟩ := id C
  intro s0 H locs ls h hP hD hS hl
  unfold df_X18_system_92 at h
  exact K _ _ _ _ _ dX18_system_92 (Option.some.inj h).symm hP hD hS
set_option maxHeartbeats 40000000 in
set_option maxRecDepth 100000 in
theorem db_X18_system_141 {p : Program} {l : Launch} {e : Env} {s : State} {m : MethodId} {args : Array Value} {below : List Frame} {meth : Method} {c : Code} {Q : State → Prop} {A : Nat → Prop} {dC : Nat → ClassId} {dI : Nat → Nat → Nat} {a : Nat → Nat} {ac : Nat → ClassId} {n : Nat} {r : St} (C : nd_C p l s m args c A (dC, dI) cX18_system 3 RX18 ow_dm_X18_system (dk_X18 ac)) (K : nd_Kv p l e (headSpec ow_dm_X18_system ({ frames := 3, cells := 0, slots := 0, locals := 67 })).room s m args below meth c Q A (dC, dI) cX18_system (St) (dw_X18 a ac) r) : dj_X18_system_141 p l e s m args below meth c Q A dC dI a ac (df_X18_system_141 n) r := by
  obtain ⟨hlt, hx, hb, hml, hown, hts, hN, hA, hK⟩ := id C
  intro s0 H locs ls h hP hD hS hl
  unfold df_X18_system_141 at h
  refine lv_aload_n hx hb dX18_system_141 rfl (lv_at hl 0 rfl) ?_
  refine lv_aload_n hx hb dX18_system_142 rfl (lv_at hl 0 rfl) ?_
  refine va_get (D := (dC, dI)) (ci := 19) (v := .int (sI s0 4)) (C := RX18) (T := TX18) (N := 10) hx hb hts hi_dm_X18_system_X18 hown hK hP 0 rfl rfl 5 (by decide) (hts (.fieldLink RX18 68 "TimeMachineModel$Reader" "d" "I") (List.mem_of_getElem? (i := 17) rfl)) (fun _ h9 => h9) rfl dX18_system_143 ?_
  obtain ⟨s24, hq, h⟩ := nd_b1_e h
  have hPc := hP
  have hDc := hD
  have hKc := hK
  have hFc := nd_rs hD hS hA
  refine va_callv (va_runV (As := [.int (sI s0 4)]) (rest := []) ⟨hx, hb, hml, hown, hts⟩ (dm_X18_register l hlt dC dI a ac n ((sI s0 4)) s0 hq _) (cwV 1 hts gi_dm_X18_system_3 rfl rfl rfl (by decide +kernel) ⟨Nat.le_of_ble_eq_true rfl, Nat.le_of_ble_eq_true rfl⟩) ⟨fun a U g mk q => by obtain ⟨q0, q1, qP, qK, qD, qN⟩ := q; exact ⟨q0, q1, qP, va_K.moved (u := U) (U := U.calling g mk a) (Vm.Alike.refl U.vm) qK, qD, nv_same rfl rfl qN⟩, va_recv hKc hPc (ci := 19) (q0 := 0) rfl rfl, fun U hU hW => ⟨rfl, by rw [hU], by rw [hU]; exact hPc, va_K.moved hW.alike hKc, hDc.weaken (fun _ _ _ _ => trivial), nv_call hS hFc hU hW hN⟩⟩ rfl rfl hl.1 rfl (lv_room (Nat.le_of_ble_eq_true rfl)) dX18_system_146 ⟨by decide +kernel, by decide +kernel⟩) hS (fun q _ h => hFc q h) hFc (fun u t H locs ht hvm hw hB hz1 hk1 hS => ?_)
  obtain ⟨hP1, -, hD1⟩ := hB
  rw [ht] at hP1
  have hP := hP1
  have hD := hD1.weaken (fun k q _ h => hFc q.1 h)
  refine W.widen (k := 0) (n := 0) (Nat.le_refl _) (Nat.le_refl _) ?_
  exact K _ _ _ _ _ dX18_system_149 (Option.some.inj h).symm hP hD hS
set_option maxHeartbeats 40000000 in
set_option maxRecDepth 100000 in
theorem db_X18_system_125 {p : Program} {l : Launch} {e : Env} {s : State} {m : MethodId} {args : Array Value} {below : List Frame} {meth : Method} {c : Code} {Q : State → Prop} {A : Nat → Prop} {dC : Nat → ClassId} {dI : Nat → Nat → Nat} {a : Nat → Nat} {ac : Nat → ClassId} {n : Nat} {r : St} (C : nd_C p l s m args c A (dC, dI) cX18_system 3 RX18 ow_dm_X18_system (dk_X18 ac)) (K : nd_Kv p l e (headSpec ow_dm_X18_system ({ frames := 3, cells := 0, slots := 0, locals := 67 })).room s m args below meth c Q A (dC, dI) cX18_system (St) (dw_X18 a ac) r) : dj_X18_system_125 p l e s m args below meth c Q A dC dI a ac (df_X18_system_125 n) r := by
  obtain ⟨hlt, hx, hb, hml, hown, hts, hN, hA, hK⟩ := id C
  intro x1 y1 s0 H locs ls h hP hD hS hl
  unfold df_X18_system_125 at h
  obtain ⟨s20, hq, h⟩ := nd_b1_e h
  have hPc := hP
  have hDc := hD
  have hKc := hK
  have hFc := nd_rs hD hS hA
  refine va_callv (va_runV (As := [.long y1]) (rest := []) ⟨hx, hb, hml, hown, hts⟩ (dm_X18_say l hlt dC dI a ac n (y1) s0 hq _) (cwV 1 hts gi_dm_X18_system_2 rfl rfl rfl (by decide +kernel) ⟨Nat.le_of_ble_eq_true rfl, Nat.le_of_ble_eq_true rfl⟩) ⟨fun a U g mk q => by obtain ⟨q0, q1, qP, qK, qD, qN⟩ := q; exact ⟨q0, q1, qP, va_K.moved (u := U) (U := U.calling g mk a) (Vm.Alike.refl U.vm) qK, qD, nv_same rfl rfl qN⟩, va_recv hKc hPc (ci := 19) (q0 := 0) rfl rfl, fun U hU hW => ⟨rfl, by rw [hU], by rw [hU]; exact hPc, va_K.moved hW.alike hKc, hDc.weaken (fun _ _ _ _ => trivial), nv_call hS hFc hU hW hN⟩⟩ rfl rfl hl.1 rfl (lv_room (Nat.le_of_ble_eq_true rfl)) dX18_system_125 ⟨by decide +kernel, by decide +kernel⟩) hS (fun q _ h => hFc q h) hFc (fun u t H locs ht hvm hw hB hz1 hk1 hS => ?_)
  obtain ⟨hP1, -, hD1⟩ := hB
  rw [ht] at hP1
  have hP := hP1
  have hD := hD1.weaken (fun k q _ h => hFc q.1 h)
  refine W.widen (k := 0) (n := 0) (Nat.le_refl _) (Nat.le_refl _) ?_
  refine lv_iload_n hx hb dX18_system_128 rfl (lv_at hl 1 rfl) ?_
  refine lv_sipush (v := 3200) hx hb dX18_system_129 (by decide) ?_
  refine lv_icmp_lt (tgt := 141) hx hb dX18_system_132 (by decide) (fun c22 => ?_) (fun c22 => ?_)
  · have h := nd_pos h c22
    exact (db_X18_system_141 C K)  s20 _ _ _ h hP hD hS (lv_sub hl [0] rfl)
  · have h := nd_neg h c22
    refine lv_aload_n hx hb dX18_system_135 rfl (lv_at hl 0 rfl) ?_
    refine lv_bipush (v := 104) hx hb dX18_system_136 (by decide) ?_
    obtain ⟨s27, hq, h⟩ := nd_b1_e h
    have hPc := hP
    have hDc := hD
    have hKc := hK
    have hFc := nd_rs hD hS hA
    refine va_callv (va_runV (As := [.int 104]) (rest := []) ⟨hx, hb, hml, hown, hts⟩ (dm_X18_put l hlt dC dI a ac n (104) s20 hq _) (cwV 1 hts gi_dm_X18_system_4 rfl rfl rfl (by decide +kernel) ⟨Nat.le_of_ble_eq_true rfl, Nat.le_of_ble_eq_true rfl⟩) ⟨fun a U g mk q => by obtain ⟨q0, q1, qP, qK, qD, qN⟩ := q; exact ⟨q0, q1, qP, va_K.moved (u := U) (U := U.calling g mk a) (Vm.Alike.refl U.vm) qK, qD, nv_same rfl rfl qN⟩, va_recv hKc hPc (ci := 19) (q0 := 0) rfl rfl, fun U hU hW => ⟨rfl, by rw [hU], by rw [hU]; exact hPc, va_K.moved hW.alike hKc, hDc.weaken (fun _ _ _ _ => trivial), nv_call hS hFc hU hW hN⟩⟩ rfl rfl hl.1 rfl (lv_room (Nat.le_of_ble_eq_true rfl)) dX18_system_138 ⟨by decide +kernel, by decide +kernel⟩) hS (fun q _ h => hFc q h) hFc (fun u t H locs ht hvm hw hB hz1 hk1 hS => ?_)
    obtain ⟨hP1, -, hD1⟩ := hB
    rw [ht] at hP1
    have hP := hP1
    have hD := hD1.weaken (fun k q _ h => hFc q.1 h)
    refine W.widen (k := 0) (n := 0) (Nat.le_refl _) (Nat.le_refl _) ?_
    exact (db_X18_system_141 C K)  s27 _ _ _ h hP hD hS (lv_sub hl [0] rfl)
set_option maxHeartbeats 40000000 in
set_option maxRecDepth 100000 in
theorem db_X18_system_87 {p : Program} {l : Launch} {e : Env} {s : State} {m : MethodId} {args : Array Value} {below : List Frame} {meth : Method} {c : Code} {Q : State → Prop} {A : Nat → Prop} {dC : Nat → ClassId} {dI : Nat → Nat → Nat} {a : Nat → Nat} {ac : Nat → ClassId} {n : Nat} {r : St} (C : nd_C p l s m args c A (dC, dI) cX18_system 3 RX18 ow_dm_X18_system (dk_X18 ac)) (K : nd_Kv p l e (headSpec ow_dm_X18_system ({ frames := 3, cells := 0, slots := 0, locals := 67 })).room s m args below meth c Q A (dC, dI) cX18_system (St) (dw_X18 a ac) r) : dj_X18_system_87 p l e s m args below meth c Q A dC dI a ac (df_X18_system_87 n) r := by
  obtain ⟨hlt, hx, hb, hml, hown, hts, hN, hA, hK⟩ := id C
  intro x1 x2 s0 H locs ls h hP hD hS hl
  unfold df_X18_system_87 at h
  refine lv_iload_n hx hb dX18_system_87 rfl (lv_at hl 2 rfl) ?_
  refine lv_iconst (v := 2) hx hb dX18_system_88 (by decide) ?_
  refine lv_icmp_le (tgt := 93) hx hb dX18_system_89 (by decide) (fun c13 => ?_) (fun c13 => ?_)
  · have h := nd_pos h c13
    refine lv_aload_n hx hb dX18_system_93 rfl (lv_at hl 0 rfl) ?_
    refine lv_ldc2 hx hb hown (hts (.constantLong RX18 208 (25714)) (List.mem_of_getElem? (i := 12) rfl)) dX18_system_94 ?_
    obtain ⟨s15, hq, h⟩ := nd_b1_e h
    have hPc := hP
    have hDc := hD
    have hKc := hK
    have hFc := nd_rs hD hS hA
    refine va_callv (va_runV (As := [.long 25714]) (rest := []) ⟨hx, hb, hml, hown, hts⟩ (dm_X18_name l hlt dC dI a ac n (25714) s0 hq _) (cwV 1 hts gi_dm_X18_system_0 rfl rfl rfl (by decide +kernel) ⟨Nat.le_of_ble_eq_true rfl, Nat.le_of_ble_eq_true rfl⟩) ⟨fun a U g mk q => by obtain ⟨q0, q1, qP, qK, qD, qN⟩ := q; exact ⟨q0, q1, qP, va_K.moved (u := U) (U := U.calling g mk a) (Vm.Alike.refl U.vm) qK, qD, nv_same rfl rfl qN⟩, va_recv hKc hPc (ci := 19) (q0 := 0) rfl rfl, fun U hU hW => ⟨rfl, by rw [hU], by rw [hU]; exact hPc, va_K.moved hW.alike hKc, hDc.weaken (fun _ _ _ _ => trivial), nv_call hS hFc hU hW hN⟩⟩ rfl rfl hl.1 rfl (lv_room (Nat.le_of_ble_eq_true rfl)) dX18_system_97 ⟨by decide +kernel, by decide +kernel⟩) hS (fun q _ h => hFc q h) hFc (fun u t H locs ht hvm hw hB hz1 hk1 hS => ?_)
    obtain ⟨hP1, -, hD1⟩ := hB
    rw [ht] at hP1
    have hP := hP1
    have hD := hD1.weaken (fun k q _ h => hFc q.1 h)
    refine W.widen (k := 0) (n := 0) (Nat.le_refl _) (Nat.le_refl _) ?_
    refine lv_aload_n hx hb dX18_system_100 rfl (lv_at hl 0 rfl) ?_
    refine lv_iload_n hx hb dX18_system_101 rfl (lv_at hl 2 rfl) ?_
    refine lv_if_ne (tgt := 111) hx hb dX18_system_102 (by decide) (fun c17 => ?_) (fun c17 => ?_)
    · have h := nd_neg h c17
      refine lv_iload_n hx hb dX18_system_111 rfl (lv_at hl 2 rfl) ?_
      refine lv_iconst (v := 1) hx hb dX18_system_112 (by decide) ?_
      refine lv_icmp_ne (tgt := 122) hx hb dX18_system_113 (by decide) (fun c18 => ?_) (fun c18 => ?_)
      · have h := nd_neg h c18
        refine lv_ldc2 hx hb hown (hts (.constantLong RX18 214 (32762639552835177)) (List.mem_of_getElem? (i := 13) rfl)) dX18_system_122 ?_
        exact (db_X18_system_125 C K) (x1) (32762639552835177) s15 _ _ _ h hP hD hS (lv_sub hl [0, 1] rfl)
      · have h := nd_pos h c18
        refine lv_ldc2 hx hb hown (hts (.constantLong RX18 212 (1701669236)) (List.mem_of_getElem? (i := 24) rfl)) dX18_system_116 ?_
        refine lv_goto (tgt := 125) hx hb dX18_system_119 (by decide) ?_
        exact (db_X18_system_125 C K) (x1) (1701669236) s15 _ _ _ h hP hD hS (lv_sub hl [0, 1] rfl)
    · have h := nd_pos h c17
      refine lv_ldc2 hx hb hown (hts (.constantLong RX18 210 (435610155363)) (List.mem_of_getElem? (i := 25) rfl)) dX18_system_105 ?_
      refine lv_goto (tgt := 125) hx hb dX18_system_108 (by decide) ?_
      exact (db_X18_system_125 C K) (x1) (435610155363) s15 _ _ _ h hP hD hS (lv_sub hl [0, 1] rfl)
  · have h := nd_neg h c13
    exact (db_X18_system_92 C K)  s0 _ _ _ h hP hD hS (lv_sub hl [] rfl)
set_option maxHeartbeats 40000000 in
set_option maxRecDepth 100000 in
theorem db_X18_system_40 {p : Program} {l : Launch} {e : Env} {s : State} {m : MethodId} {args : Array Value} {below : List Frame} {meth : Method} {c : Code} {Q : State → Prop} {A : Nat → Prop} {dC : Nat → ClassId} {dI : Nat → Nat → Nat} {a : Nat → Nat} {ac : Nat → ClassId} {n : Nat} {r : St} (C : nd_C p l s m args c A (dC, dI) cX18_system 3 RX18 ow_dm_X18_system (dk_X18 ac)) (K : nd_Kv p l e (headSpec ow_dm_X18_system ({ frames := 3, cells := 0, slots := 0, locals := 67 })).room s m args below meth c Q A (dC, dI) cX18_system (St) (dw_X18 a ac) r) : dj_X18_system_40 p l e s m args below meth c Q A dC dI a ac (df_X18_system_40 n) r := by
  obtain ⟨hlt, hx, hb, hml, hown, hts, hN, hA, hK⟩ := id C
  intro s0 H locs ls h hP hD hS hl
  unfold df_X18_system_40 at h
  refine lv_aload_n hx hb dX18_system_40 rfl (lv_at hl 0 rfl) ?_
  refine lv_bipush (v := 20) hx hb dX18_system_41 (by decide) ?_
  refine lv_bipush (v := 12) hx hb dX18_system_43 (by decide) ?_
  obtain ⟨q6, s7, hq, h⟩ := nd_b2_e h
  have hPc := hP
  have hDc := hD
  have hKc := hK
  have hFc := nd_rs hD hS hA
  refine va_calli (va_runV (As := [.int 20, .int 12]) (rest := []) ⟨hx, hb, hml, hown, hts⟩ (dm_X18_part l hlt dC dI a ac n (20) (12) s0 hq _) (cwV 2 hts gi_dm_X18_system_1 rfl rfl rfl (by decide +kernel) ⟨Nat.le_of_ble_eq_true rfl, Nat.le_of_ble_eq_true rfl⟩) ⟨fun a U g mk q => by obtain ⟨q0, q1, qP, qK, qD, qN⟩ := q; exact ⟨q0, q1, qP, va_K.moved (u := U) (U := U.calling g mk a) (Vm.Alike.refl U.vm) qK, qD, nv_same rfl rfl qN⟩, va_recv hKc hPc (ci := 19) (q0 := 0) rfl rfl, fun U hU hW => ⟨rfl, by rw [hU], by rw [hU]; exact hPc, va_K.moved hW.alike hKc, hDc.weaken (fun _ _ _ _ => trivial), nv_call hS hFc hU hW hN⟩⟩ rfl rfl hl.1 rfl (lv_room (Nat.le_of_ble_eq_true rfl)) dX18_system_45 ⟨by decide +kernel, by decide +kernel⟩) hS (fun q _ h => hFc q h) hFc (fun r8 u t H locs ht hvm hw hB hz1 hk1 hS => ?_)
  obtain rfl : q6 = r8 := Eq.symm hw
  obtain ⟨hP1, -, hD1⟩ := hB
  rw [ht] at hP1
  have hP := hP1
  have hD := hD1.weaken (fun k q _ h => hFc q.1 h)
  refine W.widen (k := 0) (n := 0) (Nat.le_refl _) (Nat.le_refl _) ?_
  refine lv_istore_n (lv' := [(1, .int q6), (0, .ref (a 0))]) hx hb dX18_system_48 rfl hl (by decide) rfl (fun ls hl => ?_)
  refine lv_iload_n hx hb dX18_system_49 rfl (lv_at hl 0 rfl) ?_
  refine lv_bipush (v := 127) hx hb dX18_system_50 (by decide) ?_
  refine lv_iand hx hb dX18_system_52 ?_
  refine lv_topi (fun z9 ez9 => ?_)
  have h := nd_at h ez9
  refine lv_istore_n (lv' := [(2, .int z9), (1, .int q6), (0, .ref (a 0))]) hx hb dX18_system_53 rfl hl (by decide) rfl (fun ls hl => ?_)
  refine lv_aload_n hx hb dX18_system_54 rfl (lv_at hl 2 rfl) ?_
  refine va_get (D := (dC, dI)) (ci := 19) (v := .int (sI s7 7)) (C := RX18) (T := TX18) (N := 10) hx hb hts hi_dm_X18_system_X18 hown hK hP 0 rfl rfl 8 (by decide) (hts (.fieldLink RX18 80 "TimeMachineModel$Reader" "f" "I") (List.mem_of_getElem? (i := 10) rfl)) (fun _ h9 => h9) rfl dX18_system_55 ?_
  refine lv_iconst (v := 2) hx hb dX18_system_58 (by decide) ?_
  refine lv_icmp_ne (tgt := 92) hx hb dX18_system_59 (by decide) (fun c10 => ?_) (fun c10 => ?_)
  · have h := nd_neg h c10
    exact (db_X18_system_92 C K)  s7 _ _ _ h hP hD hS (lv_sub hl [] rfl)
  · have h := nd_pos h c10
    refine lv_aload_n hx hb dX18_system_62 rfl (lv_at hl 2 rfl) ?_
    refine va_get (D := (dC, dI)) (ci := 19) (v := .int (sI s7 5)) (C := RX18) (T := TX18) (N := 10) hx hb hts hi_dm_X18_system_X18 hown hK hP 0 rfl rfl 6 (by decide) (hts (.fieldLink RX18 74 "TimeMachineModel$Reader" "a" "I") (List.mem_of_getElem? (i := 11) rfl)) (fun _ h9 => h9) rfl dX18_system_63 ?_
    refine lv_if_ne (tgt := 92) hx hb dX18_system_66 (by decide) (fun c11 => ?_) (fun c11 => ?_)
    · have h := nd_neg h c11
      exact (db_X18_system_92 C K)  s7 _ _ _ h hP hD hS (lv_sub hl [] rfl)
    · have h := nd_pos h c11
      refine lv_iload_n hx hb dX18_system_69 rfl (lv_at hl 1 rfl) ?_
      refine lv_iload_n hx hb dX18_system_70 rfl (lv_at hl 0 rfl) ?_
      refine lv_isub hx hb dX18_system_71 ?_
      refine lv_sipush (v := 3072) hx hb dX18_system_72 (by decide) ?_
      refine lv_icmp_eq (tgt := 87) hx hb dX18_system_75 (by decide) (fun c12 => ?_) (fun c12 => ?_)
      · have h := nd_pos h c12
        exact (db_X18_system_87 C K) (q6) (z9) s7 _ _ _ h hP hD hS (lv_sub hl [2, 1, 0] rfl)
      · have h := nd_neg h c12
        refine lv_iload_n hx hb dX18_system_78 rfl (lv_at hl 1 rfl) ?_
        refine lv_iload_n hx hb dX18_system_79 rfl (lv_at hl 0 rfl) ?_
        refine lv_isub hx hb dX18_system_80 ?_
        refine lv_sipush (v := 3200) hx hb dX18_system_81 (by decide) ?_
        refine lv_icmp_ne (tgt := 92) hx hb dX18_system_84 (by decide) (fun c29 => ?_) (fun c29 => ?_)
        · have h := nd_neg h c29
          exact (db_X18_system_92 C K)  s7 _ _ _ h hP hD hS (lv_sub hl [] rfl)
        · have h := nd_pos h c29
          exact (db_X18_system_87 C K) (q6) (z9) s7 _ _ _ h hP hD hS (lv_sub hl [2, 1, 0] rfl)
set_option maxHeartbeats 40000000 in
set_option maxRecDepth 100000 in
theorem db_X18_system_37 {p : Program} {l : Launch} {e : Env} {s : State} {m : MethodId} {args : Array Value} {below : List Frame} {meth : Method} {c : Code} {Q : State → Prop} {A : Nat → Prop} {dC : Nat → ClassId} {dI : Nat → Nat → Nat} {a : Nat → Nat} {ac : Nat → ClassId} {n : Nat} {r : St} (C : nd_C p l s m args c A (dC, dI) cX18_system 3 RX18 ow_dm_X18_system (dk_X18 ac)) (K : nd_Kv p l e (headSpec ow_dm_X18_system ({ frames := 3, cells := 0, slots := 0, locals := 67 })).room s m args below meth c Q A (dC, dI) cX18_system (St) (dw_X18 a ac) r) : dj_X18_system_37 p l e s m args below meth c Q A dC dI a ac (df_X18_system_37 n) r := by
  obtain ⟨hlt, hx, hb, hml, hown, hts, hN, hA, hK⟩ := id C
  intro y1 s0 H locs ls h hP hD hS hl
  unfold df_X18_system_37 at h
  obtain ⟨s4, hq, h⟩ := nd_b1_e h
  have hPc := hP
  have hDc := hD
  have hKc := hK
  have hFc := nd_rs hD hS hA
  refine va_callv (va_runV (As := [.long y1]) (rest := []) ⟨hx, hb, hml, hown, hts⟩ (dm_X18_name l hlt dC dI a ac n (y1) s0 hq _) (cwV 1 hts gi_dm_X18_system_0 rfl rfl rfl (by decide +kernel) ⟨Nat.le_of_ble_eq_true rfl, Nat.le_of_ble_eq_true rfl⟩) ⟨fun a U g mk q => by obtain ⟨q0, q1, qP, qK, qD, qN⟩ := q; exact ⟨q0, q1, qP, va_K.moved (u := U) (U := U.calling g mk a) (Vm.Alike.refl U.vm) qK, qD, nv_same rfl rfl qN⟩, va_recv hKc hPc (ci := 19) (q0 := 0) rfl rfl, fun U hU hW => ⟨rfl, by rw [hU], by rw [hU]; exact hPc, va_K.moved hW.alike hKc, hDc.weaken (fun _ _ _ _ => trivial), nv_call hS hFc hU hW hN⟩⟩ rfl rfl hl.1 rfl (lv_room (Nat.le_of_ble_eq_true rfl)) dX18_system_37 ⟨by decide +kernel, by decide +kernel⟩) hS (fun q _ h => hFc q h) hFc (fun u t H locs ht hvm hw hB hz1 hk1 hS => ?_)
  obtain ⟨hP1, -, hD1⟩ := hB
  rw [ht] at hP1
  have hP := hP1
  have hD := hD1.weaken (fun k q _ h => hFc q.1 h)
  refine W.widen (k := 0) (n := 0) (Nat.le_refl _) (Nat.le_refl _) ?_
  exact (db_X18_system_40 C K)  s4 _ _ _ h hP hD hS (lv_sub hl [0] rfl)
set_option maxHeartbeats 40000000 in
set_option maxRecDepth 100000 in
theorem db_X18_system_18 {p : Program} {l : Launch} {e : Env} {s : State} {m : MethodId} {args : Array Value} {below : List Frame} {meth : Method} {c : Code} {Q : State → Prop} {A : Nat → Prop} {dC : Nat → ClassId} {dI : Nat → Nat → Nat} {a : Nat → Nat} {ac : Nat → ClassId} {n : Nat} {r : St} (C : nd_C p l s m args c A (dC, dI) cX18_system 3 RX18 ow_dm_X18_system (dk_X18 ac)) (K : nd_Kv p l e (headSpec ow_dm_X18_system ({ frames := 3, cells := 0, slots := 0, locals := 67 })).room s m args below meth c Q A (dC, dI) cX18_system (St) (dw_X18 a ac) r) : dj_X18_system_18 p l e s m args below meth c Q A dC dI a ac (df_X18_system_18 n) r := by
  obtain ⟨hlt, hx, hb, hml, hown, hts, hN, hA, hK⟩ := id C
  intro s0 H locs ls h hP hD hS hl
  unfold df_X18_system_18 at h
  refine lv_aload_n hx hb dX18_system_18 rfl (lv_at hl 0 rfl) ?_
  refine lv_aload_n hx hb dX18_system_19 rfl (lv_at hl 0 rfl) ?_
  refine va_get (D := (dC, dI)) (ci := 19) (v := .int (sI s0 3)) (C := RX18) (T := TX18) (N := 10) hx hb hts hi_dm_X18_system_X18 hown hK hP 0 rfl rfl 4 (by decide) (hts (.fieldLink RX18 20 "TimeMachineModel$Reader" "bits" "I") (List.mem_of_getElem? (i := 1) rfl)) (fun _ h9 => h9) rfl dX18_system_20 ?_
  refine lv_bipush (v := 115) hx hb dX18_system_23 (by decide) ?_
  refine lv_icmp_ne (tgt := 34) hx hb dX18_system_25 (by decide) (fun c2 => ?_) (fun c2 => ?_)
  · have h := nd_neg h c2
    refine lv_ldc2 hx hb hown (hts (.constantLong RX18 206 (118066057994853)) (List.mem_of_getElem? (i := 2) rfl)) dX18_system_34 ?_
    exact (db_X18_system_37 C K) (118066057994853) s0 _ _ _ h hP hD hS (lv_sub hl [0] rfl)
  · have h := nd_pos h c2
    refine lv_ldc2 hx hb hown (hts (.constantLong RX18 204 (465674789733)) (List.mem_of_getElem? (i := 26) rfl)) dX18_system_28 ?_
    refine lv_goto (tgt := 37) hx hb dX18_system_31 (by decide) ?_
    exact (db_X18_system_37 C K) (465674789733) s0 _ _ _ h hP hD hS (lv_sub hl [0] rfl)
set_option maxHeartbeats 40000000 in
set_option maxRecDepth 100000 in
theorem db_X18_system_0 {p : Program} {l : Launch} {e : Env} {s : State} {m : MethodId} {args : Array Value} {below : List Frame} {meth : Method} {c : Code} {Q : State → Prop} {A : Nat → Prop} {dC : Nat → ClassId} {dI : Nat → Nat → Nat} {a : Nat → Nat} {ac : Nat → ClassId} {n : Nat} {r : St} (C : nd_C p l s m args c A (dC, dI) cX18_system 3 RX18 ow_dm_X18_system (dk_X18 ac)) (K : nd_Kv p l e (headSpec ow_dm_X18_system ({ frames := 3, cells := 0, slots := 0, locals := 67 })).room s m args below meth c Q A (dC, dI) cX18_system (St) (dw_X18 a ac) r) : dj_X18_system_0 p l e s m args below meth c Q A dC dI a ac (df_X18_system_0 n) r := by
  obtain ⟨hlt, hx, hb, hml, hown, hts, hN, hA, hK⟩ := id C
  intro s0 H locs ls h hP hD hS hl
  unfold df_X18_system_0 at h
  refine lv_aload_n hx hb dX18_system_0 rfl (lv_at hl 0 rfl) ?_
  refine va_get (D := (dC, dI)) (ci := 19) (v := .int (sI s0 3)) (C := RX18) (T := TX18) (N := 10) hx hb hts hi_dm_X18_system_X18 hown hK hP 0 rfl rfl 4 (by decide) (hts (.fieldLink RX18 20 "TimeMachineModel$Reader" "bits" "I") (List.mem_of_getElem? (i := 1) rfl)) (fun _ h9 => h9) rfl dX18_system_1 ?_
  refine lv_bipush (v := 115) hx hb dX18_system_4 (by decide) ?_
  refine lv_icmp_eq (tgt := 18) hx hb dX18_system_6 (by decide) (fun c1 => ?_) (fun c1 => ?_)
  · have h := nd_pos h c1
    exact (db_X18_system_18 C K)  s0 _ _ _ h hP hD hS (lv_sub hl [0] rfl)
  · have h := nd_neg h c1
    refine lv_aload_n hx hb dX18_system_9 rfl (lv_at hl 0 rfl) ?_
    refine va_get (D := (dC, dI)) (ci := 19) (v := .int (sI s0 3)) (C := RX18) (T := TX18) (N := 10) hx hb hts hi_dm_X18_system_X18 hown hK hP 0 rfl rfl 4 (by decide) (hts (.fieldLink RX18 20 "TimeMachineModel$Reader" "bits" "I") (List.mem_of_getElem? (i := 1) rfl)) (fun _ h9 => h9) rfl dX18_system_10 ?_
    refine lv_ldc hx hb hown (hts (.constant RX18 203 (1048691)) (List.mem_of_getElem? (i := 27) rfl)) dX18_system_13 ?_
    refine lv_icmp_ne (tgt := 40) hx hb dX18_system_15 (by decide) (fun c30 => ?_) (fun c30 => ?_)
    · have h := nd_neg h c30
      exact (db_X18_system_40 C K)  s0 _ _ _ h hP hD hS (lv_sub hl [0] rfl)
    · have h := nd_pos h c30
      exact (db_X18_system_18 C K)  s0 _ _ _ h hP hD hS (lv_sub hl [0] rfl)
set_option maxHeartbeats 40000000 in
set_option maxRecDepth 100000 in
theorem dm_X18_system (l : Launch) (hlt : l.stackTraces = false) (dC : Nat → ClassId) (dI : Nat → Nat → Nat) (a : Nat → Nat) (ac : Nat → ClassId) (n : Nat) (s0 : St) {r : St} (h : df_X18_system n s0 = some r) (sz : Nat) : Met l yX18_system ow_dm_X18_system ({ frames := 3, cells := 0, slots := 0, locals := 67 }) (va_Pc [.ref (a 0)] (fun U => U.heap.size = sz ∧ va_P (dC, dI) vwCl (dw_X18 a ac s0) U.heap ∧ va_K (dC, dI) vwCl (dk_X18 ac) U ∧ va_D (fun _ => True) (dw_X18 a ac s0) ∧ nv_E (va_A (dw_X18 a ac s0) sz) U)) (va_Qv (fun _ => True) (fun (_ : Unit) t => va_P (dC, dI) vwCl (dw_X18 a ac r) t.heap ∧ va_K (dC, dI) vwCl (dk_X18 ac) t ∧ va_D (va_A (dw_X18 a ac s0) sz) (dw_X18 a ac r)) (va_A (dw_X18 a ac s0) sz)) 0 0 (va_A (dw_X18 a ac s0) sz) := by
  refine Met.ofW (cc := cX18_system) (maxL := 3) (ret := none) (by decide) rfl ?_
  intro p e s m args below meth c s₁ B hml hv
  obtain ⟨rfl, hsz, hP, hK, hD0, hN⟩ := hv
  have hx := B.exec
  have hb := B.bytes
  have hr := B.returns
  have hts := atoms_spec (ws := ow_dm_X18_system) B.pre
  have hown : s.vm.findClass RX18 = some m.cls := findClass_of_methodNamed B.named
  have hlocks := B.notSynchronized
  subst hsz
  have hD := hD0.self (sz := s.heap.size)
  generalize hAe : va_A (dw_X18 a ac s0) s.heap.size = A at hD hN ⊢
  have hA : ∀ q : Nat, s.heap.size ≤ q → A q := fun q h => by rw [← hAe]; exact Or.inr h
  have hl := lv_entry ([.ref (a 0)]) (n := 3) (Nat.le_of_ble_eq_true rfl)
  rw [lg_entry_eq]
  generalize (lg_sl ([.ref (a 0)]) ++ List.replicate (3 - (lg_sl ([.ref (a 0)])).length) Slot.unset).toArray = ls at hl ⊢
  have hl : lv_has ls 3 [(0, .ref (a 0))] := hl
  exact db_X18_system_0 (dC := dC) (dI := dI) (a := a) (ac := ac) (n := n) (r := r) ⟨hlt, hx, hb, hml, hown, hts, hN, hA, hK⟩ (fun pc τ H locs ls d er hP hD hS => by subst er; exact W.vret hx hb hr (fun t ht hW => ⟨⟨(), rfl, trivial, by rw [ht]; exact hP, va_K.moved hW.alike hK, hD⟩, hS.F ht⟩) hS.2.2 d) s0 _ _ _ h hP hD va_S.rf (lv_sub hl [0] rfl)
def ow_dm_X18_others : List Cond := .code yX18_others cX18_others 2 none :: ([.fieldLink RX18 20 "TimeMachineModel$Reader" "bits" "I", .constantLong RX18 242 (427087721825), .methodLink RX18 65 yX18_name, .instanceMethod yX18_name, .selects RX18 yX18_name yX18_name, .initialized RX18, .fieldLink RX18 68 "TimeMachineModel$Reader" "d" "I", .methodLink RX18 71 yX18_register, .instanceMethod yX18_register, .selects RX18 yX18_register yX18_register, .methodLink RX18 59 yX18_immediate, .instanceMethod yX18_immediate, .selects RX18 yX18_immediate yX18_immediate, .constantLong RX18 240 (6911340), .constant RX18 248 (267386895), .constantLong RX18 251 (29605885549372774), .constantLong RX18 249 (435459876198), .constantLong RX18 246 (7102826), .methodLink RX18 172 yX18_part, .instanceMethod yX18_part, .selects RX18 yX18_part yX18_part, .methodLink RX18 176 yX18_target, .instanceMethod yX18_target, .selects RX18 yX18_target yX18_target, .fieldLink RX18 80 "TimeMachineModel$Reader" "f" "I", .constantLong RX18 244 (1919705450), .fieldLink RX18 74 "TimeMachineModel$Reader" "a" "I", .methodLink RX18 150 yX18_memory, .instanceMethod yX18_memory, .selects RX18 yX18_memory yX18_memory] ++ (u_ws RX18 TX18 10 ++ (ow_dm_X18_name ++ (ow_dm_X18_register ++ (ow_dm_X18_immediate ++ (ow_dm_X18_part ++ (ow_dm_X18_target ++ (ow_dm_X18_memory ++ []))))))))
theorem gd_dm_X18_others : ∀ w ∈ ow_dm_X18_others, (w.onTables && w.keeps) = true ∨ ∃ ty, w = Cond.arrayClass ty := List.forall_mem_cons.mpr ⟨good_of_word rfl, List.forall_mem_append.mpr ⟨fun w h => good_of_word (List.all_eq_true.mp (by decide +kernel) w h), List.forall_mem_append.mpr ⟨gu_X18, List.forall_mem_append.mpr ⟨gd_dm_X18_name, List.forall_mem_append.mpr ⟨gd_dm_X18_register, List.forall_mem_append.mpr ⟨gd_dm_X18_immediate, List.forall_mem_append.mpr ⟨gd_dm_X18_part, List.forall_mem_append.mpr ⟨gd_dm_X18_target, List.forall_mem_append.mpr ⟨gd_dm_X18_memory, fun _ h => nomatch h⟩⟩⟩⟩⟩⟩⟩⟩⟩
theorem hi_dm_X18_others_X18 : ∀ w ∈ u_ws RX18 TX18 10, w ∈ ow_dm_X18_others := fun w h => List.mem_cons_of_mem _ (List.mem_append_right _ (List.mem_append_left _ h))
theorem gi_dm_X18_others_0 : GoodIn ow_dm_X18_others (wsV RX18 65 RX18 yX18_name ow_dm_X18_name) := goodIn_app (goodIn_of _ (by decide +kernel)) (fun w h => ⟨List.mem_cons_of_mem _ (List.mem_append_right _ (List.mem_append_right _ (List.mem_append_left _ h))), gd_dm_X18_name w h⟩)
theorem gi_dm_X18_others_1 : GoodIn ow_dm_X18_others (wsV RX18 71 RX18 yX18_register ow_dm_X18_register) := goodIn_app (goodIn_of _ (by decide +kernel)) (fun w h => ⟨List.mem_cons_of_mem _ (List.mem_append_right _ (List.mem_append_right _ (List.mem_append_right _ (List.mem_append_left _ h)))), gd_dm_X18_register w h⟩)
theorem gi_dm_X18_others_2 : GoodIn ow_dm_X18_others (wsV RX18 59 RX18 yX18_immediate ow_dm_X18_immediate) := goodIn_app (goodIn_of _ (by decide +kernel)) (fun w h => ⟨List.mem_cons_of_mem _ (List.mem_append_right _ (List.mem_append_right _ (List.mem_append_right _ (List.mem_append_right _ (List.mem_append_left _ h))))), gd_dm_X18_immediate w h⟩)
theorem gi_dm_X18_others_3 : GoodIn ow_dm_X18_others (wsV RX18 172 RX18 yX18_part ow_dm_X18_part) := goodIn_app (goodIn_of _ (by decide +kernel)) (fun w h => ⟨List.mem_cons_of_mem _ (List.mem_append_right _ (List.mem_append_right _ (List.mem_append_right _ (List.mem_append_right _ (List.mem_append_right _ (List.mem_append_left _ h)))))), gd_dm_X18_part w h⟩)
theorem gi_dm_X18_others_4 : GoodIn ow_dm_X18_others (wsV RX18 176 RX18 yX18_target ow_dm_X18_target) := goodIn_app (goodIn_of _ (by decide +kernel)) (fun w h => ⟨List.mem_cons_of_mem _ (List.mem_append_right _ (List.mem_append_right _ (List.mem_append_right _ (List.mem_append_right _ (List.mem_append_right _ (List.mem_append_right _ (List.mem_append_left _ h))))))), gd_dm_X18_target w h⟩)
theorem gi_dm_X18_others_5 : GoodIn ow_dm_X18_others (wsV RX18 150 RX18 yX18_memory ow_dm_X18_memory) := goodIn_app (goodIn_of _ (by decide +kernel)) (fun w h => ⟨List.mem_cons_of_mem _ (List.mem_append_right _ (List.mem_append_right _ (List.mem_append_right _ (List.mem_append_right _ (List.mem_append_right _ (List.mem_append_right _ (List.mem_append_right _ (List.mem_append_left _ h)))))))), gd_dm_X18_memory w h⟩)
def dj_X18_others_215 (p : Program) (l : Launch) (e : Env) (s : State) (m : MethodId) (args : Array Value) (below : List Frame) (meth : Method) (c : Code) (Q : State → Prop) (A : Nat → Prop) (dC : Nat → ClassId) (dI : Nat → Nat → Nat) (a : Nat → Nat) (ac : Nat → ClassId) (g : (St) → Option (St)) (r : St) : Prop := ∀ (s0 : St) (H : Heap) (locs : List Loc) (ls : Array Slot), g s0 = some r → va_P (dC, dI) vwCl (dw_X18 a ac s0) H → va_D A (dw_X18 a ac s0) → va_S A s.heap H locs → lv_has ls 2 [] → W p l e (headSpec ow_dm_X18_others ({ frames := 5, cells := 0, slots := 0, locals := 111 })).room s m args below meth c H locs 0 0 Q (F0 m 215 ls [])
def dj_X18_others_36 (p : Program) (l : Launch) (e : Env) (s : State) (m : MethodId) (args : Array Value) (below : List Frame) (meth : Method) (c : Code) (Q : State → Prop) (A : Nat → Prop) (dC : Nat → ClassId) (dI : Nat → Nat → Nat) (a : Nat → Nat) (ac : Nat → ClassId) (g : Int64 → (St) → Option (St)) (r : St) : Prop := ∀ (y1 : Int64) (s0 : St) (H : Heap) (locs : List Loc) (ls : Array Slot), g y1 s0 = some r → va_P (dC, dI) vwCl (dw_X18 a ac s0) H → va_D A (dw_X18 a ac s0) → va_S A s.heap H locs → lv_has ls 2 [(0, .ref (a 0))] → W p l e (headSpec ow_dm_X18_others ({ frames := 5, cells := 0, slots := 0, locals := 111 })).room s m args below meth c H locs 0 0 Q (F0 m 36 ls [.long y1, .ref (a 0)])
def dj_X18_others_20 (p : Program) (l : Launch) (e : Env) (s : State) (m : MethodId) (args : Array Value) (below : List Frame) (meth : Method) (c : Code) (Q : State → Prop) (A : Nat → Prop) (dC : Nat → ClassId) (dI : Nat → Nat → Nat) (a : Nat → Nat) (ac : Nat → ClassId) (g : Int32 → (St) → Option (St)) (r : St) : Prop := ∀ (x1 : Int32) (s0 : St) (H : Heap) (locs : List Loc) (ls : Array Slot), g x1 s0 = some r → va_P (dC, dI) vwCl (dw_X18 a ac s0) H → va_D A (dw_X18 a ac s0) → va_S A s.heap H locs → lv_has ls 2 [(0, .ref (a 0)), (1, .int x1)] → W p l e (headSpec ow_dm_X18_others ({ frames := 5, cells := 0, slots := 0, locals := 111 })).room s m args below meth c H locs 0 0 Q (F0 m 20 ls [])
def dj_X18_others_107 (p : Program) (l : Launch) (e : Env) (s : State) (m : MethodId) (args : Array Value) (below : List Frame) (meth : Method) (c : Code) (Q : State → Prop) (A : Nat → Prop) (dC : Nat → ClassId) (dI : Nat → Nat → Nat) (a : Nat → Nat) (ac : Nat → ClassId) (g : Int32 → (St) → Option (St)) (r : St) : Prop := ∀ (x1 : Int32) (s0 : St) (H : Heap) (locs : List Loc) (ls : Array Slot), g x1 s0 = some r → va_P (dC, dI) vwCl (dw_X18 a ac s0) H → va_D A (dw_X18 a ac s0) → va_S A s.heap H locs → lv_has ls 2 [(0, .ref (a 0)), (1, .int x1)] → W p l e (headSpec ow_dm_X18_others ({ frames := 5, cells := 0, slots := 0, locals := 111 })).room s m args below meth c H locs 0 0 Q (F0 m 107 ls [])
def dj_X18_others_0 (p : Program) (l : Launch) (e : Env) (s : State) (m : MethodId) (args : Array Value) (below : List Frame) (meth : Method) (c : Code) (Q : State → Prop) (A : Nat → Prop) (dC : Nat → ClassId) (dI : Nat → Nat → Nat) (a : Nat → Nat) (ac : Nat → ClassId) (g : (St) → Option (St)) (r : St) : Prop := ∀ (s0 : St) (H : Heap) (locs : List Loc) (ls : Array Slot), g s0 = some r → va_P (dC, dI) vwCl (dw_X18 a ac s0) H → va_D A (dw_X18 a ac s0) → va_S A s.heap H locs → lv_has ls 2 [(0, .ref (a 0))] → W p l e (headSpec ow_dm_X18_others ({ frames := 5, cells := 0, slots := 0, locals := 111 })).room s m args below meth c H locs 0 0 Q (F0 m 0 ls [])
set_option maxHeartbeats 40000000 in
set_option maxRecDepth 100000 in
theorem db_X18_others_215 {p : Program} {l : Launch} {e : Env} {s : State} {m : MethodId} {args : Array Value} {below : List Frame} {meth : Method} {c : Code} {Q : State → Prop} {A : Nat → Prop} {dC : Nat → ClassId} {dI : Nat → Nat → Nat} {a : Nat → Nat} {ac : Nat → ClassId} {n : Nat} {r : St} (C : nd_C p l s m args c A (dC, dI) cX18_others 2 RX18 ow_dm_X18_others (dk_X18 ac)) (K : nd_Kv p l e (headSpec ow_dm_X18_others ({ frames := 5, cells := 0, slots := 0, locals := 111 })).room s m args below meth c Q A (dC, dI) cX18_others (St) (dw_X18 a ac) r) : dj_X18_others_215 p l e s m args below meth c Q A dC dI a ac (df_X18_others_215 n) r := by
  obtain ⟨hlt, hx, hb, hml, hown, hts, hN, hA, hK⟩ := id C
  intro s0 H locs ls h hP hD hS hl
  unfold df_X18_others_215 at h
  exact K _ _ _ _ _ dX18_others_215 (Option.some.inj h).symm hP hD hS
set_option maxHeartbeats 40000000 in
set_option maxRecDepth 100000 in
theorem db_X18_others_36 {p : Program} {l : Launch} {e : Env} {s : State} {m : MethodId} {args : Array Value} {below : List Frame} {meth : Method} {c : Code} {Q : State → Prop} {A : Nat → Prop} {dC : Nat → ClassId} {dI : Nat → Nat → Nat} {a : Nat → Nat} {ac : Nat → ClassId} {n : Nat} {r : St} (C : nd_C p l s m args c A (dC, dI) cX18_others 2 RX18 ow_dm_X18_others (dk_X18 ac)) (K : nd_Kv p l e (headSpec ow_dm_X18_others ({ frames := 5, cells := 0, slots := 0, locals := 111 })).room s m args below meth c Q A (dC, dI) cX18_others (St) (dw_X18 a ac) r) : dj_X18_others_36 p l e s m args below meth c Q A dC dI a ac (df_X18_others_36 n) r := by
  obtain ⟨hlt, hx, hb, hml, hown, hts, hN, hA, hK⟩ := id C
  intro y1 s0 H locs ls h hP hD hS hl
  unfold df_X18_others_36 at h
  obtain ⟨s5, hq, h⟩ := nd_b1_e h
  have hPc := hP
  have hDc := hD
  have hKc := hK
  have hFc := nd_rs hD hS hA
  refine va_callv (va_runV (As := [.long y1]) (rest := []) ⟨hx, hb, hml, hown, hts⟩ (dm_X18_name l hlt dC dI a ac n (y1) s0 hq _) (cwV 1 hts gi_dm_X18_others_0 rfl rfl rfl (by decide +kernel) ⟨Nat.le_of_ble_eq_true rfl, Nat.le_of_ble_eq_true rfl⟩) ⟨fun a U g mk q => by obtain ⟨q0, q1, qP, qK, qD, qN⟩ := q; exact ⟨q0, q1, qP, va_K.moved (u := U) (U := U.calling g mk a) (Vm.Alike.refl U.vm) qK, qD, nv_same rfl rfl qN⟩, va_recv hKc hPc (ci := 19) (q0 := 0) rfl rfl, fun U hU hW => ⟨rfl, by rw [hU], by rw [hU]; exact hPc, va_K.moved hW.alike hKc, hDc.weaken (fun _ _ _ _ => trivial), nv_call hS hFc hU hW hN⟩⟩ rfl rfl hl.1 rfl (lv_room (Nat.le_of_ble_eq_true rfl)) dX18_others_36 ⟨by decide +kernel, by decide +kernel⟩) hS (fun q _ h => hFc q h) hFc (fun u t H locs ht hvm hw hB hz1 hk1 hS => ?_)
  obtain ⟨hP1, -, hD1⟩ := hB
  rw [ht] at hP1
  have hP := hP1
  have hD := hD1.weaken (fun k q _ h => hFc q.1 h)
  refine W.widen (k := 0) (n := 0) (Nat.le_refl _) (Nat.le_refl _) ?_
  refine lv_aload_n hx hb dX18_others_39 rfl (lv_at hl 0 rfl) ?_
  refine lv_aload_n hx hb dX18_others_40 rfl (lv_at hl 0 rfl) ?_
  refine va_get (D := (dC, dI)) (ci := 19) (v := .int (sI s5 4)) (C := RX18) (T := TX18) (N := 10) hx hb hts hi_dm_X18_others_X18 hown hK hP 0 rfl rfl 5 (by decide) (hts (.fieldLink RX18 68 "TimeMachineModel$Reader" "d" "I") (List.mem_of_getElem? (i := 7) rfl)) (fun _ h9 => h9) rfl dX18_others_41 ?_
  obtain ⟨s8, hq, h⟩ := nd_b1_e h
  have hPc := hP
  have hDc := hD
  have hKc := hK
  have hFc := nd_rs hD hS hA
  refine va_callv (va_runV (As := [.int (sI s5 4)]) (rest := []) ⟨hx, hb, hml, hown, hts⟩ (dm_X18_register l hlt dC dI a ac n ((sI s5 4)) s5 hq _) (cwV 1 hts gi_dm_X18_others_1 rfl rfl rfl (by decide +kernel) ⟨Nat.le_of_ble_eq_true rfl, Nat.le_of_ble_eq_true rfl⟩) ⟨fun a U g mk q => by obtain ⟨q0, q1, qP, qK, qD, qN⟩ := q; exact ⟨q0, q1, qP, va_K.moved (u := U) (U := U.calling g mk a) (Vm.Alike.refl U.vm) qK, qD, nv_same rfl rfl qN⟩, va_recv hKc hPc (ci := 19) (q0 := 0) rfl rfl, fun U hU hW => ⟨rfl, by rw [hU], by rw [hU]; exact hPc, va_K.moved hW.alike hKc, hDc.weaken (fun _ _ _ _ => trivial), nv_call hS hFc hU hW hN⟩⟩ rfl rfl hl.1 rfl (lv_room (Nat.le_of_ble_eq_true rfl)) dX18_others_44 ⟨by decide +kernel, by decide +kernel⟩) hS (fun q _ h => hFc q h) hFc (fun u t H locs ht hvm hw hB hz1 hk1 hS => ?_)
  obtain ⟨hP1, -, hD1⟩ := hB
  rw [ht] at hP1
  have hP := hP1
  have hD := hD1.weaken (fun k q _ h => hFc q.1 h)
  refine W.widen (k := 0) (n := 0) (Nat.le_refl _) (Nat.le_refl _) ?_
  refine lv_aload_n hx hb dX18_others_47 rfl (lv_at hl 0 rfl) ?_
  refine lv_aload_n hx hb dX18_others_48 rfl (lv_at hl 0 rfl) ?_
  refine va_get (D := (dC, dI)) (ci := 19) (v := .int (sI s8 3)) (C := RX18) (T := TX18) (N := 10) hx hb hts hi_dm_X18_others_X18 hown hK hP 0 rfl rfl 4 (by decide) (hts (.fieldLink RX18 20 "TimeMachineModel$Reader" "bits" "I") (List.mem_of_getElem? (i := 1) rfl)) (fun _ h9 => h9) rfl dX18_others_49 ?_
  refine lv_bipush (v := 12) hx hb dX18_others_52 (by decide) ?_
  refine lv_iushr hx hb dX18_others_54 rfl ?_
  obtain ⟨s11, hq, h⟩ := nd_b1_e h
  have hPc := hP
  have hDc := hD
  have hKc := hK
  have hFc := nd_rs hD hS hA
  refine va_callv (va_runV (As := [.int ((((sI s8 3) : Int32).toUInt32 >>> ((12 : Int32).toUInt32 &&& Int32.toUInt32 31)).toInt32)]) (rest := []) ⟨hx, hb, hml, hown, hts⟩ (dm_X18_immediate l hlt dC dI a ac n (((((sI s8 3) : Int32).toUInt32 >>> ((12 : Int32).toUInt32 &&& Int32.toUInt32 31)).toInt32)) s8 hq _) (cwV 1 hts gi_dm_X18_others_2 rfl rfl rfl (by decide +kernel) ⟨Nat.le_of_ble_eq_true rfl, Nat.le_of_ble_eq_true rfl⟩) ⟨fun a U g mk q => by obtain ⟨q0, q1, qP, qK, qD, qN⟩ := q; exact ⟨q0, q1, qP, va_K.moved (u := U) (U := U.calling g mk a) (Vm.Alike.refl U.vm) qK, qD, nv_same rfl rfl qN⟩, va_recv hKc hPc (ci := 19) (q0 := 0) rfl rfl, fun U hU hW => ⟨rfl, by rw [hU], by rw [hU]; exact hPc, va_K.moved hW.alike hKc, hDc.weaken (fun _ _ _ _ => trivial), nv_call hS hFc hU hW hN⟩⟩ rfl rfl hl.1 rfl (lv_room (Nat.le_of_ble_eq_true rfl)) dX18_others_55 ⟨by decide +kernel, by decide +kernel⟩) hS (fun q _ h => hFc q h) hFc (fun u t H locs ht hvm hw hB hz1 hk1 hS => ?_)
  obtain ⟨hP1, -, hD1⟩ := hB
  rw [ht] at hP1
  have hP := hP1
  have hD := hD1.weaken (fun k q _ h => hFc q.1 h)
  refine W.widen (k := 0) (n := 0) (Nat.le_refl _) (Nat.le_refl _) ?_
  refine lv_goto (tgt := 215) hx hb dX18_others_58 (by decide) ?_
  exact (db_X18_others_215 C K)  s11 _ _ _ h hP hD hS (lv_sub hl [] rfl)
set_option maxHeartbeats 40000000 in
set_option maxRecDepth 100000 in
theorem db_X18_others_20 {p : Program} {l : Launch} {e : Env} {s : State} {m : MethodId} {args : Array Value} {below : List Frame} {meth : Method} {c : Code} {Q : State → Prop} {A : Nat → Prop} {dC : Nat → ClassId} {dI : Nat → Nat → Nat} {a : Nat → Nat} {ac : Nat → ClassId} {n : Nat} {r : St} (C : nd_C p l s m args c A (dC, dI) cX18_others 2 RX18 ow_dm_X18_others (dk_X18 ac)) (K : nd_Kv p l e (headSpec ow_dm_X18_others ({ frames := 5, cells := 0, slots := 0, locals := 111 })).room s m args below meth c Q A (dC, dI) cX18_others (St) (dw_X18 a ac) r) : dj_X18_others_20 p l e s m args below meth c Q A dC dI a ac (df_X18_others_20 n) r := by
  obtain ⟨hlt, hx, hb, hml, hown, hts, hN, hA, hK⟩ := id C
  intro x1 s0 H locs ls h hP hD hS hl
  unfold df_X18_others_20 at h
  refine lv_aload_n hx hb dX18_others_20 rfl (lv_at hl 0 rfl) ?_
  refine lv_iload_n hx hb dX18_others_21 rfl (lv_at hl 1 rfl) ?_
  refine lv_bipush (v := 55) hx hb dX18_others_22 (by decide) ?_
  refine lv_icmp_ne (tgt := 33) hx hb dX18_others_24 (by decide) (fun c3 => ?_) (fun c3 => ?_)
  · have h := nd_neg h c3
    refine lv_ldc2 hx hb hown (hts (.constantLong RX18 242 (427087721825)) (List.mem_of_getElem? (i := 2) rfl)) dX18_others_33 ?_
    exact (db_X18_others_36 C K) (427087721825) s0 _ _ _ h hP hD hS (lv_sub hl [0] rfl)
  · have h := nd_pos h c3
    refine lv_ldc2 hx hb hown (hts (.constantLong RX18 240 (6911340)) (List.mem_of_getElem? (i := 14) rfl)) dX18_others_27 ?_
    refine lv_goto (tgt := 36) hx hb dX18_others_30 (by decide) ?_
    exact (db_X18_others_36 C K) (6911340) s0 _ _ _ h hP hD hS (lv_sub hl [0] rfl)
set_option maxHeartbeats 40000000 in
set_option maxRecDepth 100000 in
theorem db_X18_others_107 {p : Program} {l : Launch} {e : Env} {s : State} {m : MethodId} {args : Array Value} {below : List Frame} {meth : Method} {c : Code} {Q : State → Prop} {A : Nat → Prop} {dC : Nat → ClassId} {dI : Nat → Nat → Nat} {a : Nat → Nat} {ac : Nat → ClassId} {n : Nat} {r : St} (C : nd_C p l s m args c A (dC, dI) cX18_others 2 RX18 ow_dm_X18_others (dk_X18 ac)) (K : nd_Kv p l e (headSpec ow_dm_X18_others ({ frames := 5, cells := 0, slots := 0, locals := 111 })).room s m args below meth c Q A (dC, dI) cX18_others (St) (dw_X18 a ac) r) : dj_X18_others_107 p l e s m args below meth c Q A dC dI a ac (df_X18_others_107 n) r := by
  obtain ⟨hlt, hx, hb, hml, hown, hts, hN, hA, hK⟩ := id C
  intro x1 s0 H locs ls h hP hD hS hl
  unfold df_X18_others_107 at h
  refine lv_iload_n hx hb dX18_others_107 rfl (lv_at hl 1 rfl) ?_
  refine lv_bipush (v := 111) hx hb dX18_others_108 (by decide) ?_
  refine lv_icmp_ne (tgt := 179) hx hb dX18_others_110 (by decide) (fun c15 => ?_) (fun c15 => ?_)
  · have h := nd_neg h c15
    refine lv_aload_n hx hb dX18_others_179 rfl (lv_at hl 0 rfl) ?_
    refine va_get (D := (dC, dI)) (ci := 19) (v := .int (sI s0 3)) (C := RX18) (T := TX18) (N := 10) hx hb hts hi_dm_X18_others_X18 hown hK hP 0 rfl rfl 4 (by decide) (hts (.fieldLink RX18 20 "TimeMachineModel$Reader" "bits" "I") (List.mem_of_getElem? (i := 1) rfl)) (fun _ h9 => h9) rfl dX18_others_180 ?_
    refine lv_ldc hx hb hown (hts (.constant RX18 248 (267386895)) (List.mem_of_getElem? (i := 15) rfl)) dX18_others_183 ?_
    refine lv_icmp_ne (tgt := 198) hx hb dX18_others_185 (by decide) (fun c16 => ?_) (fun c16 => ?_)
    · have h := nd_neg h c16
      refine lv_aload_n hx hb dX18_others_198 rfl (lv_at hl 0 rfl) ?_
      refine va_get (D := (dC, dI)) (ci := 19) (v := .int (sI s0 3)) (C := RX18) (T := TX18) (N := 10) hx hb hts hi_dm_X18_others_X18 hown hK hP 0 rfl rfl 4 (by decide) (hts (.fieldLink RX18 20 "TimeMachineModel$Reader" "bits" "I") (List.mem_of_getElem? (i := 1) rfl)) (fun _ h9 => h9) rfl dX18_others_199 ?_
      refine lv_sipush (v := 4111) hx hb dX18_others_202 (by decide) ?_
      refine lv_icmp_ne (tgt := 215) hx hb dX18_others_205 (by decide) (fun c17 => ?_) (fun c17 => ?_)
      · have h := nd_neg h c17
        exact (db_X18_others_215 C K)  s0 _ _ _ h hP hD hS (lv_sub hl [] rfl)
      · have h := nd_pos h c17
        refine lv_aload_n hx hb dX18_others_208 rfl (lv_at hl 0 rfl) ?_
        refine lv_ldc2 hx hb hown (hts (.constantLong RX18 251 (29605885549372774)) (List.mem_of_getElem? (i := 16) rfl)) dX18_others_209 ?_
        obtain ⟨s19, hq, h⟩ := nd_b1_e h
        have hPc := hP
        have hDc := hD
        have hKc := hK
        have hFc := nd_rs hD hS hA
        refine va_callv (va_runV (As := [.long 29605885549372774]) (rest := []) ⟨hx, hb, hml, hown, hts⟩ (dm_X18_name l hlt dC dI a ac n (29605885549372774) s0 hq _) (cwV 1 hts gi_dm_X18_others_0 rfl rfl rfl (by decide +kernel) ⟨Nat.le_of_ble_eq_true rfl, Nat.le_of_ble_eq_true rfl⟩) ⟨fun a U g mk q => by obtain ⟨q0, q1, qP, qK, qD, qN⟩ := q; exact ⟨q0, q1, qP, va_K.moved (u := U) (U := U.calling g mk a) (Vm.Alike.refl U.vm) qK, qD, nv_same rfl rfl qN⟩, va_recv hKc hPc (ci := 19) (q0 := 0) rfl rfl, fun U hU hW => ⟨rfl, by rw [hU], by rw [hU]; exact hPc, va_K.moved hW.alike hKc, hDc.weaken (fun _ _ _ _ => trivial), nv_call hS hFc hU hW hN⟩⟩ rfl rfl hl.1 rfl (lv_room (Nat.le_of_ble_eq_true rfl)) dX18_others_212 ⟨by decide +kernel, by decide +kernel⟩) hS (fun q _ h => hFc q h) hFc (fun u t H locs ht hvm hw hB hz1 hk1 hS => ?_)
        obtain ⟨hP1, -, hD1⟩ := hB
        rw [ht] at hP1
        have hP := hP1
        have hD := hD1.weaken (fun k q _ h => hFc q.1 h)
        refine W.widen (k := 0) (n := 0) (Nat.le_refl _) (Nat.le_refl _) ?_
        exact (db_X18_others_215 C K)  s19 _ _ _ h hP hD hS (lv_sub hl [] rfl)
    · have h := nd_pos h c16
      refine lv_aload_n hx hb dX18_others_188 rfl (lv_at hl 0 rfl) ?_
      refine lv_ldc2 hx hb hown (hts (.constantLong RX18 249 (435459876198)) (List.mem_of_getElem? (i := 17) rfl)) dX18_others_189 ?_
      obtain ⟨s22, hq, h⟩ := nd_b1_e h
      have hPc := hP
      have hDc := hD
      have hKc := hK
      have hFc := nd_rs hD hS hA
      refine va_callv (va_runV (As := [.long 435459876198]) (rest := []) ⟨hx, hb, hml, hown, hts⟩ (dm_X18_name l hlt dC dI a ac n (435459876198) s0 hq _) (cwV 1 hts gi_dm_X18_others_0 rfl rfl rfl (by decide +kernel) ⟨Nat.le_of_ble_eq_true rfl, Nat.le_of_ble_eq_true rfl⟩) ⟨fun a U g mk q => by obtain ⟨q0, q1, qP, qK, qD, qN⟩ := q; exact ⟨q0, q1, qP, va_K.moved (u := U) (U := U.calling g mk a) (Vm.Alike.refl U.vm) qK, qD, nv_same rfl rfl qN⟩, va_recv hKc hPc (ci := 19) (q0 := 0) rfl rfl, fun U hU hW => ⟨rfl, by rw [hU], by rw [hU]; exact hPc, va_K.moved hW.alike hKc, hDc.weaken (fun _ _ _ _ => trivial), nv_call hS hFc hU hW hN⟩⟩ rfl rfl hl.1 rfl (lv_room (Nat.le_of_ble_eq_true rfl)) dX18_others_192 ⟨by decide +kernel, by decide +kernel⟩) hS (fun q _ h => hFc q h) hFc (fun u t H locs ht hvm hw hB hz1 hk1 hS => ?_)
      obtain ⟨hP1, -, hD1⟩ := hB
      rw [ht] at hP1
      have hP := hP1
      have hD := hD1.weaken (fun k q _ h => hFc q.1 h)
      refine W.widen (k := 0) (n := 0) (Nat.le_refl _) (Nat.le_refl _) ?_
      refine lv_goto (tgt := 215) hx hb dX18_others_195 (by decide) ?_
      exact (db_X18_others_215 C K)  s22 _ _ _ h hP hD hS (lv_sub hl [] rfl)
  · have h := nd_pos h c15
    refine lv_aload_n hx hb dX18_others_113 rfl (lv_at hl 0 rfl) ?_
    refine lv_ldc2 hx hb hown (hts (.constantLong RX18 246 (7102826)) (List.mem_of_getElem? (i := 18) rfl)) dX18_others_114 ?_
    obtain ⟨s25, hq, h⟩ := nd_b1_e h
    have hPc := hP
    have hDc := hD
    have hKc := hK
    have hFc := nd_rs hD hS hA
    refine va_callv (va_runV (As := [.long 7102826]) (rest := []) ⟨hx, hb, hml, hown, hts⟩ (dm_X18_name l hlt dC dI a ac n (7102826) s0 hq _) (cwV 1 hts gi_dm_X18_others_0 rfl rfl rfl (by decide +kernel) ⟨Nat.le_of_ble_eq_true rfl, Nat.le_of_ble_eq_true rfl⟩) ⟨fun a U g mk q => by obtain ⟨q0, q1, qP, qK, qD, qN⟩ := q; exact ⟨q0, q1, qP, va_K.moved (u := U) (U := U.calling g mk a) (Vm.Alike.refl U.vm) qK, qD, nv_same rfl rfl qN⟩, va_recv hKc hPc (ci := 19) (q0 := 0) rfl rfl, fun U hU hW => ⟨rfl, by rw [hU], by rw [hU]; exact hPc, va_K.moved hW.alike hKc, hDc.weaken (fun _ _ _ _ => trivial), nv_call hS hFc hU hW hN⟩⟩ rfl rfl hl.1 rfl (lv_room (Nat.le_of_ble_eq_true rfl)) dX18_others_117 ⟨by decide +kernel, by decide +kernel⟩) hS (fun q _ h => hFc q h) hFc (fun u t H locs ht hvm hw hB hz1 hk1 hS => ?_)
    obtain ⟨hP1, -, hD1⟩ := hB
    rw [ht] at hP1
    have hP := hP1
    have hD := hD1.weaken (fun k q _ h => hFc q.1 h)
    refine W.widen (k := 0) (n := 0) (Nat.le_refl _) (Nat.le_refl _) ?_
    refine lv_aload_n hx hb dX18_others_120 rfl (lv_at hl 0 rfl) ?_
    refine lv_aload_n hx hb dX18_others_121 rfl (lv_at hl 0 rfl) ?_
    refine va_get (D := (dC, dI)) (ci := 19) (v := .int (sI s25 4)) (C := RX18) (T := TX18) (N := 10) hx hb hts hi_dm_X18_others_X18 hown hK hP 0 rfl rfl 5 (by decide) (hts (.fieldLink RX18 68 "TimeMachineModel$Reader" "d" "I") (List.mem_of_getElem? (i := 7) rfl)) (fun _ h9 => h9) rfl dX18_others_122 ?_
    obtain ⟨s28, hq, h⟩ := nd_b1_e h
    have hPc := hP
    have hDc := hD
    have hKc := hK
    have hFc := nd_rs hD hS hA
    refine va_callv (va_runV (As := [.int (sI s25 4)]) (rest := []) ⟨hx, hb, hml, hown, hts⟩ (dm_X18_register l hlt dC dI a ac n ((sI s25 4)) s25 hq _) (cwV 1 hts gi_dm_X18_others_1 rfl rfl rfl (by decide +kernel) ⟨Nat.le_of_ble_eq_true rfl, Nat.le_of_ble_eq_true rfl⟩) ⟨fun a U g mk q => by obtain ⟨q0, q1, qP, qK, qD, qN⟩ := q; exact ⟨q0, q1, qP, va_K.moved (u := U) (U := U.calling g mk a) (Vm.Alike.refl U.vm) qK, qD, nv_same rfl rfl qN⟩, va_recv hKc hPc (ci := 19) (q0 := 0) rfl rfl, fun U hU hW => ⟨rfl, by rw [hU], by rw [hU]; exact hPc, va_K.moved hW.alike hKc, hDc.weaken (fun _ _ _ _ => trivial), nv_call hS hFc hU hW hN⟩⟩ rfl rfl hl.1 rfl (lv_room (Nat.le_of_ble_eq_true rfl)) dX18_others_125 ⟨by decide +kernel, by decide +kernel⟩) hS (fun q _ h => hFc q h) hFc (fun u t H locs ht hvm hw hB hz1 hk1 hS => ?_)
    obtain ⟨hP1, -, hD1⟩ := hB
    rw [ht] at hP1
    have hP := hP1
    have hD := hD1.weaken (fun k q _ h => hFc q.1 h)
    refine W.widen (k := 0) (n := 0) (Nat.le_refl _) (Nat.le_refl _) ?_
    refine lv_aload_n hx hb dX18_others_128 rfl (lv_at hl 0 rfl) ?_
    refine lv_aload_n hx hb dX18_others_129 rfl (lv_at hl 0 rfl) ?_
    refine va_get (D := (dC, dI)) (ci := 19) (v := .int (sI s28 3)) (C := RX18) (T := TX18) (N := 10) hx hb hts hi_dm_X18_others_X18 hown hK hP 0 rfl rfl 4 (by decide) (hts (.fieldLink RX18 20 "TimeMachineModel$Reader" "bits" "I") (List.mem_of_getElem? (i := 1) rfl)) (fun _ h9 => h9) rfl dX18_others_130 ?_
    refine lv_bipush (v := 31) hx hb dX18_others_133 (by decide) ?_
    refine lv_ishr hx hb dX18_others_135 ?_
    refine lv_bipush (v := 20) hx hb dX18_others_136 (by decide) ?_
    refine lv_ishl hx hb dX18_others_138 ?_
    refine lv_aload_n hx hb dX18_others_139 rfl (lv_at hl 0 rfl) ?_
    refine lv_bipush (v := 12) hx hb dX18_others_140 (by decide) ?_
    refine lv_bipush (v := 8) hx hb dX18_others_142 (by decide) ?_
    obtain ⟨q30, s31, hq, h⟩ := nd_b2_e h
    have hPc := hP
    have hDc := hD
    have hKc := hK
    have hFc := nd_rs hD hS hA
    refine va_calli (va_runV (As := [.int 12, .int 8]) (rest := [.int (((((sI s28 3) : Int32) >>> ((31 : Int32) &&& 31)) : Int32) <<< ((20 : Int32) &&& 31)), .ref (a 0)]) ⟨hx, hb, hml, hown, hts⟩ (dm_X18_part l hlt dC dI a ac n (12) (8) s28 hq _) (cwV 2 hts gi_dm_X18_others_3 rfl rfl rfl (by decide +kernel) ⟨Nat.le_of_ble_eq_true rfl, Nat.le_of_ble_eq_true rfl⟩) ⟨fun a U g mk q => by obtain ⟨q0, q1, qP, qK, qD, qN⟩ := q; exact ⟨q0, q1, qP, va_K.moved (u := U) (U := U.calling g mk a) (Vm.Alike.refl U.vm) qK, qD, nv_same rfl rfl qN⟩, va_recv hKc hPc (ci := 19) (q0 := 0) rfl rfl, fun U hU hW => ⟨rfl, by rw [hU], by rw [hU]; exact hPc, va_K.moved hW.alike hKc, hDc.weaken (fun _ _ _ _ => trivial), nv_call hS hFc hU hW hN⟩⟩ rfl rfl hl.1 rfl (lv_room (Nat.le_of_ble_eq_true rfl)) dX18_others_144 ⟨by decide +kernel, by decide +kernel⟩) hS (fun q _ h => hFc q h) hFc (fun r32 u t H locs ht hvm hw hB hz1 hk1 hS => ?_)
    obtain rfl : q30 = r32 := Eq.symm hw
    obtain ⟨hP1, -, hD1⟩ := hB
    rw [ht] at hP1
    have hP := hP1
    have hD := hD1.weaken (fun k q _ h => hFc q.1 h)
    refine W.widen (k := 0) (n := 0) (Nat.le_refl _) (Nat.le_refl _) ?_
    refine lv_bipush (v := 12) hx hb dX18_others_147 (by decide) ?_
    refine lv_ishl hx hb dX18_others_149 ?_
    refine lv_ior hx hb dX18_others_150 ?_
    refine lv_aload_n hx hb dX18_others_151 rfl (lv_at hl 0 rfl) ?_
    refine lv_bipush (v := 20) hx hb dX18_others_152 (by decide) ?_
    refine lv_iconst (v := 1) hx hb dX18_others_154 (by decide) ?_
    obtain ⟨q33, s34, hq, h⟩ := nd_b2_e h
    have hPc := hP
    have hDc := hD
    have hKc := hK
    have hFc := nd_rs hD hS hA
    refine va_calli (va_runV (As := [.int 20, .int 1]) (rest := [.int ((((((sI s28 3) : Int32) >>> ((31 : Int32) &&& 31)) : Int32) <<< ((20 : Int32) &&& 31)) ||| ((q30 : Int32) <<< ((12 : Int32) &&& 31))), .ref (a 0)]) ⟨hx, hb, hml, hown, hts⟩ (dm_X18_part l hlt dC dI a ac n (20) (1) s31 hq _) (cwV 2 hts gi_dm_X18_others_3 rfl rfl rfl (by decide +kernel) ⟨Nat.le_of_ble_eq_true rfl, Nat.le_of_ble_eq_true rfl⟩) ⟨fun a U g mk q => by obtain ⟨q0, q1, qP, qK, qD, qN⟩ := q; exact ⟨q0, q1, qP, va_K.moved (u := U) (U := U.calling g mk a) (Vm.Alike.refl U.vm) qK, qD, nv_same rfl rfl qN⟩, va_recv hKc hPc (ci := 19) (q0 := 0) rfl rfl, fun U hU hW => ⟨rfl, by rw [hU], by rw [hU]; exact hPc, va_K.moved hW.alike hKc, hDc.weaken (fun _ _ _ _ => trivial), nv_call hS hFc hU hW hN⟩⟩ rfl rfl hl.1 rfl (lv_room (Nat.le_of_ble_eq_true rfl)) dX18_others_155 ⟨by decide +kernel, by decide +kernel⟩) hS (fun q _ h => hFc q h) hFc (fun r35 u t H locs ht hvm hw hB hz1 hk1 hS => ?_)
    obtain rfl : q33 = r35 := Eq.symm hw
    obtain ⟨hP1, -, hD1⟩ := hB
    rw [ht] at hP1
    have hP := hP1
    have hD := hD1.weaken (fun k q _ h => hFc q.1 h)
    refine W.widen (k := 0) (n := 0) (Nat.le_refl _) (Nat.le_refl _) ?_
    refine lv_bipush (v := 11) hx hb dX18_others_158 (by decide) ?_
    refine lv_ishl hx hb dX18_others_160 ?_
    refine lv_ior hx hb dX18_others_161 ?_
    refine lv_aload_n hx hb dX18_others_162 rfl (lv_at hl 0 rfl) ?_
    refine lv_bipush (v := 21) hx hb dX18_others_163 (by decide) ?_
    refine lv_bipush (v := 10) hx hb dX18_others_165 (by decide) ?_
    obtain ⟨q36, s37, hq, h⟩ := nd_b2_e h
    have hPc := hP
    have hDc := hD
    have hKc := hK
    have hFc := nd_rs hD hS hA
    refine va_calli (va_runV (As := [.int 21, .int 10]) (rest := [.int (((((((sI s28 3) : Int32) >>> ((31 : Int32) &&& 31)) : Int32) <<< ((20 : Int32) &&& 31)) ||| ((q30 : Int32) <<< ((12 : Int32) &&& 31))) ||| ((q33 : Int32) <<< ((11 : Int32) &&& 31))), .ref (a 0)]) ⟨hx, hb, hml, hown, hts⟩ (dm_X18_part l hlt dC dI a ac n (21) (10) s34 hq _) (cwV 2 hts gi_dm_X18_others_3 rfl rfl rfl (by decide +kernel) ⟨Nat.le_of_ble_eq_true rfl, Nat.le_of_ble_eq_true rfl⟩) ⟨fun a U g mk q => by obtain ⟨q0, q1, qP, qK, qD, qN⟩ := q; exact ⟨q0, q1, qP, va_K.moved (u := U) (U := U.calling g mk a) (Vm.Alike.refl U.vm) qK, qD, nv_same rfl rfl qN⟩, va_recv hKc hPc (ci := 19) (q0 := 0) rfl rfl, fun U hU hW => ⟨rfl, by rw [hU], by rw [hU]; exact hPc, va_K.moved hW.alike hKc, hDc.weaken (fun _ _ _ _ => trivial), nv_call hS hFc hU hW hN⟩⟩ rfl rfl hl.1 rfl (lv_room (Nat.le_of_ble_eq_true rfl)) dX18_others_167 ⟨by decide +kernel, by decide +kernel⟩) hS (fun q _ h => hFc q h) hFc (fun r38 u t H locs ht hvm hw hB hz1 hk1 hS => ?_)
    obtain rfl : q36 = r38 := Eq.symm hw
    obtain ⟨hP1, -, hD1⟩ := hB
    rw [ht] at hP1
    have hP := hP1
    have hD := hD1.weaken (fun k q _ h => hFc q.1 h)
    refine W.widen (k := 0) (n := 0) (Nat.le_refl _) (Nat.le_refl _) ?_
    refine lv_iconst (v := 1) hx hb dX18_others_170 (by decide) ?_
    refine lv_ishl hx hb dX18_others_171 ?_
    refine lv_ior hx hb dX18_others_172 ?_
    obtain ⟨s40, hq, h⟩ := nd_b1_e h
    have hPc := hP
    have hDc := hD
    have hKc := hK
    have hFc := nd_rs hD hS hA
    refine va_callv (va_runV (As := [.int ((((((((sI s28 3) : Int32) >>> ((31 : Int32) &&& 31)) : Int32) <<< ((20 : Int32) &&& 31)) ||| ((q30 : Int32) <<< ((12 : Int32) &&& 31))) ||| ((q33 : Int32) <<< ((11 : Int32) &&& 31))) ||| ((q36 : Int32) <<< ((1 : Int32) &&& 31)))]) (rest := []) ⟨hx, hb, hml, hown, hts⟩ (dm_X18_target l hlt dC dI a ac n (((((((((sI s28 3) : Int32) >>> ((31 : Int32) &&& 31)) : Int32) <<< ((20 : Int32) &&& 31)) ||| ((q30 : Int32) <<< ((12 : Int32) &&& 31))) ||| ((q33 : Int32) <<< ((11 : Int32) &&& 31))) ||| ((q36 : Int32) <<< ((1 : Int32) &&& 31)))) s37 hq _) (cwV 1 hts gi_dm_X18_others_4 rfl rfl rfl (by decide +kernel) ⟨Nat.le_of_ble_eq_true rfl, Nat.le_of_ble_eq_true rfl⟩) ⟨fun a U g mk q => by obtain ⟨q0, q1, qP, qK, qD, qN⟩ := q; exact ⟨q0, q1, qP, va_K.moved (u := U) (U := U.calling g mk a) (Vm.Alike.refl U.vm) qK, qD, nv_same rfl rfl qN⟩, va_recv hKc hPc (ci := 19) (q0 := 0) rfl rfl, fun U hU hW => ⟨rfl, by rw [hU], by rw [hU]; exact hPc, va_K.moved hW.alike hKc, hDc.weaken (fun _ _ _ _ => trivial), nv_call hS hFc hU hW hN⟩⟩ rfl rfl hl.1 rfl (lv_room (Nat.le_of_ble_eq_true rfl)) dX18_others_173 ⟨by decide +kernel, by decide +kernel⟩) hS (fun q _ h => hFc q h) hFc (fun u t H locs ht hvm hw hB hz1 hk1 hS => ?_)
    obtain ⟨hP1, -, hD1⟩ := hB
    rw [ht] at hP1
    have hP := hP1
    have hD := hD1.weaken (fun k q _ h => hFc q.1 h)
    refine W.widen (k := 0) (n := 0) (Nat.le_refl _) (Nat.le_refl _) ?_
    refine lv_goto (tgt := 215) hx hb dX18_others_176 (by decide) ?_
    exact (db_X18_others_215 C K)  s40 _ _ _ h hP hD hS (lv_sub hl [] rfl)
set_option maxHeartbeats 40000000 in
set_option maxRecDepth 100000 in
theorem db_X18_others_0 {p : Program} {l : Launch} {e : Env} {s : State} {m : MethodId} {args : Array Value} {below : List Frame} {meth : Method} {c : Code} {Q : State → Prop} {A : Nat → Prop} {dC : Nat → ClassId} {dI : Nat → Nat → Nat} {a : Nat → Nat} {ac : Nat → ClassId} {n : Nat} {r : St} (C : nd_C p l s m args c A (dC, dI) cX18_others 2 RX18 ow_dm_X18_others (dk_X18 ac)) (K : nd_Kv p l e (headSpec ow_dm_X18_others ({ frames := 5, cells := 0, slots := 0, locals := 111 })).room s m args below meth c Q A (dC, dI) cX18_others (St) (dw_X18 a ac) r) : dj_X18_others_0 p l e s m args below meth c Q A dC dI a ac (df_X18_others_0 n) r := by
  obtain ⟨hlt, hx, hb, hml, hown, hts, hN, hA, hK⟩ := id C
  intro s0 H locs ls h hP hD hS hl
  unfold df_X18_others_0 at h
  refine lv_aload_n hx hb dX18_others_0 rfl (lv_at hl 0 rfl) ?_
  refine va_get (D := (dC, dI)) (ci := 19) (v := .int (sI s0 3)) (C := RX18) (T := TX18) (N := 10) hx hb hts hi_dm_X18_others_X18 hown hK hP 0 rfl rfl 4 (by decide) (hts (.fieldLink RX18 20 "TimeMachineModel$Reader" "bits" "I") (List.mem_of_getElem? (i := 1) rfl)) (fun _ h9 => h9) rfl dX18_others_1 ?_
  refine lv_bipush (v := 127) hx hb dX18_others_4 (by decide) ?_
  refine lv_iand hx hb dX18_others_6 ?_
  refine lv_topi (fun z1 ez1 => ?_)
  have h := nd_at h ez1
  refine lv_istore_n (lv' := [(1, .int z1), (0, .ref (a 0))]) hx hb dX18_others_7 rfl hl (by decide) rfl (fun ls hl => ?_)
  refine lv_iload_n hx hb dX18_others_8 rfl (lv_at hl 0 rfl) ?_
  refine lv_bipush (v := 55) hx hb dX18_others_9 (by decide) ?_
  refine lv_icmp_eq (tgt := 20) hx hb dX18_others_11 (by decide) (fun c2 => ?_) (fun c2 => ?_)
  · have h := nd_pos h c2
    exact (db_X18_others_20 C K) (z1) s0 _ _ _ h hP hD hS (lv_sub hl [1, 0] rfl)
  · have h := nd_neg h c2
    refine lv_iload_n hx hb dX18_others_14 rfl (lv_at hl 0 rfl) ?_
    refine lv_bipush (v := 23) hx hb dX18_others_15 (by decide) ?_
    refine lv_icmp_ne (tgt := 61) hx hb dX18_others_17 (by decide) (fun c13 => ?_) (fun c13 => ?_)
    · have h := nd_neg h c13
      refine lv_iload_n hx hb dX18_others_61 rfl (lv_at hl 0 rfl) ?_
      refine lv_bipush (v := 103) hx hb dX18_others_62 (by decide) ?_
      refine lv_icmp_ne (tgt := 107) hx hb dX18_others_64 (by decide) (fun c14 => ?_) (fun c14 => ?_)
      · have h := nd_neg h c14
        exact (db_X18_others_107 C K) (z1) s0 _ _ _ h hP hD hS (lv_sub hl [1, 0] rfl)
      · have h := nd_pos h c14
        refine lv_aload_n hx hb dX18_others_67 rfl (lv_at hl 1 rfl) ?_
        refine va_get (D := (dC, dI)) (ci := 19) (v := .int (sI s0 7)) (C := RX18) (T := TX18) (N := 10) hx hb hts hi_dm_X18_others_X18 hown hK hP 0 rfl rfl 8 (by decide) (hts (.fieldLink RX18 80 "TimeMachineModel$Reader" "f" "I") (List.mem_of_getElem? (i := 25) rfl)) (fun _ h9 => h9) rfl dX18_others_68 ?_
        refine lv_if_ne (tgt := 107) hx hb dX18_others_71 (by decide) (fun c42 => ?_) (fun c42 => ?_)
        · have h := nd_neg h c42
          exact (db_X18_others_107 C K) (z1) s0 _ _ _ h hP hD hS (lv_sub hl [1, 0] rfl)
        · have h := nd_pos h c42
          refine lv_aload_n hx hb dX18_others_74 rfl (lv_at hl 1 rfl) ?_
          refine lv_ldc2 hx hb hown (hts (.constantLong RX18 244 (1919705450)) (List.mem_of_getElem? (i := 26) rfl)) dX18_others_75 ?_
          obtain ⟨s44, hq, h⟩ := nd_b1_e h
          have hPc := hP
          have hDc := hD
          have hKc := hK
          have hFc := nd_rs hD hS hA
          refine va_callv (va_runV (As := [.long 1919705450]) (rest := []) ⟨hx, hb, hml, hown, hts⟩ (dm_X18_name l hlt dC dI a ac n (1919705450) s0 hq _) (cwV 1 hts gi_dm_X18_others_0 rfl rfl rfl (by decide +kernel) ⟨Nat.le_of_ble_eq_true rfl, Nat.le_of_ble_eq_true rfl⟩) ⟨fun a U g mk q => by obtain ⟨q0, q1, qP, qK, qD, qN⟩ := q; exact ⟨q0, q1, qP, va_K.moved (u := U) (U := U.calling g mk a) (Vm.Alike.refl U.vm) qK, qD, nv_same rfl rfl qN⟩, va_recv hKc hPc (ci := 19) (q0 := 0) rfl rfl, fun U hU hW => ⟨rfl, by rw [hU], by rw [hU]; exact hPc, va_K.moved hW.alike hKc, hDc.weaken (fun _ _ _ _ => trivial), nv_call hS hFc hU hW hN⟩⟩ rfl rfl hl.1 rfl (lv_room (Nat.le_of_ble_eq_true rfl)) dX18_others_78 ⟨by decide +kernel, by decide +kernel⟩) hS (fun q _ h => hFc q h) hFc (fun u t H locs ht hvm hw hB hz1 hk1 hS => ?_)
          obtain ⟨hP1, -, hD1⟩ := hB
          rw [ht] at hP1
          have hP := hP1
          have hD := hD1.weaken (fun k q _ h => hFc q.1 h)
          refine W.widen (k := 0) (n := 0) (Nat.le_refl _) (Nat.le_refl _) ?_
          refine lv_aload_n hx hb dX18_others_81 rfl (lv_at hl 1 rfl) ?_
          refine lv_aload_n hx hb dX18_others_82 rfl (lv_at hl 1 rfl) ?_
          refine va_get (D := (dC, dI)) (ci := 19) (v := .int (sI s44 4)) (C := RX18) (T := TX18) (N := 10) hx hb hts hi_dm_X18_others_X18 hown hK hP 0 rfl rfl 5 (by decide) (hts (.fieldLink RX18 68 "TimeMachineModel$Reader" "d" "I") (List.mem_of_getElem? (i := 7) rfl)) (fun _ h9 => h9) rfl dX18_others_83 ?_
          obtain ⟨s47, hq, h⟩ := nd_b1_e h
          have hPc := hP
          have hDc := hD
          have hKc := hK
          have hFc := nd_rs hD hS hA
          refine va_callv (va_runV (As := [.int (sI s44 4)]) (rest := []) ⟨hx, hb, hml, hown, hts⟩ (dm_X18_register l hlt dC dI a ac n ((sI s44 4)) s44 hq _) (cwV 1 hts gi_dm_X18_others_1 rfl rfl rfl (by decide +kernel) ⟨Nat.le_of_ble_eq_true rfl, Nat.le_of_ble_eq_true rfl⟩) ⟨fun a U g mk q => by obtain ⟨q0, q1, qP, qK, qD, qN⟩ := q; exact ⟨q0, q1, qP, va_K.moved (u := U) (U := U.calling g mk a) (Vm.Alike.refl U.vm) qK, qD, nv_same rfl rfl qN⟩, va_recv hKc hPc (ci := 19) (q0 := 0) rfl rfl, fun U hU hW => ⟨rfl, by rw [hU], by rw [hU]; exact hPc, va_K.moved hW.alike hKc, hDc.weaken (fun _ _ _ _ => trivial), nv_call hS hFc hU hW hN⟩⟩ rfl rfl hl.1 rfl (lv_room (Nat.le_of_ble_eq_true rfl)) dX18_others_86 ⟨by decide +kernel, by decide +kernel⟩) hS (fun q _ h => hFc q h) hFc (fun u t H locs ht hvm hw hB hz1 hk1 hS => ?_)
          obtain ⟨hP1, -, hD1⟩ := hB
          rw [ht] at hP1
          have hP := hP1
          have hD := hD1.weaken (fun k q _ h => hFc q.1 h)
          refine W.widen (k := 0) (n := 0) (Nat.le_refl _) (Nat.le_refl _) ?_
          refine lv_aload_n hx hb dX18_others_89 rfl (lv_at hl 1 rfl) ?_
          refine lv_aload_n hx hb dX18_others_90 rfl (lv_at hl 1 rfl) ?_
          refine va_get (D := (dC, dI)) (ci := 19) (v := .int (sI s47 3)) (C := RX18) (T := TX18) (N := 10) hx hb hts hi_dm_X18_others_X18 hown hK hP 0 rfl rfl 4 (by decide) (hts (.fieldLink RX18 20 "TimeMachineModel$Reader" "bits" "I") (List.mem_of_getElem? (i := 1) rfl)) (fun _ h9 => h9) rfl dX18_others_91 ?_
          refine lv_bipush (v := 20) hx hb dX18_others_94 (by decide) ?_
          refine lv_ishr hx hb dX18_others_96 ?_
          refine lv_aload_n hx hb dX18_others_97 rfl (lv_at hl 1 rfl) ?_
          refine va_get (D := (dC, dI)) (ci := 19) (v := .int (sI s47 5)) (C := RX18) (T := TX18) (N := 10) hx hb hts hi_dm_X18_others_X18 hown hK hP 0 rfl rfl 6 (by decide) (hts (.fieldLink RX18 74 "TimeMachineModel$Reader" "a" "I") (List.mem_of_getElem? (i := 27) rfl)) (fun _ h9 => h9) rfl dX18_others_98 ?_
          obtain ⟨s50, hq, h⟩ := nd_b1_e h
          have hPc := hP
          have hDc := hD
          have hKc := hK
          have hFc := nd_rs hD hS hA
          refine va_callv (va_runV (As := [.int (((sI s47 3) : Int32) >>> ((20 : Int32) &&& 31)), .int (sI s47 5)]) (rest := []) ⟨hx, hb, hml, hown, hts⟩ (dm_X18_memory l hlt dC dI a ac n ((((sI s47 3) : Int32) >>> ((20 : Int32) &&& 31))) ((sI s47 5)) s47 hq _) (cwV 2 hts gi_dm_X18_others_5 rfl rfl rfl (by decide +kernel) ⟨Nat.le_of_ble_eq_true rfl, Nat.le_of_ble_eq_true rfl⟩) ⟨fun a U g mk q => by obtain ⟨q0, q1, qP, qK, qD, qN⟩ := q; exact ⟨q0, q1, qP, va_K.moved (u := U) (U := U.calling g mk a) (Vm.Alike.refl U.vm) qK, qD, nv_same rfl rfl qN⟩, va_recv hKc hPc (ci := 19) (q0 := 0) rfl rfl, fun U hU hW => ⟨rfl, by rw [hU], by rw [hU]; exact hPc, va_K.moved hW.alike hKc, hDc.weaken (fun _ _ _ _ => trivial), nv_call hS hFc hU hW hN⟩⟩ rfl rfl hl.1 rfl (lv_room (Nat.le_of_ble_eq_true rfl)) dX18_others_101 ⟨by decide +kernel, by decide +kernel⟩) hS (fun q _ h => hFc q h) hFc (fun u t H locs ht hvm hw hB hz1 hk1 hS => ?_)
          obtain ⟨hP1, -, hD1⟩ := hB
          rw [ht] at hP1
          have hP := hP1
          have hD := hD1.weaken (fun k q _ h => hFc q.1 h)
          refine W.widen (k := 0) (n := 0) (Nat.le_refl _) (Nat.le_refl _) ?_
          refine lv_goto (tgt := 215) hx hb dX18_others_104 (by decide) ?_
          exact (db_X18_others_215 C K)  s50 _ _ _ h hP hD hS (lv_sub hl [] rfl)
    · have h := nd_pos h c13
      exact (db_X18_others_20 C K) (z1) s0 _ _ _ h hP hD hS (lv_sub hl [1, 0] rfl)
set_option maxHeartbeats 40000000 in
set_option maxRecDepth 100000 in
theorem dm_X18_others (l : Launch) (hlt : l.stackTraces = false) (dC : Nat → ClassId) (dI : Nat → Nat → Nat) (a : Nat → Nat) (ac : Nat → ClassId) (n : Nat) (s0 : St) {r : St} (h : df_X18_others n s0 = some r) (sz : Nat) : Met l yX18_others ow_dm_X18_others ({ frames := 5, cells := 0, slots := 0, locals := 111 }) (va_Pc [.ref (a 0)] (fun U => U.heap.size = sz ∧ va_P (dC, dI) vwCl (dw_X18 a ac s0) U.heap ∧ va_K (dC, dI) vwCl (dk_X18 ac) U ∧ va_D (fun _ => True) (dw_X18 a ac s0) ∧ nv_E (va_A (dw_X18 a ac s0) sz) U)) (va_Qv (fun _ => True) (fun (_ : Unit) t => va_P (dC, dI) vwCl (dw_X18 a ac r) t.heap ∧ va_K (dC, dI) vwCl (dk_X18 ac) t ∧ va_D (va_A (dw_X18 a ac s0) sz) (dw_X18 a ac r)) (va_A (dw_X18 a ac s0) sz)) 0 0 (va_A (dw_X18 a ac s0) sz) := by
  refine Met.ofW (cc := cX18_others) (maxL := 2) (ret := none) (by decide) rfl ?_
  intro p e s m args below meth c s₁ B hml hv
  obtain ⟨rfl, hsz, hP, hK, hD0, hN⟩ := hv
  have hx := B.exec
  have hb := B.bytes
  have hr := B.returns
  have hts := atoms_spec (ws := ow_dm_X18_others) B.pre
  have hown : s.vm.findClass RX18 = some m.cls := findClass_of_methodNamed B.named
  have hlocks := B.notSynchronized
  subst hsz
  have hD := hD0.self (sz := s.heap.size)
  generalize hAe : va_A (dw_X18 a ac s0) s.heap.size = A at hD hN ⊢
  have hA : ∀ q : Nat, s.heap.size ≤ q → A q := fun q h => by rw [← hAe]; exact Or.inr h
  have hl := lv_entry ([.ref (a 0)]) (n := 2) (Nat.le_of_ble_eq_true rfl)
  rw [lg_entry_eq]
  generalize (lg_sl ([.ref (a 0)]) ++ List.replicate (2 - (lg_sl ([.ref (a 0)])).length) Slot.unset).toArray = ls at hl ⊢
  have hl : lv_has ls 2 [(0, .ref (a 0))] := hl
  exact db_X18_others_0 (dC := dC) (dI := dI) (a := a) (ac := ac) (n := n) (r := r) ⟨hlt, hx, hb, hml, hown, hts, hN, hA, hK⟩ (fun pc τ H locs ls d er hP hD hS => by subst er; exact W.vret hx hb hr (fun t ht hW => ⟨⟨(), rfl, trivial, by rw [ht]; exact hP, va_K.moved hW.alike hK, hD⟩, hS.F ht⟩) hS.2.2 d) s0 _ _ _ h hP hD va_S.rf (lv_sub hl [0] rfl)
def ow_dm_X18_longOne : List Cond := .code yX18_longOne cX18_longOne 2 none :: ([.methodLink RX18 172 yX18_part, .instanceMethod yX18_part, .selects RX18 yX18_part yX18_part, .initialized RX18, .fieldLink RX18 68 "TimeMachineModel$Reader" "d" "I", .fieldLink RX18 80 "TimeMachineModel$Reader" "f" "I", .fieldLink RX18 74 "TimeMachineModel$Reader" "a" "I", .fieldLink RX18 77 "TimeMachineModel$Reader" "b" "I", .fieldLink RX18 20 "TimeMachineModel$Reader" "bits" "I", .methodLink RX18 222 yX18_loads, .instanceMethod yX18_loads, .selects RX18 yX18_loads yX18_loads, .methodLink RX18 219 yX18_twos, .instanceMethod yX18_twos, .selects RX18 yX18_twos yX18_twos, .methodLink RX18 225 yX18_stores, .instanceMethod yX18_stores, .selects RX18 yX18_stores yX18_stores, .methodLink RX18 231 yX18_atomic, .instanceMethod yX18_atomic, .selects RX18 yX18_atomic yX18_atomic, .methodLink RX18 216 yX18_plain, .instanceMethod yX18_plain, .selects RX18 yX18_plain yX18_plain, .methodLink RX18 228 yX18_branches, .instanceMethod yX18_branches, .selects RX18 yX18_branches yX18_branches, .methodLink RX18 234 yX18_system, .instanceMethod yX18_system, .selects RX18 yX18_system yX18_system, .methodLink RX18 237 yX18_others, .instanceMethod yX18_others, .selects RX18 yX18_others yX18_others] ++ (u_ws RX18 TX18 10 ++ (ow_dm_X18_part ++ (ow_dm_X18_loads ++ (ow_dm_X18_twos ++ (ow_dm_X18_stores ++ (ow_dm_X18_atomic ++ (ow_dm_X18_plain ++ (ow_dm_X18_branches ++ (ow_dm_X18_system ++ (ow_dm_X18_others ++ [])))))))))))
theorem gd_dm_X18_longOne : ∀ w ∈ ow_dm_X18_longOne, (w.onTables && w.keeps) = true ∨ ∃ ty, w = Cond.arrayClass ty := List.forall_mem_cons.mpr ⟨good_of_word rfl, List.forall_mem_append.mpr ⟨fun w h => good_of_word (List.all_eq_true.mp (by decide +kernel) w h), List.forall_mem_append.mpr ⟨gu_X18, List.forall_mem_append.mpr ⟨gd_dm_X18_part, List.forall_mem_append.mpr ⟨gd_dm_X18_loads, List.forall_mem_append.mpr ⟨gd_dm_X18_twos, List.forall_mem_append.mpr ⟨gd_dm_X18_stores, List.forall_mem_append.mpr ⟨gd_dm_X18_atomic, List.forall_mem_append.mpr ⟨gd_dm_X18_plain, List.forall_mem_append.mpr ⟨gd_dm_X18_branches, List.forall_mem_append.mpr ⟨gd_dm_X18_system, List.forall_mem_append.mpr ⟨gd_dm_X18_others, fun _ h => nomatch h⟩⟩⟩⟩⟩⟩⟩⟩⟩⟩⟩⟩
theorem hi_dm_X18_longOne_X18 : ∀ w ∈ u_ws RX18 TX18 10, w ∈ ow_dm_X18_longOne := fun w h => List.mem_cons_of_mem _ (List.mem_append_right _ (List.mem_append_left _ h))
theorem gi_dm_X18_longOne_0 : GoodIn ow_dm_X18_longOne (wsV RX18 172 RX18 yX18_part ow_dm_X18_part) := goodIn_app (goodIn_of _ (by decide +kernel)) (fun w h => ⟨List.mem_cons_of_mem _ (List.mem_append_right _ (List.mem_append_right _ (List.mem_append_left _ h))), gd_dm_X18_part w h⟩)
theorem gi_dm_X18_longOne_1 : GoodIn ow_dm_X18_longOne (wsV RX18 222 RX18 yX18_loads ow_dm_X18_loads) := goodIn_app (goodIn_of _ (by decide +kernel)) (fun w h => ⟨List.mem_cons_of_mem _ (List.mem_append_right _ (List.mem_append_right _ (List.mem_append_right _ (List.mem_append_left _ h)))), gd_dm_X18_loads w h⟩)
theorem gi_dm_X18_longOne_2 : GoodIn ow_dm_X18_longOne (wsV RX18 219 RX18 yX18_twos ow_dm_X18_twos) := goodIn_app (goodIn_of _ (by decide +kernel)) (fun w h => ⟨List.mem_cons_of_mem _ (List.mem_append_right _ (List.mem_append_right _ (List.mem_append_right _ (List.mem_append_right _ (List.mem_append_left _ h))))), gd_dm_X18_twos w h⟩)
theorem gi_dm_X18_longOne_3 : GoodIn ow_dm_X18_longOne (wsV RX18 225 RX18 yX18_stores ow_dm_X18_stores) := goodIn_app (goodIn_of _ (by decide +kernel)) (fun w h => ⟨List.mem_cons_of_mem _ (List.mem_append_right _ (List.mem_append_right _ (List.mem_append_right _ (List.mem_append_right _ (List.mem_append_right _ (List.mem_append_left _ h)))))), gd_dm_X18_stores w h⟩)
theorem gi_dm_X18_longOne_4 : GoodIn ow_dm_X18_longOne (wsV RX18 231 RX18 yX18_atomic ow_dm_X18_atomic) := goodIn_app (goodIn_of _ (by decide +kernel)) (fun w h => ⟨List.mem_cons_of_mem _ (List.mem_append_right _ (List.mem_append_right _ (List.mem_append_right _ (List.mem_append_right _ (List.mem_append_right _ (List.mem_append_right _ (List.mem_append_left _ h))))))), gd_dm_X18_atomic w h⟩)
theorem gi_dm_X18_longOne_5 : GoodIn ow_dm_X18_longOne (wsV RX18 216 RX18 yX18_plain ow_dm_X18_plain) := goodIn_app (goodIn_of _ (by decide +kernel)) (fun w h => ⟨List.mem_cons_of_mem _ (List.mem_append_right _ (List.mem_append_right _ (List.mem_append_right _ (List.mem_append_right _ (List.mem_append_right _ (List.mem_append_right _ (List.mem_append_right _ (List.mem_append_left _ h)))))))), gd_dm_X18_plain w h⟩)
theorem gi_dm_X18_longOne_6 : GoodIn ow_dm_X18_longOne (wsV RX18 228 RX18 yX18_branches ow_dm_X18_branches) := goodIn_app (goodIn_of _ (by decide +kernel)) (fun w h => ⟨List.mem_cons_of_mem _ (List.mem_append_right _ (List.mem_append_right _ (List.mem_append_right _ (List.mem_append_right _ (List.mem_append_right _ (List.mem_append_right _ (List.mem_append_right _ (List.mem_append_right _ (List.mem_append_left _ h))))))))), gd_dm_X18_branches w h⟩)
theorem gi_dm_X18_longOne_7 : GoodIn ow_dm_X18_longOne (wsV RX18 234 RX18 yX18_system ow_dm_X18_system) := goodIn_app (goodIn_of _ (by decide +kernel)) (fun w h => ⟨List.mem_cons_of_mem _ (List.mem_append_right _ (List.mem_append_right _ (List.mem_append_right _ (List.mem_append_right _ (List.mem_append_right _ (List.mem_append_right _ (List.mem_append_right _ (List.mem_append_right _ (List.mem_append_right _ (List.mem_append_left _ h)))))))))), gd_dm_X18_system w h⟩)
theorem gi_dm_X18_longOne_8 : GoodIn ow_dm_X18_longOne (wsV RX18 237 RX18 yX18_others ow_dm_X18_others) := goodIn_app (goodIn_of _ (by decide +kernel)) (fun w h => ⟨List.mem_cons_of_mem _ (List.mem_append_right _ (List.mem_append_right _ (List.mem_append_right _ (List.mem_append_right _ (List.mem_append_right _ (List.mem_append_right _ (List.mem_append_right _ (List.mem_append_right _ (List.mem_append_right _ (List.mem_append_right _ (List.mem_append_left _ h))))))))))), gd_dm_X18_others w h⟩)
def dj_X18_longOne_190 (p : Program) (l : Launch) (e : Env) (s : State) (m : MethodId) (args : Array Value) (below : List Frame) (meth : Method) (c : Code) (Q : State → Prop) (A : Nat → Prop) (dC : Nat → ClassId) (dI : Nat → Nat → Nat) (a : Nat → Nat) (ac : Nat → ClassId) (g : (St) → Option (St)) (r : St) : Prop := ∀ (s0 : St) (H : Heap) (locs : List Loc) (ls : Array Slot), g s0 = some r → va_P (dC, dI) vwCl (dw_X18 a ac s0) H → va_D A (dw_X18 a ac s0) → va_S A s.heap H locs → lv_has ls 2 [] → W p l e (headSpec ow_dm_X18_longOne ({ frames := 6, cells := 0, slots := 0, locals := 132 })).room s m args below meth c H locs 0 0 Q (F0 m 190 ls [])
def dj_X18_longOne_0 (p : Program) (l : Launch) (e : Env) (s : State) (m : MethodId) (args : Array Value) (below : List Frame) (meth : Method) (c : Code) (Q : State → Prop) (A : Nat → Prop) (dC : Nat → ClassId) (dI : Nat → Nat → Nat) (a : Nat → Nat) (ac : Nat → ClassId) (g : (St) → Option (St)) (r : St) : Prop := ∀ (s0 : St) (H : Heap) (locs : List Loc) (ls : Array Slot), g s0 = some r → va_P (dC, dI) vwCl (dw_X18 a ac s0) H → va_D A (dw_X18 a ac s0) → va_S A s.heap H locs → lv_has ls 2 [(0, .ref (a 0))] → W p l e (headSpec ow_dm_X18_longOne ({ frames := 6, cells := 0, slots := 0, locals := 132 })).room s m args below meth c H locs 0 0 Q (F0 m 0 ls [])
set_option maxHeartbeats 40000000 in
set_option maxRecDepth 100000 in
theorem db_X18_longOne_190 {p : Program} {l : Launch} {e : Env} {s : State} {m : MethodId} {args : Array Value} {below : List Frame} {meth : Method} {c : Code} {Q : State → Prop} {A : Nat → Prop} {dC : Nat → ClassId} {dI : Nat → Nat → Nat} {a : Nat → Nat} {ac : Nat → ClassId} {n : Nat} {r : St} (C : nd_C p l s m args c A (dC, dI) cX18_longOne 2 RX18 ow_dm_X18_longOne (dk_X18 ac)) (K : nd_Kv p l e (headSpec ow_dm_X18_longOne ({ frames := 6, cells := 0, slots := 0, locals := 132 })).room s m args below meth c Q A (dC, dI) cX18_longOne (St) (dw_X18 a ac) r) : dj_X18_longOne_190 p l e s m args below meth c Q A dC dI a ac (df_X18_longOne_190 n) r := by
  obtain ⟨hlt, hx, hb, hml, hown, hts, hN, hA, hK⟩ := id C
  intro s0 H locs ls h hP hD hS hl
  unfold df_X18_longOne_190 at h
  exact K _ _ _ _ _ dX18_longOne_190 (Option.some.inj h).symm hP hD hS
