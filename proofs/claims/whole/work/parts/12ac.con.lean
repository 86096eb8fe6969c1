set_option maxHeartbeats 40000000 in
set_option maxRecDepth 100000 in
theorem db_X14_readEntry_332 {p : Program} {l : Launch} {e : Env} {s : State} {m : MethodId} {args : Array Value} {below : List Frame} {meth : Method} {c : Code} {Q : State → Prop} {A : Nat → Prop} {dC : Nat → ClassId} {dI : Nat → Nat → Nat} {a : Nat → Nat} {ac : Nat → ClassId} {n : Nat} {r : St} (C : nd_C p l s m args c A (dC, dI) cX14_readEntry 12 RX14 ow_dm_X14_readEntry (dk_X14 ac)) (K : nd_Kv p l e (headSpec ow_dm_X14_readEntry ({ frames := 4, cells := 0, slots := 0, locals := 89 })).room s m args below meth c Q A (dC, dI) cX14_readEntry (St) (dw_X14 a ac) r) : dj_X14_readEntry_332 p l e s m args below meth c Q A dC dI a ac (df_X14_readEntry_332 n) r := by
  obtain ⟨hlt, hx, hb, hml, hown, hts, hN, hA, hK⟩ := id C
  intro x3 x6 x8 x10 s0 H locs ls h hP hD hS hl
  unfold df_X14_readEntry_332 at h
  refine lv_aload_n hx hb dX14_readEntry_332 rfl (lv_at hl 0 rfl) ?_
  refine va_get (D := (dC, dI)) (ci := 15) (v := .int (sI s0 4)) (C := RX14) (T := TX14) (N := 11) hx hb hts hi_dm_X14_readEntry_X14 hown hK hP 0 rfl rfl 10 (by decide) (hts (.fieldLink RX14 65 "TimeMachineModel$Codec" "fault" "I") (List.mem_of_getElem? (i := 5) rfl)) (fun _ h9 => h9) rfl dX14_readEntry_333 ?_
  refine lv_if_ne (tgt := 350) hx hb dX14_readEntry_336 (by decide) (fun c20 => ?_) (fun c20 => ?_)
  · have h := nd_neg h c20
    exact (db_X14_readEntry_350 C K)  s0 _ _ _ h hP hD hS (lv_sub hl [] rfl)
  · have h := nd_pos h c20
    refine lv_aload_n hx hb dX14_readEntry_339 rfl (lv_at hl 0 rfl) ?_
    refine lv_iload_n hx hb dX14_readEntry_340 rfl (lv_at hl 1 rfl) ?_
    refine lv_lload hx hb dX14_readEntry_341 (lv_at hl 2 rfl) ?_
    refine lv_lload hx hb dX14_readEntry_343 (lv_at hl 3 rfl) ?_
    refine lv_iload hx hb dX14_readEntry_345 (lv_at hl 4 rfl) ?_
    obtain ⟨s22, hq, h⟩ := nd_b1_e h
    have hPc := hP
    have hDc := hD
    have hKc := hK
    have hFc := nd_rs hD hS hA
    refine va_callv (va_runV (As := [.int x3, .long x6, .long x8, .int x10]) (rest := []) ⟨hx, hb, hml, hown, hts⟩ (dm_X14_take l hlt dC dI a ac n (x3) (x6) (x8) (x10) s0 hq _) (cwV 4 hts gi_dm_X14_readEntry_2 rfl rfl rfl (by decide +kernel) ⟨Nat.le_of_ble_eq_true rfl, Nat.le_of_ble_eq_true rfl⟩) ⟨fun a U g mk q => by obtain ⟨q0, q1, qP, qK, qD, qN⟩ := q; exact ⟨q0, q1, qP, va_K.moved (u := U) (U := U.calling g mk a) (Vm.Alike.refl U.vm) qK, qD, nv_same rfl rfl qN⟩, va_recv hKc hPc (ci := 15) (q0 := 0) rfl rfl, fun U hU hW => ⟨rfl, by rw [hU], by rw [hU]; exact hPc, va_K.moved hW.alike hKc, hDc.weaken (fun _ _ _ _ => trivial), nv_call hS hFc hU hW hN⟩⟩ rfl rfl hl.1 rfl (lv_room (Nat.le_of_ble_eq_true rfl)) dX14_readEntry_347 ⟨by decide +kernel, by decide +kernel⟩) hS (fun q _ h => hFc q h) hFc (fun u t H locs ht hvm hw hB hz1 hk1 hS => ?_)
    obtain ⟨hP1, -, hD1⟩ := hB
    rw [ht] at hP1
    have hP := hP1
    have hD := hD1.weaken (fun k q _ h => hFc q.1 h)
    refine W.widen (k := 0) (n := 0) (Nat.le_refl _) (Nat.le_refl _) ?_
    exact (db_X14_readEntry_350 C K)  s22 _ _ _ h hP hD hS (lv_sub hl [] rfl)
set_option maxHeartbeats 40000000 in
set_option maxRecDepth 100000 in
theorem db_X14_readEntry_321 {p : Program} {l : Launch} {e : Env} {s : State} {m : MethodId} {args : Array Value} {below : List Frame} {meth : Method} {c : Code} {Q : State → Prop} {A : Nat → Prop} {dC : Nat → ClassId} {dI : Nat → Nat → Nat} {a : Nat → Nat} {ac : Nat → ClassId} {n : Nat} {r : St} (C : nd_C p l s m args c A (dC, dI) cX14_readEntry 12 RX14 ow_dm_X14_readEntry (dk_X14 ac)) (K : nd_Kv p l e (headSpec ow_dm_X14_readEntry ({ frames := 4, cells := 0, slots := 0, locals := 89 })).room s m args below meth c Q A (dC, dI) cX14_readEntry (St) (dw_X14 a ac) r) : dj_X14_readEntry_321 p l e s m args below meth c Q A dC dI a ac (df_X14_readEntry_321 n) r := by
  obtain ⟨hlt, hx, hb, hml, hown, hts, hN, hA, hK⟩ := id C
  intro x3 x6 x8 x10 s0 H locs ls h hP hD hS hl
  unfold df_X14_readEntry_321 at h
  refine lv_aload_n hx hb dX14_readEntry_321 rfl (lv_at hl 0 rfl) ?_
  refine lv_iconst (v := 5) hx hb dX14_readEntry_322 (by decide) ?_
  refine lv_aload_n hx hb dX14_readEntry_323 rfl (lv_at hl 0 rfl) ?_
  refine va_get (D := (dC, dI)) (ci := 15) (v := .int (sI s0 3)) (C := RX14) (T := TX14) (N := 11) hx hb hts hi_dm_X14_readEntry_X14 hown hK hP 0 rfl rfl 9 (by decide) (hts (.fieldLink RX14 68 "TimeMachineModel$Codec" "at" "I") (List.mem_of_getElem? (i := 17) rfl)) (fun _ h9 => h9) rfl dX14_readEntry_324 ?_
  refine lv_iconst (v := 1) hx hb dX14_readEntry_327 (by decide) ?_
  refine lv_isub hx hb dX14_readEntry_328 ?_
  obtain ⟨s31, hq, h⟩ := nd_b1_e h
  have hPc := hP
  have hDc := hD
  have hKc := hK
  have hFc := nd_rs hD hS hA
  refine va_callv (va_runV (As := [.int 5, .int ((sI s0 3) - 1)]) (rest := []) ⟨hx, hb, hml, hown, hts⟩ (dm_X14_meet l hlt dC dI a ac n (5) (((sI s0 3) - 1)) s0 hq _) (cwV 2 hts gi_dm_X14_readEntry_0 rfl rfl rfl (by decide +kernel) ⟨Nat.le_of_ble_eq_true rfl, Nat.le_of_ble_eq_true rfl⟩) ⟨fun a U g mk q => by obtain ⟨q0, q1, qP, qK, qD, qN⟩ := q; exact ⟨q0, q1, qP, va_K.moved (u := U) (U := U.calling g mk a) (Vm.Alike.refl U.vm) qK, qD, nv_same rfl rfl qN⟩, va_recv hKc hPc (ci := 15) (q0 := 0) rfl rfl, fun U hU hW => ⟨rfl, by rw [hU], by rw [hU]; exact hPc, va_K.moved hW.alike hKc, hDc.weaken (fun _ _ _ _ => trivial), nv_call hS hFc hU hW hN⟩⟩ rfl rfl hl.1 rfl (lv_room (Nat.le_of_ble_eq_true rfl)) dX14_readEntry_329 ⟨by decide +kernel, by decide +kernel⟩) hS (fun q _ h => hFc q h) hFc (fun u t H locs ht hvm hw hB hz1 hk1 hS => ?_)
  obtain ⟨hP1, -, hD1⟩ := hB
  rw [ht] at hP1
  have hP := hP1
  have hD := hD1.weaken (fun k q _ h => hFc q.1 h)
  refine W.widen (k := 0) (n := 0) (Nat.le_refl _) (Nat.le_refl _) ?_
  exact (db_X14_readEntry_332 C K) (x3) (x6) (x8) (x10) s31 _ _ _ h hP hD hS (lv_sub hl [0, 1, 2, 3, 4] rfl)
set_option maxHeartbeats 40000000 in
set_option maxRecDepth 100000 in
theorem db_X14_readEntry_283 {p : Program} {l : Launch} {e : Env} {s : State} {m : MethodId} {args : Array Value} {below : List Frame} {meth : Method} {c : Code} {Q : State → Prop} {A : Nat → Prop} {dC : Nat → ClassId} {dI : Nat → Nat → Nat} {a : Nat → Nat} {ac : Nat → ClassId} {n : Nat} {r : St} (C : nd_C p l s m args c A (dC, dI) cX14_readEntry 12 RX14 ow_dm_X14_readEntry (dk_X14 ac)) (K : nd_Kv p l e (headSpec ow_dm_X14_readEntry ({ frames := 4, cells := 0, slots := 0, locals := 89 })).room s m args below meth c Q A (dC, dI) cX14_readEntry (St) (dw_X14 a ac) r) : dj_X14_readEntry_283 p l e s m args below meth c Q A dC dI a ac (df_X14_readEntry_283 n) r := by
  obtain ⟨hlt, hx, hb, hml, hown, hts, hN, hA, hK⟩ := id C
  intro x3 x6 x8 x10 s0 H locs ls h hP hD hS hl
  unfold df_X14_readEntry_283 at h
  refine lv_iload_n hx hb dX14_readEntry_283 rfl (lv_at hl 1 rfl) ?_
  refine lv_iconst (v := 2) hx hb dX14_readEntry_284 (by decide) ?_
  refine lv_icmp_ne (tgt := 332) hx hb dX14_readEntry_285 (by decide) (fun c19 => ?_) (fun c19 => ?_)
  · have h := nd_neg h c19
    exact (db_X14_readEntry_332 C K) (x3) (x6) (x8) (x10) s0 _ _ _ h hP hD hS (lv_sub hl [0, 1, 2, 3, 4] rfl)
  · have h := nd_pos h c19
    refine lv_aload_n hx hb dX14_readEntry_288 rfl (lv_at hl 0 rfl) ?_
    refine va_get (D := (dC, dI)) (ci := 15) (v := .int (sI s0 4)) (C := RX14) (T := TX14) (N := 11) hx hb hts hi_dm_X14_readEntry_X14 hown hK hP 0 rfl rfl 10 (by decide) (hts (.fieldLink RX14 65 "TimeMachineModel$Codec" "fault" "I") (List.mem_of_getElem? (i := 5) rfl)) (fun _ h9 => h9) rfl dX14_readEntry_289 ?_
    refine lv_if_ne (tgt := 332) hx hb dX14_readEntry_292 (by decide) (fun c24 => ?_) (fun c24 => ?_)
    · have h := nd_neg h c24
      exact (db_X14_readEntry_332 C K) (x3) (x6) (x8) (x10) s0 _ _ _ h hP hD hS (lv_sub hl [0, 1, 2, 3, 4] rfl)
    · have h := nd_pos h c24
      refine lv_aload_n hx hb dX14_readEntry_295 rfl (lv_at hl 0 rfl) ?_
      obtain ⟨q25, s26, hq, h⟩ := nd_b2_e h
      have hPc := hP
      have hDc := hD
      have hKc := hK
      have hFc := nd_rs hD hS hA
      refine va_calli (va_runV (As := []) (rest := []) ⟨hx, hb, hml, hown, hts⟩ (dm_X14_next l hlt dC dI a ac n  s0 hq _) (cwV 0 hts gi_dm_X14_readEntry_3 rfl rfl rfl (by decide +kernel) ⟨Nat.le_of_ble_eq_true rfl, Nat.le_of_ble_eq_true rfl⟩) ⟨fun a U g mk q => by obtain ⟨q0, q1, qP, qK, qD, qN⟩ := q; exact ⟨q0, q1, qP, va_K.moved (u := U) (U := U.calling g mk a) (Vm.Alike.refl U.vm) qK, qD, nv_same rfl rfl qN⟩, va_recv hKc hPc (ci := 15) (q0 := 0) rfl rfl, fun U hU hW => ⟨rfl, by rw [hU], by rw [hU]; exact hPc, va_K.moved hW.alike hKc, hDc.weaken (fun _ _ _ _ => trivial), nv_call hS hFc hU hW hN⟩⟩ rfl rfl hl.1 rfl (lv_room (Nat.le_of_ble_eq_true rfl)) dX14_readEntry_296 ⟨by decide +kernel, by decide +kernel⟩) hS (fun q _ h => hFc q h) hFc (fun r27 u t H locs ht hvm hw hB hz1 hk1 hS => ?_)
      obtain rfl : q25 = r27 := Eq.symm hw
      obtain ⟨hP1, -, hD1⟩ := hB
      rw [ht] at hP1
      have hP := hP1
      have hD := hD1.weaken (fun k q _ h => hFc q.1 h)
      refine W.widen (k := 0) (n := 0) (Nat.le_refl _) (Nat.le_refl _) ?_
      refine lv_istore (lv' := [(10, .int q25), (0, .ref (a 0)), (3, .int x3), (6, .long x6), (8, .long x8)]) hx hb dX14_readEntry_299 hl (by decide) rfl (fun ls hl => ?_)
      refine lv_aload_n hx hb dX14_readEntry_301 rfl (lv_at hl 1 rfl) ?_
      refine va_get (D := (dC, dI)) (ci := 15) (v := .int (sI s26 4)) (C := RX14) (T := TX14) (N := 11) hx hb hts hi_dm_X14_readEntry_X14 hown hK hP 0 rfl rfl 10 (by decide) (hts (.fieldLink RX14 65 "TimeMachineModel$Codec" "fault" "I") (List.mem_of_getElem? (i := 5) rfl)) (fun _ h9 => h9) rfl dX14_readEntry_302 ?_
      refine lv_if_ne (tgt := 332) hx hb dX14_readEntry_305 (by decide) (fun c28 => ?_) (fun c28 => ?_)
      · have h := nd_neg h c28
        exact (db_X14_readEntry_332 C K) (x3) (x6) (x8) (q25) s26 _ _ _ h hP hD hS (lv_sub hl [1, 2, 3, 4, 0] rfl)
      · have h := nd_pos h c28
        refine lv_iload hx hb dX14_readEntry_308 (lv_at hl 0 rfl) ?_
        refine lv_iconst (v := 1) hx hb dX14_readEntry_310 (by decide) ?_
        refine lv_icmp_lt (tgt := 321) hx hb dX14_readEntry_311 (by decide) (fun c29 => ?_) (fun c29 => ?_)
        · have h := nd_pos h c29
          exact (db_X14_readEntry_321 C K) (x3) (x6) (x8) (q25) s26 _ _ _ h hP hD hS (lv_sub hl [1, 2, 3, 4, 0] rfl)
        · have h := nd_neg h c29
          refine lv_iload hx hb dX14_readEntry_314 (lv_at hl 0 rfl) ?_
          refine lv_bipush (v := 31) hx hb dX14_readEntry_316 (by decide) ?_
          refine lv_icmp_le (tgt := 332) hx hb dX14_readEntry_318 (by decide) (fun c33 => ?_) (fun c33 => ?_)
          · have h := nd_pos h c33
            exact (db_X14_readEntry_332 C K) (x3) (x6) (x8) (q25) s26 _ _ _ h hP hD hS (lv_sub hl [1, 2, 3, 4, 0] rfl)
          · have h := nd_neg h c33
            exact (db_X14_readEntry_321 C K) (x3) (x6) (x8) (q25) s26 _ _ _ h hP hD hS (lv_sub hl [1, 2, 3, 4, 0] rfl)
set_option maxHeartbeats 40000000 in
set_option maxRecDepth 100000 in
theorem db_X14_readEntry_281 {p : Program} {l : Launch} {e : Env} {s : State} {m : MethodId} {args : Array Value} {below : List Frame} {meth : Method} {c : Code} {Q : State → Prop} {A : Nat → Prop} {dC : Nat → ClassId} {dI : Nat → Nat → Nat} {a : Nat → Nat} {ac : Nat → ClassId} {n : Nat} {r : St} (C : nd_C p l s m args c A (dC, dI) cX14_readEntry 12 RX14 ow_dm_X14_readEntry (dk_X14 ac)) (K : nd_Kv p l e (headSpec ow_dm_X14_readEntry ({ frames := 4, cells := 0, slots := 0, locals := 89 })).room s m args below meth c Q A (dC, dI) cX14_readEntry (St) (dw_X14 a ac) r) : dj_X14_readEntry_281 p l e s m args below meth c Q A dC dI a ac (df_X14_readEntry_281 n) r := by
  obtain ⟨hlt, hx, hb, hml, hown, hts, hN, hA, hK⟩ := id C
  intro x3 x6 x8 y0 s0 H locs ls h hP hD hS hl
  unfold df_X14_readEntry_281 at h
  refine lv_istore (lv' := [(10, .int y0), (0, .ref (a 0)), (3, .int x3), (6, .long x6), (8, .long x8)]) hx hb dX14_readEntry_281 hl (by decide) rfl (fun ls hl => ?_)
  exact (db_X14_readEntry_283 C K) (x3) (x6) (x8) (y0) s0 _ _ _ h hP hD hS (lv_sub hl [1, 2, 3, 4, 0] rfl)
set_option maxHeartbeats 40000000 in
set_option maxRecDepth 100000 in
theorem db_X14_readEntry_263 {p : Program} {l : Launch} {e : Env} {s : State} {m : MethodId} {args : Array Value} {below : List Frame} {meth : Method} {c : Code} {Q : State → Prop} {A : Nat → Prop} {dC : Nat → ClassId} {dI : Nat → Nat → Nat} {a : Nat → Nat} {ac : Nat → ClassId} {n : Nat} {r : St} (C : nd_C p l s m args c A (dC, dI) cX14_readEntry 12 RX14 ow_dm_X14_readEntry (dk_X14 ac)) (K : nd_Kv p l e (headSpec ow_dm_X14_readEntry ({ frames := 4, cells := 0, slots := 0, locals := 89 })).room s m args below meth c Q A (dC, dI) cX14_readEntry (St) (dw_X14 a ac) r) : dj_X14_readEntry_263 p l e s m args below meth c Q A dC dI a ac (df_X14_readEntry_263 n) r := by
  obtain ⟨hlt, hx, hb, hml, hown, hts, hN, hA, hK⟩ := id C
  intro x3 x6 x11 y0 s0 H locs ls h hP hD hS hl
  unfold df_X14_readEntry_263 at h
  refine lv_lstore (lv' := [(8, .long y0), (0, .ref (a 0)), (3, .int x3), (6, .long x6), (11, .int x11)]) hx hb dX14_readEntry_263 hl (by decide) rfl (fun ls hl => ?_)
  refine lv_iload hx hb dX14_readEntry_265 (lv_at hl 4 rfl) ?_
  refine lv_if_ge (tgt := 274) hx hb dX14_readEntry_267 (by decide) (fun c44 => ?_) (fun c44 => ?_)
  · have h := nd_pos h c44
    refine lv_aload_n hx hb dX14_readEntry_274 rfl (lv_at hl 1 rfl) ?_
    refine va_get (D := (dC, dI)) (ci := 15) (v := .ref (a 2)) (C := RX14) (T := TX14) (N := 11) hx hb hts hi_dm_X14_readEntry_X14 hown hK hP 0 rfl rfl 2 (by decide) (hts (.fieldLink RX14 13 "TimeMachineModel$Codec" "b" "[I") (List.mem_of_getElem? (i := 22) rfl)) (fun _ h9 => h9) rfl dX14_readEntry_275 ?_
    refine lv_iload hx hb dX14_readEntry_278 (lv_at hl 4 rfl) ?_
    obtain ⟨i45, h⟩ := nd_ck_e h
    refine va_iald (i := x11) hx hb hK hP 2 1 rfl rfl i45 dX14_readEntry_280 ?_
    exact (db_X14_readEntry_281 C K) (x3) (x6) (y0) ((sR s0 1 (Int32.toNatClampNeg x11))) s0 _ _ _ h hP hD hS (lv_sub hl [1, 2, 3, 0] rfl)
  · have h := nd_neg h c44
    refine lv_iconst (v := 0) hx hb dX14_readEntry_270 (by decide) ?_
    refine lv_goto (tgt := 281) hx hb dX14_readEntry_271 (by decide) ?_
    exact (db_X14_readEntry_281 C K) (x3) (x6) (y0) (0) s0 _ _ _ h hP hD hS (lv_sub hl [1, 2, 3, 0] rfl)
set_option maxHeartbeats 40000000 in
set_option maxRecDepth 100000 in
theorem db_X14_readEntry_247 {p : Program} {l : Launch} {e : Env} {s : State} {m : MethodId} {args : Array Value} {below : List Frame} {meth : Method} {c : Code} {Q : State → Prop} {A : Nat → Prop} {dC : Nat → ClassId} {dI : Nat → Nat → Nat} {a : Nat → Nat} {ac : Nat → ClassId} {n : Nat} {r : St} (C : nd_C p l s m args c A (dC, dI) cX14_readEntry 12 RX14 ow_dm_X14_readEntry (dk_X14 ac)) (K : nd_Kv p l e (headSpec ow_dm_X14_readEntry ({ frames := 4, cells := 0, slots := 0, locals := 89 })).room s m args below meth c Q A (dC, dI) cX14_readEntry (St) (dw_X14 a ac) r) : dj_X14_readEntry_247 p l e s m args below meth c Q A dC dI a ac (df_X14_readEntry_247 n) r := by
  obtain ⟨hlt, hx, hb, hml, hown, hts, hN, hA, hK⟩ := id C
  intro x3 x6 x11 s0 H locs ls h hP hD hS hl
  unfold df_X14_readEntry_247 at h
  refine lv_iload hx hb dX14_readEntry_247 (lv_at hl 3 rfl) ?_
  refine lv_if_ge (tgt := 256) hx hb dX14_readEntry_249 (by decide) (fun c42 => ?_) (fun c42 => ?_)
  · have h := nd_pos h c42
    refine lv_aload_n hx hb dX14_readEntry_256 rfl (lv_at hl 0 rfl) ?_
    refine va_get (D := (dC, dI)) (ci := 15) (v := .ref (a 4)) (C := RX14) (T := TX14) (N := 11) hx hb hts hi_dm_X14_readEntry_X14 hown hK hP 0 rfl rfl 4 (by decide) (hts (.fieldLink RX14 20 "TimeMachineModel$Codec" "a" "[J") (List.mem_of_getElem? (i := 21) rfl)) (fun _ h9 => h9) rfl dX14_readEntry_257 ?_
    refine lv_iload hx hb dX14_readEntry_260 (lv_at hl 3 rfl) ?_
    obtain ⟨i43, h⟩ := nd_ck_e h
    refine va_lald (i := x11) hx hb hK hP 4 3 rfl rfl i43 dX14_readEntry_262 ?_
    exact (db_X14_readEntry_263 C K) (x3) (x6) (x11) ((sQ s0 1 (Int32.toNatClampNeg x11))) s0 _ _ _ h hP hD hS (lv_sub hl [0, 1, 2, 3] rfl)
  · have h := nd_neg h c42
    refine lv_lconst (v := 0) hx hb dX14_readEntry_252 (by decide) ?_
    refine lv_goto (tgt := 263) hx hb dX14_readEntry_253 (by decide) ?_
    exact (db_X14_readEntry_263 C K) (x3) (x6) (x11) (0) s0 _ _ _ h hP hD hS (lv_sub hl [0, 1, 2, 3] rfl)
set_option maxHeartbeats 40000000 in
set_option maxRecDepth 100000 in
theorem db_X14_readEntry_213 {p : Program} {l : Launch} {e : Env} {s : State} {m : MethodId} {args : Array Value} {below : List Frame} {meth : Method} {c : Code} {Q : State → Prop} {A : Nat → Prop} {dC : Nat → ClassId} {dI : Nat → Nat → Nat} {a : Nat → Nat} {ac : Nat → ClassId} {n : Nat} {r : St} (C : nd_C p l s m args c A (dC, dI) cX14_readEntry 12 RX14 ow_dm_X14_readEntry (dk_X14 ac)) (K : nd_Kv p l e (headSpec ow_dm_X14_readEntry ({ frames := 4, cells := 0, slots := 0, locals := 89 })).room s m args below meth c Q A (dC, dI) cX14_readEntry (St) (dw_X14 a ac) r) : dj_X14_readEntry_213 p l e s m args below meth c Q A dC dI a ac (df_X14_readEntry_213 n) r := by
  obtain ⟨hlt, hx, hb, hml, hown, hts, hN, hA, hK⟩ := id C
  intro x2 x3 x4 x6 x8 y0 s0 H locs ls h hP hD hS hl
  unfold df_X14_readEntry_213 at h
  refine lv_istore (lv' := [(10, .int y0), (0, .ref (a 0)), (2, .int x2), (3, .int x3), (4, .int x4), (6, .long x6), (8, .long x8)]) hx hb dX14_readEntry_213 hl (by decide) rfl (fun ls hl => ?_)
  refine lv_iload_n hx hb dX14_readEntry_215 rfl (lv_at hl 3 rfl) ?_
  refine lv_iconst (v := 1) hx hb dX14_readEntry_216 (by decide) ?_
  refine lv_icmp_ne (tgt := 283) hx hb dX14_readEntry_217 (by decide) (fun c18 => ?_) (fun c18 => ?_)
  · have h := nd_neg h c18
    exact (db_X14_readEntry_283 C K) (x3) (x6) (x8) (y0) s0 _ _ _ h hP hD hS (lv_sub hl [1, 3, 5, 6, 0] rfl)
  · have h := nd_pos h c18
    refine lv_iload hx hb dX14_readEntry_220 (lv_at hl 4 rfl) ?_
    refine lv_if_ne (tgt := 283) hx hb dX14_readEntry_222 (by decide) (fun c34 => ?_) (fun c34 => ?_)
    · have h := nd_neg h c34
      exact (db_X14_readEntry_283 C K) (x3) (x6) (x8) (y0) s0 _ _ _ h hP hD hS (lv_sub hl [1, 3, 5, 6, 0] rfl)
    · have h := nd_pos h c34
      refine lv_aload_n hx hb dX14_readEntry_225 rfl (lv_at hl 1 rfl) ?_
      refine lv_iconst (v := 1) hx hb dX14_readEntry_226 (by decide) ?_
      refine lv_aload_n hx hb dX14_readEntry_227 rfl (lv_at hl 1 rfl) ?_
      obtain ⟨q35, s36, hq, h⟩ := nd_b2_e h
      have hPc := hP
      have hDc := hD
      have hKc := hK
      have hFc := nd_rs hD hS hA
      refine va_calll (va_runV (As := []) (rest := [.int 1, .ref (a 0)]) ⟨hx, hb, hml, hown, hts⟩ (dm_X14_readCount l hlt dC dI a ac n  s0 hq _) (cwV 0 hts gi_dm_X14_readEntry_4 rfl rfl rfl (by decide +kernel) ⟨Nat.le_of_ble_eq_true rfl, Nat.le_of_ble_eq_true rfl⟩) ⟨fun a U g mk q => by obtain ⟨q0, q1, qP, qK, qD, qN⟩ := q; exact ⟨q0, q1, qP, va_K.moved (u := U) (U := U.calling g mk a) (Vm.Alike.refl U.vm) qK, qD, nv_same rfl rfl qN⟩, va_recv hKc hPc (ci := 15) (q0 := 0) rfl rfl, fun U hU hW => ⟨rfl, by rw [hU], by rw [hU]; exact hPc, va_K.moved hW.alike hKc, hDc.weaken (fun _ _ _ _ => trivial), nv_call hS hFc hU hW hN⟩⟩ rfl rfl hl.1 rfl (lv_room (Nat.le_of_ble_eq_true rfl)) dX14_readEntry_228 ⟨by decide +kernel, by decide +kernel⟩) hS (fun q _ h => hFc q h) hFc (fun r37 u t H locs ht hvm hw hB hz1 hk1 hS => ?_)
      obtain rfl : q35 = r37 := Eq.symm hw
      obtain ⟨hP1, -, hD1⟩ := hB
      rw [ht] at hP1
      have hP := hP1
      have hD := hD1.weaken (fun k q _ h => hFc q.1 h)
      refine W.widen (k := 0) (n := 0) (Nat.le_refl _) (Nat.le_refl _) ?_
      obtain ⟨q38, s39, hq, h⟩ := nd_b2_e h
      have hPc := hP
      have hDc := hD
      have hKc := hK
      have hFc := nd_rs hD hS hA
      refine va_calli (va_runV (As := [.int 1, .long q35]) (rest := []) ⟨hx, hb, hml, hown, hts⟩ (dm_X14_before l hlt dC dI a ac n (1) (q35) s36 hq _) (cwV 2 hts gi_dm_X14_readEntry_1 rfl rfl rfl (by decide +kernel) ⟨Nat.le_of_ble_eq_true rfl, Nat.le_of_ble_eq_true rfl⟩) ⟨fun a U g mk q => by obtain ⟨q0, q1, qP, qK, qD, qN⟩ := q; exact ⟨q0, q1, qP, va_K.moved (u := U) (U := U.calling g mk a) (Vm.Alike.refl U.vm) qK, qD, nv_same rfl rfl qN⟩, va_recv hKc hPc (ci := 15) (q0 := 0) rfl rfl, fun U hU hW => ⟨rfl, by rw [hU], by rw [hU]; exact hPc, va_K.moved hW.alike hKc, hDc.weaken (fun _ _ _ _ => trivial), nv_call hS hFc hU hW hN⟩⟩ rfl rfl hl.1 rfl (lv_room (Nat.le_of_ble_eq_true rfl)) dX14_readEntry_231 ⟨by decide +kernel, by decide +kernel⟩) hS (fun q _ h => hFc q h) hFc (fun r40 u t H locs ht hvm hw hB hz1 hk1 hS => ?_)
      obtain rfl : q38 = r40 := Eq.symm hw
      obtain ⟨hP1, -, hD1⟩ := hB
      rw [ht] at hP1
      have hP := hP1
      have hD := hD1.weaken (fun k q _ h => hFc q.1 h)
      refine W.widen (k := 0) (n := 0) (Nat.le_refl _) (Nat.le_refl _) ?_
      refine lv_istore (lv' := [(11, .int q38), (10, .int y0), (0, .ref (a 0)), (2, .int x2), (3, .int x3), (4, .int x4), (6, .long x6), (8, .long x8)]) hx hb dX14_readEntry_234 hl (by decide) rfl (fun ls hl => ?_)
      refine lv_iload hx hb dX14_readEntry_236 (lv_at hl 0 rfl) ?_
      refine lv_if_ge (tgt := 247) hx hb dX14_readEntry_238 (by decide) (fun c41 => ?_) (fun c41 => ?_)
      · have h := nd_pos h c41
        exact (db_X14_readEntry_247 C K) (x3) (x6) (q38) s39 _ _ _ h hP hD hS (lv_sub hl [2, 4, 6, 0] rfl)
      · have h := nd_neg h c41
        refine lv_aload_n hx hb dX14_readEntry_241 rfl (lv_at hl 2 rfl) ?_
        refine lv_iconst (v := 4) hx hb dX14_readEntry_242 (by decide) ?_
        refine lv_iload_n hx hb dX14_readEntry_243 rfl (lv_at hl 3 rfl) ?_
        obtain ⟨s47, hq, h⟩ := nd_b1_e h
        have hPc := hP
        have hDc := hD
        have hKc := hK
        have hFc := nd_rs hD hS hA
        refine va_callv (va_runV (As := [.int 4, .int x2]) (rest := []) ⟨hx, hb, hml, hown, hts⟩ (dm_X14_meet l hlt dC dI a ac n (4) (x2) s39 hq _) (cwV 2 hts gi_dm_X14_readEntry_0 rfl rfl rfl (by decide +kernel) ⟨Nat.le_of_ble_eq_true rfl, Nat.le_of_ble_eq_true rfl⟩) ⟨fun a U g mk q => by obtain ⟨q0, q1, qP, qK, qD, qN⟩ := q; exact ⟨q0, q1, qP, va_K.moved (u := U) (U := U.calling g mk a) (Vm.Alike.refl U.vm) qK, qD, nv_same rfl rfl qN⟩, va_recv hKc hPc (ci := 15) (q0 := 0) rfl rfl, fun U hU hW => ⟨rfl, by rw [hU], by rw [hU]; exact hPc, va_K.moved hW.alike hKc, hDc.weaken (fun _ _ _ _ => trivial), nv_call hS hFc hU hW hN⟩⟩ rfl rfl hl.1 rfl (lv_room (Nat.le_of_ble_eq_true rfl)) dX14_readEntry_244 ⟨by decide +kernel, by decide +kernel⟩) hS (fun q _ h => hFc q h) hFc (fun u t H locs ht hvm hw hB hz1 hk1 hS => ?_)
        obtain ⟨hP1, -, hD1⟩ := hB
        rw [ht] at hP1
        have hP := hP1
        have hD := hD1.weaken (fun k q _ h => hFc q.1 h)
        refine W.widen (k := 0) (n := 0) (Nat.le_refl _) (Nat.le_refl _) ?_
        exact (db_X14_readEntry_247 C K) (x3) (x6) (q38) s47 _ _ _ h hP hD hS (lv_sub hl [2, 4, 6, 0] rfl)
set_option maxHeartbeats 40000000 in
set_option maxRecDepth 100000 in
theorem db_X14_readEntry_200 {p : Program} {l : Launch} {e : Env} {s : State} {m : MethodId} {args : Array Value} {below : List Frame} {meth : Method} {c : Code} {Q : State → Prop} {A : Nat → Prop} {dC : Nat → ClassId} {dI : Nat → Nat → Nat} {a : Nat → Nat} {ac : Nat → ClassId} {n : Nat} {r : St} (C : nd_C p l s m args c A (dC, dI) cX14_readEntry 12 RX14 ow_dm_X14_readEntry (dk_X14 ac)) (K : nd_Kv p l e (headSpec ow_dm_X14_readEntry ({ frames := 4, cells := 0, slots := 0, locals := 89 })).room s m args below meth c Q A (dC, dI) cX14_readEntry (St) (dw_X14 a ac) r) : dj_X14_readEntry_200 p l e s m args below meth c Q A dC dI a ac (df_X14_readEntry_200 n) r := by
  obtain ⟨hlt, hx, hb, hml, hown, hts, hN, hA, hK⟩ := id C
  intro x2 x3 x4 x6 y0 s0 H locs ls h hP hD hS hl
  unfold df_X14_readEntry_200 at h
  refine lv_lstore (lv' := [(8, .long y0), (0, .ref (a 0)), (2, .int x2), (3, .int x3), (4, .int x4), (6, .long x6)]) hx hb dX14_readEntry_200 hl (by decide) rfl (fun ls hl => ?_)
  refine lv_iload_n hx hb dX14_readEntry_202 rfl (lv_at hl 3 rfl) ?_
  refine lv_iconst (v := 1) hx hb dX14_readEntry_203 (by decide) ?_
  refine lv_icmp_ne (tgt := 212) hx hb dX14_readEntry_204 (by decide) (fun c17 => ?_) (fun c17 => ?_)
  · have h := nd_neg h c17
    refine lv_iconst (v := 0) hx hb dX14_readEntry_212 (by decide) ?_
    exact (db_X14_readEntry_213 C K) (x2) (x3) (x4) (x6) (y0) (0) s0 _ _ _ h hP hD hS (lv_sub hl [1, 2, 3, 4, 5, 0] rfl)
  · have h := nd_pos h c17
    refine lv_iload hx hb dX14_readEntry_207 (lv_at hl 4 rfl) ?_
    refine lv_goto (tgt := 213) hx hb dX14_readEntry_209 (by decide) ?_
    exact (db_X14_readEntry_213 C K) (x2) (x3) (x4) (x6) (y0) (x4) s0 _ _ _ h hP hD hS (lv_sub hl [1, 2, 3, 4, 5, 0] rfl)
set_option maxHeartbeats 40000000 in
set_option maxRecDepth 100000 in
theorem db_X14_readEntry_147 {p : Program} {l : Launch} {e : Env} {s : State} {m : MethodId} {args : Array Value} {below : List Frame} {meth : Method} {c : Code} {Q : State → Prop} {A : Nat → Prop} {dC : Nat → ClassId} {dI : Nat → Nat → Nat} {a : Nat → Nat} {ac : Nat → ClassId} {n : Nat} {r : St} (C : nd_C p l s m args c A (dC, dI) cX14_readEntry 12 RX14 ow_dm_X14_readEntry (dk_X14 ac)) (K : nd_Kv p l e (headSpec ow_dm_X14_readEntry ({ frames := 4, cells := 0, slots := 0, locals := 89 })).room s m args below meth c Q A (dC, dI) cX14_readEntry (St) (dw_X14 a ac) r) : dj_X14_readEntry_147 p l e s m args below meth c Q A dC dI a ac (df_X14_readEntry_147 n) r := by
  obtain ⟨hlt, hx, hb, hml, hown, hts, hN, hA, hK⟩ := id C
  intro x2 x3 x4 x6 s0 H locs ls h hP hD hS hl
  unfold df_X14_readEntry_147 at h
  refine lv_iload hx hb dX14_readEntry_147 (lv_at hl 3 rfl) ?_
  refine lv_i2l hx hb dX14_readEntry_149 rfl ?_
  refine lv_goto (tgt := 200) hx hb dX14_readEntry_150 (by decide) ?_
  exact (db_X14_readEntry_200 C K) (x2) (x3) (x4) (x6) ((x4.toInt64)) s0 _ _ _ h hP hD hS (lv_sub hl [0, 1, 2, 3, 4] rfl)
set_option maxHeartbeats 40000000 in
set_option maxRecDepth 100000 in
theorem db_X14_readEntry_130 {p : Program} {l : Launch} {e : Env} {s : State} {m : MethodId} {args : Array Value} {below : List Frame} {meth : Method} {c : Code} {Q : State → Prop} {A : Nat → Prop} {dC : Nat → ClassId} {dI : Nat → Nat → Nat} {a : Nat → Nat} {ac : Nat → ClassId} {n : Nat} {r : St} (C : nd_C p l s m args c A (dC, dI) cX14_readEntry 12 RX14 ow_dm_X14_readEntry (dk_X14 ac)) (K : nd_Kv p l e (headSpec ow_dm_X14_readEntry ({ frames := 4, cells := 0, slots := 0, locals := 89 })).room s m args below meth c Q A (dC, dI) cX14_readEntry (St) (dw_X14 a ac) r) : dj_X14_readEntry_130 p l e s m args below meth c Q A dC dI a ac (df_X14_readEntry_130 n) r := by
  obtain ⟨hlt, hx, hb, hml, hown, hts, hN, hA, hK⟩ := id C
  intro x2 x3 x4 x5 x6 s0 H locs ls h hP hD hS hl
  unfold df_X14_readEntry_130 at h
  refine lv_aload_n hx hb dX14_readEntry_130 rfl (lv_at hl 0 rfl) ?_
  refine va_get (D := (dC, dI)) (ci := 15) (v := .int (sI s0 4)) (C := RX14) (T := TX14) (N := 11) hx hb hts hi_dm_X14_readEntry_X14 hown hK hP 0 rfl rfl 10 (by decide) (hts (.fieldLink RX14 65 "TimeMachineModel$Codec" "fault" "I") (List.mem_of_getElem? (i := 5) rfl)) (fun _ h9 => h9) rfl dX14_readEntry_131 ?_
  refine lv_if_le (tgt := 138) hx hb dX14_readEntry_134 (by decide) (fun c15 => ?_) (fun c15 => ?_)
  · have h := nd_pos h c15
    refine lv_iload_n hx hb dX14_readEntry_138 rfl (lv_at hl 2 rfl) ?_
    refine lv_if_eq (tgt := 147) hx hb dX14_readEntry_139 (by decide) (fun c16 => ?_) (fun c16 => ?_)
    · have h := nd_pos h c16
      exact (db_X14_readEntry_147 C K) (x2) (x3) (x4) (x6) s0 _ _ _ h hP hD hS (lv_sub hl [0, 1, 2, 3, 5] rfl)
    · have h := nd_neg h c16
      refine lv_iload_n hx hb dX14_readEntry_142 rfl (lv_at hl 2 rfl) ?_
      refine lv_iconst (v := 2) hx hb dX14_readEntry_143 (by decide) ?_
      refine lv_icmp_ne (tgt := 153) hx hb dX14_readEntry_144 (by decide) (fun c49 => ?_) (fun c49 => ?_)
      · have h := nd_neg h c49
        refine lv_iload_n hx hb dX14_readEntry_153 rfl (lv_at hl 2 rfl) ?_
        refine lv_iconst (v := 4) hx hb dX14_readEntry_154 (by decide) ?_
        refine lv_icmp_ne (tgt := 166) hx hb dX14_readEntry_155 (by decide) (fun c50 => ?_) (fun c50 => ?_)
        · have h := nd_neg h c50
          refine lv_iload_n hx hb dX14_readEntry_166 rfl (lv_at hl 2 rfl) ?_
          refine lv_iconst (v := 1) hx hb dX14_readEntry_167 (by decide) ?_
          refine lv_icmp_ne (tgt := 180) hx hb dX14_readEntry_168 (by decide) (fun c51 => ?_) (fun c51 => ?_)
          · have h := nd_neg h c51
            refine lv_iload hx hb dX14_readEntry_180 (lv_at hl 3 rfl) ?_
            refine lv_iconst (v := 1) hx hb dX14_readEntry_182 (by decide) ?_
            refine lv_icmp_ne (tgt := 196) hx hb dX14_readEntry_183 (by decide) (fun c52 => ?_) (fun c52 => ?_)
            · have h := nd_neg h c52
              refine lv_aload_n hx hb dX14_readEntry_196 rfl (lv_at hl 0 rfl) ?_
              obtain ⟨q53, s54, hq, h⟩ := nd_b2_e h
              have hPc := hP
              have hDc := hD
              have hKc := hK
              have hFc := nd_rs hD hS hA
              refine va_calll (va_runV (As := []) (rest := []) ⟨hx, hb, hml, hown, hts⟩ (dm_X14_readVarint l hlt dC dI a ac n  s0 hq _) (cwV 0 hts gi_dm_X14_readEntry_5 rfl rfl rfl (by decide +kernel) ⟨Nat.le_of_ble_eq_true rfl, Nat.le_of_ble_eq_true rfl⟩) ⟨fun a U g mk q => by obtain ⟨q0, q1, qP, qK, qD, qN⟩ := q; exact ⟨q0, q1, qP, va_K.moved (u := U) (U := U.calling g mk a) (Vm.Alike.refl U.vm) qK, qD, nv_same rfl rfl qN⟩, va_recv hKc hPc (ci := 15) (q0 := 0) rfl rfl, fun U hU hW => ⟨rfl, by rw [hU], by rw [hU]; exact hPc, va_K.moved hW.alike hKc, hDc.weaken (fun _ _ _ _ => trivial), nv_call hS hFc hU hW hN⟩⟩ rfl rfl hl.1 rfl (lv_room (Nat.le_of_ble_eq_true rfl)) dX14_readEntry_197 ⟨by decide +kernel, by decide +kernel⟩) hS (fun q _ h => hFc q h) hFc (fun r55 u t H locs ht hvm hw hB hz1 hk1 hS => ?_)
              obtain rfl : q53 = r55 := Eq.symm hw
              obtain ⟨hP1, -, hD1⟩ := hB
              rw [ht] at hP1
              have hP := hP1
              have hD := hD1.weaken (fun k q _ h => hFc q.1 h)
              refine W.widen (k := 0) (n := 0) (Nat.le_refl _) (Nat.le_refl _) ?_
              exact (db_X14_readEntry_200 C K) (x2) (x3) (x4) (x6) (q53) s54 _ _ _ h hP hD hS (lv_sub hl [0, 1, 2, 3, 5] rfl)
            · have h := nd_pos h c52
              refine lv_aload_n hx hb dX14_readEntry_186 rfl (lv_at hl 0 rfl) ?_
              refine va_get (D := (dC, dI)) (ci := 15) (v := .ref (a 4)) (C := RX14) (T := TX14) (N := 11) hx hb hts hi_dm_X14_readEntry_X14 hown hK hP 0 rfl rfl 4 (by decide) (hts (.fieldLink RX14 20 "TimeMachineModel$Codec" "a" "[J") (List.mem_of_getElem? (i := 21) rfl)) (fun _ h9 => h9) rfl dX14_readEntry_187 ?_
              refine lv_iload hx hb dX14_readEntry_190 (lv_at hl 4 rfl) ?_
              obtain ⟨i56, h⟩ := nd_ck_e h
              refine va_lald (i := x5) hx hb hK hP 4 3 rfl rfl i56 dX14_readEntry_192 ?_
              refine lv_goto (tgt := 200) hx hb dX14_readEntry_193 (by decide) ?_
              exact (db_X14_readEntry_200 C K) (x2) (x3) (x4) (x6) ((sQ s0 1 (Int32.toNatClampNeg x5))) s0 _ _ _ h hP hD hS (lv_sub hl [0, 1, 2, 3, 5] rfl)
          · have h := nd_pos h c51
            refine lv_aload_n hx hb dX14_readEntry_171 rfl (lv_at hl 0 rfl) ?_
            refine lv_iload hx hb dX14_readEntry_172 (lv_at hl 3 rfl) ?_
            obtain ⟨q57, s58, hq, h⟩ := nd_b2_e h
            have hPc := hP
            have hDc := hD
            have hKc := hK
            have hFc := nd_rs hD hS hA
            refine va_calll (va_runV (As := [.int x4]) (rest := []) ⟨hx, hb, hml, hown, hts⟩ (dm_X14_readBytes l hlt dC dI a ac n (x4) s0 hq _) (cwV 1 hts gi_dm_X14_readEntry_6 rfl rfl rfl (by decide +kernel) ⟨Nat.le_of_ble_eq_true rfl, Nat.le_of_ble_eq_true rfl⟩) ⟨fun a U g mk q => by obtain ⟨q0, q1, qP, qK, qD, qN⟩ := q; exact ⟨q0, q1, qP, va_K.moved (u := U) (U := U.calling g mk a) (Vm.Alike.refl U.vm) qK, qD, nv_same rfl rfl qN⟩, va_recv hKc hPc (ci := 15) (q0 := 0) rfl rfl, fun U hU hW => ⟨rfl, by rw [hU], by rw [hU]; exact hPc, va_K.moved hW.alike hKc, hDc.weaken (fun _ _ _ _ => trivial), nv_call hS hFc hU hW hN⟩⟩ rfl rfl hl.1 rfl (lv_room (Nat.le_of_ble_eq_true rfl)) dX14_readEntry_174 ⟨by decide +kernel, by decide +kernel⟩) hS (fun q _ h => hFc q h) hFc (fun r59 u t H locs ht hvm hw hB hz1 hk1 hS => ?_)
            obtain rfl : q57 = r59 := Eq.symm hw
            obtain ⟨hP1, -, hD1⟩ := hB
            rw [ht] at hP1
            have hP := hP1
            have hD := hD1.weaken (fun k q _ h => hFc q.1 h)
            refine W.widen (k := 0) (n := 0) (Nat.le_refl _) (Nat.le_refl _) ?_
            refine lv_goto (tgt := 200) hx hb dX14_readEntry_177 (by decide) ?_
            exact (db_X14_readEntry_200 C K) (x2) (x3) (x4) (x6) (q57) s58 _ _ _ h hP hD hS (lv_sub hl [0, 1, 2, 3, 5] rfl)
        · have h := nd_pos h c50
          refine lv_aload_n hx hb dX14_readEntry_158 rfl (lv_at hl 0 rfl) ?_
          refine lv_iconst (v := 4) hx hb dX14_readEntry_159 (by decide) ?_
          obtain ⟨q60, s61, hq, h⟩ := nd_b2_e h
          have hPc := hP
          have hDc := hD
          have hKc := hK
          have hFc := nd_rs hD hS hA
          refine va_calll (va_runV (As := [.int 4]) (rest := []) ⟨hx, hb, hml, hown, hts⟩ (dm_X14_readBytes l hlt dC dI a ac n (4) s0 hq _) (cwV 1 hts gi_dm_X14_readEntry_6 rfl rfl rfl (by decide +kernel) ⟨Nat.le_of_ble_eq_true rfl, Nat.le_of_ble_eq_true rfl⟩) ⟨fun a U g mk q => by obtain ⟨q0, q1, qP, qK, qD, qN⟩ := q; exact ⟨q0, q1, qP, va_K.moved (u := U) (U := U.calling g mk a) (Vm.Alike.refl U.vm) qK, qD, nv_same rfl rfl qN⟩, va_recv hKc hPc (ci := 15) (q0 := 0) rfl rfl, fun U hU hW => ⟨rfl, by rw [hU], by rw [hU]; exact hPc, va_K.moved hW.alike hKc, hDc.weaken (fun _ _ _ _ => trivial), nv_call hS hFc hU hW hN⟩⟩ rfl rfl hl.1 rfl (lv_room (Nat.le_of_ble_eq_true rfl)) dX14_readEntry_160 ⟨by decide +kernel, by decide +kernel⟩) hS (fun q _ h => hFc q h) hFc (fun r62 u t H locs ht hvm hw hB hz1 hk1 hS => ?_)
          obtain rfl : q60 = r62 := Eq.symm hw
          obtain ⟨hP1, -, hD1⟩ := hB
          rw [ht] at hP1
          have hP := hP1
          have hD := hD1.weaken (fun k q _ h => hFc q.1 h)
          refine W.widen (k := 0) (n := 0) (Nat.le_refl _) (Nat.le_refl _) ?_
          refine lv_goto (tgt := 200) hx hb dX14_readEntry_163 (by decide) ?_
          exact (db_X14_readEntry_200 C K) (x2) (x3) (x4) (x6) (q60) s61 _ _ _ h hP hD hS (lv_sub hl [0, 1, 2, 3, 5] rfl)
      · have h := nd_pos h c49
        exact (db_X14_readEntry_147 C K) (x2) (x3) (x4) (x6) s0 _ _ _ h hP hD hS (lv_sub hl [0, 1, 2, 3, 5] rfl)
  · have h := nd_neg h c15
    exact K _ _ _ _ _ dX14_readEntry_137 (Option.some.inj h).symm hP hD hS
set_option maxHeartbeats 40000000 in
set_option maxRecDepth 100000 in
theorem db_X14_readEntry_106 {p : Program} {l : Launch} {e : Env} {s : State} {m : MethodId} {args : Array Value} {below : List Frame} {meth : Method} {c : Code} {Q : State → Prop} {A : Nat → Prop} {dC : Nat → ClassId} {dI : Nat → Nat → Nat} {a : Nat → Nat} {ac : Nat → ClassId} {n : Nat} {r : St} (C : nd_C p l s m args c A (dC, dI) cX14_readEntry 12 RX14 ow_dm_X14_readEntry (dk_X14 ac)) (K : nd_Kv p l e (headSpec ow_dm_X14_readEntry ({ frames := 4, cells := 0, slots := 0, locals := 89 })).room s m args below meth c Q A (dC, dI) cX14_readEntry (St) (dw_X14 a ac) r) : dj_X14_readEntry_106 p l e s m args below meth c Q A dC dI a ac (df_X14_readEntry_106 n) r := by
  obtain ⟨hlt, hx, hb, hml, hown, hts, hN, hA, hK⟩ := id C
  intro x2 x3 x4 x5 y0 s0 H locs ls h hP hD hS hl
  unfold df_X14_readEntry_106 at h
  refine lv_lstore (lv' := [(6, .long y0), (0, .ref (a 0)), (2, .int x2), (3, .int x3), (4, .int x4), (5, .int x5)]) hx hb dX14_readEntry_106 hl (by decide) rfl (fun ls hl => ?_)
  refine lv_iload_n hx hb dX14_readEntry_108 rfl (lv_at hl 3 rfl) ?_
  refine lv_iconst (v := 3) hx hb dX14_readEntry_109 (by decide) ?_
  refine lv_icmp_ne (tgt := 130) hx hb dX14_readEntry_110 (by decide) (fun c14 => ?_) (fun c14 => ?_)
  · have h := nd_neg h c14
    exact (db_X14_readEntry_130 C K) (x2) (x3) (x4) (x5) (y0) s0 _ _ _ h hP hD hS (lv_sub hl [1, 2, 3, 4, 5, 0] rfl)
  · have h := nd_pos h c14
    refine lv_iload hx hb dX14_readEntry_113 (lv_at hl 4 rfl) ?_
    refine lv_iconst (v := 1) hx hb dX14_readEntry_115 (by decide) ?_
    refine lv_icmp_ne (tgt := 130) hx hb dX14_readEntry_116 (by decide) (fun c63 => ?_) (fun c63 => ?_)
    · have h := nd_neg h c63
      exact (db_X14_readEntry_130 C K) (x2) (x3) (x4) (x5) (y0) s0 _ _ _ h hP hD hS (lv_sub hl [1, 2, 3, 4, 5, 0] rfl)
    · have h := nd_pos h c63
      refine lv_iload hx hb dX14_readEntry_119 (lv_at hl 5 rfl) ?_
      refine lv_if_ge (tgt := 130) hx hb dX14_readEntry_121 (by decide) (fun c64 => ?_) (fun c64 => ?_)
      · have h := nd_pos h c64
        exact (db_X14_readEntry_130 C K) (x2) (x3) (x4) (x5) (y0) s0 _ _ _ h hP hD hS (lv_sub hl [1, 2, 3, 4, 5, 0] rfl)
      · have h := nd_neg h c64
        refine lv_aload_n hx hb dX14_readEntry_124 rfl (lv_at hl 1 rfl) ?_
        refine lv_iconst (v := 4) hx hb dX14_readEntry_125 (by decide) ?_
        refine lv_iload_n hx hb dX14_readEntry_126 rfl (lv_at hl 2 rfl) ?_
        obtain ⟨s66, hq, h⟩ := nd_b1_e h
        have hPc := hP
        have hDc := hD
        have hKc := hK
        have hFc := nd_rs hD hS hA
        refine va_callv (va_runV (As := [.int 4, .int x2]) (rest := []) ⟨hx, hb, hml, hown, hts⟩ (dm_X14_meet l hlt dC dI a ac n (4) (x2) s0 hq _) (cwV 2 hts gi_dm_X14_readEntry_0 rfl rfl rfl (by decide +kernel) ⟨Nat.le_of_ble_eq_true rfl, Nat.le_of_ble_eq_true rfl⟩) ⟨fun a U g mk q => by obtain ⟨q0, q1, qP, qK, qD, qN⟩ := q; exact ⟨q0, q1, qP, va_K.moved (u := U) (U := U.calling g mk a) (Vm.Alike.refl U.vm) qK, qD, nv_same rfl rfl qN⟩, va_recv hKc hPc (ci := 15) (q0 := 0) rfl rfl, fun U hU hW => ⟨rfl, by rw [hU], by rw [hU]; exact hPc, va_K.moved hW.alike hKc, hDc.weaken (fun _ _ _ _ => trivial), nv_call hS hFc hU hW hN⟩⟩ rfl rfl hl.1 rfl (lv_room (Nat.le_of_ble_eq_true rfl)) dX14_readEntry_127 ⟨by decide +kernel, by decide +kernel⟩) hS (fun q _ h => hFc q h) hFc (fun u t H locs ht hvm hw hB hz1 hk1 hS => ?_)
        obtain ⟨hP1, -, hD1⟩ := hB
        rw [ht] at hP1
        have hP := hP1
        have hD := hD1.weaken (fun k q _ h => hFc q.1 h)
        refine W.widen (k := 0) (n := 0) (Nat.le_refl _) (Nat.le_refl _) ?_
        exact (db_X14_readEntry_130 C K) (x2) (x3) (x4) (x5) (y0) s66 _ _ _ h hP hD hS (lv_sub hl [1, 2, 3, 4, 5, 0] rfl)
set_option maxHeartbeats 40000000 in
set_option maxRecDepth 100000 in
theorem db_X14_readEntry_54 {p : Program} {l : Launch} {e : Env} {s : State} {m : MethodId} {args : Array Value} {below : List Frame} {meth : Method} {c : Code} {Q : State → Prop} {A : Nat → Prop} {dC : Nat → ClassId} {dI : Nat → Nat → Nat} {a : Nat → Nat} {ac : Nat → ClassId} {n : Nat} {r : St} (C : nd_C p l s m args c A (dC, dI) cX14_readEntry 12 RX14 ow_dm_X14_readEntry (dk_X14 ac)) (K : nd_Kv p l e (headSpec ow_dm_X14_readEntry ({ frames := 4, cells := 0, slots := 0, locals := 89 })).room s m args below meth c Q A (dC, dI) cX14_readEntry (St) (dw_X14 a ac) r) : dj_X14_readEntry_54 p l e s m args below meth c Q A dC dI a ac (df_X14_readEntry_54 n) r := by
  obtain ⟨hlt, hx, hb, hml, hown, hts, hN, hA, hK⟩ := id C
  intro x1 x2 x3 x4 s0 H locs ls h hP hD hS hl
  unfold df_X14_readEntry_54 at h
  refine lv_aload_n hx hb dX14_readEntry_54 rfl (lv_at hl 0 rfl) ?_
  refine va_get (D := (dC, dI)) (ci := 15) (v := .int (sI s0 4)) (C := RX14) (T := TX14) (N := 11) hx hb hts hi_dm_X14_readEntry_X14 hown hK hP 0 rfl rfl 10 (by decide) (hts (.fieldLink RX14 65 "TimeMachineModel$Codec" "fault" "I") (List.mem_of_getElem? (i := 5) rfl)) (fun _ h9 => h9) rfl dX14_readEntry_55 ?_
  refine lv_if_le (tgt := 62) hx hb dX14_readEntry_58 (by decide) (fun c7 => ?_) (fun c7 => ?_)
  · have h := nd_pos h c7
    refine lv_aload_n hx hb dX14_readEntry_62 rfl (lv_at hl 0 rfl) ?_
    refine lv_iconst (v := 3) hx hb dX14_readEntry_63 (by decide) ?_
    refine lv_lconst (v := 1) hx hb dX14_readEntry_64 (by decide) ?_
    obtain ⟨q8, s9, hq, h⟩ := nd_b2_e h
    have hPc := hP
    have hDc := hD
    have hKc := hK
    have hFc := nd_rs hD hS hA
    refine va_calli (va_runV (As := [.int 3, .long 1]) (rest := []) ⟨hx, hb, hml, hown, hts⟩ (dm_X14_before l hlt dC dI a ac n (3) (1) s0 hq _) (cwV 2 hts gi_dm_X14_readEntry_1 rfl rfl rfl (by decide +kernel) ⟨Nat.le_of_ble_eq_true rfl, Nat.le_of_ble_eq_true rfl⟩) ⟨fun a U g mk q => by obtain ⟨q0, q1, qP, qK, qD, qN⟩ := q; exact ⟨q0, q1, qP, va_K.moved (u := U) (U := U.calling g mk a) (Vm.Alike.refl U.vm) qK, qD, nv_same rfl rfl qN⟩, va_recv hKc hPc (ci := 15) (q0 := 0) rfl rfl, fun U hU hW => ⟨rfl, by rw [hU], by rw [hU]; exact hPc, va_K.moved hW.alike hKc, hDc.weaken (fun _ _ _ _ => trivial), nv_call hS hFc hU hW hN⟩⟩ rfl rfl hl.1 rfl (lv_room (Nat.le_of_ble_eq_true rfl)) dX14_readEntry_65 ⟨by decide +kernel, by decide +kernel⟩) hS (fun q _ h => hFc q h) hFc (fun r10 u t H locs ht hvm hw hB hz1 hk1 hS => ?_)
    obtain rfl : q8 = r10 := Eq.symm hw
    obtain ⟨hP1, -, hD1⟩ := hB
    rw [ht] at hP1
    have hP := hP1
    have hD := hD1.weaken (fun k q _ h => hFc q.1 h)
    refine W.widen (k := 0) (n := 0) (Nat.le_refl _) (Nat.le_refl _) ?_
    refine lv_istore (lv' := [(5, .int q8), (0, .ref (a 0)), (1, .int x1), (2, .int x2), (3, .int x3), (4, .int x4)]) hx hb dX14_readEntry_68 hl (by decide) rfl (fun ls hl => ?_)
    refine lv_iload_n hx hb dX14_readEntry_70 rfl (lv_at hl 2 rfl) ?_
    refine lv_bipush (v := 8) hx hb dX14_readEntry_71 (by decide) ?_
    refine lv_iand hx hb dX14_readEntry_73 ?_
    refine lv_if_ne (tgt := 84) hx hb dX14_readEntry_74 (by decide) (fun c11 => ?_) (fun c11 => ?_)
    · have h := nd_neg h c11
      refine lv_aload_n hx hb dX14_readEntry_84 rfl (lv_at hl 1 rfl) ?_
      refine va_get (D := (dC, dI)) (ci := 15) (v := .int (sI s9 0)) (C := RX14) (T := TX14) (N := 11) hx hb hts hi_dm_X14_readEntry_X14 hown hK hP 0 rfl rfl 0 (by decide) (hts (.fieldLink RX14 27 "TimeMachineModel$Codec" "events" "I") (List.mem_of_getElem? (i := 9) rfl)) (fun _ h9 => h9) rfl dX14_readEntry_85 ?_
      refine lv_if_ne (tgt := 95) hx hb dX14_readEntry_88 (by decide) (fun c12 => ?_) (fun c12 => ?_)
      · have h := nd_neg h c12
        refine lv_aload_n hx hb dX14_readEntry_95 rfl (lv_at hl 1 rfl) ?_
        refine va_get (D := (dC, dI)) (ci := 15) (v := .ref (a 3)) (C := RX14) (T := TX14) (N := 11) hx hb hts hi_dm_X14_readEntry_X14 hown hK hP 0 rfl rfl 3 (by decide) (hts (.fieldLink RX14 16 "TimeMachineModel$Codec" "difference" "[J") (List.mem_of_getElem? (i := 10) rfl)) (fun _ h9 => h9) rfl dX14_readEntry_96 ?_
        refine lv_aload_n hx hb dX14_readEntry_99 rfl (lv_at hl 1 rfl) ?_
        refine va_get (D := (dC, dI)) (ci := 15) (v := .int (sI s9 0)) (C := RX14) (T := TX14) (N := 11) hx hb hts hi_dm_X14_readEntry_X14 hown hK hP 0 rfl rfl 0 (by decide) (hts (.fieldLink RX14 27 "TimeMachineModel$Codec" "events" "I") (List.mem_of_getElem? (i := 9) rfl)) (fun _ h9 => h9) rfl dX14_readEntry_100 ?_
        refine lv_iconst (v := 1) hx hb dX14_readEntry_103 (by decide) ?_
        refine lv_isub hx hb dX14_readEntry_104 ?_
        obtain ⟨i13, h⟩ := nd_ck_e h
        refine va_lald (i := ((sI s9 0) - 1)) hx hb hK hP 3 2 rfl rfl i13 dX14_readEntry_105 ?_
        exact (db_X14_readEntry_106 C K) (x2) (x3) (x4) (q8) ((sQ s9 0 (Int32.toNatClampNeg ((sI s9 0) - 1)))) s9 _ _ _ h hP hD hS (lv_sub hl [1, 3, 4, 5, 0] rfl)
      · have h := nd_pos h c12
        refine lv_lconst (v := 0) hx hb dX14_readEntry_91 (by decide) ?_
        refine lv_goto (tgt := 106) hx hb dX14_readEntry_92 (by decide) ?_
        exact (db_X14_readEntry_106 C K) (x2) (x3) (x4) (q8) (0) s9 _ _ _ h hP hD hS (lv_sub hl [1, 3, 4, 5, 0] rfl)
    · have h := nd_pos h c11
      refine lv_aload_n hx hb dX14_readEntry_77 rfl (lv_at hl 1 rfl) ?_
      obtain ⟨q68, s69, hq, h⟩ := nd_b2_e h
      have hPc := hP
      have hDc := hD
      have hKc := hK
      have hFc := nd_rs hD hS hA
      refine va_calll (va_runV (As := []) (rest := []) ⟨hx, hb, hml, hown, hts⟩ (dm_X14_readVarint l hlt dC dI a ac n  s9 hq _) (cwV 0 hts gi_dm_X14_readEntry_5 rfl rfl rfl (by decide +kernel) ⟨Nat.le_of_ble_eq_true rfl, Nat.le_of_ble_eq_true rfl⟩) ⟨fun a U g mk q => by obtain ⟨q0, q1, qP, qK, qD, qN⟩ := q; exact ⟨q0, q1, qP, va_K.moved (u := U) (U := U.calling g mk a) (Vm.Alike.refl U.vm) qK, qD, nv_same rfl rfl qN⟩, va_recv hKc hPc (ci := 15) (q0 := 0) rfl rfl, fun U hU hW => ⟨rfl, by rw [hU], by rw [hU]; exact hPc, va_K.moved hW.alike hKc, hDc.weaken (fun _ _ _ _ => trivial), nv_call hS hFc hU hW hN⟩⟩ rfl rfl hl.1 rfl (lv_room (Nat.le_of_ble_eq_true rfl)) dX14_readEntry_78 ⟨by decide +kernel, by decide +kernel⟩) hS (fun q _ h => hFc q h) hFc (fun r70 u t H locs ht hvm hw hB hz1 hk1 hS => ?_)
      obtain rfl : q68 = r70 := Eq.symm hw
      obtain ⟨hP1, -, hD1⟩ := hB
      rw [ht] at hP1
      have hP := hP1
      have hD := hD1.weaken (fun k q _ h => hFc q.1 h)
      refine W.widen (k := 0) (n := 0) (Nat.le_refl _) (Nat.le_refl _) ?_
      refine lv_goto (tgt := 106) hx hb dX14_readEntry_81 (by decide) ?_
      exact (db_X14_readEntry_106 C K) (x2) (x3) (x4) (q8) (q68) s69 _ _ _ h hP hD hS (lv_sub hl [1, 3, 4, 5, 0] rfl)
  · have h := nd_neg h c7
    exact K _ _ _ _ _ dX14_readEntry_61 (Option.some.inj h).symm hP hD hS
set_option maxHeartbeats 40000000 in
set_option maxRecDepth 100000 in
theorem db_X14_readEntry_48 {p : Program} {l : Launch} {e : Env} {s : State} {m : MethodId} {args : Array Value} {below : List Frame} {meth : Method} {c : Code} {Q : State → Prop} {A : Nat → Prop} {dC : Nat → ClassId} {dI : Nat → Nat → Nat} {a : Nat → Nat} {ac : Nat → ClassId} {n : Nat} {r : St} (C : nd_C p l s m args c A (dC, dI) cX14_readEntry 12 RX14 ow_dm_X14_readEntry (dk_X14 ac)) (K : nd_Kv p l e (headSpec ow_dm_X14_readEntry ({ frames := 4, cells := 0, slots := 0, locals := 89 })).room s m args below meth c Q A (dC, dI) cX14_readEntry (St) (dw_X14 a ac) r) : dj_X14_readEntry_48 p l e s m args below meth c Q A dC dI a ac (df_X14_readEntry_48 n) r := by
  obtain ⟨hlt, hx, hb, hml, hown, hts, hN, hA, hK⟩ := id C
  intro x1 x2 x3 x4 s0 H locs ls h hP hD hS hl
  unfold df_X14_readEntry_48 at h
  refine lv_aload_n hx hb dX14_readEntry_48 rfl (lv_at hl 0 rfl) ?_
  refine lv_iconst (v := 1) hx hb dX14_readEntry_49 (by decide) ?_
  refine lv_iload_n hx hb dX14_readEntry_50 rfl (lv_at hl 2 rfl) ?_
  obtain ⟨s5, hq, h⟩ := nd_b1_e h
  have hPc := hP
  have hDc := hD
  have hKc := hK
  have hFc := nd_rs hD hS hA
  refine va_callv (va_runV (As := [.int 1, .int x2]) (rest := []) ⟨hx, hb, hml, hown, hts⟩ (dm_X14_meet l hlt dC dI a ac n (1) (x2) s0 hq _) (cwV 2 hts gi_dm_X14_readEntry_0 rfl rfl rfl (by decide +kernel) ⟨Nat.le_of_ble_eq_true rfl, Nat.le_of_ble_eq_true rfl⟩) ⟨fun a U g mk q => by obtain ⟨q0, q1, qP, qK, qD, qN⟩ := q; exact ⟨q0, q1, qP, va_K.moved (u := U) (U := U.calling g mk a) (Vm.Alike.refl U.vm) qK, qD, nv_same rfl rfl qN⟩, va_recv hKc hPc (ci := 15) (q0 := 0) rfl rfl, fun U hU hW => ⟨rfl, by rw [hU], by rw [hU]; exact hPc, va_K.moved hW.alike hKc, hDc.weaken (fun _ _ _ _ => trivial), nv_call hS hFc hU hW hN⟩⟩ rfl rfl hl.1 rfl (lv_room (Nat.le_of_ble_eq_true rfl)) dX14_readEntry_51 ⟨by decide +kernel, by decide +kernel⟩) hS (fun q _ h => hFc q h) hFc (fun u t H locs ht hvm hw hB hz1 hk1 hS => ?_)
  obtain ⟨hP1, -, hD1⟩ := hB
  rw [ht] at hP1
  have hP := hP1
  have hD := hD1.weaken (fun k q _ h => hFc q.1 h)
  refine W.widen (k := 0) (n := 0) (Nat.le_refl _) (Nat.le_refl _) ?_
  exact (db_X14_readEntry_54 C K) (x1) (x2) (x3) (x4) s5 _ _ _ h hP hD hS (lv_sub hl [0, 1, 2, 3, 4] rfl)
set_option maxHeartbeats 40000000 in
set_option maxRecDepth 100000 in
theorem db_X14_readEntry_38 {p : Program} {l : Launch} {e : Env} {s : State} {m : MethodId} {args : Array Value} {below : List Frame} {meth : Method} {c : Code} {Q : State → Prop} {A : Nat → Prop} {dC : Nat → ClassId} {dI : Nat → Nat → Nat} {a : Nat → Nat} {ac : Nat → ClassId} {n : Nat} {r : St} (C : nd_C p l s m args c A (dC, dI) cX14_readEntry 12 RX14 ow_dm_X14_readEntry (dk_X14 ac)) (K : nd_Kv p l e (headSpec ow_dm_X14_readEntry ({ frames := 4, cells := 0, slots := 0, locals := 89 })).room s m args below meth c Q A (dC, dI) cX14_readEntry (St) (dw_X14 a ac) r) : dj_X14_readEntry_38 p l e s m args below meth c Q A dC dI a ac (df_X14_readEntry_38 n) r := by
  obtain ⟨hlt, hx, hb, hml, hown, hts, hN, hA, hK⟩ := id C
  intro x1 x2 x3 x4 s0 H locs ls h hP hD hS hl
  unfold df_X14_readEntry_38 at h
  refine lv_iload_n hx hb dX14_readEntry_38 rfl (lv_at hl 3 rfl) ?_
  refine lv_iconst (v := 4) hx hb dX14_readEntry_39 (by decide) ?_
  refine lv_icmp_ne (tgt := 54) hx hb dX14_readEntry_40 (by decide) (fun c73 => ?_) (fun c73 => ?_)
  · have h := nd_neg h c73
    exact (db_X14_readEntry_54 C K) (x1) (x2) (x3) (x4) s0 _ _ _ h hP hD hS (lv_sub hl [0, 1, 2, 3, 4] rfl)
  · have h := nd_pos h c73
    refine lv_iload hx hb dX14_readEntry_43 (lv_at hl 4 rfl) ?_
    refine lv_if_le (tgt := 54) hx hb dX14_readEntry_45 (by decide) (fun c74 => ?_) (fun c74 => ?_)
    · have h := nd_pos h c74
      exact (db_X14_readEntry_54 C K) (x1) (x2) (x3) (x4) s0 _ _ _ h hP hD hS (lv_sub hl [0, 1, 2, 3, 4] rfl)
    · have h := nd_neg h c74
      exact (db_X14_readEntry_48 C K) (x1) (x2) (x3) (x4) s0 _ _ _ h hP hD hS (lv_sub hl [0, 1, 2, 3, 4] rfl)
set_option maxHeartbeats 40000000 in
set_option maxRecDepth 100000 in
theorem db_X14_readEntry_27 {p : Program} {l : Launch} {e : Env} {s : State} {m : MethodId} {args : Array Value} {below : List Frame} {meth : Method} {c : Code} {Q : State → Prop} {A : Nat → Prop} {dC : Nat → ClassId} {dI : Nat → Nat → Nat} {a : Nat → Nat} {ac : Nat → ClassId} {n : Nat} {r : St} (C : nd_C p l s m args c A (dC, dI) cX14_readEntry 12 RX14 ow_dm_X14_readEntry (dk_X14 ac)) (K : nd_Kv p l e (headSpec ow_dm_X14_readEntry ({ frames := 4, cells := 0, slots := 0, locals := 89 })).room s m args below meth c Q A (dC, dI) cX14_readEntry (St) (dw_X14 a ac) r) : dj_X14_readEntry_27 p l e s m args below meth c Q A dC dI a ac (df_X14_readEntry_27 n) r := by
  obtain ⟨hlt, hx, hb, hml, hown, hts, hN, hA, hK⟩ := id C
  intro x1 x2 x3 x4 s0 H locs ls h hP hD hS hl
  unfold df_X14_readEntry_27 at h
  refine lv_iload_n hx hb dX14_readEntry_27 rfl (lv_at hl 3 rfl) ?_
  refine lv_iconst (v := 3) hx hb dX14_readEntry_28 (by decide) ?_
  refine lv_icmp_ne (tgt := 38) hx hb dX14_readEntry_29 (by decide) (fun c72 => ?_) (fun c72 => ?_)
  · have h := nd_neg h c72
    exact (db_X14_readEntry_38 C K) (x1) (x2) (x3) (x4) s0 _ _ _ h hP hD hS (lv_sub hl [0, 1, 2, 3, 4] rfl)
  · have h := nd_pos h c72
    refine lv_iload hx hb dX14_readEntry_32 (lv_at hl 4 rfl) ?_
    refine lv_iconst (v := 1) hx hb dX14_readEntry_34 (by decide) ?_
    refine lv_icmp_gt (tgt := 48) hx hb dX14_readEntry_35 (by decide) (fun c75 => ?_) (fun c75 => ?_)
    · have h := nd_pos h c75
      exact (db_X14_readEntry_48 C K) (x1) (x2) (x3) (x4) s0 _ _ _ h hP hD hS (lv_sub hl [0, 1, 2, 3, 4] rfl)
    · have h := nd_neg h c75
      exact (db_X14_readEntry_38 C K) (x1) (x2) (x3) (x4) s0 _ _ _ h hP hD hS (lv_sub hl [0, 1, 2, 3, 4] rfl)
set_option maxHeartbeats 40000000 in
set_option maxRecDepth 100000 in
theorem db_X14_readEntry_0 {p : Program} {l : Launch} {e : Env} {s : State} {m : MethodId} {args : Array Value} {below : List Frame} {meth : Method} {c : Code} {Q : State → Prop} {A : Nat → Prop} {dC : Nat → ClassId} {dI : Nat → Nat → Nat} {a : Nat → Nat} {ac : Nat → ClassId} {n : Nat} {r : St} (C : nd_C p l s m args c A (dC, dI) cX14_readEntry 12 RX14 ow_dm_X14_readEntry (dk_X14 ac)) (K : nd_Kv p l e (headSpec ow_dm_X14_readEntry ({ frames := 4, cells := 0, slots := 0, locals := 89 })).room s m args below meth c Q A (dC, dI) cX14_readEntry (St) (dw_X14 a ac) r) : dj_X14_readEntry_0 p l e s m args below meth c Q A dC dI a ac (df_X14_readEntry_0 n) r := by
  obtain ⟨hlt, hx, hb, hml, hown, hts, hN, hA, hK⟩ := id C
  intro v0 v1 s0 H locs ls h hP hD hS hl
  unfold df_X14_readEntry_0 at h
  refine lv_iload_n hx hb dX14_readEntry_0 rfl (lv_at hl 1 rfl) ?_
  refine lv_bipush (v := 7) hx hb dX14_readEntry_1 (by decide) ?_
  refine lv_iand hx hb dX14_readEntry_3 ?_
  refine lv_topi (fun z1 ez1 => ?_)
  have h := nd_at h ez1
  refine lv_istore_n (lv' := [(3, .int z1), (0, .ref (a 0)), (1, .int v0), (2, .int v1)]) hx hb dX14_readEntry_4 rfl hl (by decide) rfl (fun ls hl => ?_)
  refine lv_iload_n hx hb dX14_readEntry_5 rfl (lv_at hl 2 rfl) ?_
  refine lv_iconst (v := 4) hx hb dX14_readEntry_6 (by decide) ?_
  refine lv_ishr hx hb dX14_readEntry_7 ?_
  refine lv_topi (fun z2 ez2 => ?_)
  have h := nd_at h ez2
  refine lv_istore (lv' := [(4, .int z2), (3, .int z1), (0, .ref (a 0)), (1, .int v0), (2, .int v1)]) hx hb dX14_readEntry_8 hl (by decide) rfl (fun ls hl => ?_)
  refine lv_iload_n hx hb dX14_readEntry_10 rfl (lv_at hl 1 rfl) ?_
  refine lv_iconst (v := 5) hx hb dX14_readEntry_11 (by decide) ?_
  refine lv_icmp_gt (tgt := 48) hx hb dX14_readEntry_12 (by decide) (fun c3 => ?_) (fun c3 => ?_)
  · have h := nd_pos h c3
    exact (db_X14_readEntry_48 C K) (v0) (v1) (z1) (z2) s0 _ _ _ h hP hD hS (lv_sub hl [2, 3, 4, 1, 0] rfl)
  · have h := nd_neg h c3
    refine lv_iload_n hx hb dX14_readEntry_15 rfl (lv_at hl 1 rfl) ?_
    refine lv_iconst (v := 1) hx hb dX14_readEntry_16 (by decide) ?_
    refine lv_icmp_ne (tgt := 27) hx hb dX14_readEntry_17 (by decide) (fun c71 => ?_) (fun c71 => ?_)
    · have h := nd_neg h c71
      exact (db_X14_readEntry_27 C K) (v0) (v1) (z1) (z2) s0 _ _ _ h hP hD hS (lv_sub hl [2, 3, 4, 1, 0] rfl)
    · have h := nd_pos h c71
      refine lv_iload hx hb dX14_readEntry_20 (lv_at hl 0 rfl) ?_
      refine lv_bipush (v := 8) hx hb dX14_readEntry_22 (by decide) ?_
      refine lv_icmp_gt (tgt := 48) hx hb dX14_readEntry_24 (by decide) (fun c76 => ?_) (fun c76 => ?_)
      · have h := nd_pos h c76
        exact (db_X14_readEntry_48 C K) (v0) (v1) (z1) (z2) s0 _ _ _ h hP hD hS (lv_sub hl [2, 3, 4, 1, 0] rfl)
      · have h := nd_neg h c76
        exact (db_X14_readEntry_27 C K) (v0) (v1) (z1) (z2) s0 _ _ _ h hP hD hS (lv_sub hl [2, 3, 4, 1, 0] rfl)
set_option maxHeartbeats 40000000 in
set_option maxRecDepth 100000 in
theorem dm_X14_readEntry (l : Launch) (hlt : l.stackTraces = false) (dC : Nat → ClassId) (dI : Nat → Nat → Nat) (a : Nat → Nat) (ac : Nat → ClassId) (n : Nat) (v0 : Int32) (v1 : Int32) (s0 : St) {r : St} (h : df_X14_readEntry n v0 v1 s0 = some r) (sz : Nat) : Met l yX14_readEntry ow_dm_X14_readEntry ({ frames := 4, cells := 0, slots := 0, locals := 89 }) (va_Pc [.ref (a 0), .int v0, .int v1] (fun U => U.heap.size = sz ∧ va_P (dC, dI) vwCl (dw_X14 a ac s0) U.heap ∧ va_K (dC, dI) vwCl (dk_X14 ac) U ∧ va_D (fun _ => True) (dw_X14 a ac s0) ∧ nv_E (va_A (dw_X14 a ac s0) sz) U)) (va_Qv (fun _ => True) (fun (_ : Unit) t => va_P (dC, dI) vwCl (dw_X14 a ac r) t.heap ∧ va_K (dC, dI) vwCl (dk_X14 ac) t ∧ va_D (va_A (dw_X14 a ac s0) sz) (dw_X14 a ac r)) (va_A (dw_X14 a ac s0) sz)) 0 0 (va_A (dw_X14 a ac s0) sz) := by
  refine Met.ofW (cc := cX14_readEntry) (maxL := 12) (ret := none) (by decide) rfl ?_
  intro p e s m args below meth c s₁ B hml hv
  obtain ⟨rfl, hsz, hP, hK, hD0, hN⟩ := hv
  have hx := B.exec
  have hb := B.bytes
  have hr := B.returns
  have hts := atoms_spec (ws := ow_dm_X14_readEntry) B.pre
  have hown : s.vm.findClass RX14 = some m.cls := findClass_of_methodNamed B.named
  have hlocks := B.notSynchronized
  subst hsz
  have hD := hD0.self (sz := s.heap.size)
  generalize hAe : va_A (dw_X14 a ac s0) s.heap.size = A at hD hN ⊢
  have hA : ∀ q : Nat, s.heap.size ≤ q → A q := fun q h => by rw [← hAe]; exact Or.inr h
  have hl := lv_entry ([.ref (a 0), .int v0, .int v1]) (n := 12) (Nat.le_of_ble_eq_true rfl)
  rw [lg_entry_eq]
  generalize (lg_sl ([.ref (a 0), .int v0, .int v1]) ++ List.replicate (12 - (lg_sl ([.ref (a 0), .int v0, .int v1])).length) Slot.unset).toArray = ls at hl ⊢
  have hl : lv_has ls 12 [(0, .ref (a 0)), (1, .int v0), (2, .int v1)] := hl
  exact db_X14_readEntry_0 (dC := dC) (dI := dI) (a := a) (ac := ac) (n := n) (r := r) ⟨hlt, hx, hb, hml, hown, hts, hN, hA, hK⟩ (fun pc τ H locs ls d er hP hD hS => by subst er; exact W.vret hx hb hr (fun t ht hW => ⟨⟨(), rfl, trivial, by rw [ht]; exact hP, va_K.moved hW.alike hK, hD⟩, hS.F ht⟩) hS.2.2 d) v0 v1 s0 _ _ _ h hP hD va_S.rf (lv_sub hl [0, 1, 2] rfl)
def ow_dm_X14_read : List Cond := .code yX14_read cX14_read 7 (some .int) :: ([.fieldLink RX14 78 "TimeMachineModel$Codec" "log" "[I", .fieldLink RX14 71 "TimeMachineModel$Codec" "length" "I", .fieldLink RX14 27 "TimeMachineModel$Codec" "events" "I", .fieldLink RX14 65 "TimeMachineModel$Codec" "fault" "I", .fieldLink RX14 68 "TimeMachineModel$Codec" "at" "I", .methodLink RX14 87 yX14_readVarint, .instanceMethod yX14_readVarint, .selects RX14 yX14_readVarint yX14_readVarint, .initialized RX14, .constantLong RX14 106 (2048), .methodLink RX14 74 yX14_meet, .instanceMethod yX14_meet, .selects RX14 yX14_meet yX14_meet, .methodLink RX14 81 yX14_next, .instanceMethod yX14_next, .selects RX14 yX14_next yX14_next, .methodLink RX14 112 yX14_readEntry, .instanceMethod yX14_readEntry, .selects RX14 yX14_readEntry yX14_readEntry, .methodLink RX14 108 yX14_readRun, .instanceMethod yX14_readRun, .selects RX14 yX14_readRun yX14_readRun] ++ (u_ws RX14 TX14 11 ++ (ow_dm_X14_readVarint ++ (ow_dm_X14_meet ++ (ow_dm_X14_next ++ (ow_dm_X14_readEntry ++ (ow_dm_X14_readRun ++ [])))))))
theorem gd_dm_X14_read : ∀ w ∈ ow_dm_X14_read, (w.onTables && w.keeps) = true ∨ ∃ ty, w = Cond.arrayClass ty := List.forall_mem_cons.mpr ⟨good_of_word rfl, List.forall_mem_append.mpr ⟨fun w h => good_of_word (List.all_eq_true.mp (by decide +kernel) w h), List.forall_mem_append.mpr ⟨gu_X14, List.forall_mem_append.mpr ⟨gd_dm_X14_readVarint, List.forall_mem_append.mpr ⟨gd_dm_X14_meet, List.forall_mem_append.mpr ⟨gd_dm_X14_next, List.forall_mem_append.mpr ⟨gd_dm_X14_readEntry, List.forall_mem_append.mpr ⟨gd_dm_X14_readRun, fun _ h => nomatch h⟩⟩⟩⟩⟩⟩⟩⟩
theorem hi_dm_X14_read_X14 : ∀ w ∈ u_ws RX14 TX14 11, w ∈ ow_dm_X14_read := fun w h => List.mem_cons_of_mem _ (List.mem_append_right _ (List.mem_append_left _ h))
theorem gi_dm_X14_read_0 : GoodIn ow_dm_X14_read (wsV RX14 87 RX14 yX14_readVarint ow_dm_X14_readVarint) := goodIn_app (goodIn_of _ (by decide +kernel)) (fun w h => ⟨List.mem_cons_of_mem _ (List.mem_append_right _ (List.mem_append_right _ (List.mem_append_left _ h))), gd_dm_X14_readVarint w h⟩)
theorem gi_dm_X14_read_1 : GoodIn ow_dm_X14_read (wsV RX14 74 RX14 yX14_meet ow_dm_X14_meet) := goodIn_app (goodIn_of _ (by decide +kernel)) (fun w h => ⟨List.mem_cons_of_mem _ (List.mem_append_right _ (List.mem_append_right _ (List.mem_append_right _ (List.mem_append_left _ h)))), gd_dm_X14_meet w h⟩)
theorem gi_dm_X14_read_2 : GoodIn ow_dm_X14_read (wsV RX14 81 RX14 yX14_next ow_dm_X14_next) := goodIn_app (goodIn_of _ (by decide +kernel)) (fun w h => ⟨List.mem_cons_of_mem _ (List.mem_append_right _ (List.mem_append_right _ (List.mem_append_right _ (List.mem_append_right _ (List.mem_append_left _ h))))), gd_dm_X14_next w h⟩)
theorem gi_dm_X14_read_3 : GoodIn ow_dm_X14_read (wsV RX14 112 RX14 yX14_readEntry ow_dm_X14_readEntry) := goodIn_app (goodIn_of _ (by decide +kernel)) (fun w h => ⟨List.mem_cons_of_mem _ (List.mem_append_right _ (List.mem_append_right _ (List.mem_append_right _ (List.mem_append_right _ (List.mem_append_right _ (List.mem_append_left _ h)))))), gd_dm_X14_readEntry w h⟩)
theorem gi_dm_X14_read_4 : GoodIn ow_dm_X14_read (wsV RX14 108 RX14 yX14_readRun ow_dm_X14_readRun) := goodIn_app (goodIn_of _ (by decide +kernel)) (fun w h => ⟨List.mem_cons_of_mem _ (List.mem_append_right _ (List.mem_append_right _ (List.mem_append_right _ (List.mem_append_right _ (List.mem_append_right _ (List.mem_append_right _ (List.mem_append_left _ h))))))), gd_dm_X14_readRun w h⟩)
def dj_X14_read_145 (p : Program) (l : Launch) (e : Env) (s : State) (m : MethodId) (args : Array Value) (below : List Frame) (meth : Method) (c : Code) (Q : State → Prop) (A : Nat → Prop) (dC : Nat → ClassId) (dI : Nat → Nat → Nat) (a : Nat → Nat) (ac : Nat → ClassId) (g : (St) → Option (Int32 × (St))) (r : Int32 × (St)) : Prop := ∀ (s0 : St) (H : Heap) (locs : List Loc) (ls : Array Slot), g s0 = some r → va_P (dC, dI) vwCl (dw_X14 a ac s0) H → va_D A (dw_X14 a ac s0) → va_S A s.heap H locs → lv_has ls 7 [(0, .ref (a 0))] → W p l e (headSpec ow_dm_X14_read ({ frames := 5, cells := 0, slots := 0, locals := 120 })).room s m args below meth c H locs 0 0 Q (F0 m 145 ls [])
def dj_X14_read_117 (p : Program) (l : Launch) (e : Env) (s : State) (m : MethodId) (args : Array Value) (below : List Frame) (meth : Method) (c : Code) (Q : State → Prop) (A : Nat → Prop) (dC : Nat → ClassId) (dI : Nat → Nat → Nat) (a : Nat → Nat) (ac : Nat → ClassId) (g : (St) → Option (Int32 × (St))) (r : Int32 × (St)) : Prop := ∀ (s0 : St) (H : Heap) (locs : List Loc) (ls : Array Slot), g s0 = some r → va_P (dC, dI) vwCl (dw_X14 a ac s0) H → va_D A (dw_X14 a ac s0) → va_S A s.heap H locs → lv_has ls 7 [(0, .ref (a 0))] → W p l e (headSpec ow_dm_X14_read ({ frames := 5, cells := 0, slots := 0, locals := 120 })).room s m args below meth c H locs 0 0 Q (F0 m 117 ls [])
def dj_X14_read_114 (p : Program) (l : Launch) (e : Env) (s : State) (m : MethodId) (args : Array Value) (below : List Frame) (meth : Method) (c : Code) (Q : State → Prop) (A : Nat → Prop) (dC : Nat → ClassId) (dI : Nat → Nat → Nat) (a : Nat → Nat) (ac : Nat → ClassId) (g : Int64 → (St) → Option (Int32 × (St))) (r : Int32 × (St)) : Prop := ∀ (x3 : Int64) (s0 : St) (H : Heap) (locs : List Loc) (ls : Array Slot), g x3 s0 = some r → va_P (dC, dI) vwCl (dw_X14 a ac s0) H → va_D A (dw_X14 a ac s0) → va_S A s.heap H locs → lv_has ls 7 [(0, .ref (a 0)), (3, .long x3)] → W p l e (headSpec ow_dm_X14_read ({ frames := 5, cells := 0, slots := 0, locals := 120 })).room s m args below meth c H locs 0 0 Q (F0 m 114 ls [])
def dj_X14_read_45 (p : Program) (l : Launch) (e : Env) (s : State) (m : MethodId) (args : Array Value) (below : List Frame) (meth : Method) (c : Code) (Q : State → Prop) (A : Nat → Prop) (dC : Nat → ClassId) (dI : Nat → Nat → Nat) (a : Nat → Nat) (ac : Nat → ClassId) (g : Int64 → (St) → Option (Int32 × (St))) (r : Int32 × (St)) : Prop := ∀ (x3 : Int64) (s0 : St) (H : Heap) (locs : List Loc) (ls : Array Slot), g x3 s0 = some r → va_P (dC, dI) vwCl (dw_X14 a ac s0) H → va_D A (dw_X14 a ac s0) → va_S A s.heap H locs → lv_has ls 7 [(0, .ref (a 0)), (3, .long x3)] → W p l e (headSpec ow_dm_X14_read ({ frames := 5, cells := 0, slots := 0, locals := 120 })).room s m args below meth c H locs 0 0 Q (F0 m 45 ls [])
def dj_X14_read_0 (p : Program) (l : Launch) (e : Env) (s : State) (m : MethodId) (args : Array Value) (below : List Frame) (meth : Method) (c : Code) (Q : State → Prop) (A : Nat → Prop) (dC : Nat → ClassId) (dI : Nat → Nat → Nat) (a : Nat → Nat) (ac : Nat → ClassId) (g : Int32 → (St) → Option (Int32 × (St))) (r : Int32 × (St)) : Prop := ∀ (v1 : Int32) (s0 : St) (H : Heap) (locs : List Loc) (ls : Array Slot), g v1 s0 = some r → va_P (dC, dI) vwCl (dw_X14 a ac s0) H → va_D A (dw_X14 a ac s0) → va_S A s.heap H locs → lv_has ls 7 [(0, .ref (a 0)), (1, .ref (a 6)), (2, .int v1)] → W p l e (headSpec ow_dm_X14_read ({ frames := 5, cells := 0, slots := 0, locals := 120 })).room s m args below meth c H locs 0 0 Q (F0 m 0 ls [])
set_option maxHeartbeats 40000000 in
set_option maxRecDepth 100000 in
theorem db_X14_read_145 {p : Program} {l : Launch} {e : Env} {s : State} {m : MethodId} {args : Array Value} {below : List Frame} {meth : Method} {c : Code} {Q : State → Prop} {A : Nat → Prop} {dC : Nat → ClassId} {dI : Nat → Nat → Nat} {a : Nat → Nat} {ac : Nat → ClassId} {n : Nat} {r : Int32 × (St)} (C : nd_C p l s m args c A (dC, dI) cX14_read 7 RX14 ow_dm_X14_read (dk_X14 ac)) (K : nd_Ki p l e (headSpec ow_dm_X14_read ({ frames := 5, cells := 0, slots := 0, locals := 120 })).room s m args below meth c Q A (dC, dI) cX14_read .int (St) (dw_X14 a ac) r) : dj_X14_read_145 p l e s m args below meth c Q A dC dI a ac (df_X14_read_145 n) r := by
  obtain ⟨hlt, hx, hb, hml, hown, hts, hN, hA, hK⟩ := id C
  intro s0 H locs ls h hP hD hS hl
  unfold df_X14_read_145 at h
  refine lv_aload_n hx hb dX14_read_145 rfl (lv_at hl 0 rfl) ?_
  refine va_get (D := (dC, dI)) (ci := 15) (v := .int (sI s0 4)) (C := RX14) (T := TX14) (N := 11) hx hb hts hi_dm_X14_read_X14 hown hK hP 0 rfl rfl 10 (by decide) (hts (.fieldLink RX14 65 "TimeMachineModel$Codec" "fault" "I") (List.mem_of_getElem? (i := 4) rfl)) (fun _ h9 => h9) rfl dX14_read_146 ?_
  exact K _ _ _ _ _ _ dX14_read_149 rfl (Option.some.inj h).symm hP hD hS
set_option maxHeartbeats 40000000 in
set_option maxRecDepth 100000 in
theorem db_X14_read_117 {p : Program} {l : Launch} {e : Env} {s : State} {m : MethodId} {args : Array Value} {below : List Frame} {meth : Method} {c : Code} {Q : State → Prop} {A : Nat → Prop} {dC : Nat → ClassId} {dI : Nat → Nat → Nat} {a : Nat → Nat} {ac : Nat → ClassId} {n : Nat} {r : Int32 × (St)} (C : nd_C p l s m args c A (dC, dI) cX14_read 7 RX14 ow_dm_X14_read (dk_X14 ac)) (K : nd_Ki p l e (headSpec ow_dm_X14_read ({ frames := 5, cells := 0, slots := 0, locals := 120 })).room s m args below meth c Q A (dC, dI) cX14_read .int (St) (dw_X14 a ac) r) : dj_X14_read_117 p l e s m args below meth c Q A dC dI a ac (df_X14_read_117 n) r := by
  obtain ⟨hlt, hx, hb, hml, hown, hts, hN, hA, hK⟩ := id C
  intro s0 H locs ls h hP hD hS hl
  unfold df_X14_read_117 at h
  refine lv_aload_n hx hb dX14_read_117 rfl (lv_at hl 0 rfl) ?_
  refine va_get (D := (dC, dI)) (ci := 15) (v := .int (sI s0 4)) (C := RX14) (T := TX14) (N := 11) hx hb hts hi_dm_X14_read_X14 hown hK hP 0 rfl rfl 10 (by decide) (hts (.fieldLink RX14 65 "TimeMachineModel$Codec" "fault" "I") (List.mem_of_getElem? (i := 4) rfl)) (fun _ h9 => h9) rfl dX14_read_118 ?_
  refine lv_if_ne (tgt := 145) hx hb dX14_read_121 (by decide) (fun c11 => ?_) (fun c11 => ?_)
  · have h := nd_neg h c11
    exact (db_X14_read_145 C K)  s0 _ _ _ h hP hD hS (lv_sub hl [0] rfl)
  · have h := nd_pos h c11
    refine lv_aload_n hx hb dX14_read_124 rfl (lv_at hl 0 rfl) ?_
    refine va_get (D := (dC, dI)) (ci := 15) (v := .int (sI s0 3)) (C := RX14) (T := TX14) (N := 11) hx hb hts hi_dm_X14_read_X14 hown hK hP 0 rfl rfl 9 (by decide) (hts (.fieldLink RX14 68 "TimeMachineModel$Codec" "at" "I") (List.mem_of_getElem? (i := 5) rfl)) (fun _ h9 => h9) rfl dX14_read_125 ?_
    refine lv_aload_n hx hb dX14_read_128 rfl (lv_at hl 0 rfl) ?_
    refine va_get (D := (dC, dI)) (ci := 15) (v := .int (sI s0 2)) (C := RX14) (T := TX14) (N := 11) hx hb hts hi_dm_X14_read_X14 hown hK hP 0 rfl rfl 8 (by decide) (hts (.fieldLink RX14 71 "TimeMachineModel$Codec" "length" "I") (List.mem_of_getElem? (i := 2) rfl)) (fun _ h9 => h9) rfl dX14_read_129 ?_
    refine lv_icmp_ge (tgt := 145) hx hb dX14_read_132 (by decide) (fun c12 => ?_) (fun c12 => ?_)
    · have h := nd_pos h c12
      exact (db_X14_read_145 C K)  s0 _ _ _ h hP hD hS (lv_sub hl [0] rfl)
    · have h := nd_neg h c12
      refine lv_aload_n hx hb dX14_read_135 rfl (lv_at hl 0 rfl) ?_
      refine lv_bipush (v := 7) hx hb dX14_read_136 (by decide) ?_
      refine lv_aload_n hx hb dX14_read_138 rfl (lv_at hl 0 rfl) ?_
      refine va_get (D := (dC, dI)) (ci := 15) (v := .int (sI s0 3)) (C := RX14) (T := TX14) (N := 11) hx hb hts hi_dm_X14_read_X14 hown hK hP 0 rfl rfl 9 (by decide) (hts (.fieldLink RX14 68 "TimeMachineModel$Codec" "at" "I") (List.mem_of_getElem? (i := 5) rfl)) (fun _ h9 => h9) rfl dX14_read_139 ?_
      obtain ⟨s14, hq, h⟩ := nd_b1_e h
      have hPc := hP
      have hDc := hD
      have hKc := hK
      have hFc := nd_rs hD hS hA
      refine va_callv (va_runV (As := [.int 7, .int (sI s0 3)]) (rest := []) ⟨hx, hb, hml, hown, hts⟩ (dm_X14_meet l hlt dC dI a ac n (7) ((sI s0 3)) s0 hq _) (cwV 2 hts gi_dm_X14_read_1 rfl rfl rfl (by decide +kernel) ⟨Nat.le_of_ble_eq_true rfl, Nat.le_of_ble_eq_true rfl⟩) ⟨fun a U g mk q => by obtain ⟨q0, q1, qP, qK, qD, qN⟩ := q; exact ⟨q0, q1, qP, va_K.moved (u := U) (U := U.calling g mk a) (Vm.Alike.refl U.vm) qK, qD, nv_same rfl rfl qN⟩, va_recv hKc hPc (ci := 15) (q0 := 0) rfl rfl, fun U hU hW => ⟨rfl, by rw [hU], by rw [hU]; exact hPc, va_K.moved hW.alike hKc, hDc.weaken (fun _ _ _ _ => trivial), nv_call hS hFc hU hW hN⟩⟩ rfl rfl hl.1 rfl (lv_room (Nat.le_of_ble_eq_true rfl)) dX14_read_142 ⟨by decide +kernel, by decide +kernel⟩) hS (fun q _ h => hFc q h) hFc (fun u t H locs ht hvm hw hB hz1 hk1 hS => ?_)
      obtain ⟨hP1, -, hD1⟩ := hB
      rw [ht] at hP1
      have hP := hP1
      have hD := hD1.weaken (fun k q _ h => hFc q.1 h)
      refine W.widen (k := 0) (n := 0) (Nat.le_refl _) (Nat.le_refl _) ?_
      exact (db_X14_read_145 C K)  s14 _ _ _ h hP hD hS (lv_sub hl [0] rfl)
set_option maxHeartbeats 40000000 in
set_option maxRecDepth 100000 in
theorem db_X14_read_114 {p : Program} {l : Launch} {e : Env} {s : State} {m : MethodId} {args : Array Value} {below : List Frame} {meth : Method} {c : Code} {Q : State → Prop} {A : Nat → Prop} {dC : Nat → ClassId} {dI : Nat → Nat → Nat} {a : Nat → Nat} {ac : Nat → ClassId} {n : Nat} {r : Int32 × (St)} (C : nd_C p l s m args c A (dC, dI) cX14_read 7 RX14 ow_dm_X14_read (dk_X14 ac)) (K : nd_Ki p l e (headSpec ow_dm_X14_read ({ frames := 5, cells := 0, slots := 0, locals := 120 })).room s m args below meth c Q A (dC, dI) cX14_read .int (St) (dw_X14 a ac) r) {g45 : Int64 → (St) → Option (Int32 × (St))} (J45 : dj_X14_read_45 p l e s m args below meth c Q A dC dI a ac g45 r) : dj_X14_read_114 p l e s m args below meth c Q A dC dI a ac (df_X14_read_114 n g45) r := by
  obtain ⟨hlt, hx, hb, hml, hown, hts, hN, hA, hK⟩ := id C
  intro x3 s0 H locs ls h hP hD hS hl
  unfold df_X14_read_114 at h
  refine lv_goto (tgt := 45) hx hb dX14_read_114 (by decide) ?_
  exact (J45) (x3) s0 _ _ _ h hP hD hS (lv_sub hl [0, 1] rfl)
set_option maxHeartbeats 40000000 in
set_option maxRecDepth 100000 in
theorem dB_X14_read_45 {p : Program} {l : Launch} {e : Env} {s : State} {m : MethodId} {args : Array Value} {below : List Frame} {meth : Method} {c : Code} {Q : State → Prop} {A : Nat → Prop} {dC : Nat → ClassId} {dI : Nat → Nat → Nat} {a : Nat → Nat} {ac : Nat → ClassId} {n : Nat} {r : Int32 × (St)} (C : nd_C p l s m args c A (dC, dI) cX14_read 7 RX14 ow_dm_X14_read (dk_X14 ac)) (K : nd_Ki p l e (headSpec ow_dm_X14_read ({ frames := 5, cells := 0, slots := 0, locals := 120 })).room s m args below meth c Q A (dC, dI) cX14_read .int (St) (dw_X14 a ac) r) {g45 : Int64 → (St) → Option (Int32 × (St))} (J45 : dj_X14_read_45 p l e s m args below meth c Q A dC dI a ac g45 r) : dj_X14_read_45 p l e s m args below meth c Q A dC dI a ac (dF_X14_read_45 n g45) r := by
  obtain ⟨hlt, hx, hb, hml, hown, hts, hN, hA, hK⟩ := id C
  intro x3 s0 H locs ls h hP hD hS hl
  unfold dF_X14_read_45 at h
  refine lv_aload_n hx hb dX14_read_45 rfl (lv_at hl 0 rfl) ?_
  refine va_get (D := (dC, dI)) (ci := 15) (v := .int (sI s0 4)) (C := RX14) (T := TX14) (N := 11) hx hb hts hi_dm_X14_read_X14 hown hK hP 0 rfl rfl 10 (by decide) (hts (.fieldLink RX14 65 "TimeMachineModel$Codec" "fault" "I") (List.mem_of_getElem? (i := 4) rfl)) (fun _ h9 => h9) rfl dX14_read_46 ?_
  refine lv_if_ne (tgt := 117) hx hb dX14_read_49 (by decide) (fun c10 => ?_) (fun c10 => ?_)
  · have h := nd_neg h c10
    exact (db_X14_read_117 C K)  s0 _ _ _ h hP hD hS (lv_sub hl [0] rfl)
  · have h := nd_pos h c10
    refine lv_aload_n hx hb dX14_read_52 rfl (lv_at hl 0 rfl) ?_
    refine va_get (D := (dC, dI)) (ci := 15) (v := .int (sI s0 0)) (C := RX14) (T := TX14) (N := 11) hx hb hts hi_dm_X14_read_X14 hown hK hP 0 rfl rfl 0 (by decide) (hts (.fieldLink RX14 27 "TimeMachineModel$Codec" "events" "I") (List.mem_of_getElem? (i := 3) rfl)) (fun _ h9 => h9) rfl dX14_read_53 ?_
    refine lv_i2l hx hb dX14_read_56 rfl ?_
    refine lv_lload_n hx hb dX14_read_57 rfl (lv_at hl 1 rfl) ?_
    refine W.lcmp hx hb dX14_read_58 ?_
    refine lv_if_ge (tgt := 117) hx hb dX14_read_59 (by decide) (fun c16 => ?_) (fun c16 => ?_)
    · have h := nd_pos h c16
      exact (db_X14_read_117 C K)  s0 _ _ _ h hP hD hS (lv_sub hl [0] rfl)
    · have h := nd_neg h c16
      refine lv_aload_n hx hb dX14_read_62 rfl (lv_at hl 0 rfl) ?_
      refine va_get (D := (dC, dI)) (ci := 15) (v := .int (sI s0 3)) (C := RX14) (T := TX14) (N := 11) hx hb hts hi_dm_X14_read_X14 hown hK hP 0 rfl rfl 9 (by decide) (hts (.fieldLink RX14 68 "TimeMachineModel$Codec" "at" "I") (List.mem_of_getElem? (i := 5) rfl)) (fun _ h9 => h9) rfl dX14_read_63 ?_
      refine lv_topi (fun z17 ez17 => ?_)
      have h := nd_at h ez17
      refine lv_istore (lv' := [(5, .int z17), (0, .ref (a 0)), (3, .long x3)]) hx hb dX14_read_66 hl (by decide) rfl (fun ls hl => ?_)
      refine lv_aload_n hx hb dX14_read_68 rfl (lv_at hl 1 rfl) ?_
      obtain ⟨q18, s19, hq, h⟩ := nd_b2_e h
      have hPc := hP
      have hDc := hD
      have hKc := hK
      have hFc := nd_rs hD hS hA
      refine va_calli (va_runV (As := []) (rest := []) ⟨hx, hb, hml, hown, hts⟩ (dm_X14_next l hlt dC dI a ac n  s0 hq _) (cwV 0 hts gi_dm_X14_read_2 rfl rfl rfl (by decide +kernel) ⟨Nat.le_of_ble_eq_true rfl, Nat.le_of_ble_eq_true rfl⟩) ⟨fun a U g mk q => by obtain ⟨q0, q1, qP, qK, qD, qN⟩ := q; exact ⟨q0, q1, qP, va_K.moved (u := U) (U := U.calling g mk a) (Vm.Alike.refl U.vm) qK, qD, nv_same rfl rfl qN⟩, va_recv hKc hPc (ci := 15) (q0 := 0) rfl rfl, fun U hU hW => ⟨rfl, by rw [hU], by rw [hU]; exact hPc, va_K.moved hW.alike hKc, hDc.weaken (fun _ _ _ _ => trivial), nv_call hS hFc hU hW hN⟩⟩ rfl rfl hl.1 rfl (lv_room (Nat.le_of_ble_eq_true rfl)) dX14_read_69 ⟨by decide +kernel, by decide +kernel⟩) hS (fun q _ h => hFc q h) hFc (fun r20 u t H locs ht hvm hw hB hz1 hk1 hS => ?_)
      obtain rfl : q18 = r20 := Eq.symm hw
      obtain ⟨hP1, -, hD1⟩ := hB
      rw [ht] at hP1
      have hP := hP1
      have hD := hD1.weaken (fun k q _ h => hFc q.1 h)
      refine W.widen (k := 0) (n := 0) (Nat.le_refl _) (Nat.le_refl _) ?_
      refine lv_istore (lv' := [(6, .int q18), (5, .int z17), (0, .ref (a 0)), (3, .long x3)]) hx hb dX14_read_72 hl (by decide) rfl (fun ls hl => ?_)
      refine lv_aload_n hx hb dX14_read_74 rfl (lv_at hl 2 rfl) ?_
      refine va_get (D := (dC, dI)) (ci := 15) (v := .int (sI s19 4)) (C := RX14) (T := TX14) (N := 11) hx hb hts hi_dm_X14_read_X14 hown hK hP 0 rfl rfl 10 (by decide) (hts (.fieldLink RX14 65 "TimeMachineModel$Codec" "fault" "I") (List.mem_of_getElem? (i := 4) rfl)) (fun _ h9 => h9) rfl dX14_read_75 ?_
      refine lv_if_le (tgt := 84) hx hb dX14_read_78 (by decide) (fun c21 => ?_) (fun c21 => ?_)
      · have h := nd_pos h c21
        refine lv_iload hx hb dX14_read_84 (lv_at hl 0 rfl) ?_
        refine lv_bipush (v := 7) hx hb dX14_read_86 (by decide) ?_
        refine lv_iand hx hb dX14_read_88 ?_
        refine lv_iconst (v := 5) hx hb dX14_read_89 (by decide) ?_
        refine lv_icmp_ne (tgt := 106) hx hb dX14_read_90 (by decide) (fun c22 => ?_) (fun c22 => ?_)
        · have h := nd_neg h c22
          refine lv_aload_n hx hb dX14_read_106 rfl (lv_at hl 2 rfl) ?_
          refine lv_iload hx hb dX14_read_107 (lv_at hl 0 rfl) ?_
          refine lv_iload hx hb dX14_read_109 (lv_at hl 1 rfl) ?_
          obtain ⟨s24, hq, h⟩ := nd_b1_e h
          have hPc := hP
          have hDc := hD
          have hKc := hK
          have hFc := nd_rs hD hS hA
          refine va_callv (va_runV (As := [.int q18, .int z17]) (rest := []) ⟨hx, hb, hml, hown, hts⟩ (dm_X14_readEntry l hlt dC dI a ac n (q18) (z17) s19 hq _) (cwV 2 hts gi_dm_X14_read_3 rfl rfl rfl (by decide +kernel) ⟨Nat.le_of_ble_eq_true rfl, Nat.le_of_ble_eq_true rfl⟩) ⟨fun a U g mk q => by obtain ⟨q0, q1, qP, qK, qD, qN⟩ := q; exact ⟨q0, q1, qP, va_K.moved (u := U) (U := U.calling g mk a) (Vm.Alike.refl U.vm) qK, qD, nv_same rfl rfl qN⟩, va_recv hKc hPc (ci := 15) (q0 := 0) rfl rfl, fun U hU hW => ⟨rfl, by rw [hU], by rw [hU]; exact hPc, va_K.moved hW.alike hKc, hDc.weaken (fun _ _ _ _ => trivial), nv_call hS hFc hU hW hN⟩⟩ rfl rfl hl.1 rfl (lv_room (Nat.le_of_ble_eq_true rfl)) dX14_read_111 ⟨by decide +kernel, by decide +kernel⟩) hS (fun q _ h => hFc q h) hFc (fun u t H locs ht hvm hw hB hz1 hk1 hS => ?_)
          obtain ⟨hP1, -, hD1⟩ := hB
          rw [ht] at hP1
          have hP := hP1
          have hD := hD1.weaken (fun k q _ h => hFc q.1 h)
          refine W.widen (k := 0) (n := 0) (Nat.le_refl _) (Nat.le_refl _) ?_
          exact (db_X14_read_114 C K J45) (x3) s24 _ _ _ h hP hD hS (lv_sub hl [2, 3] rfl)
        · have h := nd_pos h c22
          refine lv_aload_n hx hb dX14_read_93 rfl (lv_at hl 2 rfl) ?_
          refine lv_iload hx hb dX14_read_94 (lv_at hl 0 rfl) ?_
          refine lv_iload hx hb dX14_read_96 (lv_at hl 1 rfl) ?_
          refine lv_lload_n hx hb dX14_read_98 rfl (lv_at hl 3 rfl) ?_
          refine lv_l2i hx hb dX14_read_99 rfl ?_
          obtain ⟨s27, hq, h⟩ := nd_b1_e h
          have hPc := hP
          have hDc := hD
          have hKc := hK
          have hFc := nd_rs hD hS hA
          refine va_callv (va_runV (As := [.int q18, .int z17, .int (x3.toInt32)]) (rest := []) ⟨hx, hb, hml, hown, hts⟩ (dm_X14_readRun l hlt dC dI a ac n (q18) (z17) ((x3.toInt32)) s19 hq _) (cwV 3 hts gi_dm_X14_read_4 rfl rfl rfl (by decide +kernel) ⟨Nat.le_of_ble_eq_true rfl, Nat.le_of_ble_eq_true rfl⟩) ⟨fun a U g mk q => by obtain ⟨q0, q1, qP, qK, qD, qN⟩ := q; exact ⟨q0, q1, qP, va_K.moved (u := U) (U := U.calling g mk a) (Vm.Alike.refl U.vm) qK, qD, nv_same rfl rfl qN⟩, va_recv hKc hPc (ci := 15) (q0 := 0) rfl rfl, fun U hU hW => ⟨rfl, by rw [hU], by rw [hU]; exact hPc, va_K.moved hW.alike hKc, hDc.weaken (fun _ _ _ _ => trivial), nv_call hS hFc hU hW hN⟩⟩ rfl rfl hl.1 rfl (lv_room (Nat.le_of_ble_eq_true rfl)) dX14_read_100 ⟨by decide +kernel, by decide +kernel⟩) hS (fun q _ h => hFc q h) hFc (fun u t H locs ht hvm hw hB hz1 hk1 hS => ?_)
          obtain ⟨hP1, -, hD1⟩ := hB
          rw [ht] at hP1
          have hP := hP1
          have hD := hD1.weaken (fun k q _ h => hFc q.1 h)
          refine W.widen (k := 0) (n := 0) (Nat.le_refl _) (Nat.le_refl _) ?_
          refine lv_goto (tgt := 114) hx hb dX14_read_103 (by decide) ?_
          exact (db_X14_read_114 C K J45) (x3) s27 _ _ _ h hP hD hS (lv_sub hl [2, 3] rfl)
      · have h := nd_neg h c21
        refine lv_goto (tgt := 45) hx hb dX14_read_81 (by decide) ?_
        exact (J45) (x3) s19 _ _ _ h hP hD hS (lv_sub hl [2, 3] rfl)
set_option maxHeartbeats 40000000 in
set_option maxRecDepth 100000 in
theorem db_X14_read_45 {p : Program} {l : Launch} {e : Env} {s : State} {m : MethodId} {args : Array Value} {below : List Frame} {meth : Method} {c : Code} {Q : State → Prop} {A : Nat → Prop} {dC : Nat → ClassId} {dI : Nat → Nat → Nat} {a : Nat → Nat} {ac : Nat → ClassId} {n : Nat} {r : Int32 × (St)} (C : nd_C p l s m args c A (dC, dI) cX14_read 7 RX14 ow_dm_X14_read (dk_X14 ac)) (K : nd_Ki p l e (headSpec ow_dm_X14_read ({ frames := 5, cells := 0, slots := 0, locals := 120 })).room s m args below meth c Q A (dC, dI) cX14_read .int (St) (dw_X14 a ac) r) (k : Nat) : dj_X14_read_45 p l e s m args below meth c Q A dC dI a ac (df_X14_read_45 n k) r := by
  induction k with
  | zero => intro x3 s0 H locs ls h; exact nomatch (show (none : Option (Int32 × (St))) = some r from h)
  | succ k ih => exact dB_X14_read_45 C K ih
set_option maxHeartbeats 40000000 in
set_option maxRecDepth 100000 in
theorem db_X14_read_0 {p : Program} {l : Launch} {e : Env} {s : State} {m : MethodId} {args : Array Value} {below : List Frame} {meth : Method} {c : Code} {Q : State → Prop} {A : Nat → Prop} {dC : Nat → ClassId} {dI : Nat → Nat → Nat} {a : Nat → Nat} {ac : Nat → ClassId} {n : Nat} {r : Int32 × (St)} (C : nd_C p l s m args c A (dC, dI) cX14_read 7 RX14 ow_dm_X14_read (dk_X14 ac)) (K : nd_Ki p l e (headSpec ow_dm_X14_read ({ frames := 5, cells := 0, slots := 0, locals := 120 })).room s m args below meth c Q A (dC, dI) cX14_read .int (St) (dw_X14 a ac) r) : dj_X14_read_0 p l e s m args below meth c Q A dC dI a ac (df_X14_read_0 n) r := by
  obtain ⟨hlt, hx, hb, hml, hown, hts, hN, hA, hK⟩ := id C
  intro v1 s0 H locs ls h hP hD hS hl
  unfold df_X14_read_0 at h
  refine lv_aload_n hx hb dX14_read_0 rfl (lv_at hl 0 rfl) ?_
  refine lv_aload_n hx hb dX14_read_1 rfl (lv_at hl 1 rfl) ?_
  refine va_put (D := (dC, dI)) (ci := 15) (v := .ref (a 6)) (ty := .array .int) (C := RX14) (T := TX14) (N := 11) hx hb hts hi_dm_X14_read_X14 tyX14 tyX14_ok nmX14 hown hK hP hD hS 0 rfl rfl 7 (by decide) (hts (.fieldLink RX14 78 "TimeMachineModel$Codec" "log" "[I") (List.mem_of_getElem? (i := 1) rfl)) (fun _ h9 => h9) rfl (by decide +kernel) rfl rfl (Nat.le_of_ble_eq_true rfl) dX14_read_2 (fun H locs hP hD hS => ?_)
  obtain ⟨s1, es1, h⟩ := nd_let_e h
  have hP : va_P (dC, dI) vwCl (dw_X14 a ac s1) H := by rw [es1]; exact hP
  have hD : va_D A (dw_X14 a ac s1) := by rw [es1]; exact hD
  refine lv_aload_n hx hb dX14_read_5 rfl (lv_at hl 0 rfl) ?_
  refine lv_iload_n hx hb dX14_read_6 rfl (lv_at hl 2 rfl) ?_
  refine va_put (D := (dC, dI)) (ci := 15) (v := .int v1) (ty := .int) (C := RX14) (T := TX14) (N := 11) hx hb hts hi_dm_X14_read_X14 tyX14 tyX14_ok nmX14 hown hK hP hD hS 0 rfl rfl 8 (by decide) (hts (.fieldLink RX14 71 "TimeMachineModel$Codec" "length" "I") (List.mem_of_getElem? (i := 2) rfl)) (fun _ h9 => h9) rfl (by decide +kernel) rfl rfl (Nat.le_of_ble_eq_true rfl) dX14_read_7 (fun H locs hP hD hS => ?_)
  obtain ⟨s2, es2, h⟩ := nd_let_e h
  have hP : va_P (dC, dI) vwCl (dw_X14 a ac s2) H := by rw [es2]; exact hP
  have hD : va_D A (dw_X14 a ac s2) := by rw [es2]; exact hD
  refine lv_aload_n hx hb dX14_read_10 rfl (lv_at hl 0 rfl) ?_
  refine lv_aload_n hx hb dX14_read_11 rfl (lv_at hl 0 rfl) ?_
  refine lv_aload_n hx hb dX14_read_12 rfl (lv_at hl 0 rfl) ?_
  refine lv_iconst (v := 0) hx hb dX14_read_13 (by decide) ?_
  refine lv_dup_x1 hx hb dX14_read_14 rfl rfl ?_
  refine va_put (D := (dC, dI)) (ci := 15) (v := .int 0) (ty := .int) (C := RX14) (T := TX14) (N := 11) hx hb hts hi_dm_X14_read_X14 tyX14 tyX14_ok nmX14 hown hK hP hD hS 0 rfl rfl 0 (by decide) (hts (.fieldLink RX14 27 "TimeMachineModel$Codec" "events" "I") (List.mem_of_getElem? (i := 3) rfl)) (fun _ h9 => h9) rfl (by decide +kernel) rfl rfl (Nat.le_of_ble_eq_true rfl) dX14_read_15 (fun H locs hP hD hS => ?_)
  obtain ⟨s3, es3, h⟩ := nd_let_e h
  have hP : va_P (dC, dI) vwCl (dw_X14 a ac s3) H := by rw [es3]; exact hP
  have hD : va_D A (dw_X14 a ac s3) := by rw [es3]; exact hD
  refine lv_dup_x1 hx hb dX14_read_18 rfl rfl ?_
  refine va_put (D := (dC, dI)) (ci := 15) (v := .int 0) (ty := .int) (C := RX14) (T := TX14) (N := 11) hx hb hts hi_dm_X14_read_X14 tyX14 tyX14_ok nmX14 hown hK hP hD hS 0 rfl rfl 10 (by decide) (hts (.fieldLink RX14 65 "TimeMachineModel$Codec" "fault" "I") (List.mem_of_getElem? (i := 4) rfl)) (fun _ h9 => h9) rfl (by decide +kernel) rfl rfl (Nat.le_of_ble_eq_true rfl) dX14_read_19 (fun H locs hP hD hS => ?_)
  obtain ⟨s4, es4, h⟩ := nd_let_e h
  have hP : va_P (dC, dI) vwCl (dw_X14 a ac s4) H := by rw [es4]; exact hP
  have hD : va_D A (dw_X14 a ac s4) := by rw [es4]; exact hD
  refine va_put (D := (dC, dI)) (ci := 15) (v := .int 0) (ty := .int) (C := RX14) (T := TX14) (N := 11) hx hb hts hi_dm_X14_read_X14 tyX14 tyX14_ok nmX14 hown hK hP hD hS 0 rfl rfl 9 (by decide) (hts (.fieldLink RX14 68 "TimeMachineModel$Codec" "at" "I") (List.mem_of_getElem? (i := 5) rfl)) (fun _ h9 => h9) rfl (by decide +kernel) rfl rfl (Nat.le_of_ble_eq_true rfl) dX14_read_22 (fun H locs hP hD hS => ?_)
  obtain ⟨s5, es5, h⟩ := nd_let_e h
  have hP : va_P (dC, dI) vwCl (dw_X14 a ac s5) H := by rw [es5]; exact hP
  have hD : va_D A (dw_X14 a ac s5) := by rw [es5]; exact hD
  refine lv_aload_n hx hb dX14_read_25 rfl (lv_at hl 0 rfl) ?_
  obtain ⟨q6, s7, hq, h⟩ := nd_b2_e h
  have hPc := hP
  have hDc := hD
  have hKc := hK
  have hFc := nd_rs hD hS hA
  refine va_calll (va_runV (As := []) (rest := []) ⟨hx, hb, hml, hown, hts⟩ (dm_X14_readVarint l hlt dC dI a ac n  s5 hq _) (cwV 0 hts gi_dm_X14_read_0 rfl rfl rfl (by decide +kernel) ⟨Nat.le_of_ble_eq_true rfl, Nat.le_of_ble_eq_true rfl⟩) ⟨fun a U g mk q => by obtain ⟨q0, q1, qP, qK, qD, qN⟩ := q; exact ⟨q0, q1, qP, va_K.moved (u := U) (U := U.calling g mk a) (Vm.Alike.refl U.vm) qK, qD, nv_same rfl rfl qN⟩, va_recv hKc hPc (ci := 15) (q0 := 0) rfl rfl, fun U hU hW => ⟨rfl, by rw [hU], by rw [hU]; exact hPc, va_K.moved hW.alike hKc, hDc.weaken (fun _ _ _ _ => trivial), nv_call hS hFc hU hW hN⟩⟩ rfl rfl hl.1 rfl (lv_room (Nat.le_of_ble_eq_true rfl)) dX14_read_26 ⟨by decide +kernel, by decide +kernel⟩) hS (fun q _ h => hFc q h) hFc (fun r8 u t H locs ht hvm hw hB hz1 hk1 hS => ?_)
  obtain rfl : q6 = r8 := Eq.symm hw
  obtain ⟨hP1, -, hD1⟩ := hB
  rw [ht] at hP1
  have hP := hP1
  have hD := hD1.weaken (fun k q _ h => hFc q.1 h)
  refine W.widen (k := 0) (n := 0) (Nat.le_refl _) (Nat.le_refl _) ?_
  refine lv_lstore_n (lv' := [(3, .long q6), (0, .ref (a 0)), (1, .ref (a 6)), (2, .int v1)]) hx hb dX14_read_29 rfl hl (by decide) rfl (fun ls hl => ?_)
  refine lv_lload_n hx hb dX14_read_30 rfl (lv_at hl 0 rfl) ?_
  refine lv_ldc2 hx hb hown (hts (.constantLong RX14 106 (2048)) (List.mem_of_getElem? (i := 10) rfl)) dX14_read_31 ?_
  refine W.lcmp hx hb dX14_read_34 ?_
  refine lv_if_le (tgt := 45) hx hb dX14_read_35 (by decide) (fun c9 => ?_) (fun c9 => ?_)
  · have h := nd_pos h c9
    exact (db_X14_read_45 C K n) (q6) s7 _ _ _ h hP hD hS (lv_sub hl [1, 0] rfl)
  · have h := nd_neg h c9
    refine lv_aload_n hx hb dX14_read_38 rfl (lv_at hl 1 rfl) ?_
    refine lv_bipush (v := 6) hx hb dX14_read_39 (by decide) ?_
    refine lv_iconst (v := 0) hx hb dX14_read_41 (by decide) ?_
    obtain ⟨s30, hq, h⟩ := nd_b1_e h
    have hPc := hP
    have hDc := hD
    have hKc := hK
    have hFc := nd_rs hD hS hA
    refine va_callv (va_runV (As := [.int 6, .int 0]) (rest := []) ⟨hx, hb, hml, hown, hts⟩ (dm_X14_meet l hlt dC dI a ac n (6) (0) s7 hq _) (cwV 2 hts gi_dm_X14_read_1 rfl rfl rfl (by decide +kernel) ⟨Nat.le_of_ble_eq_true rfl, Nat.le_of_ble_eq_true rfl⟩) ⟨fun a U g mk q => by obtain ⟨q0, q1, qP, qK, qD, qN⟩ := q; exact ⟨q0, q1, qP, va_K.moved (u := U) (U := U.calling g mk a) (Vm.Alike.refl U.vm) qK, qD, nv_same rfl rfl qN⟩, va_recv hKc hPc (ci := 15) (q0 := 0) rfl rfl, fun U hU hW => ⟨rfl, by rw [hU], by rw [hU]; exact hPc, va_K.moved hW.alike hKc, hDc.weaken (fun _ _ _ _ => trivial), nv_call hS hFc hU hW hN⟩⟩ rfl rfl hl.1 rfl (lv_room (Nat.le_of_ble_eq_true rfl)) dX14_read_42 ⟨by decide +kernel, by decide +kernel⟩) hS (fun q _ h => hFc q h) hFc (fun u t H locs ht hvm hw hB hz1 hk1 hS => ?_)
    obtain ⟨hP1, -, hD1⟩ := hB
    rw [ht] at hP1
    have hP := hP1
    have hD := hD1.weaken (fun k q _ h => hFc q.1 h)
    refine W.widen (k := 0) (n := 0) (Nat.le_refl _) (Nat.le_refl _) ?_
    exact (db_X14_read_45 C K n) (q6) s30 _ _ _ h hP hD hS (lv_sub hl [1, 0] rfl)
set_option maxHeartbeats 40000000 in
set_option maxRecDepth 100000 in
theorem dm_X14_read (l : Launch) (hlt : l.stackTraces = false) (dC : Nat → ClassId) (dI : Nat → Nat → Nat) (a : Nat → Nat) (ac : Nat → ClassId) (n : Nat) (v1 : Int32) (s0 : St) {r : Int32 × (St)} (h : df_X14_read n v1 s0 = some r) (sz : Nat) : Met l yX14_read ow_dm_X14_read ({ frames := 5, cells := 0, slots := 0, locals := 120 }) (va_Pc [.ref (a 0), .ref (a 6), .int v1] (fun U => U.heap.size = sz ∧ va_P (dC, dI) vwCl (dw_X14 a ac s0) U.heap ∧ va_K (dC, dI) vwCl (dk_X14 ac) U ∧ va_D (fun _ => True) (dw_X14 a ac s0) ∧ nv_E (va_A (dw_X14 a ac s0) sz) U)) (va_Qi (fun x _ => x = r.1) (fun (_ : Unit) t => va_P (dC, dI) vwCl (dw_X14 a ac r.2) t.heap ∧ va_K (dC, dI) vwCl (dk_X14 ac) t ∧ va_D (va_A (dw_X14 a ac s0) sz) (dw_X14 a ac r.2)) (va_A (dw_X14 a ac s0) sz)) 0 0 (va_A (dw_X14 a ac s0) sz) := by
  refine Met.ofW (cc := cX14_read) (maxL := 7) (ret := (some .int)) (by decide) rfl ?_
  intro p e s m args below meth c s₁ B hml hv
  obtain ⟨rfl, hsz, hP, hK, hD0, hN⟩ := hv
  have hx := B.exec
  have hb := B.bytes
  have hr := B.returns
  have hts := atoms_spec (ws := ow_dm_X14_read) B.pre
  have hown : s.vm.findClass RX14 = some m.cls := findClass_of_methodNamed B.named
  have hlocks := B.notSynchronized
  subst hsz
  have hD := hD0.self (sz := s.heap.size)
  generalize hAe : va_A (dw_X14 a ac s0) s.heap.size = A at hD hN ⊢
  have hA : ∀ q : Nat, s.heap.size ≤ q → A q := fun q h => by rw [← hAe]; exact Or.inr h
  have hl := lv_entry ([.ref (a 0), .ref (a 6), .int v1]) (n := 7) (Nat.le_of_ble_eq_true rfl)
  rw [lg_entry_eq]
  generalize (lg_sl ([.ref (a 0), .ref (a 6), .int v1]) ++ List.replicate (7 - (lg_sl ([.ref (a 0), .ref (a 6), .int v1])).length) Slot.unset).toArray = ls at hl ⊢
  have hl : lv_has ls 7 [(0, .ref (a 0)), (1, .ref (a 6)), (2, .int v1)] := hl
  exact db_X14_read_0 (dC := dC) (dI := dI) (a := a) (ac := ac) (n := n) (r := r) ⟨hlt, hx, hb, hml, hown, hts, hN, hA, hK⟩ (fun pc v τ H locs ls d z er hP hD hS => by subst er; exact W.zret (v := v) hx hb hr z (fun t ht hW => ⟨⟨v, (), rfl, rfl, by rw [ht]; exact hP, va_K.moved hW.alike hK, hD⟩, hS.F ht⟩) hS.2.2 d) v1 s0 _ _ _ h hP hD va_S.rf (lv_sub hl [0, 1, 2] rfl)
def ow_dm_X17_byteAt : List Cond := .code yX17_byteAt cX17_byteAt 3 (some .int) :: ([.fieldLink RX17 24 "TimeMachineModel$Programs" "image" "[I"] ++ (u_ws RX17 TX17 5 ++ []))
theorem gd_dm_X17_byteAt : ∀ w ∈ ow_dm_X17_byteAt, (w.onTables && w.keeps) = true ∨ ∃ ty, w = Cond.arrayClass ty := List.forall_mem_cons.mpr ⟨good_of_word rfl, List.forall_mem_append.mpr ⟨fun w h => good_of_word (List.all_eq_true.mp (by decide +kernel) w h), List.forall_mem_append.mpr ⟨gu_X17, fun _ h => nomatch h⟩⟩⟩
theorem hi_dm_X17_byteAt_X17 : ∀ w ∈ u_ws RX17 TX17 5, w ∈ ow_dm_X17_byteAt := fun w h => List.mem_cons_of_mem _ (List.mem_append_right _ (List.mem_append_left _ h))
def dj_X17_byteAt_0 (p : Program) (l : Launch) (e : Env) (s : State) (m : MethodId) (args : Array Value) (below : List Frame) (meth : Method) (c : Code) (Q : State → Prop) (A : Nat → Prop) (dC : Nat → ClassId) (dI : Nat → Nat → Nat) (a : Nat → Nat) (ac : Nat → ClassId) (g : Int32 → Int32 → (St) → Option (Int32 × (St))) (r : Int32 × (St)) : Prop := ∀ (v0 : Int32) (v1 : Int32) (s0 : St) (H : Heap) (locs : List Loc) (ls : Array Slot), g v0 v1 s0 = some r → va_P (dC, dI) vwCl (dw_X17 a ac s0) H → va_D A (dw_X17 a ac s0) → va_S A s.heap H locs → lv_has ls 3 [(0, .ref (a 0)), (1, .int v0), (2, .int v1)] → W p l e (headSpec ow_dm_X17_byteAt ({ frames := 0, cells := 0, slots := 0, locals := 0 })).room s m args below meth c H locs 0 0 Q (F0 m 0 ls [])
set_option maxHeartbeats 40000000 in
set_option maxRecDepth 100000 in
theorem db_X17_byteAt_0 {p : Program} {l : Launch} {e : Env} {s : State} {m : MethodId} {args : Array Value} {below : List Frame} {meth : Method} {c : Code} {Q : State → Prop} {A : Nat → Prop} {dC : Nat → ClassId} {dI : Nat → Nat → Nat} {a : Nat → Nat} {ac : Nat → ClassId} {n : Nat} {r : Int32 × (St)} (C : nd_C p l s m args c A (dC, dI) cX17_byteAt 3 RX17 ow_dm_X17_byteAt (dk_X17 ac)) (K : nd_Ki p l e (headSpec ow_dm_X17_byteAt ({ frames := 0, cells := 0, slots := 0, locals := 0 })).room s m args below meth c Q A (dC, dI) cX17_byteAt .int (St) (dw_X17 a ac) r) : dj_X17_byteAt_0 p l e s m args below meth c Q A dC dI a ac (df_X17_byteAt_0 n) r := by
  obtain ⟨hlt, hx, hb, hml, hown, hts, hN, hA, hK⟩ := id C
  intro v0 v1 s0 H locs ls h hP hD hS hl
  unfold df_X17_byteAt_0 at h
  refine lv_aload_n hx hb dX17_byteAt_0 rfl (lv_at hl 0 rfl) ?_
  refine va_get (D := (dC, dI)) (ci := 18) (v := .ref (a 5)) (C := RX17) (T := TX17) (N := 5) hx hb hts hi_dm_X17_byteAt_X17 hown hK hP 0 rfl rfl 4 (by decide) (hts (.fieldLink RX17 24 "TimeMachineModel$Programs" "image" "[I") (List.mem_of_getElem? (i := 1) rfl)) (fun _ h9 => h9) rfl dX17_byteAt_1 ?_
  refine lv_sipush (v := 8192) hx hb dX17_byteAt_4 (by decide) ?_
  refine lv_iload_n hx hb dX17_byteAt_7 rfl (lv_at hl 1 rfl) ?_
  refine lv_imul hx hb dX17_byteAt_8 ?_
  refine lv_iload_n hx hb dX17_byteAt_9 rfl (lv_at hl 2 rfl) ?_
  refine lv_iconst (v := 4) hx hb dX17_byteAt_10 (by decide) ?_
  refine lv_idiv hx hb dX17_byteAt_11 (by decide) ?_
  refine lv_iadd hx hb dX17_byteAt_12 ?_
  obtain ⟨i1, h⟩ := nd_ck_e h
  refine va_iald (i := ((8192 * v0) + ((v1 : Int32) / 4))) hx hb hK hP 5 4 rfl rfl i1 dX17_byteAt_13 ?_
  refine lv_bipush (v := 8) hx hb dX17_byteAt_14 (by decide) ?_
  refine lv_iload_n hx hb dX17_byteAt_16 rfl (lv_at hl 2 rfl) ?_
  refine lv_iconst (v := 4) hx hb dX17_byteAt_17 (by decide) ?_
  refine lv_irem hx hb dX17_byteAt_18 (by decide) ?_
  refine lv_imul hx hb dX17_byteAt_19 ?_
  refine lv_iushr hx hb dX17_byteAt_20 rfl ?_
  refine lv_sipush (v := 255) hx hb dX17_byteAt_21 (by decide) ?_
  refine lv_iand hx hb dX17_byteAt_24 ?_
  exact K _ _ _ _ _ _ dX17_byteAt_25 rfl (Option.some.inj h).symm hP hD hS
set_option maxHeartbeats 40000000 in
set_option maxRecDepth 100000 in
theorem dm_X17_byteAt (l : Launch) (hlt : l.stackTraces = false) (dC : Nat → ClassId) (dI : Nat → Nat → Nat) (a : Nat → Nat) (ac : Nat → ClassId) (n : Nat) (v0 : Int32) (v1 : Int32) (s0 : St) {r : Int32 × (St)} (h : df_X17_byteAt n v0 v1 s0 = some r) (sz : Nat) : Met l yX17_byteAt ow_dm_X17_byteAt ({ frames := 0, cells := 0, slots := 0, locals := 0 }) (va_Pc [.ref (a 0), .int v0, .int v1] (fun U => U.heap.size = sz ∧ va_P (dC, dI) vwCl (dw_X17 a ac s0) U.heap ∧ va_K (dC, dI) vwCl (dk_X17 ac) U ∧ va_D (fun _ => True) (dw_X17 a ac s0) ∧ nv_E (va_A (dw_X17 a ac s0) sz) U)) (va_Qi (fun x _ => x = r.1) (fun (_ : Unit) t => va_P (dC, dI) vwCl (dw_X17 a ac r.2) t.heap ∧ va_K (dC, dI) vwCl (dk_X17 ac) t ∧ va_D (va_A (dw_X17 a ac s0) sz) (dw_X17 a ac r.2)) (va_A (dw_X17 a ac s0) sz)) 0 0 (va_A (dw_X17 a ac s0) sz) := by
  refine Met.ofW (cc := cX17_byteAt) (maxL := 3) (ret := (some .int)) (by decide) rfl ?_
  intro p e s m args below meth c s₁ B hml hv
  obtain ⟨rfl, hsz, hP, hK, hD0, hN⟩ := hv
  have hx := B.exec
  have hb := B.bytes
  have hr := B.returns
  have hts := atoms_spec (ws := ow_dm_X17_byteAt) B.pre
  have hown : s.vm.findClass RX17 = some m.cls := findClass_of_methodNamed B.named
  have hlocks := B.notSynchronized
  subst hsz
  have hD := hD0.self (sz := s.heap.size)
  generalize hAe : va_A (dw_X17 a ac s0) s.heap.size = A at hD hN ⊢
  have hA : ∀ q : Nat, s.heap.size ≤ q → A q := fun q h => by rw [← hAe]; exact Or.inr h
  have hl := lv_entry ([.ref (a 0), .int v0, .int v1]) (n := 3) (Nat.le_of_ble_eq_true rfl)
  rw [lg_entry_eq]
  generalize (lg_sl ([.ref (a 0), .int v0, .int v1]) ++ List.replicate (3 - (lg_sl ([.ref (a 0), .int v0, .int v1])).length) Slot.unset).toArray = ls at hl ⊢
  have hl : lv_has ls 3 [(0, .ref (a 0)), (1, .int v0), (2, .int v1)] := hl
  exact db_X17_byteAt_0 (dC := dC) (dI := dI) (a := a) (ac := ac) (n := n) (r := r) ⟨hlt, hx, hb, hml, hown, hts, hN, hA, hK⟩ (fun pc v τ H locs ls d z er hP hD hS => by subst er; exact W.zret (v := v) hx hb hr z (fun t ht hW => ⟨⟨v, (), rfl, rfl, by rw [ht]; exact hP, va_K.moved hW.alike hK, hD⟩, hS.F ht⟩) hS.2.2 d) v0 v1 s0 _ _ _ h hP hD va_S.rf (lv_sub hl [0, 1, 2] rfl)
def ow_dm_X17_dataSize : List Cond := .code yX17_dataSize cX17_dataSize 2 (some .int) :: ([.fieldLink RX17 20 "TimeMachineModel$Programs" "size" "[I", .fieldLink RX17 17 "TimeMachineModel$Programs" "dataBegin" "[I"] ++ (u_ws RX17 TX17 5 ++ []))
theorem gd_dm_X17_dataSize : ∀ w ∈ ow_dm_X17_dataSize, (w.onTables && w.keeps) = true ∨ ∃ ty, w = Cond.arrayClass ty := List.forall_mem_cons.mpr ⟨good_of_word rfl, List.forall_mem_append.mpr ⟨fun w h => good_of_word (List.all_eq_true.mp (by decide +kernel) w h), List.forall_mem_append.mpr ⟨gu_X17, fun _ h => nomatch h⟩⟩⟩
theorem hi_dm_X17_dataSize_X17 : ∀ w ∈ u_ws RX17 TX17 5, w ∈ ow_dm_X17_dataSize := fun w h => List.mem_cons_of_mem _ (List.mem_append_right _ (List.mem_append_left _ h))
def dj_X17_dataSize_32 (p : Program) (l : Launch) (e : Env) (s : State) (m : MethodId) (args : Array Value) (below : List Frame) (meth : Method) (c : Code) (Q : State → Prop) (A : Nat → Prop) (dC : Nat → ClassId) (dI : Nat → Nat → Nat) (a : Nat → Nat) (ac : Nat → ClassId) (g : Int32 → (St) → Option (Int32 × (St))) (r : Int32 × (St)) : Prop := ∀ (y0 : Int32) (s0 : St) (H : Heap) (locs : List Loc) (ls : Array Slot), g y0 s0 = some r → va_P (dC, dI) vwCl (dw_X17 a ac s0) H → va_D A (dw_X17 a ac s0) → va_S A s.heap H locs → lv_has ls 2 [] → W p l e (headSpec ow_dm_X17_dataSize ({ frames := 0, cells := 0, slots := 0, locals := 0 })).room s m args below meth c H locs 0 0 Q (F0 m 32 ls [.int y0])
def dj_X17_dataSize_0 (p : Program) (l : Launch) (e : Env) (s : State) (m : MethodId) (args : Array Value) (below : List Frame) (meth : Method) (c : Code) (Q : State → Prop) (A : Nat → Prop) (dC : Nat → ClassId) (dI : Nat → Nat → Nat) (a : Nat → Nat) (ac : Nat → ClassId) (g : Int32 → (St) → Option (Int32 × (St))) (r : Int32 × (St)) : Prop := ∀ (v0 : Int32) (s0 : St) (H : Heap) (locs : List Loc) (ls : Array Slot), g v0 s0 = some r → va_P (dC, dI) vwCl (dw_X17 a ac s0) H → va_D A (dw_X17 a ac s0) → va_S A s.heap H locs → lv_has ls 2 [(0, .ref (a 0)), (1, .int v0)] → W p l e (headSpec ow_dm_X17_dataSize ({ frames := 0, cells := 0, slots := 0, locals := 0 })).room s m args below meth c H locs 0 0 Q (F0 m 0 ls [])
set_option maxHeartbeats 40000000 in
set_option maxRecDepth 100000 in
theorem db_X17_dataSize_32 {p : Program} {l : Launch} {e : Env} {s : State} {m : MethodId} {args : Array Value} {below : List Frame} {meth : Method} {c : Code} {Q : State → Prop} {A : Nat → Prop} {dC : Nat → ClassId} {dI : Nat → Nat → Nat} {a : Nat → Nat} {ac : Nat → ClassId} {n : Nat} {r : Int32 × (St)} (C : nd_C p l s m args c A (dC, dI) cX17_dataSize 2 RX17 ow_dm_X17_dataSize (dk_X17 ac)) (K : nd_Ki p l e (headSpec ow_dm_X17_dataSize ({ frames := 0, cells := 0, slots := 0, locals := 0 })).room s m args below meth c Q A (dC, dI) cX17_dataSize .int (St) (dw_X17 a ac) r) : dj_X17_dataSize_32 p l e s m args below meth c Q A dC dI a ac (df_X17_dataSize_32 n) r := by
  obtain ⟨hlt, hx, hb, hml, hown, hts, hN, hA, hK⟩ := id C
  intro y0 s0 H locs ls h hP hD hS hl
  unfold df_X17_dataSize_32 at h
  exact K _ _ _ _ _ _ dX17_dataSize_32 rfl (Option.some.inj h).symm hP hD hS
set_option maxHeartbeats 40000000 in
set_option maxRecDepth 100000 in
theorem db_X17_dataSize_0 {p : Program} {l : Launch} {e : Env} {s : State} {m : MethodId} {args : Array Value} {below : List Frame} {meth : Method} {c : Code} {Q : State → Prop} {A : Nat → Prop} {dC : Nat → ClassId} {dI : Nat → Nat → Nat} {a : Nat → Nat} {ac : Nat → ClassId} {n : Nat} {r : Int32 × (St)} (C : nd_C p l s m args c A (dC, dI) cX17_dataSize 2 RX17 ow_dm_X17_dataSize (dk_X17 ac)) (K : nd_Ki p l e (headSpec ow_dm_X17_dataSize ({ frames := 0, cells := 0, slots := 0, locals := 0 })).room s m args below meth c Q A (dC, dI) cX17_dataSize .int (St) (dw_X17 a ac) r) : dj_X17_dataSize_0 p l e s m args below meth c Q A dC dI a ac (df_X17_dataSize_0 n) r := by
  obtain ⟨hlt, hx, hb, hml, hown, hts, hN, hA, hK⟩ := id C
  intro v0 s0 H locs ls h hP hD hS hl
  unfold df_X17_dataSize_0 at h
  refine lv_aload_n hx hb dX17_dataSize_0 rfl (lv_at hl 0 rfl) ?_
  refine va_get (D := (dC, dI)) (ci := 18) (v := .ref (a 4)) (C := RX17) (T := TX17) (N := 5) hx hb hts hi_dm_X17_dataSize_X17 hown hK hP 0 rfl rfl 3 (by decide) (hts (.fieldLink RX17 20 "TimeMachineModel$Programs" "size" "[I") (List.mem_of_getElem? (i := 1) rfl)) (fun _ h9 => h9) rfl dX17_dataSize_1 ?_
  refine lv_iload_n hx hb dX17_dataSize_4 rfl (lv_at hl 1 rfl) ?_
  obtain ⟨i1, h⟩ := nd_ck_e h
  refine va_iald (i := v0) hx hb hK hP 4 3 rfl rfl i1 dX17_dataSize_5 ?_
  refine lv_aload_n hx hb dX17_dataSize_6 rfl (lv_at hl 0 rfl) ?_
  refine va_get (D := (dC, dI)) (ci := 18) (v := .ref (a 3)) (C := RX17) (T := TX17) (N := 5) hx hb hts hi_dm_X17_dataSize_X17 hown hK hP 0 rfl rfl 2 (by decide) (hts (.fieldLink RX17 17 "TimeMachineModel$Programs" "dataBegin" "[I") (List.mem_of_getElem? (i := 2) rfl)) (fun _ h9 => h9) rfl dX17_dataSize_7 ?_
  refine lv_iload_n hx hb dX17_dataSize_10 rfl (lv_at hl 1 rfl) ?_
  obtain ⟨i2, h⟩ := nd_ck_e h
  refine va_iald (i := v0) hx hb hK hP 3 2 rfl rfl i2 dX17_dataSize_11 ?_
  refine lv_icmp_le (tgt := 31) hx hb dX17_dataSize_12 (by decide) (fun c3 => ?_) (fun c3 => ?_)
  · have h := nd_pos h c3
    refine lv_iconst (v := 0) hx hb dX17_dataSize_31 (by decide) ?_
    exact (db_X17_dataSize_32 C K) (0) s0 _ _ _ h hP hD hS (lv_sub hl [] rfl)
  · have h := nd_neg h c3
    refine lv_aload_n hx hb dX17_dataSize_15 rfl (lv_at hl 0 rfl) ?_
    refine va_get (D := (dC, dI)) (ci := 18) (v := .ref (a 4)) (C := RX17) (T := TX17) (N := 5) hx hb hts hi_dm_X17_dataSize_X17 hown hK hP 0 rfl rfl 3 (by decide) (hts (.fieldLink RX17 20 "TimeMachineModel$Programs" "size" "[I") (List.mem_of_getElem? (i := 1) rfl)) (fun _ h9 => h9) rfl dX17_dataSize_16 ?_
    refine lv_iload_n hx hb dX17_dataSize_19 rfl (lv_at hl 1 rfl) ?_
    obtain ⟨i4, h⟩ := nd_ck_e h
    refine va_iald (i := v0) hx hb hK hP 4 3 rfl rfl i4 dX17_dataSize_20 ?_
    refine lv_aload_n hx hb dX17_dataSize_21 rfl (lv_at hl 0 rfl) ?_
    refine va_get (D := (dC, dI)) (ci := 18) (v := .ref (a 3)) (C := RX17) (T := TX17) (N := 5) hx hb hts hi_dm_X17_dataSize_X17 hown hK hP 0 rfl rfl 2 (by decide) (hts (.fieldLink RX17 17 "TimeMachineModel$Programs" "dataBegin" "[I") (List.mem_of_getElem? (i := 2) rfl)) (fun _ h9 => h9) rfl dX17_dataSize_22 ?_
    refine lv_iload_n hx hb dX17_dataSize_25 rfl (lv_at hl 1 rfl) ?_
    obtain ⟨i5, h⟩ := nd_ck_e h
    refine va_iald (i := v0) hx hb hK hP 3 2 rfl rfl i5 dX17_dataSize_26 ?_
    refine lv_isub hx hb dX17_dataSize_27 ?_
    refine lv_goto (tgt := 32) hx hb dX17_dataSize_28 (by decide) ?_
    exact (db_X17_dataSize_32 C K) (((sR s0 3 (Int32.toNatClampNeg v0)) - (sR s0 2 (Int32.toNatClampNeg v0)))) s0 _ _ _ h hP hD hS (lv_sub hl [] rfl)
set_option maxHeartbeats 40000000 in
set_option maxRecDepth 100000 in
theorem dm_X17_dataSize (l : Launch) (hlt : l.stackTraces = false) (dC : Nat → ClassId) (dI : Nat → Nat → Nat) (a : Nat → Nat) (ac : Nat → ClassId) (n : Nat) (v0 : Int32) (s0 : St) {r : Int32 × (St)} (h : df_X17_dataSize n v0 s0 = some r) (sz : Nat) : Met l yX17_dataSize ow_dm_X17_dataSize ({ frames := 0, cells := 0, slots := 0, locals := 0 }) (va_Pc [.ref (a 0), .int v0] (fun U => U.heap.size = sz ∧ va_P (dC, dI) vwCl (dw_X17 a ac s0) U.heap ∧ va_K (dC, dI) vwCl (dk_X17 ac) U ∧ va_D (fun _ => True) (dw_X17 a ac s0) ∧ nv_E (va_A (dw_X17 a ac s0) sz) U)) (va_Qi (fun x _ => x = r.1) (fun (_ : Unit) t => va_P (dC, dI) vwCl (dw_X17 a ac r.2) t.heap ∧ va_K (dC, dI) vwCl (dk_X17 ac) t ∧ va_D (va_A (dw_X17 a ac s0) sz) (dw_X17 a ac r.2)) (va_A (dw_X17 a ac s0) sz)) 0 0 (va_A (dw_X17 a ac s0) sz) := by
  refine Met.ofW (cc := cX17_dataSize) (maxL := 2) (ret := (some .int)) (by decide) rfl ?_
  intro p e s m args below meth c s₁ B hml hv
  obtain ⟨rfl, hsz, hP, hK, hD0, hN⟩ := hv
  have hx := B.exec
  have hb := B.bytes
  have hr := B.returns
  have hts := atoms_spec (ws := ow_dm_X17_dataSize) B.pre
  have hown : s.vm.findClass RX17 = some m.cls := findClass_of_methodNamed B.named
  have hlocks := B.notSynchronized
  subst hsz
  have hD := hD0.self (sz := s.heap.size)
  generalize hAe : va_A (dw_X17 a ac s0) s.heap.size = A at hD hN ⊢
  have hA : ∀ q : Nat, s.heap.size ≤ q → A q := fun q h => by rw [← hAe]; exact Or.inr h
  have hl := lv_entry ([.ref (a 0), .int v0]) (n := 2) (Nat.le_of_ble_eq_true rfl)
  rw [lg_entry_eq]
  generalize (lg_sl ([.ref (a 0), .int v0]) ++ List.replicate (2 - (lg_sl ([.ref (a 0), .int v0])).length) Slot.unset).toArray = ls at hl ⊢
  have hl : lv_has ls 2 [(0, .ref (a 0)), (1, .int v0)] := hl
  exact db_X17_dataSize_0 (dC := dC) (dI := dI) (a := a) (ac := ac) (n := n) (r := r) ⟨hlt, hx, hb, hml, hown, hts, hN, hA, hK⟩ (fun pc v τ H locs ls d z er hP hD hS => by subst er; exact W.zret (v := v) hx hb hr z (fun t ht hW => ⟨⟨v, (), rfl, rfl, by rw [ht]; exact hP, va_K.moved hW.alike hK, hD⟩, hS.F ht⟩) hS.2.2 d) v0 s0 _ _ _ h hP hD va_S.rf (lv_sub hl [0, 1] rfl)
def ow_dm_X18_part : List Cond := .code yX18_part cX18_part 3 (some .int) :: ([.fieldLink RX18 20 "TimeMachineModel$Reader" "bits" "I"] ++ (u_ws RX18 TX18 10 ++ []))
theorem gd_dm_X18_part : ∀ w ∈ ow_dm_X18_part, (w.onTables && w.keeps) = true ∨ ∃ ty, w = Cond.arrayClass ty := List.forall_mem_cons.mpr ⟨good_of_word rfl, List.forall_mem_append.mpr ⟨fun w h => good_of_word (List.all_eq_true.mp (by decide +kernel) w h), List.forall_mem_append.mpr ⟨gu_X18, fun _ h => nomatch h⟩⟩⟩
theorem hi_dm_X18_part_X18 : ∀ w ∈ u_ws RX18 TX18 10, w ∈ ow_dm_X18_part := fun w h => List.mem_cons_of_mem _ (List.mem_append_right _ (List.mem_append_left _ h))
def dj_X18_part_0 (p : Program) (l : Launch) (e : Env) (s : State) (m : MethodId) (args : Array Value) (below : List Frame) (meth : Method) (c : Code) (Q : State → Prop) (A : Nat → Prop) (dC : Nat → ClassId) (dI : Nat → Nat → Nat) (a : Nat → Nat) (ac : Nat → ClassId) (g : Int32 → Int32 → (St) → Option (Int32 × (St))) (r : Int32 × (St)) : Prop := ∀ (v0 : Int32) (v1 : Int32) (s0 : St) (H : Heap) (locs : List Loc) (ls : Array Slot), g v0 v1 s0 = some r → va_P (dC, dI) vwCl (dw_X18 a ac s0) H → va_D A (dw_X18 a ac s0) → va_S A s.heap H locs → lv_has ls 3 [(0, .ref (a 0)), (1, .int v0), (2, .int v1)] → W p l e (headSpec ow_dm_X18_part ({ frames := 0, cells := 0, slots := 0, locals := 0 })).room s m args below meth c H locs 0 0 Q (F0 m 0 ls [])
set_option maxHeartbeats 40000000 in
set_option maxRecDepth 100000 in
theorem db_X18_part_0 {p : Program} {l : Launch} {e : Env} {s : State} {m : MethodId} {args : Array Value} {below : List Frame} {meth : Method} {c : Code} {Q : State → Prop} {A : Nat → Prop} {dC : Nat → ClassId} {dI : Nat → Nat → Nat} {a : Nat → Nat} {ac : Nat → ClassId} {n : Nat} {r : Int32 × (St)} (C : nd_C p l s m args c A (dC, dI) cX18_part 3 RX18 ow_dm_X18_part (dk_X18 ac)) (K : nd_Ki p l e (headSpec ow_dm_X18_part ({ frames := 0, cells := 0, slots := 0, locals := 0 })).room s m args below meth c Q A (dC, dI) cX18_part .int (St) (dw_X18 a ac) r) : dj_X18_part_0 p l e s m args below meth c Q A dC dI a ac (df_X18_part_0 n) r := by
  obtain ⟨hlt, hx, hb, hml, hown, hts, hN, hA, hK⟩ := id C
  intro v0 v1 s0 H locs ls h hP hD hS hl
  unfold df_X18_part_0 at h
  refine lv_aload_n hx hb dX18_part_0 rfl (lv_at hl 0 rfl) ?_
  refine va_get (D := (dC, dI)) (ci := 19) (v := .int (sI s0 3)) (C := RX18) (T := TX18) (N := 10) hx hb hts hi_dm_X18_part_X18 hown hK hP 0 rfl rfl 4 (by decide) (hts (.fieldLink RX18 20 "TimeMachineModel$Reader" "bits" "I") (List.mem_of_getElem? (i := 1) rfl)) (fun _ h9 => h9) rfl dX18_part_1 ?_
  refine lv_iload_n hx hb dX18_part_4 rfl (lv_at hl 1 rfl) ?_
  refine lv_iushr hx hb dX18_part_5 rfl ?_
  refine lv_iconst (v := 1) hx hb dX18_part_6 (by decide) ?_
  refine lv_iload_n hx hb dX18_part_7 rfl (lv_at hl 2 rfl) ?_
  refine lv_ishl hx hb dX18_part_8 ?_
  refine lv_iconst (v := 1) hx hb dX18_part_9 (by decide) ?_
  refine lv_isub hx hb dX18_part_10 ?_
  refine lv_iand hx hb dX18_part_11 ?_
  exact K _ _ _ _ _ _ dX18_part_12 rfl (Option.some.inj h).symm hP hD hS
set_option maxHeartbeats 40000000 in
set_option maxRecDepth 100000 in
theorem dm_X18_part (l : Launch) (hlt : l.stackTraces = false) (dC : Nat → ClassId) (dI : Nat → Nat → Nat) (a : Nat → Nat) (ac : Nat → ClassId) (n : Nat) (v0 : Int32) (v1 : Int32) (s0 : St) {r : Int32 × (St)} (h : df_X18_part n v0 v1 s0 = some r) (sz : Nat) : Met l yX18_part ow_dm_X18_part ({ frames := 0, cells := 0, slots := 0, locals := 0 }) (va_Pc [.ref (a 0), .int v0, .int v1] (fun U => U.heap.size = sz ∧ va_P (dC, dI) vwCl (dw_X18 a ac s0) U.heap ∧ va_K (dC, dI) vwCl (dk_X18 ac) U ∧ va_D (fun _ => True) (dw_X18 a ac s0) ∧ nv_E (va_A (dw_X18 a ac s0) sz) U)) (va_Qi (fun x _ => x = r.1) (fun (_ : Unit) t => va_P (dC, dI) vwCl (dw_X18 a ac r.2) t.heap ∧ va_K (dC, dI) vwCl (dk_X18 ac) t ∧ va_D (va_A (dw_X18 a ac s0) sz) (dw_X18 a ac r.2)) (va_A (dw_X18 a ac s0) sz)) 0 0 (va_A (dw_X18 a ac s0) sz) := by
  refine Met.ofW (cc := cX18_part) (maxL := 3) (ret := (some .int)) (by decide) rfl ?_
  intro p e s m args below meth c s₁ B hml hv
  obtain ⟨rfl, hsz, hP, hK, hD0, hN⟩ := hv
  have hx := B.exec
  have hb := B.bytes
  have hr := B.returns
  have hts := atoms_spec (ws := ow_dm_X18_part) B.pre
  have hown : s.vm.findClass RX18 = some m.cls := findClass_of_methodNamed B.named
  have hlocks := B.notSynchronized
  subst hsz
  have hD := hD0.self (sz := s.heap.size)
  generalize hAe : va_A (dw_X18 a ac s0) s.heap.size = A at hD hN ⊢
  have hA : ∀ q : Nat, s.heap.size ≤ q → A q := fun q h => by rw [← hAe]; exact Or.inr h
  have hl := lv_entry ([.ref (a 0), .int v0, .int v1]) (n := 3) (Nat.le_of_ble_eq_true rfl)
  rw [lg_entry_eq]
  generalize (lg_sl ([.ref (a 0), .int v0, .int v1]) ++ List.replicate (3 - (lg_sl ([.ref (a 0), .int v0, .int v1])).length) Slot.unset).toArray = ls at hl ⊢
  have hl : lv_has ls 3 [(0, .ref (a 0)), (1, .int v0), (2, .int v1)] := hl
  exact db_X18_part_0 (dC := dC) (dI := dI) (a := a) (ac := ac) (n := n) (r := r) ⟨hlt, hx, hb, hml, hown, hts, hN, hA, hK⟩ (fun pc v τ H locs ls d z er hP hD hS => by subst er; exact W.zret (v := v) hx hb hr z (fun t ht hW => ⟨⟨v, (), rfl, rfl, by rw [ht]; exact hP, va_K.moved hW.alike hK, hD⟩, hS.F ht⟩) hS.2.2 d) v0 v1 s0 _ _ _ h hP hD va_S.rf (lv_sub hl [0, 1, 2] rfl)
def ow_dm_X18_put : List Cond := .code yX18_put cX18_put 2 none :: ([.fieldLink RX18 7 "TimeMachineModel$Reader" "text" "[C", .fieldLink RX18 24 "TimeMachineModel$Reader" "size" "I"] ++ (u_ws RX18 TX18 10 ++ []))
theorem gd_dm_X18_put : ∀ w ∈ ow_dm_X18_put, (w.onTables && w.keeps) = true ∨ ∃ ty, w = Cond.arrayClass ty := List.forall_mem_cons.mpr ⟨good_of_word rfl, List.forall_mem_append.mpr ⟨fun w h => good_of_word (List.all_eq_true.mp (by decide +kernel) w h), List.forall_mem_append.mpr ⟨gu_X18, fun _ h => nomatch h⟩⟩⟩
theorem hi_dm_X18_put_X18 : ∀ w ∈ u_ws RX18 TX18 10, w ∈ ow_dm_X18_put := fun w h => List.mem_cons_of_mem _ (List.mem_append_right _ (List.mem_append_left _ h))
def dj_X18_put_0 (p : Program) (l : Launch) (e : Env) (s : State) (m : MethodId) (args : Array Value) (below : List Frame) (meth : Method) (c : Code) (Q : State → Prop) (A : Nat → Prop) (dC : Nat → ClassId) (dI : Nat → Nat → Nat) (a : Nat → Nat) (ac : Nat → ClassId) (g : Int32 → (St) → Option (St)) (r : St) : Prop := ∀ (v0 : Int32) (s0 : St) (H : Heap) (locs : List Loc) (ls : Array Slot), g v0 s0 = some r → va_P (dC, dI) vwCl (dw_X18 a ac s0) H → va_D A (dw_X18 a ac s0) → va_S A s.heap H locs → lv_has ls 2 [(0, .ref (a 0)), (1, .int v0)] → W p l e (headSpec ow_dm_X18_put ({ frames := 0, cells := 0, slots := 0, locals := 0 })).room s m args below meth c H locs 0 0 Q (F0 m 0 ls [])
set_option maxHeartbeats 40000000 in
set_option maxRecDepth 100000 in
theorem db_X18_put_0 {p : Program} {l : Launch} {e : Env} {s : State} {m : MethodId} {args : Array Value} {below : List Frame} {meth : Method} {c : Code} {Q : State → Prop} {A : Nat → Prop} {dC : Nat → ClassId} {dI : Nat → Nat → Nat} {a : Nat → Nat} {ac : Nat → ClassId} {n : Nat} {r : St} (C : nd_C p l s m args c A (dC, dI) cX18_put 2 RX18 ow_dm_X18_put (dk_X18 ac)) (K : nd_Kv p l e (headSpec ow_dm_X18_put ({ frames := 0, cells := 0, slots := 0, locals := 0 })).room s m args below meth c Q A (dC, dI) cX18_put (St) (dw_X18 a ac) r) : dj_X18_put_0 p l e s m args below meth c Q A dC dI a ac (df_X18_put_0 n) r := by
  obtain ⟨hlt, hx, hb, hml, hown, hts, hN, hA, hK⟩ := id C
  intro v0 s0 H locs ls h hP hD hS hl
  unfold df_X18_put_0 at h
  refine lv_aload_n hx hb dX18_put_0 rfl (lv_at hl 0 rfl) ?_
  refine va_get (D := (dC, dI)) (ci := 19) (v := .ref (a 1)) (C := RX18) (T := TX18) (N := 10) hx hb hts hi_dm_X18_put_X18 hown hK hP 0 rfl rfl 0 (by decide) (hts (.fieldLink RX18 7 "TimeMachineModel$Reader" "text" "[C") (List.mem_of_getElem? (i := 1) rfl)) (fun _ h9 => h9) rfl dX18_put_1 ?_
  refine lv_aload_n hx hb dX18_put_4 rfl (lv_at hl 0 rfl) ?_
  refine va_get (D := (dC, dI)) (ci := 19) (v := .int (sI s0 0)) (C := RX18) (T := TX18) (N := 10) hx hb hts hi_dm_X18_put_X18 hown hK hP 0 rfl rfl 1 (by decide) (hts (.fieldLink RX18 24 "TimeMachineModel$Reader" "size" "I") (List.mem_of_getElem? (i := 2) rfl)) (fun _ h9 => h9) rfl dX18_put_5 ?_
  refine lv_iload_n hx hb dX18_put_8 rfl (lv_at hl 1 rfl) ?_
  refine lv_i2c hx hb dX18_put_9 rfl ?_
  obtain ⟨i1, h⟩ := nd_ck_e h
  refine va_cast (i := (sI s0 0)) (x := (v0.toUInt32.toUInt16.toUInt32.toInt32)) hx hb hK hP hD hS 1 0 rfl rfl i1 dX18_put_10 (fun H locs hP hD hS => ?_)
  obtain ⟨s2, es2, h⟩ := nd_let_e h
  have hP : va_P (dC, dI) vwCl (dw_X18 a ac s2) H := by rw [es2]; exact hP
  have hD : va_D A (dw_X18 a ac s2) := by rw [es2]; exact hD
  refine lv_aload_n hx hb dX18_put_11 rfl (lv_at hl 0 rfl) ?_
  refine lv_dup hx hb dX18_put_12 rfl ?_
  refine va_get (D := (dC, dI)) (ci := 19) (v := .int (sI s2 0)) (C := RX18) (T := TX18) (N := 10) hx hb hts hi_dm_X18_put_X18 hown hK hP 0 rfl rfl 1 (by decide) (hts (.fieldLink RX18 24 "TimeMachineModel$Reader" "size" "I") (List.mem_of_getElem? (i := 2) rfl)) (fun _ h9 => h9) rfl dX18_put_13 ?_
  refine lv_iconst (v := 1) hx hb dX18_put_16 (by decide) ?_
  refine lv_iadd hx hb dX18_put_17 ?_
  refine va_put (D := (dC, dI)) (ci := 19) (v := .int ((sI s2 0) + 1)) (ty := .int) (C := RX18) (T := TX18) (N := 10) hx hb hts hi_dm_X18_put_X18 tyX18 tyX18_ok nmX18 hown hK hP hD hS 0 rfl rfl 1 (by decide) (hts (.fieldLink RX18 24 "TimeMachineModel$Reader" "size" "I") (List.mem_of_getElem? (i := 2) rfl)) (fun _ h9 => h9) rfl (by decide +kernel) rfl rfl (Nat.le_of_ble_eq_true rfl) dX18_put_18 (fun H locs hP hD hS => ?_)
  obtain ⟨s3, es3, h⟩ := nd_let_e h
  have hP : va_P (dC, dI) vwCl (dw_X18 a ac s3) H := by rw [es3]; exact hP
  have hD : va_D A (dw_X18 a ac s3) := by rw [es3]; exact hD
  exact K _ _ _ _ _ dX18_put_21 (Option.some.inj h).symm hP hD hS
set_option maxHeartbeats 40000000 in
set_option maxRecDepth 100000 in
theorem dm_X18_put (l : Launch) (hlt : l.stackTraces = false) (dC : Nat → ClassId) (dI : Nat → Nat → Nat) (a : Nat → Nat) (ac : Nat → ClassId) (n : Nat) (v0 : Int32) (s0 : St) {r : St} (h : df_X18_put n v0 s0 = some r) (sz : Nat) : Met l yX18_put ow_dm_X18_put ({ frames := 0, cells := 0, slots := 0, locals := 0 }) (va_Pc [.ref (a 0), .int v0] (fun U => U.heap.size = sz ∧ va_P (dC, dI) vwCl (dw_X18 a ac s0) U.heap ∧ va_K (dC, dI) vwCl (dk_X18 ac) U ∧ va_D (fun _ => True) (dw_X18 a ac s0) ∧ nv_E (va_A (dw_X18 a ac s0) sz) U)) (va_Qv (fun _ => True) (fun (_ : Unit) t => va_P (dC, dI) vwCl (dw_X18 a ac r) t.heap ∧ va_K (dC, dI) vwCl (dk_X18 ac) t ∧ va_D (va_A (dw_X18 a ac s0) sz) (dw_X18 a ac r)) (va_A (dw_X18 a ac s0) sz)) 0 0 (va_A (dw_X18 a ac s0) sz) := by
  refine Met.ofW (cc := cX18_put) (maxL := 2) (ret := none) (by decide) rfl ?_
  intro p e s m args below meth c s₁ B hml hv
  obtain ⟨rfl, hsz, hP, hK, hD0, hN⟩ := hv
  have hx := B.exec
  have hb := B.bytes
  have hr := B.returns
  have hts := atoms_spec (ws := ow_dm_X18_put) B.pre
  have hown : s.vm.findClass RX18 = some m.cls := findClass_of_methodNamed B.named
  have hlocks := B.notSynchronized
  subst hsz
  have hD := hD0.self (sz := s.heap.size)
  generalize hAe : va_A (dw_X18 a ac s0) s.heap.size = A at hD hN ⊢
  have hA : ∀ q : Nat, s.heap.size ≤ q → A q := fun q h => by rw [← hAe]; exact Or.inr h
  have hl := lv_entry ([.ref (a 0), .int v0]) (n := 2) (Nat.le_of_ble_eq_true rfl)
  rw [lg_entry_eq]
  generalize (lg_sl ([.ref (a 0), .int v0]) ++ List.replicate (2 - (lg_sl ([.ref (a 0), .int v0])).length) Slot.unset).toArray = ls at hl ⊢
  have hl : lv_has ls 2 [(0, .ref (a 0)), (1, .int v0)] := hl
  exact db_X18_put_0 (dC := dC) (dI := dI) (a := a) (ac := ac) (n := n) (r := r) ⟨hlt, hx, hb, hml, hown, hts, hN, hA, hK⟩ (fun pc τ H locs ls d er hP hD hS => by subst er; exact W.vret hx hb hr (fun t ht hW => ⟨⟨(), rfl, trivial, by rw [ht]; exact hP, va_K.moved hW.alike hK, hD⟩, hS.F ht⟩) hS.2.2 d) v0 s0 _ _ _ h hP hD va_S.rf (lv_sub hl [0, 1] rfl)
def ow_dm_X18_say : List Cond := .code yX18_say cX18_say 5 none :: ([.constantLong RX18 27 (255), .methodLink RX18 29 yX18_put, .instanceMethod yX18_put, .selects RX18 yX18_put yX18_put, .initialized RX18] ++ (ow_dm_X18_put ++ []))
theorem gd_dm_X18_say : ∀ w ∈ ow_dm_X18_say, (w.onTables && w.keeps) = true ∨ ∃ ty, w = Cond.arrayClass ty := List.forall_mem_cons.mpr ⟨good_of_word rfl, List.forall_mem_append.mpr ⟨fun w h => good_of_word (List.all_eq_true.mp (by decide +kernel) w h), List.forall_mem_append.mpr ⟨gd_dm_X18_put, fun _ h => nomatch h⟩⟩⟩
theorem gi_dm_X18_say_0 : GoodIn ow_dm_X18_say (wsV RX18 29 RX18 yX18_put ow_dm_X18_put) := goodIn_app (goodIn_of _ (by decide +kernel)) (fun w h => ⟨List.mem_cons_of_mem _ (List.mem_append_right _ (List.mem_append_left _ h)), gd_dm_X18_put w h⟩)
def dj_X18_say_2 (p : Program) (l : Launch) (e : Env) (s : State) (m : MethodId) (args : Array Value) (below : List Frame) (meth : Method) (c : Code) (Q : State → Prop) (A : Nat → Prop) (dC : Nat → ClassId) (dI : Nat → Nat → Nat) (a : Nat → Nat) (ac : Nat → ClassId) (g : Int64 → (St) → Option (St)) (r : St) : Prop := ∀ (x3 : Int64) (s0 : St) (H : Heap) (locs : List Loc) (ls : Array Slot), g x3 s0 = some r → va_P (dC, dI) vwCl (dw_X18 a ac s0) H → va_D A (dw_X18 a ac s0) → va_S A s.heap H locs → lv_has ls 5 [(0, .ref (a 0)), (3, .long x3)] → W p l e (headSpec ow_dm_X18_say ({ frames := 1, cells := 0, slots := 0, locals := 21 })).room s m args below meth c H locs 0 0 Q (F0 m 2 ls [])
def dj_X18_say_0 (p : Program) (l : Launch) (e : Env) (s : State) (m : MethodId) (args : Array Value) (below : List Frame) (meth : Method) (c : Code) (Q : State → Prop) (A : Nat → Prop) (dC : Nat → ClassId) (dI : Nat → Nat → Nat) (a : Nat → Nat) (ac : Nat → ClassId) (g : Int64 → (St) → Option (St)) (r : St) : Prop := ∀ (v0 : Int64) (s0 : St) (H : Heap) (locs : List Loc) (ls : Array Slot), g v0 s0 = some r → va_P (dC, dI) vwCl (dw_X18 a ac s0) H → va_D A (dw_X18 a ac s0) → va_S A s.heap H locs → lv_has ls 5 [(0, .ref (a 0)), (1, .long v0)] → W p l e (headSpec ow_dm_X18_say ({ frames := 1, cells := 0, slots := 0, locals := 21 })).room s m args below meth c H locs 0 0 Q (F0 m 0 ls [])
set_option maxHeartbeats 40000000 in
set_option maxRecDepth 100000 in
theorem dB_X18_say_2 {p : Program} {l : Launch} {e : Env} {s : State} {m : MethodId} {args : Array Value} {below : List Frame} {meth : Method} {c : Code} {Q : State → Prop} {A : Nat → Prop} {dC : Nat → ClassId} {dI : Nat → Nat → Nat} {a : Nat → Nat} {ac : Nat → ClassId} {n : Nat} {r : St} (C : nd_C p l s m args c A (dC, dI) cX18_say 5 RX18 ow_dm_X18_say (dk_X18 ac)) (K : nd_Kv p l e (headSpec ow_dm_X18_say ({ frames := 1, cells := 0, slots := 0, locals := 21 })).room s m args below meth c Q A (dC, dI) cX18_say (St) (dw_X18 a ac) r) {g2 : Int64 → (St) → Option (St)} (J2 : dj_X18_say_2 p l e s m args below meth c Q A dC dI a ac g2 r) : dj_X18_say_2 p l e s m args below meth c Q A dC dI a ac (dF_X18_say_2 n g2) r := by
  obtain ⟨hlt, hx, hb, hml, hown, hts, hN, hA, hK⟩ := id C
  intro x3 s0 H locs ls h hP hD hS hl
  unfold dF_X18_say_2 at h
  refine lv_lload_n hx hb dX18_say_2 rfl (lv_at hl 1 rfl) ?_
  refine lv_lconst (v := 0) hx hb dX18_say_3 (by decide) ?_
  refine W.lcmp hx hb dX18_say_4 ?_
  refine lv_if_eq (tgt := 26) hx hb dX18_say_5 (by decide) (fun c1 => ?_) (fun c1 => ?_)
  · have h := nd_pos h c1
    exact K _ _ _ _ _ dX18_say_26 (Option.some.inj h).symm hP hD hS
  · have h := nd_neg h c1
    refine lv_aload_n hx hb dX18_say_8 rfl (lv_at hl 0 rfl) ?_
    refine lv_lload_n hx hb dX18_say_9 rfl (lv_at hl 1 rfl) ?_
    refine lv_ldc2 hx hb hown (hts (.constantLong RX18 27 (255)) (List.mem_of_getElem? (i := 1) rfl)) dX18_say_10 ?_
    refine lv_land hx hb dX18_say_13 ?_
    refine lv_l2i hx hb dX18_say_14 rfl ?_
    obtain ⟨s3, hq, h⟩ := nd_b1_e h
    have hPc := hP
    have hDc := hD
    have hKc := hK
    have hFc := nd_rs hD hS hA
    refine va_callv (va_runV (As := [.int (((x3 : Int64) &&& 255).toInt32)]) (rest := []) ⟨hx, hb, hml, hown, hts⟩ (dm_X18_put l hlt dC dI a ac n ((((x3 : Int64) &&& 255).toInt32)) s0 hq _) (cwV 1 hts gi_dm_X18_say_0 rfl rfl rfl (by decide +kernel) ⟨Nat.le_of_ble_eq_true rfl, Nat.le_of_ble_eq_true rfl⟩) ⟨fun a U g mk q => by obtain ⟨q0, q1, qP, qK, qD, qN⟩ := q; exact ⟨q0, q1, qP, va_K.moved (u := U) (U := U.calling g mk a) (Vm.Alike.refl U.vm) qK, qD, nv_same rfl rfl qN⟩, va_recv hKc hPc (ci := 19) (q0 := 0) rfl rfl, fun U hU hW => ⟨rfl, by rw [hU], by rw [hU]; exact hPc, va_K.moved hW.alike hKc, hDc.weaken (fun _ _ _ _ => trivial), nv_call hS hFc hU hW hN⟩⟩ rfl rfl hl.1 rfl (lv_room (Nat.le_of_ble_eq_true rfl)) dX18_say_15 ⟨by decide +kernel, by decide +kernel⟩) hS (fun q _ h => hFc q h) hFc (fun u t H locs ht hvm hw hB hz1 hk1 hS => ?_)
    obtain ⟨hP1, -, hD1⟩ := hB
    rw [ht] at hP1
    have hP := hP1
    have hD := hD1.weaken (fun k q _ h => hFc q.1 h)
    refine W.widen (k := 0) (n := 0) (Nat.le_refl _) (Nat.le_refl _) ?_
    refine lv_lload_n hx hb dX18_say_18 rfl (lv_at hl 1 rfl) ?_
    refine lv_bipush (v := 8) hx hb dX18_say_19 (by decide) ?_
    refine lv_lushr hx hb dX18_say_21 rfl ?_
    refine lv_topl (fun z5 ez5 => ?_)
    have h := nd_at h ez5
    refine lv_lstore_n (lv' := [(3, .long z5), (0, .ref (a 0))]) hx hb dX18_say_22 rfl hl (by decide) rfl (fun ls hl => ?_)
    refine lv_goto (tgt := 2) hx hb dX18_say_23 (by decide) ?_
    exact (J2) (z5) s3 _ _ _ h hP hD hS (lv_sub hl [1, 0] rfl)
set_option maxHeartbeats 40000000 in
set_option maxRecDepth 100000 in
theorem db_X18_say_2 {p : Program} {l : Launch} {e : Env} {s : State} {m : MethodId} {args : Array Value} {below : List Frame} {meth : Method} {c : Code} {Q : State → Prop} {A : Nat → Prop} {dC : Nat → ClassId} {dI : Nat → Nat → Nat} {a : Nat → Nat} {ac : Nat → ClassId} {n : Nat} {r : St} (C : nd_C p l s m args c A (dC, dI) cX18_say 5 RX18 ow_dm_X18_say (dk_X18 ac)) (K : nd_Kv p l e (headSpec ow_dm_X18_say ({ frames := 1, cells := 0, slots := 0, locals := 21 })).room s m args below meth c Q A (dC, dI) cX18_say (St) (dw_X18 a ac) r) (k : Nat) : dj_X18_say_2 p l e s m args below meth c Q A dC dI a ac (df_X18_say_2 n k) r := by
  induction k with
  | zero => intro x3 s0 H locs ls h; exact nomatch (show (none : Option (St)) = some r from h)
  | succ k ih => exact dB_X18_say_2 C K ih
set_option maxHeartbeats 40000000 in
set_option maxRecDepth 100000 in
theorem db_X18_say_0 {p : Program} {l : Launch} {e : Env} {s : State} {m : MethodId} {args : Array Value} {below : List Frame} {meth : Method} {c : Code} {Q : State → Prop} {A : Nat → Prop} {dC : Nat → ClassId} {dI : Nat → Nat → Nat} {a : Nat → Nat} {ac : Nat → ClassId} {n : Nat} {r : St} (C : nd_C p l s m args c A (dC, dI) cX18_say 5 RX18 ow_dm_X18_say (dk_X18 ac)) (K : nd_Kv p l e (headSpec ow_dm_X18_say ({ frames := 1, cells := 0, slots := 0, locals := 21 })).room s m args below meth c Q A (dC, dI) cX18_say (St) (dw_X18 a ac) r) : dj_X18_say_0 p l e s m args below meth c Q A dC dI a ac (df_X18_say_0 n) r := by
  obtain ⟨hlt, hx, hb, hml, hown, hts, hN, hA, hK⟩ := id C
  intro v0 s0 H locs ls h hP hD hS hl
  unfold df_X18_say_0 at h
  refine lv_lload_n hx hb dX18_say_0 rfl (lv_at hl 1 rfl) ?_
  refine lv_lstore_n (lv' := [(3, .long v0), (0, .ref (a 0)), (1, .long v0)]) hx hb dX18_say_1 rfl hl (by decide) rfl (fun ls hl => ?_)
  exact (db_X18_say_2 C K n) (v0) s0 _ _ _ h hP hD hS (lv_sub hl [1, 0] rfl)
set_option maxHeartbeats 40000000 in
set_option maxRecDepth 100000 in
theorem dm_X18_say (l : Launch) (hlt : l.stackTraces = false) (dC : Nat → ClassId) (dI : Nat → Nat → Nat) (a : Nat → Nat) (ac : Nat → ClassId) (n : Nat) (v0 : Int64) (s0 : St) {r : St} (h : df_X18_say n v0 s0 = some r) (sz : Nat) : Met l yX18_say ow_dm_X18_say ({ frames := 1, cells := 0, slots := 0, locals := 21 }) (va_Pc [.ref (a 0), .long v0] (fun U => U.heap.size = sz ∧ va_P (dC, dI) vwCl (dw_X18 a ac s0) U.heap ∧ va_K (dC, dI) vwCl (dk_X18 ac) U ∧ va_D (fun _ => True) (dw_X18 a ac s0) ∧ nv_E (va_A (dw_X18 a ac s0) sz) U)) (va_Qv (fun _ => True) (fun (_ : Unit) t => va_P (dC, dI) vwCl (dw_X18 a ac r) t.heap ∧ va_K (dC, dI) vwCl (dk_X18 ac) t ∧ va_D (va_A (dw_X18 a ac s0) sz) (dw_X18 a ac r)) (va_A (dw_X18 a ac s0) sz)) 0 0 (va_A (dw_X18 a ac s0) sz) := by
  refine Met.ofW (cc := cX18_say) (maxL := 5) (ret := none) (by decide) rfl ?_
  intro p e s m args below meth c s₁ B hml hv
  obtain ⟨rfl, hsz, hP, hK, hD0, hN⟩ := hv
  have hx := B.exec
  have hb := B.bytes
  have hr := B.returns
  have hts := atoms_spec (ws := ow_dm_X18_say) B.pre
  have hown : s.vm.findClass RX18 = some m.cls := findClass_of_methodNamed B.named
  have hlocks := B.notSynchronized
  subst hsz
  have hD := hD0.self (sz := s.heap.size)
  generalize hAe : va_A (dw_X18 a ac s0) s.heap.size = A at hD hN ⊢
  have hA : ∀ q : Nat, s.heap.size ≤ q → A q := fun q h => by rw [← hAe]; exact Or.inr h
  have hl := lv_entry ([.ref (a 0), .long v0]) (n := 5) (Nat.le_of_ble_eq_true rfl)
  rw [lg_entry_eq]
  generalize (lg_sl ([.ref (a 0), .long v0]) ++ List.replicate (5 - (lg_sl ([.ref (a 0), .long v0])).length) Slot.unset).toArray = ls at hl ⊢
  have hl : lv_has ls 5 [(0, .ref (a 0)), (1, .long v0)] := hl
  exact db_X18_say_0 (dC := dC) (dI := dI) (a := a) (ac := ac) (n := n) (r := r) ⟨hlt, hx, hb, hml, hown, hts, hN, hA, hK⟩ (fun pc τ H locs ls d er hP hD hS => by subst er; exact W.vret hx hb hr (fun t ht hW => ⟨⟨(), rfl, trivial, by rw [ht]; exact hP, va_K.moved hW.alike hK, hD⟩, hS.F ht⟩) hS.2.2 d) v0 s0 _ _ _ h hP hD va_S.rf (lv_sub hl [0, 1] rfl)
def ow_dm_X18_digits : List Cond := .code yX18_digits cX18_digits 7 none :: ([.constantLong RX18 33 (9), .constantLong RX18 37 (48), .constantLong RX18 35 (10), .methodLink RX18 29 yX18_put, .instanceMethod yX18_put, .selects RX18 yX18_put yX18_put, .initialized RX18] ++ (ow_dm_X18_put ++ []))
theorem gd_dm_X18_digits : ∀ w ∈ ow_dm_X18_digits, (w.onTables && w.keeps) = true ∨ ∃ ty, w = Cond.arrayClass ty := List.forall_mem_cons.mpr ⟨good_of_word rfl, List.forall_mem_append.mpr ⟨fun w h => good_of_word (List.all_eq_true.mp (by decide +kernel) w h), List.forall_mem_append.mpr ⟨gd_dm_X18_put, fun _ h => nomatch h⟩⟩⟩
theorem gi_dm_X18_digits_0 : GoodIn ow_dm_X18_digits (wsV RX18 29 RX18 yX18_put ow_dm_X18_put) := goodIn_app (goodIn_of _ (by decide +kernel)) (fun w h => ⟨List.mem_cons_of_mem _ (List.mem_append_right _ (List.mem_append_left _ h)), gd_dm_X18_put w h⟩)
def dj_X18_digits_24 (p : Program) (l : Launch) (e : Env) (s : State) (m : MethodId) (args : Array Value) (below : List Frame) (meth : Method) (c : Code) (Q : State → Prop) (A : Nat → Prop) (dC : Nat → ClassId) (dI : Nat → Nat → Nat) (a : Nat → Nat) (ac : Nat → ClassId) (g : Int64 → Int64 → (St) → Option (St)) (r : St) : Prop := ∀ (x1 : Int64) (x5 : Int64) (s0 : St) (H : Heap) (locs : List Loc) (ls : Array Slot), g x1 x5 s0 = some r → va_P (dC, dI) vwCl (dw_X18 a ac s0) H → va_D A (dw_X18 a ac s0) → va_S A s.heap H locs → lv_has ls 7 [(0, .ref (a 0)), (1, .long x1), (5, .long x5)] → W p l e (headSpec ow_dm_X18_digits ({ frames := 1, cells := 0, slots := 0, locals := 21 })).room s m args below meth c H locs 0 0 Q (F0 m 24 ls [])
def dj_X18_digits_2 (p : Program) (l : Launch) (e : Env) (s : State) (m : MethodId) (args : Array Value) (below : List Frame) (meth : Method) (c : Code) (Q : State → Prop) (A : Nat → Prop) (dC : Nat → ClassId) (dI : Nat → Nat → Nat) (a : Nat → Nat) (ac : Nat → ClassId) (g : Int64 → Int64 → (St) → Option (St)) (r : St) : Prop := ∀ (x1 : Int64) (x3 : Int64) (s0 : St) (H : Heap) (locs : List Loc) (ls : Array Slot), g x1 x3 s0 = some r → va_P (dC, dI) vwCl (dw_X18 a ac s0) H → va_D A (dw_X18 a ac s0) → va_S A s.heap H locs → lv_has ls 7 [(0, .ref (a 0)), (1, .long x1), (3, .long x3)] → W p l e (headSpec ow_dm_X18_digits ({ frames := 1, cells := 0, slots := 0, locals := 21 })).room s m args below meth c H locs 0 0 Q (F0 m 2 ls [])
def dj_X18_digits_0 (p : Program) (l : Launch) (e : Env) (s : State) (m : MethodId) (args : Array Value) (below : List Frame) (meth : Method) (c : Code) (Q : State → Prop) (A : Nat → Prop) (dC : Nat → ClassId) (dI : Nat → Nat → Nat) (a : Nat → Nat) (ac : Nat → ClassId) (g : Int64 → (St) → Option (St)) (r : St) : Prop := ∀ (v0 : Int64) (s0 : St) (H : Heap) (locs : List Loc) (ls : Array Slot), g v0 s0 = some r → va_P (dC, dI) vwCl (dw_X18 a ac s0) H → va_D A (dw_X18 a ac s0) → va_S A s.heap H locs → lv_has ls 7 [(0, .ref (a 0)), (1, .long v0)] → W p l e (headSpec ow_dm_X18_digits ({ frames := 1, cells := 0, slots := 0, locals := 21 })).room s m args below meth c H locs 0 0 Q (F0 m 0 ls [])
set_option maxHeartbeats 40000000 in
set_option maxRecDepth 100000 in
theorem dB_X18_digits_24 {p : Program} {l : Launch} {e : Env} {s : State} {m : MethodId} {args : Array Value} {below : List Frame} {meth : Method} {c : Code} {Q : State → Prop} {A : Nat → Prop} {dC : Nat → ClassId} {dI : Nat → Nat → Nat} {a : Nat → Nat} {ac : Nat → ClassId} {n : Nat} {r : St} (C : nd_C p l s m args c A (dC, dI) cX18_digits 7 RX18 ow_dm_X18_digits (dk_X18 ac)) (K : nd_Kv p l e (headSpec ow_dm_X18_digits ({ frames := 1, cells := 0, slots := 0, locals := 21 })).room s m args below meth c Q A (dC, dI) cX18_digits (St) (dw_X18 a ac) r) {g24 : Int64 → Int64 → (St) → Option (St)} (J24 : dj_X18_digits_24 p l e s m args below meth c Q A dC dI a ac g24 r) : dj_X18_digits_24 p l e s m args below meth c Q A dC dI a ac (dF_X18_digits_24 n g24) r := by
  obtain ⟨hlt, hx, hb, hml, hown, hts, hN, hA, hK⟩ := id C
  intro x1 x5 s0 H locs ls h hP hD hS hl
  unfold dF_X18_digits_24 at h
  refine lv_lload hx hb dX18_digits_24 (lv_at hl 2 rfl) ?_
  refine lv_lconst (v := 0) hx hb dX18_digits_26 (by decide) ?_
  refine W.lcmp hx hb dX18_digits_27 ?_
  refine lv_if_le (tgt := 59) hx hb dX18_digits_28 (by decide) (fun c3 => ?_) (fun c3 => ?_)
  · have h := nd_pos h c3
    exact K _ _ _ _ _ dX18_digits_59 (Option.some.inj h).symm hP hD hS
  · have h := nd_neg h c3
    refine lv_aload_n hx hb dX18_digits_31 rfl (lv_at hl 0 rfl) ?_
    refine lv_ldc2 hx hb hown (hts (.constantLong RX18 37 (48)) (List.mem_of_getElem? (i := 2) rfl)) dX18_digits_32 ?_
    refine lv_lload_n hx hb dX18_digits_35 rfl (lv_at hl 1 rfl) ?_
    refine lv_lload hx hb dX18_digits_36 (lv_at hl 2 rfl) ?_
    obtain ⟨i4, h⟩ := nd_nz_e h
    refine lv_ldiv hx hb dX18_digits_38 i4 ?_
    refine lv_ldc2 hx hb hown (hts (.constantLong RX18 35 (10)) (List.mem_of_getElem? (i := 3) rfl)) dX18_digits_39 ?_
    refine lv_lrem hx hb dX18_digits_42 (by decide) ?_
    refine lv_ladd hx hb dX18_digits_43 ?_
    refine lv_l2i hx hb dX18_digits_44 rfl ?_
    obtain ⟨s6, hq, h⟩ := nd_b1_e h
    have hPc := hP
    have hDc := hD
    have hKc := hK
    have hFc := nd_rs hD hS hA
    refine va_callv (va_runV (As := [.int (((48 : Int64) + ((((x1 : Int64) / x5) : Int64) - ((x1 : Int64) / x5) / 10 * 10)).toInt32)]) (rest := []) ⟨hx, hb, hml, hown, hts⟩ (dm_X18_put l hlt dC dI a ac n ((((48 : Int64) + ((((x1 : Int64) / x5) : Int64) - ((x1 : Int64) / x5) / 10 * 10)).toInt32)) s0 hq _) (cwV 1 hts gi_dm_X18_digits_0 rfl rfl rfl (by decide +kernel) ⟨Nat.le_of_ble_eq_true rfl, Nat.le_of_ble_eq_true rfl⟩) ⟨fun a U g mk q => by obtain ⟨q0, q1, qP, qK, qD, qN⟩ := q; exact ⟨q0, q1, qP, va_K.moved (u := U) (U := U.calling g mk a) (Vm.Alike.refl U.vm) qK, qD, nv_same rfl rfl qN⟩, va_recv hKc hPc (ci := 19) (q0 := 0) rfl rfl, fun U hU hW => ⟨rfl, by rw [hU], by rw [hU]; exact hPc, va_K.moved hW.alike hKc, hDc.weaken (fun _ _ _ _ => trivial), nv_call hS hFc hU hW hN⟩⟩ rfl rfl hl.1 rfl (lv_room (Nat.le_of_ble_eq_true rfl)) dX18_digits_45 ⟨by decide +kernel, by decide +kernel⟩) hS (fun q _ h => hFc q h) hFc (fun u t H locs ht hvm hw hB hz1 hk1 hS => ?_)
    obtain ⟨hP1, -, hD1⟩ := hB
    rw [ht] at hP1
    have hP := hP1
    have hD := hD1.weaken (fun k q _ h => hFc q.1 h)
    refine W.widen (k := 0) (n := 0) (Nat.le_refl _) (Nat.le_refl _) ?_
    refine lv_lload hx hb dX18_digits_48 (lv_at hl 2 rfl) ?_
    refine lv_ldc2 hx hb hown (hts (.constantLong RX18 35 (10)) (List.mem_of_getElem? (i := 3) rfl)) dX18_digits_50 ?_
    refine lv_ldiv hx hb dX18_digits_53 (by decide) ?_
    refine lv_topl (fun z8 ez8 => ?_)
    have h := nd_at h ez8
    refine lv_lstore (lv' := [(5, .long z8), (0, .ref (a 0)), (1, .long x1)]) hx hb dX18_digits_54 hl (by decide) rfl (fun ls hl => ?_)
    refine lv_goto (tgt := 24) hx hb dX18_digits_56 (by decide) ?_
    exact (J24) (x1) (z8) s6 _ _ _ h hP hD hS (lv_sub hl [1, 2, 0] rfl)
set_option maxHeartbeats 40000000 in
set_option maxRecDepth 100000 in
theorem db_X18_digits_24 {p : Program} {l : Launch} {e : Env} {s : State} {m : MethodId} {args : Array Value} {below : List Frame} {meth : Method} {c : Code} {Q : State → Prop} {A : Nat → Prop} {dC : Nat → ClassId} {dI : Nat → Nat → Nat} {a : Nat → Nat} {ac : Nat → ClassId} {n : Nat} {r : St} (C : nd_C p l s m args c A (dC, dI) cX18_digits 7 RX18 ow_dm_X18_digits (dk_X18 ac)) (K : nd_Kv p l e (headSpec ow_dm_X18_digits ({ frames := 1, cells := 0, slots := 0, locals := 21 })).room s m args below meth c Q A (dC, dI) cX18_digits (St) (dw_X18 a ac) r) (k : Nat) : dj_X18_digits_24 p l e s m args below meth c Q A dC dI a ac (df_X18_digits_24 n k) r := by
  induction k with
  | zero => intro x1 x5 s0 H locs ls h; exact nomatch (show (none : Option (St)) = some r from h)
  | succ k ih => exact dB_X18_digits_24 C K ih
set_option maxHeartbeats 40000000 in
set_option maxRecDepth 100000 in
theorem dB_X18_digits_2 {p : Program} {l : Launch} {e : Env} {s : State} {m : MethodId} {args : Array Value} {below : List Frame} {meth : Method} {c : Code} {Q : State → Prop} {A : Nat → Prop} {dC : Nat → ClassId} {dI : Nat → Nat → Nat} {a : Nat → Nat} {ac : Nat → ClassId} {n : Nat} {r : St} (C : nd_C p l s m args c A (dC, dI) cX18_digits 7 RX18 ow_dm_X18_digits (dk_X18 ac)) (K : nd_Kv p l e (headSpec ow_dm_X18_digits ({ frames := 1, cells := 0, slots := 0, locals := 21 })).room s m args below meth c Q A (dC, dI) cX18_digits (St) (dw_X18 a ac) r) {g2 : Int64 → Int64 → (St) → Option (St)} (J2 : dj_X18_digits_2 p l e s m args below meth c Q A dC dI a ac g2 r) : dj_X18_digits_2 p l e s m args below meth c Q A dC dI a ac (dF_X18_digits_2 n g2) r := by
  obtain ⟨hlt, hx, hb, hml, hown, hts, hN, hA, hK⟩ := id C
  intro x1 x3 s0 H locs ls h hP hD hS hl
  unfold dF_X18_digits_2 at h
  refine lv_lload_n hx hb dX18_digits_2 rfl (lv_at hl 1 rfl) ?_
  refine lv_lload_n hx hb dX18_digits_3 rfl (lv_at hl 2 rfl) ?_
  obtain ⟨i1, h⟩ := nd_nz_e h
  refine lv_ldiv hx hb dX18_digits_4 i1 ?_
  refine lv_ldc2 hx hb hown (hts (.constantLong RX18 33 (9)) (List.mem_of_getElem? (i := 1) rfl)) dX18_digits_5 ?_
  refine W.lcmp hx hb dX18_digits_8 ?_
  refine lv_if_le (tgt := 21) hx hb dX18_digits_9 (by decide) (fun c2 => ?_) (fun c2 => ?_)
  · have h := nd_pos h c2
    refine lv_lload_n hx hb dX18_digits_21 rfl (lv_at hl 2 rfl) ?_
    refine lv_lstore (lv' := [(5, .long x3), (0, .ref (a 0)), (1, .long x1), (3, .long x3)]) hx hb dX18_digits_22 hl (by decide) rfl (fun ls hl => ?_)
    exact (db_X18_digits_24 C K n) (x1) (x3) s0 _ _ _ h hP hD hS (lv_sub hl [1, 2, 0] rfl)
  · have h := nd_neg h c2
    refine lv_ldc2 hx hb hown (hts (.constantLong RX18 35 (10)) (List.mem_of_getElem? (i := 3) rfl)) dX18_digits_12 ?_
    refine lv_lload_n hx hb dX18_digits_15 rfl (lv_at hl 2 rfl) ?_
    refine lv_lmul hx hb dX18_digits_16 ?_
    refine lv_topl (fun z9 ez9 => ?_)
    have h := nd_at h ez9
    refine lv_lstore_n (lv' := [(3, .long z9), (0, .ref (a 0)), (1, .long x1)]) hx hb dX18_digits_17 rfl hl (by decide) rfl (fun ls hl => ?_)
    refine lv_goto (tgt := 2) hx hb dX18_digits_18 (by decide) ?_
    exact (J2) (x1) (z9) s0 _ _ _ h hP hD hS (lv_sub hl [1, 2, 0] rfl)
set_option maxHeartbeats 40000000 in
set_option maxRecDepth 100000 in
theorem db_X18_digits_2 {p : Program} {l : Launch} {e : Env} {s : State} {m : MethodId} {args : Array Value} {below : List Frame} {meth : Method} {c : Code} {Q : State → Prop} {A : Nat → Prop} {dC : Nat → ClassId} {dI : Nat → Nat → Nat} {a : Nat → Nat} {ac : Nat → ClassId} {n : Nat} {r : St} (C : nd_C p l s m args c A (dC, dI) cX18_digits 7 RX18 ow_dm_X18_digits (dk_X18 ac)) (K : nd_Kv p l e (headSpec ow_dm_X18_digits ({ frames := 1, cells := 0, slots := 0, locals := 21 })).room s m args below meth c Q A (dC, dI) cX18_digits (St) (dw_X18 a ac) r) (k : Nat) : dj_X18_digits_2 p l e s m args below meth c Q A dC dI a ac (df_X18_digits_2 n k) r := by
  induction k with
  | zero => intro x1 x3 s0 H locs ls h; exact nomatch (show (none : Option (St)) = some r from h)
  | succ k ih => exact dB_X18_digits_2 C K ih
set_option maxHeartbeats 40000000 in
set_option maxRecDepth 100000 in
theorem db_X18_digits_0 {p : Program} {l : Launch} {e : Env} {s : State} {m : MethodId} {args : Array Value} {below : List Frame} {meth : Method} {c : Code} {Q : State → Prop} {A : Nat → Prop} {dC : Nat → ClassId} {dI : Nat → Nat → Nat} {a : Nat → Nat} {ac : Nat → ClassId} {n : Nat} {r : St} (C : nd_C p l s m args c A (dC, dI) cX18_digits 7 RX18 ow_dm_X18_digits (dk_X18 ac)) (K : nd_Kv p l e (headSpec ow_dm_X18_digits ({ frames := 1, cells := 0, slots := 0, locals := 21 })).room s m args below meth c Q A (dC, dI) cX18_digits (St) (dw_X18 a ac) r) : dj_X18_digits_0 p l e s m args below meth c Q A dC dI a ac (df_X18_digits_0 n) r := by
  obtain ⟨hlt, hx, hb, hml, hown, hts, hN, hA, hK⟩ := id C
  intro v0 s0 H locs ls h hP hD hS hl
  unfold df_X18_digits_0 at h
  refine lv_lconst (v := 1) hx hb dX18_digits_0 (by decide) ?_
  refine lv_lstore_n (lv' := [(3, .long 1), (0, .ref (a 0)), (1, .long v0)]) hx hb dX18_digits_1 rfl hl (by decide) rfl (fun ls hl => ?_)
  exact (db_X18_digits_2 C K n) (v0) (1) s0 _ _ _ h hP hD hS (lv_sub hl [1, 2, 0] rfl)
set_option maxHeartbeats 40000000 in
set_option maxRecDepth 100000 in
theorem dm_X18_digits (l : Launch) (hlt : l.stackTraces = false) (dC : Nat → ClassId) (dI : Nat → Nat → Nat) (a : Nat → Nat) (ac : Nat → ClassId) (n : Nat) (v0 : Int64) (s0 : St) {r : St} (h : df_X18_digits n v0 s0 = some r) (sz : Nat) : Met l yX18_digits ow_dm_X18_digits ({ frames := 1, cells := 0, slots := 0, locals := 21 }) (va_Pc [.ref (a 0), .long v0] (fun U => U.heap.size = sz ∧ va_P (dC, dI) vwCl (dw_X18 a ac s0) U.heap ∧ va_K (dC, dI) vwCl (dk_X18 ac) U ∧ va_D (fun _ => True) (dw_X18 a ac s0) ∧ nv_E (va_A (dw_X18 a ac s0) sz) U)) (va_Qv (fun _ => True) (fun (_ : Unit) t => va_P (dC, dI) vwCl (dw_X18 a ac r) t.heap ∧ va_K (dC, dI) vwCl (dk_X18 ac) t ∧ va_D (va_A (dw_X18 a ac s0) sz) (dw_X18 a ac r)) (va_A (dw_X18 a ac s0) sz)) 0 0 (va_A (dw_X18 a ac s0) sz) := by
  refine Met.ofW (cc := cX18_digits) (maxL := 7) (ret := none) (by decide) rfl ?_
  intro p e s m args below meth c s₁ B hml hv
  obtain ⟨rfl, hsz, hP, hK, hD0, hN⟩ := hv
  have hx := B.exec
  have hb := B.bytes
  have hr := B.returns
  have hts := atoms_spec (ws := ow_dm_X18_digits) B.pre
  have hown : s.vm.findClass RX18 = some m.cls := findClass_of_methodNamed B.named
  have hlocks := B.notSynchronized
  subst hsz
  have hD := hD0.self (sz := s.heap.size)
  generalize hAe : va_A (dw_X18 a ac s0) s.heap.size = A at hD hN ⊢
  have hA : ∀ q : Nat, s.heap.size ≤ q → A q := fun q h => by rw [← hAe]; exact Or.inr h
  have hl := lv_entry ([.ref (a 0), .long v0]) (n := 7) (Nat.le_of_ble_eq_true rfl)
  rw [lg_entry_eq]
  generalize (lg_sl ([.ref (a 0), .long v0]) ++ List.replicate (7 - (lg_sl ([.ref (a 0), .long v0])).length) Slot.unset).toArray = ls at hl ⊢
  have hl : lv_has ls 7 [(0, .ref (a 0)), (1, .long v0)] := hl
  exact db_X18_digits_0 (dC := dC) (dI := dI) (a := a) (ac := ac) (n := n) (r := r) ⟨hlt, hx, hb, hml, hown, hts, hN, hA, hK⟩ (fun pc τ H locs ls d er hP hD hS => by subst er; exact W.vret hx hb hr (fun t ht hW => ⟨⟨(), rfl, trivial, by rw [ht]; exact hP, va_K.moved hW.alike hK, hD⟩, hS.F ht⟩) hS.2.2 d) v0 s0 _ _ _ h hP hD va_S.rf (lv_sub hl [0, 1] rfl)
def ow_dm_X18_number : List Cond := .code yX18_number cX18_number 2 none :: ([.methodLink RX18 39 yX18_digits, .instanceMethod yX18_digits, .selects RX18 yX18_digits yX18_digits, .initialized RX18, .methodLink RX18 29 yX18_put, .instanceMethod yX18_put, .selects RX18 yX18_put yX18_put] ++ (ow_dm_X18_digits ++ (ow_dm_X18_put ++ [])))
theorem gd_dm_X18_number : ∀ w ∈ ow_dm_X18_number, (w.onTables && w.keeps) = true ∨ ∃ ty, w = Cond.arrayClass ty := List.forall_mem_cons.mpr ⟨good_of_word rfl, List.forall_mem_append.mpr ⟨fun w h => good_of_word (List.all_eq_true.mp (by decide +kernel) w h), List.forall_mem_append.mpr ⟨gd_dm_X18_digits, List.forall_mem_append.mpr ⟨gd_dm_X18_put, fun _ h => nomatch h⟩⟩⟩⟩
theorem gi_dm_X18_number_0 : GoodIn ow_dm_X18_number (wsV RX18 39 RX18 yX18_digits ow_dm_X18_digits) := goodIn_app (goodIn_of _ (by decide +kernel)) (fun w h => ⟨List.mem_cons_of_mem _ (List.mem_append_right _ (List.mem_append_left _ h)), gd_dm_X18_digits w h⟩)
theorem gi_dm_X18_number_1 : GoodIn ow_dm_X18_number (wsV RX18 29 RX18 yX18_put ow_dm_X18_put) := goodIn_app (goodIn_of _ (by decide +kernel)) (fun w h => ⟨List.mem_cons_of_mem _ (List.mem_append_right _ (List.mem_append_right _ (List.mem_append_left _ h))), gd_dm_X18_put w h⟩)
def dj_X18_number_23 (p : Program) (l : Launch) (e : Env) (s : State) (m : MethodId) (args : Array Value) (below : List Frame) (meth : Method) (c : Code) (Q : State → Prop) (A : Nat → Prop) (dC : Nat → ClassId) (dI : Nat → Nat → Nat) (a : Nat → Nat) (ac : Nat → ClassId) (g : Int64 → (St) → Option (St)) (r : St) : Prop := ∀ (y1 : Int64) (s0 : St) (H : Heap) (locs : List Loc) (ls : Array Slot), g y1 s0 = some r → va_P (dC, dI) vwCl (dw_X18 a ac s0) H → va_D A (dw_X18 a ac s0) → va_S A s.heap H locs → lv_has ls 2 [] → W p l e (headSpec ow_dm_X18_number ({ frames := 2, cells := 0, slots := 0, locals := 47 })).room s m args below meth c H locs 0 0 Q (F0 m 23 ls [.long y1, .ref (a 0)])
def dj_X18_number_10 (p : Program) (l : Launch) (e : Env) (s : State) (m : MethodId) (args : Array Value) (below : List Frame) (meth : Method) (c : Code) (Q : State → Prop) (A : Nat → Prop) (dC : Nat → ClassId) (dI : Nat → Nat → Nat) (a : Nat → Nat) (ac : Nat → ClassId) (g : Int32 → (St) → Option (St)) (r : St) : Prop := ∀ (x1 : Int32) (s0 : St) (H : Heap) (locs : List Loc) (ls : Array Slot), g x1 s0 = some r → va_P (dC, dI) vwCl (dw_X18 a ac s0) H → va_D A (dw_X18 a ac s0) → va_S A s.heap H locs → lv_has ls 2 [(0, .ref (a 0)), (1, .int x1)] → W p l e (headSpec ow_dm_X18_number ({ frames := 2, cells := 0, slots := 0, locals := 47 })).room s m args below meth c H locs 0 0 Q (F0 m 10 ls [])
def dj_X18_number_0 (p : Program) (l : Launch) (e : Env) (s : State) (m : MethodId) (args : Array Value) (below : List Frame) (meth : Method) (c : Code) (Q : State → Prop) (A : Nat → Prop) (dC : Nat → ClassId) (dI : Nat → Nat → Nat) (a : Nat → Nat) (ac : Nat → ClassId) (g : Int32 → (St) → Option (St)) (r : St) : Prop := ∀ (v0 : Int32) (s0 : St) (H : Heap) (locs : List Loc) (ls : Array Slot), g v0 s0 = some r → va_P (dC, dI) vwCl (dw_X18 a ac s0) H → va_D A (dw_X18 a ac s0) → va_S A s.heap H locs → lv_has ls 2 [(0, .ref (a 0)), (1, .int v0)] → W p l e (headSpec ow_dm_X18_number ({ frames := 2, cells := 0, slots := 0, locals := 47 })).room s m args below meth c H locs 0 0 Q (F0 m 0 ls [])
set_option maxHeartbeats 40000000 in
set_option maxRecDepth 100000 in
theorem db_X18_number_23 {p : Program} {l : Launch} {e : Env} {s : State} {m : MethodId} {args : Array Value} {below : List Frame} {meth : Method} {c : Code} {Q : State → Prop} {A : Nat → Prop} {dC : Nat → ClassId} {dI : Nat → Nat → Nat} {a : Nat → Nat} {ac : Nat → ClassId} {n : Nat} {r : St} (C : nd_C p l s m args c A (dC, dI) cX18_number 2 RX18 ow_dm_X18_number (dk_X18 ac)) (K : nd_Kv p l e (headSpec ow_dm_X18_number ({ frames := 2, cells := 0, slots := 0, locals := 47 })).room s m args below meth c Q A (dC, dI) cX18_number (St) (dw_X18 a ac) r) : dj_X18_number_23 p l e s m args below meth c Q A dC dI a ac (df_X18_number_23 n) r := by
  obtain ⟨hlt, hx, hb, hml, hown, hts, hN, hA, hK⟩ := id C
  intro y1 s0 H locs ls h hP hD hS hl
  unfold df_X18_number_23 at h
  obtain ⟨s4, hq, h⟩ := nd_b1_e h
  have hPc := hP
  have hDc := hD
  have hKc := hK
  have hFc := nd_rs hD hS hA
  refine va_callv (va_runV (As := [.long y1]) (rest := []) ⟨hx, hb, hml, hown, hts⟩ (dm_X18_digits l hlt dC dI a ac n (y1) s0 hq _) (cwV 1 hts gi_dm_X18_number_0 rfl rfl rfl (by decide +kernel) ⟨Nat.le_of_ble_eq_true rfl, Nat.le_of_ble_eq_true rfl⟩) ⟨fun a U g mk q => by obtain ⟨q0, q1, qP, qK, qD, qN⟩ := q; exact ⟨q0, q1, qP, va_K.moved (u := U) (U := U.calling g mk a) (Vm.Alike.refl U.vm) qK, qD, nv_same rfl rfl qN⟩, va_recv hKc hPc (ci := 19) (q0 := 0) rfl rfl, fun U hU hW => ⟨rfl, by rw [hU], by rw [hU]; exact hPc, va_K.moved hW.alike hKc, hDc.weaken (fun _ _ _ _ => trivial), nv_call hS hFc hU hW hN⟩⟩ rfl rfl hl.1 rfl (lv_room (Nat.le_of_ble_eq_true rfl)) dX18_number_23 ⟨by decide +kernel, by decide +kernel⟩) hS (fun q _ h => hFc q h) hFc (fun u t H locs ht hvm hw hB hz1 hk1 hS => ?_)
  obtain ⟨hP1, -, hD1⟩ := hB
  rw [ht] at hP1
  have hP := hP1
  have hD := hD1.weaken (fun k q _ h => hFc q.1 h)
  refine W.widen (k := 0) (n := 0) (Nat.le_refl _) (Nat.le_refl _) ?_
  exact K _ _ _ _ _ dX18_number_26 (Option.some.inj h).symm hP hD hS
set_option maxHeartbeats 40000000 in
set_option maxRecDepth 100000 in
theorem db_X18_number_10 {p : Program} {l : Launch} {e : Env} {s : State} {m : MethodId} {args : Array Value} {below : List Frame} {meth : Method} {c : Code} {Q : State → Prop} {A : Nat → Prop} {dC : Nat → ClassId} {dI : Nat → Nat → Nat} {a : Nat → Nat} {ac : Nat → ClassId} {n : Nat} {r : St} (C : nd_C p l s m args c A (dC, dI) cX18_number 2 RX18 ow_dm_X18_number (dk_X18 ac)) (K : nd_Kv p l e (headSpec ow_dm_X18_number ({ frames := 2, cells := 0, slots := 0, locals := 47 })).room s m args below meth c Q A (dC, dI) cX18_number (St) (dw_X18 a ac) r) : dj_X18_number_10 p l e s m args below meth c Q A dC dI a ac (df_X18_number_10 n) r := by
  obtain ⟨hlt, hx, hb, hml, hown, hts, hN, hA, hK⟩ := id C
  intro x1 s0 H locs ls h hP hD hS hl
  unfold df_X18_number_10 at h
  refine lv_aload_n hx hb dX18_number_10 rfl (lv_at hl 0 rfl) ?_
  refine lv_iload_n hx hb dX18_number_11 rfl (lv_at hl 1 rfl) ?_
  refine lv_if_ge (tgt := 21) hx hb dX18_number_12 (by decide) (fun c2 => ?_) (fun c2 => ?_)
  · have h := nd_pos h c2
    refine lv_iload_n hx hb dX18_number_21 rfl (lv_at hl 1 rfl) ?_
    refine lv_i2l hx hb dX18_number_22 rfl ?_
    exact (db_X18_number_23 C K) ((x1.toInt64)) s0 _ _ _ h hP hD hS (lv_sub hl [] rfl)
  · have h := nd_neg h c2
    refine lv_iload_n hx hb dX18_number_15 rfl (lv_at hl 1 rfl) ?_
    refine lv_i2l hx hb dX18_number_16 rfl ?_
    refine lv_lneg hx hb dX18_number_17 ?_
    refine lv_goto (tgt := 23) hx hb dX18_number_18 (by decide) ?_
    exact (db_X18_number_23 C K) ((-((x1.toInt64) : Int64))) s0 _ _ _ h hP hD hS (lv_sub hl [] rfl)
set_option maxHeartbeats 40000000 in
set_option maxRecDepth 100000 in
theorem db_X18_number_0 {p : Program} {l : Launch} {e : Env} {s : State} {m : MethodId} {args : Array Value} {below : List Frame} {meth : Method} {c : Code} {Q : State → Prop} {A : Nat → Prop} {dC : Nat → ClassId} {dI : Nat → Nat → Nat} {a : Nat → Nat} {ac : Nat → ClassId} {n : Nat} {r : St} (C : nd_C p l s m args c A (dC, dI) cX18_number 2 RX18 ow_dm_X18_number (dk_X18 ac)) (K : nd_Kv p l e (headSpec ow_dm_X18_number ({ frames := 2, cells := 0, slots := 0, locals := 47 })).room s m args below meth c Q A (dC, dI) cX18_number (St) (dw_X18 a ac) r) : dj_X18_number_0 p l e s m args below meth c Q A dC dI a ac (df_X18_number_0 n) r := by
  obtain ⟨hlt, hx, hb, hml, hown, hts, hN, hA, hK⟩ := id C
  intro v0 s0 H locs ls h hP hD hS hl
  unfold df_X18_number_0 at h
  refine lv_iload_n hx hb dX18_number_0 rfl (lv_at hl 1 rfl) ?_
  refine lv_if_ge (tgt := 10) hx hb dX18_number_1 (by decide) (fun c1 => ?_) (fun c1 => ?_)
  · have h := nd_pos h c1
    exact (db_X18_number_10 C K) (v0) s0 _ _ _ h hP hD hS (lv_sub hl [0, 1] rfl)
  · have h := nd_neg h c1
    refine lv_aload_n hx hb dX18_number_4 rfl (lv_at hl 0 rfl) ?_
    refine lv_bipush (v := 45) hx hb dX18_number_5 (by decide) ?_
    obtain ⟨s7, hq, h⟩ := nd_b1_e h
    have hPc := hP
    have hDc := hD
    have hKc := hK
    have hFc := nd_rs hD hS hA
    refine va_callv (va_runV (As := [.int 45]) (rest := []) ⟨hx, hb, hml, hown, hts⟩ (dm_X18_put l hlt dC dI a ac n (45) s0 hq _) (cwV 1 hts gi_dm_X18_number_1 rfl rfl rfl (by decide +kernel) ⟨Nat.le_of_ble_eq_true rfl, Nat.le_of_ble_eq_true rfl⟩) ⟨fun a U g mk q => by obtain ⟨q0, q1, qP, qK, qD, qN⟩ := q; exact ⟨q0, q1, qP, va_K.moved (u := U) (U := U.calling g mk a) (Vm.Alike.refl U.vm) qK, qD, nv_same rfl rfl qN⟩, va_recv hKc hPc (ci := 19) (q0 := 0) rfl rfl, fun U hU hW => ⟨rfl, by rw [hU], by rw [hU]; exact hPc, va_K.moved hW.alike hKc, hDc.weaken (fun _ _ _ _ => trivial), nv_call hS hFc hU hW hN⟩⟩ rfl rfl hl.1 rfl (lv_room (Nat.le_of_ble_eq_true rfl)) dX18_number_7 ⟨by decide +kernel, by decide +kernel⟩) hS (fun q _ h => hFc q h) hFc (fun u t H locs ht hvm hw hB hz1 hk1 hS => ?_)
    obtain ⟨hP1, -, hD1⟩ := hB
    rw [ht] at hP1
    have hP := hP1
    have hD := hD1.weaken (fun k q _ h => hFc q.1 h)
    refine W.widen (k := 0) (n := 0) (Nat.le_refl _) (Nat.le_refl _) ?_
    exact (db_X18_number_10 C K) (v0) s7 _ _ _ h hP hD hS (lv_sub hl [0, 1] rfl)
set_option maxHeartbeats 40000000 in
set_option maxRecDepth 100000 in
theorem dm_X18_number (l : Launch) (hlt : l.stackTraces = false) (dC : Nat → ClassId) (dI : Nat → Nat → Nat) (a : Nat → Nat) (ac : Nat → ClassId) (n : Nat) (v0 : Int32) (s0 : St) {r : St} (h : df_X18_number n v0 s0 = some r) (sz : Nat) : Met l yX18_number ow_dm_X18_number ({ frames := 2, cells := 0, slots := 0, locals := 47 }) (va_Pc [.ref (a 0), .int v0] (fun U => U.heap.size = sz ∧ va_P (dC, dI) vwCl (dw_X18 a ac s0) U.heap ∧ va_K (dC, dI) vwCl (dk_X18 ac) U ∧ va_D (fun _ => True) (dw_X18 a ac s0) ∧ nv_E (va_A (dw_X18 a ac s0) sz) U)) (va_Qv (fun _ => True) (fun (_ : Unit) t => va_P (dC, dI) vwCl (dw_X18 a ac r) t.heap ∧ va_K (dC, dI) vwCl (dk_X18 ac) t ∧ va_D (va_A (dw_X18 a ac s0) sz) (dw_X18 a ac r)) (va_A (dw_X18 a ac s0) sz)) 0 0 (va_A (dw_X18 a ac s0) sz) := by
  refine Met.ofW (cc := cX18_number) (maxL := 2) (ret := none) (by decide) rfl ?_
  intro p e s m args below meth c s₁ B hml hv
  obtain ⟨rfl, hsz, hP, hK, hD0, hN⟩ := hv
  have hx := B.exec
  have hb := B.bytes
  have hr := B.returns
  have hts := atoms_spec (ws := ow_dm_X18_number) B.pre
  have hown : s.vm.findClass RX18 = some m.cls := findClass_of_methodNamed B.named
  have hlocks := B.notSynchronized
  subst hsz
  have hD := hD0.self (sz := s.heap.size)
  generalize hAe : va_A (dw_X18 a ac s0) s.heap.size = A at hD hN ⊢
  have hA : ∀ q : Nat, s.heap.size ≤ q → A q := fun q h => by rw [← hAe]; exact Or.inr h
  have hl := lv_entry ([.ref (a 0), .int v0]) (n := 2) (Nat.le_of_ble_eq_true rfl)
  rw [lg_entry_eq]
  generalize (lg_sl ([.ref (a 0), .int v0]) ++ List.replicate (2 - (lg_sl ([.ref (a 0), .int v0])).length) Slot.unset).toArray = ls at hl ⊢
  have hl : lv_has ls 2 [(0, .ref (a 0)), (1, .int v0)] := hl
  exact db_X18_number_0 (dC := dC) (dI := dI) (a := a) (ac := ac) (n := n) (r := r) ⟨hlt, hx, hb, hml, hown, hts, hN, hA, hK⟩ (fun pc τ H locs ls d er hP hD hS => by subst er; exact W.vret hx hb hr (fun t ht hW => ⟨⟨(), rfl, trivial, by rw [ht]; exact hP, va_K.moved hW.alike hK, hD⟩, hS.F ht⟩) hS.2.2 d) v0 s0 _ _ _ h hP hD va_S.rf (lv_sub hl [0, 1] rfl)
def ow_dm_X18_name : List Cond := .code yX18_name cX18_name 3 none :: ([.fieldLink RX18 43 "TimeMachineModel$Reader" "line" "Z", .fieldLink RX18 47 "TimeMachineModel$Reader" "operands" "I", .methodLink RX18 50 yX18_say, .instanceMethod yX18_say, .selects RX18 yX18_say yX18_say, .initialized RX18] ++ (u_ws RX18 TX18 10 ++ (ow_dm_X18_say ++ [])))
theorem gd_dm_X18_name : ∀ w ∈ ow_dm_X18_name, (w.onTables && w.keeps) = true ∨ ∃ ty, w = Cond.arrayClass ty := List.forall_mem_cons.mpr ⟨good_of_word rfl, List.forall_mem_append.mpr ⟨fun w h => good_of_word (List.all_eq_true.mp (by decide +kernel) w h), List.forall_mem_append.mpr ⟨gu_X18, List.forall_mem_append.mpr ⟨gd_dm_X18_say, fun _ h => nomatch h⟩⟩⟩⟩
theorem hi_dm_X18_name_X18 : ∀ w ∈ u_ws RX18 TX18 10, w ∈ ow_dm_X18_name := fun w h => List.mem_cons_of_mem _ (List.mem_append_right _ (List.mem_append_left _ h))
theorem gi_dm_X18_name_0 : GoodIn ow_dm_X18_name (wsV RX18 50 RX18 yX18_say ow_dm_X18_say) := goodIn_app (goodIn_of _ (by decide +kernel)) (fun w h => ⟨List.mem_cons_of_mem _ (List.mem_append_right _ (List.mem_append_right _ (List.mem_append_left _ h))), gd_dm_X18_say w h⟩)
def dj_X18_name_0 (p : Program) (l : Launch) (e : Env) (s : State) (m : MethodId) (args : Array Value) (below : List Frame) (meth : Method) (c : Code) (Q : State → Prop) (A : Nat → Prop) (dC : Nat → ClassId) (dI : Nat → Nat → Nat) (a : Nat → Nat) (ac : Nat → ClassId) (g : Int64 → (St) → Option (St)) (r : St) : Prop := ∀ (v0 : Int64) (s0 : St) (H : Heap) (locs : List Loc) (ls : Array Slot), g v0 s0 = some r → va_P (dC, dI) vwCl (dw_X18 a ac s0) H → va_D A (dw_X18 a ac s0) → va_S A s.heap H locs → lv_has ls 3 [(0, .ref (a 0)), (1, .long v0)] → W p l e (headSpec ow_dm_X18_name ({ frames := 2, cells := 0, slots := 0, locals := 45 })).room s m args below meth c H locs 0 0 Q (F0 m 0 ls [])
set_option maxHeartbeats 40000000 in
set_option maxRecDepth 100000 in
theorem db_X18_name_0 {p : Program} {l : Launch} {e : Env} {s : State} {m : MethodId} {args : Array Value} {below : List Frame} {meth : Method} {c : Code} {Q : State → Prop} {A : Nat → Prop} {dC : Nat → ClassId} {dI : Nat → Nat → Nat} {a : Nat → Nat} {ac : Nat → ClassId} {n : Nat} {r : St} (C : nd_C p l s m args c A (dC, dI) cX18_name 3 RX18 ow_dm_X18_name (dk_X18 ac)) (K : nd_Kv p l e (headSpec ow_dm_X18_name ({ frames := 2, cells := 0, slots := 0, locals := 45 })).room s m args below meth c Q A (dC, dI) cX18_name (St) (dw_X18 a ac) r) : dj_X18_name_0 p l e s m args below meth c Q A dC dI a ac (df_X18_name_0 n) r := by
  obtain ⟨hlt, hx, hb, hml, hown, hts, hN, hA, hK⟩ := id C
  intro v0 s0 H locs ls h hP hD hS hl
  unfold df_X18_name_0 at h
  refine lv_aload_n hx hb dX18_name_0 rfl (lv_at hl 0 rfl) ?_
  refine lv_iconst (v := 1) hx hb dX18_name_1 (by decide) ?_
  refine va_put (D := (dC, dI)) (ci := 19) (v := .int 1) (ty := .boolean) (C := RX18) (T := TX18) (N := 10) hx hb hts hi_dm_X18_name_X18 tyX18 tyX18_ok nmX18 hown hK hP hD hS 0 rfl rfl 3 (by decide) (hts (.fieldLink RX18 43 "TimeMachineModel$Reader" "line" "Z") (List.mem_of_getElem? (i := 1) rfl)) (fun _ h9 => h9) rfl (by decide +kernel) (by first | rfl | decide) rfl (Nat.le_of_ble_eq_true rfl) dX18_name_2 (fun H locs hP hD hS => ?_)
  obtain ⟨s1, es1, h⟩ := nd_let_e h
  have hP : va_P (dC, dI) vwCl (dw_X18 a ac s1) H := by rw [es1]; exact hP
  have hD : va_D A (dw_X18 a ac s1) := by rw [es1]; exact hD
  refine lv_aload_n hx hb dX18_name_5 rfl (lv_at hl 0 rfl) ?_
  refine lv_iconst (v := 0) hx hb dX18_name_6 (by decide) ?_
  refine va_put (D := (dC, dI)) (ci := 19) (v := .int 0) (ty := .int) (C := RX18) (T := TX18) (N := 10) hx hb hts hi_dm_X18_name_X18 tyX18 tyX18_ok nmX18 hown hK hP hD hS 0 rfl rfl 2 (by decide) (hts (.fieldLink RX18 47 "TimeMachineModel$Reader" "operands" "I") (List.mem_of_getElem? (i := 2) rfl)) (fun _ h9 => h9) rfl (by decide +kernel) rfl rfl (Nat.le_of_ble_eq_true rfl) dX18_name_7 (fun H locs hP hD hS => ?_)
  obtain ⟨s2, es2, h⟩ := nd_let_e h
  have hP : va_P (dC, dI) vwCl (dw_X18 a ac s2) H := by rw [es2]; exact hP
  have hD : va_D A (dw_X18 a ac s2) := by rw [es2]; exact hD
  refine lv_aload_n hx hb dX18_name_10 rfl (lv_at hl 0 rfl) ?_
  refine lv_lload_n hx hb dX18_name_11 rfl (lv_at hl 1 rfl) ?_
  obtain ⟨s4, hq, h⟩ := nd_b1_e h
  have hPc := hP
  have hDc := hD
  have hKc := hK
  have hFc := nd_rs hD hS hA
  refine va_callv (va_runV (As := [.long v0]) (rest := []) ⟨hx, hb, hml, hown, hts⟩ (dm_X18_say l hlt dC dI a ac n (v0) s2 hq _) (cwV 1 hts gi_dm_X18_name_0 rfl rfl rfl (by decide +kernel) ⟨Nat.le_of_ble_eq_true rfl, Nat.le_of_ble_eq_true rfl⟩) ⟨fun a U g mk q => by obtain ⟨q0, q1, qP, qK, qD, qN⟩ := q; exact ⟨q0, q1, qP, va_K.moved (u := U) (U := U.calling g mk a) (Vm.Alike.refl U.vm) qK, qD, nv_same rfl rfl qN⟩, va_recv hKc hPc (ci := 19) (q0 := 0) rfl rfl, fun U hU hW => ⟨rfl, by rw [hU], by rw [hU]; exact hPc, va_K.moved hW.alike hKc, hDc.weaken (fun _ _ _ _ => trivial), nv_call hS hFc hU hW hN⟩⟩ rfl rfl hl.1 rfl (lv_room (Nat.le_of_ble_eq_true rfl)) dX18_name_12 ⟨by decide +kernel, by decide +kernel⟩) hS (fun q _ h => hFc q h) hFc (fun u t H locs ht hvm hw hB hz1 hk1 hS => ?_)
  obtain ⟨hP1, -, hD1⟩ := hB
  rw [ht] at hP1
  have hP := hP1
  have hD := hD1.weaken (fun k q _ h => hFc q.1 h)
  refine W.widen (k := 0) (n := 0) (Nat.le_refl _) (Nat.le_refl _) ?_
  exact K _ _ _ _ _ dX18_name_15 (Option.some.inj h).symm hP hD hS
set_option maxHeartbeats 40000000 in
set_option maxRecDepth 100000 in
theorem dm_X18_name (l : Launch) (hlt : l.stackTraces = false) (dC : Nat → ClassId) (dI : Nat → Nat → Nat) (a : Nat → Nat) (ac : Nat → ClassId) (n : Nat) (v0 : Int64) (s0 : St) {r : St} (h : df_X18_name n v0 s0 = some r) (sz : Nat) : Met l yX18_name ow_dm_X18_name ({ frames := 2, cells := 0, slots := 0, locals := 45 }) (va_Pc [.ref (a 0), .long v0] (fun U => U.heap.size = sz ∧ va_P (dC, dI) vwCl (dw_X18 a ac s0) U.heap ∧ va_K (dC, dI) vwCl (dk_X18 ac) U ∧ va_D (fun _ => True) (dw_X18 a ac s0) ∧ nv_E (va_A (dw_X18 a ac s0) sz) U)) (va_Qv (fun _ => True) (fun (_ : Unit) t => va_P (dC, dI) vwCl (dw_X18 a ac r) t.heap ∧ va_K (dC, dI) vwCl (dk_X18 ac) t ∧ va_D (va_A (dw_X18 a ac s0) sz) (dw_X18 a ac r)) (va_A (dw_X18 a ac s0) sz)) 0 0 (va_A (dw_X18 a ac s0) sz) := by
  refine Met.ofW (cc := cX18_name) (maxL := 3) (ret := none) (by decide) rfl ?_
  intro p e s m args below meth c s₁ B hml hv
  obtain ⟨rfl, hsz, hP, hK, hD0, hN⟩ := hv
  have hx := B.exec
  have hb := B.bytes
  have hr := B.returns
  have hts := atoms_spec (ws := ow_dm_X18_name) B.pre
  have hown : s.vm.findClass RX18 = some m.cls := findClass_of_methodNamed B.named
  have hlocks := B.notSynchronized
  subst hsz
  have hD := hD0.self (sz := s.heap.size)
  generalize hAe : va_A (dw_X18 a ac s0) s.heap.size = A at hD hN ⊢
  have hA : ∀ q : Nat, s.heap.size ≤ q → A q := fun q h => by rw [← hAe]; exact Or.inr h
  have hl := lv_entry ([.ref (a 0), .long v0]) (n := 3) (Nat.le_of_ble_eq_true rfl)
  rw [lg_entry_eq]
  generalize (lg_sl ([.ref (a 0), .long v0]) ++ List.replicate (3 - (lg_sl ([.ref (a 0), .long v0])).length) Slot.unset).toArray = ls at hl ⊢
  have hl : lv_has ls 3 [(0, .ref (a 0)), (1, .long v0)] := hl
  exact db_X18_name_0 (dC := dC) (dI := dI) (a := a) (ac := ac) (n := n) (r := r) ⟨hlt, hx, hb, hml, hown, hts, hN, hA, hK⟩ (fun pc τ H locs ls d er hP hD hS => by subst er; exact W.vret hx hb hr (fun t ht hW => ⟨⟨(), rfl, trivial, by rw [ht]; exact hP, va_K.moved hW.alike hK, hD⟩, hS.F ht⟩) hS.2.2 d) v0 s0 _ _ _ h hP hD va_S.rf (lv_sub hl [0, 1] rfl)
def ow_dm_X18_next : List Cond := .code yX18_next cX18_next 1 none :: ([.fieldLink RX18 47 "TimeMachineModel$Reader" "operands" "I", .methodLink RX18 29 yX18_put, .instanceMethod yX18_put, .selects RX18 yX18_put yX18_put, .initialized RX18] ++ (u_ws RX18 TX18 10 ++ (ow_dm_X18_put ++ [])))
theorem gd_dm_X18_next : ∀ w ∈ ow_dm_X18_next, (w.onTables && w.keeps) = true ∨ ∃ ty, w = Cond.arrayClass ty := List.forall_mem_cons.mpr ⟨good_of_word rfl, List.forall_mem_append.mpr ⟨fun w h => good_of_word (List.all_eq_true.mp (by decide +kernel) w h), List.forall_mem_append.mpr ⟨gu_X18, List.forall_mem_append.mpr ⟨gd_dm_X18_put, fun _ h => nomatch h⟩⟩⟩⟩
theorem hi_dm_X18_next_X18 : ∀ w ∈ u_ws RX18 TX18 10, w ∈ ow_dm_X18_next := fun w h => List.mem_cons_of_mem _ (List.mem_append_right _ (List.mem_append_left _ h))
theorem gi_dm_X18_next_0 : GoodIn ow_dm_X18_next (wsV RX18 29 RX18 yX18_put ow_dm_X18_put) := goodIn_app (goodIn_of _ (by decide +kernel)) (fun w h => ⟨List.mem_cons_of_mem _ (List.mem_append_right _ (List.mem_append_right _ (List.mem_append_left _ h))), gd_dm_X18_put w h⟩)
def dj_X18_next_13 (p : Program) (l : Launch) (e : Env) (s : State) (m : MethodId) (args : Array Value) (below : List Frame) (meth : Method) (c : Code) (Q : State → Prop) (A : Nat → Prop) (dC : Nat → ClassId) (dI : Nat → Nat → Nat) (a : Nat → Nat) (ac : Nat → ClassId) (g : (St) → Option (St)) (r : St) : Prop := ∀ (s0 : St) (H : Heap) (locs : List Loc) (ls : Array Slot), g s0 = some r → va_P (dC, dI) vwCl (dw_X18 a ac s0) H → va_D A (dw_X18 a ac s0) → va_S A s.heap H locs → lv_has ls 1 [(0, .ref (a 0))] → W p l e (headSpec ow_dm_X18_next ({ frames := 1, cells := 0, slots := 0, locals := 21 })).room s m args below meth c H locs 0 0 Q (F0 m 13 ls [])
def dj_X18_next_0 (p : Program) (l : Launch) (e : Env) (s : State) (m : MethodId) (args : Array Value) (below : List Frame) (meth : Method) (c : Code) (Q : State → Prop) (A : Nat → Prop) (dC : Nat → ClassId) (dI : Nat → Nat → Nat) (a : Nat → Nat) (ac : Nat → ClassId) (g : (St) → Option (St)) (r : St) : Prop := ∀ (s0 : St) (H : Heap) (locs : List Loc) (ls : Array Slot), g s0 = some r → va_P (dC, dI) vwCl (dw_X18 a ac s0) H → va_D A (dw_X18 a ac s0) → va_S A s.heap H locs → lv_has ls 1 [(0, .ref (a 0))] → W p l e (headSpec ow_dm_X18_next ({ frames := 1, cells := 0, slots := 0, locals := 21 })).room s m args below meth c H locs 0 0 Q (F0 m 0 ls [])
set_option maxHeartbeats 40000000 in
set_option maxRecDepth 100000 in
theorem db_X18_next_13 {p : Program} {l : Launch} {e : Env} {s : State} {m : MethodId} {args : Array Value} {below : List Frame} {meth : Method} {c : Code} {Q : State → Prop} {A : Nat → Prop} {dC : Nat → ClassId} {dI : Nat → Nat → Nat} {a : Nat → Nat} {ac : Nat → ClassId} {n : Nat} {r : St} (C : nd_C p l s m args c A (dC, dI) cX18_next 1 RX18 ow_dm_X18_next (dk_X18 ac)) (K : nd_Kv p l e (headSpec ow_dm_X18_next ({ frames := 1, cells := 0, slots := 0, locals := 21 })).room s m args below meth c Q A (dC, dI) cX18_next (St) (dw_X18 a ac) r) : dj_X18_next_13 p l e s m args below meth c Q A dC dI a ac (df_X18_next_13 n) r := by
  obtain ⟨hlt, hx, hb, hml, hown, hts, hN, hA, hK⟩ := id C
  intro s0 H locs ls h hP hD hS hl
  unfold df_X18_next_13 at h
  refine lv_aload_n hx hb dX18_next_13 rfl (lv_at hl 0 rfl) ?_
  refine lv_bipush (v := 32) hx hb dX18_next_14 (by decide) ?_
  obtain ⟨s3, hq, h⟩ := nd_b1_e h
  have hPc := hP
  have hDc := hD
  have hKc := hK
  have hFc := nd_rs hD hS hA
  refine va_callv (va_runV (As := [.int 32]) (rest := []) ⟨hx, hb, hml, hown, hts⟩ (dm_X18_put l hlt dC dI a ac n (32) s0 hq _) (cwV 1 hts gi_dm_X18_next_0 rfl rfl rfl (by decide +kernel) ⟨Nat.le_of_ble_eq_true rfl, Nat.le_of_ble_eq_true rfl⟩) ⟨fun a U g mk q => by obtain ⟨q0, q1, qP, qK, qD, qN⟩ := q; exact ⟨q0, q1, qP, va_K.moved (u := U) (U := U.calling g mk a) (Vm.Alike.refl U.vm) qK, qD, nv_same rfl rfl qN⟩, va_recv hKc hPc (ci := 19) (q0 := 0) rfl rfl, fun U hU hW => ⟨rfl, by rw [hU], by rw [hU]; exact hPc, va_K.moved hW.alike hKc, hDc.weaken (fun _ _ _ _ => trivial), nv_call hS hFc hU hW hN⟩⟩ rfl rfl hl.1 rfl (lv_room (Nat.le_of_ble_eq_true rfl)) dX18_next_16 ⟨by decide +kernel, by decide +kernel⟩) hS (fun q _ h => hFc q h) hFc (fun u t H locs ht hvm hw hB hz1 hk1 hS => ?_)
  obtain ⟨hP1, -, hD1⟩ := hB
  rw [ht] at hP1
  have hP := hP1
  have hD := hD1.weaken (fun k q _ h => hFc q.1 h)
  refine W.widen (k := 0) (n := 0) (Nat.le_refl _) (Nat.le_refl _) ?_
  refine lv_aload_n hx hb dX18_next_19 rfl (lv_at hl 0 rfl) ?_
  refine lv_dup hx hb dX18_next_20 rfl ?_
  refine va_get (D := (dC, dI)) (ci := 19) (v := .int (sI s3 1)) (C := RX18) (T := TX18) (N := 10) hx hb hts hi_dm_X18_next_X18 hown hK hP 0 rfl rfl 2 (by decide) (hts (.fieldLink RX18 47 "TimeMachineModel$Reader" "operands" "I") (List.mem_of_getElem? (i := 1) rfl)) (fun _ h9 => h9) rfl dX18_next_21 ?_
  refine lv_iconst (v := 1) hx hb dX18_next_24 (by decide) ?_
  refine lv_iadd hx hb dX18_next_25 ?_
  refine va_put (D := (dC, dI)) (ci := 19) (v := .int ((sI s3 1) + 1)) (ty := .int) (C := RX18) (T := TX18) (N := 10) hx hb hts hi_dm_X18_next_X18 tyX18 tyX18_ok nmX18 hown hK hP hD hS 0 rfl rfl 2 (by decide) (hts (.fieldLink RX18 47 "TimeMachineModel$Reader" "operands" "I") (List.mem_of_getElem? (i := 1) rfl)) (fun _ h9 => h9) rfl (by decide +kernel) rfl rfl (Nat.le_of_ble_eq_true rfl) dX18_next_26 (fun H locs hP hD hS => ?_)
  obtain ⟨s5, es5, h⟩ := nd_let_e h
  have hP : va_P (dC, dI) vwCl (dw_X18 a ac s5) H := by rw [es5]; exact hP
  have hD : va_D A (dw_X18 a ac s5) := by rw [es5]; exact hD
  exact K _ _ _ _ _ dX18_next_29 (Option.some.inj h).symm hP hD hS
set_option maxHeartbeats 40000000 in
set_option maxRecDepth 100000 in
theorem db_X18_next_0 {p : Program} {l : Launch} {e : Env} {s : State} {m : MethodId} {args : Array Value} {below : List Frame} {meth : Method} {c : Code} {Q : State → Prop} {A : Nat → Prop} {dC : Nat → ClassId} {dI : Nat → Nat → Nat} {a : Nat → Nat} {ac : Nat → ClassId} {n : Nat} {r : St} (C : nd_C p l s m args c A (dC, dI) cX18_next 1 RX18 ow_dm_X18_next (dk_X18 ac)) (K : nd_Kv p l e (headSpec ow_dm_X18_next ({ frames := 1, cells := 0, slots := 0, locals := 21 })).room s m args below meth c Q A (dC, dI) cX18_next (St) (dw_X18 a ac) r) : dj_X18_next_0 p l e s m args below meth c Q A dC dI a ac (df_X18_next_0 n) r := by
  obtain ⟨hlt, hx, hb, hml, hown, hts, hN, hA, hK⟩ := id C
  intro s0 H locs ls h hP hD hS hl
  unfold df_X18_next_0 at h
  refine lv_aload_n hx hb dX18_next_0 rfl (lv_at hl 0 rfl) ?_
  refine va_get (D := (dC, dI)) (ci := 19) (v := .int (sI s0 1)) (C := RX18) (T := TX18) (N := 10) hx hb hts hi_dm_X18_next_X18 hown hK hP 0 rfl rfl 2 (by decide) (hts (.fieldLink RX18 47 "TimeMachineModel$Reader" "operands" "I") (List.mem_of_getElem? (i := 1) rfl)) (fun _ h9 => h9) rfl dX18_next_1 ?_
  refine lv_if_le (tgt := 13) hx hb dX18_next_4 (by decide) (fun c1 => ?_) (fun c1 => ?_)
  · have h := nd_pos h c1
    exact (db_X18_next_13 C K)  s0 _ _ _ h hP hD hS (lv_sub hl [0] rfl)
  · have h := nd_neg h c1
    refine lv_aload_n hx hb dX18_next_7 rfl (lv_at hl 0 rfl) ?_
    refine lv_bipush (v := 44) hx hb dX18_next_8 (by decide) ?_
    obtain ⟨s7, hq, h⟩ := nd_b1_e h
    have hPc := hP
    have hDc := hD
    have hKc := hK
    have hFc := nd_rs hD hS hA
    refine va_callv (va_runV (As := [.int 44]) (rest := []) ⟨hx, hb, hml, hown, hts⟩ (dm_X18_put l hlt dC dI a ac n (44) s0 hq _) (cwV 1 hts gi_dm_X18_next_0 rfl rfl rfl (by decide +kernel) ⟨Nat.le_of_ble_eq_true rfl, Nat.le_of_ble_eq_true rfl⟩) ⟨fun a U g mk q => by obtain ⟨q0, q1, qP, qK, qD, qN⟩ := q; exact ⟨q0, q1, qP, va_K.moved (u := U) (U := U.calling g mk a) (Vm.Alike.refl U.vm) qK, qD, nv_same rfl rfl qN⟩, va_recv hKc hPc (ci := 19) (q0 := 0) rfl rfl, fun U hU hW => ⟨rfl, by rw [hU], by rw [hU]; exact hPc, va_K.moved hW.alike hKc, hDc.weaken (fun _ _ _ _ => trivial), nv_call hS hFc hU hW hN⟩⟩ rfl rfl hl.1 rfl (lv_room (Nat.le_of_ble_eq_true rfl)) dX18_next_10 ⟨by decide +kernel, by decide +kernel⟩) hS (fun q _ h => hFc q h) hFc (fun u t H locs ht hvm hw hB hz1 hk1 hS => ?_)
    obtain ⟨hP1, -, hD1⟩ := hB
    rw [ht] at hP1
    have hP := hP1
    have hD := hD1.weaken (fun k q _ h => hFc q.1 h)
    refine W.widen (k := 0) (n := 0) (Nat.le_refl _) (Nat.le_refl _) ?_
    exact (db_X18_next_13 C K)  s7 _ _ _ h hP hD hS (lv_sub hl [0] rfl)
set_option maxHeartbeats 40000000 in
set_option maxRecDepth 100000 in
theorem dm_X18_next (l : Launch) (hlt : l.stackTraces = false) (dC : Nat → ClassId) (dI : Nat → Nat → Nat) (a : Nat → Nat) (ac : Nat → ClassId) (n : Nat) (s0 : St) {r : St} (h : df_X18_next n s0 = some r) (sz : Nat) : Met l yX18_next ow_dm_X18_next ({ frames := 1, cells := 0, slots := 0, locals := 21 }) (va_Pc [.ref (a 0)] (fun U => U.heap.size = sz ∧ va_P (dC, dI) vwCl (dw_X18 a ac s0) U.heap ∧ va_K (dC, dI) vwCl (dk_X18 ac) U ∧ va_D (fun _ => True) (dw_X18 a ac s0) ∧ nv_E (va_A (dw_X18 a ac s0) sz) U)) (va_Qv (fun _ => True) (fun (_ : Unit) t => va_P (dC, dI) vwCl (dw_X18 a ac r) t.heap ∧ va_K (dC, dI) vwCl (dk_X18 ac) t ∧ va_D (va_A (dw_X18 a ac s0) sz) (dw_X18 a ac r)) (va_A (dw_X18 a ac s0) sz)) 0 0 (va_A (dw_X18 a ac s0) sz) := by
  refine Met.ofW (cc := cX18_next) (maxL := 1) (ret := none) (by decide) rfl ?_
  intro p e s m args below meth c s₁ B hml hv
  obtain ⟨rfl, hsz, hP, hK, hD0, hN⟩ := hv
  have hx := B.exec
  have hb := B.bytes
  have hr := B.returns
  have hts := atoms_spec (ws := ow_dm_X18_next) B.pre
  have hown : s.vm.findClass RX18 = some m.cls := findClass_of_methodNamed B.named
  have hlocks := B.notSynchronized
  subst hsz
  have hD := hD0.self (sz := s.heap.size)
  generalize hAe : va_A (dw_X18 a ac s0) s.heap.size = A at hD hN ⊢
  have hA : ∀ q : Nat, s.heap.size ≤ q → A q := fun q h => by rw [← hAe]; exact Or.inr h
  have hl := lv_entry ([.ref (a 0)]) (n := 1) (Nat.le_of_ble_eq_true rfl)
  rw [lg_entry_eq]
  generalize (lg_sl ([.ref (a 0)]) ++ List.replicate (1 - (lg_sl ([.ref (a 0)])).length) Slot.unset).toArray = ls at hl ⊢
  have hl : lv_has ls 1 [(0, .ref (a 0))] := hl
  exact db_X18_next_0 (dC := dC) (dI := dI) (a := a) (ac := ac) (n := n) (r := r) ⟨hlt, hx, hb, hml, hown, hts, hN, hA, hK⟩ (fun pc τ H locs ls d er hP hD hS => by subst er; exact W.vret hx hb hr (fun t ht hW => ⟨⟨(), rfl, trivial, by rw [ht]; exact hP, va_K.moved hW.alike hK, hD⟩, hS.F ht⟩) hS.2.2 d) s0 _ _ _ h hP hD va_S.rf (lv_sub hl [0] rfl)
