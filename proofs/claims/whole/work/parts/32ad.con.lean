set_option maxHeartbeats 40000000 in
set_option maxRecDepth 100000 in
theorem db_X13_shorts_221 {p : Program} {l : Launch} {e : Env} {s : State} {m : MethodId} {args : Array Value} {below : List Frame} {meth : Method} {c : Code} {Q : State → Prop} {A : Nat → Prop} {dC : Nat → ClassId} {dI : Nat → Nat → Nat} {a : Nat → Nat} {ac : Nat → ClassId} {n : Nat} {r : St} (C : nd_C p l s m args c A (dC, dI) cX13_shorts 6 RX13 ow_dm_X13_shorts (dk_X13 ac)) (K : nd_Kv p l e (headSpec ow_dm_X13_shorts ({ frames := 10, cells := 0, slots := 0, locals := 231 })).room s m args below meth c Q A (dC, dI) cX13_shorts (St) (dw_X13 a ac) r) : dj_X13_shorts_221 p l e s m args below meth c Q A dC dI a ac (df_X13_shorts_221 n) r := by
  obtain ⟨hlt, hx, hb, hml, hown, hts, hN, hA, hK⟩ := id C
  intro x1 x2 x3 x4 x5 s0 H locs ls h hP hD hS hl
  unfold df_X13_shorts_221 at h
  refine lv_aload_n hx hb dX13_shorts_221 rfl (lv_at hl 0 rfl) ?_
  obtain ⟨q12, s13, hq, h⟩ := nd_b2_e h
  have hPc := hP
  have hDc := hD
  have hKc := hK
  have hFc := nd_rs hD hS hA
  refine nd_cVi (As := []) (rest := []) (q := q12) (w' := dw_X13 a ac s13) ⟨hx, hb, hml, hown, hts⟩ (fun sz => dm_X13_comma l hlt dC dI a ac n  s0 hq sz) (cwV 0 hts gi_dm_X13_shorts_1 rfl rfl rfl (by decide +kernel) ⟨Nat.le_of_ble_eq_true rfl, Nat.le_of_ble_eq_true rfl⟩) hPc hDc hKc hS hA hN (va_recv hKc hPc (ci := 14) (q0 := 0) rfl rfl) rfl hl.1 rfl (Nat.le_of_ble_eq_true rfl) dX13_shorts_222 (fun H locs hP1 hD1 hk1 hS => ?_)
  have hP := hP1
  have hD := hD1.weaken (fun k q _ h => hFc q.1 h)
  refine lv_if_ne (tgt := 229) hx hb dX13_shorts_225 (by decide) (fun c15 => ?_) (fun c15 => ?_)
  · have h := nd_neg h c15
    refine lv_iload_n hx hb dX13_shorts_229 rfl (lv_at hl 3 rfl) ?_
    refine lv_if_eq (tgt := 244) hx hb dX13_shorts_230 (by decide) (fun c16 => ?_) (fun c16 => ?_)
    · have h := nd_pos h c16
      refine lv_iload_n hx hb dX13_shorts_244 rfl (lv_at hl 1 rfl) ?_
      refine lv_bipush (v := 28) hx hb dX13_shorts_245 (by decide) ?_
      refine lv_icmp_ne (tgt := 276) hx hb dX13_shorts_247 (by decide) (fun c17 => ?_) (fun c17 => ?_)
      · have h := nd_neg h c17
        refine lv_iload_n hx hb dX13_shorts_276 rfl (lv_at hl 1 rfl) ?_
        refine lv_bipush (v := 17) hx hb dX13_shorts_277 (by decide) ?_
        refine lv_icmp_eq (tgt := 287) hx hb dX13_shorts_279 (by decide) (fun c18 => ?_) (fun c18 => ?_)
        · have h := nd_pos h c18
          exact (db_X13_shorts_287 C K) (x2) (x4) (x5) s13 _ _ _ h hP hD hS (lv_sub hl [0, 2, 4, 5] rfl)
        · have h := nd_neg h c18
          refine lv_iload hx hb dX13_shorts_282 (lv_at hl 5 rfl) ?_
          refine lv_if_eq (tgt := 299) hx hb dX13_shorts_284 (by decide) (fun c22 => ?_) (fun c22 => ?_)
          · have h := nd_pos h c22
            refine lv_iload_n hx hb dX13_shorts_299 rfl (lv_at hl 1 rfl) ?_
            refine lv_bipush (v := 25) hx hb dX13_shorts_300 (by decide) ?_
            refine lv_icmp_ne (tgt := 333) hx hb dX13_shorts_302 (by decide) (fun c23 => ?_) (fun c23 => ?_)
            · have h := nd_neg h c23
              refine lv_aload_n hx hb dX13_shorts_333 rfl (lv_at hl 0 rfl) ?_
              refine lv_iload_n hx hb dX13_shorts_334 rfl (lv_at hl 1 rfl) ?_
              refine lv_iload_n hx hb dX13_shorts_335 rfl (lv_at hl 2 rfl) ?_
              refine lv_iload hx hb dX13_shorts_336 (lv_at hl 4 rfl) ?_
              obtain ⟨s25, hq, h⟩ := nd_b1_e h
              have hPc := hP
              have hDc := hD
              have hKc := hK
              have hFc := nd_rs hD hS hA
              refine nd_cVv (As := [.int x1, .int x2, .int x4]) (rest := []) (w' := dw_X13 a ac s25) ⟨hx, hb, hml, hown, hts⟩ (fun sz => dm_X13_stacked l hlt dC dI a ac n (x1) (x2) (x4) s13 hq sz) (cwV 3 hts gi_dm_X13_shorts_3 rfl rfl rfl (by decide +kernel) ⟨Nat.le_of_ble_eq_true rfl, Nat.le_of_ble_eq_true rfl⟩) hPc hDc hKc hS hA hN (va_recv hKc hPc (ci := 14) (q0 := 0) rfl rfl) rfl hl.1 rfl (Nat.le_of_ble_eq_true rfl) dX13_shorts_338 (fun H locs hP1 hD1 hk1 hS => ?_)
              have hP := hP1
              have hD := hD1.weaken (fun k q _ h => hFc q.1 h)
              exact (db_X13_shorts_341 C K)  s25 _ _ _ h hP hD hS (lv_sub hl [] rfl)
            · have h := nd_pos h c23
              refine lv_aload_n hx hb dX13_shorts_305 rfl (lv_at hl 0 rfl) ?_
              refine lv_iload_n hx hb dX13_shorts_306 rfl (lv_at hl 2 rfl) ?_
              refine lv_iload hx hb dX13_shorts_307 (lv_at hl 4 rfl) ?_
              refine lv_bipush (v := 7) hx hb dX13_shorts_309 (by decide) ?_
              refine lv_ishl hx hb dX13_shorts_311 ?_
              refine lv_ior hx hb dX13_shorts_312 ?_
              refine lv_aload_n hx hb dX13_shorts_313 rfl (lv_at hl 0 rfl) ?_
              refine lv_iconst (v := 0) hx hb dX13_shorts_314 (by decide) ?_
              refine lv_bipush (v := 31) hx hb dX13_shorts_315 (by decide) ?_
              refine lv_iconst (v := 1) hx hb dX13_shorts_317 (by decide) ?_
              obtain ⟨q27, s28, hq, h⟩ := nd_b2_e h
              have hPc := hP
              have hDc := hD
              have hKc := hK
              have hFc := nd_rs hD hS hA
              refine nd_cVi (As := [.int 0, .int 31, .int 1]) (rest := [.int (x2 ||| ((x4 : Int32) <<< ((7 : Int32) &&& 31))), .ref (a 0)]) (q := q27) (w' := dw_X13 a ac s28) ⟨hx, hb, hml, hown, hts⟩ (fun sz => dm_X13_within l hlt dC dI a ac n (0) (31) (1) s13 hq sz) (cwV 3 hts gi_dm_X13_shorts_4 rfl rfl rfl (by decide +kernel) ⟨Nat.le_of_ble_eq_true rfl, Nat.le_of_ble_eq_true rfl⟩) hPc hDc hKc hS hA hN (va_recv hKc hPc (ci := 14) (q0 := 0) rfl rfl) rfl hl.1 rfl (Nat.le_of_ble_eq_true rfl) dX13_shorts_318 (fun H locs hP1 hD1 hk1 hS => ?_)
              have hP := hP1
              have hD := hD1.weaken (fun k q _ h => hFc q.1 h)
              refine lv_bipush (v := 31) hx hb dX13_shorts_321 (by decide) ?_
              refine lv_iand hx hb dX13_shorts_323 ?_
              refine lv_iconst (v := 2) hx hb dX13_shorts_324 (by decide) ?_
              refine lv_ishl hx hb dX13_shorts_325 ?_
              refine lv_ior hx hb dX13_shorts_326 ?_
              obtain ⟨s31, hq, h⟩ := nd_b1_e h
              have hPc := hP
              have hDc := hD
              have hKc := hK
              have hFc := nd_rs hD hS hA
              refine nd_cVv (As := [.int ((x2 ||| ((x4 : Int32) <<< ((7 : Int32) &&& 31))) ||| (((q27 &&& 31) : Int32) <<< ((2 : Int32) &&& 31)))]) (rest := []) (w' := dw_X13 a ac s31) ⟨hx, hb, hml, hown, hts⟩ (fun sz => dm_X13_half l hlt dC dI a ac n (((x2 ||| ((x4 : Int32) <<< ((7 : Int32) &&& 31))) ||| (((q27 &&& 31) : Int32) <<< ((2 : Int32) &&& 31)))) s28 hq sz) (cwV 1 hts gi_dm_X13_shorts_5 rfl rfl rfl (by decide +kernel) ⟨Nat.le_of_ble_eq_true rfl, Nat.le_of_ble_eq_true rfl⟩) hPc hDc hKc hS hA hN (va_recv hKc hPc (ci := 14) (q0 := 0) rfl rfl) rfl hl.1 rfl (Nat.le_of_ble_eq_true rfl) dX13_shorts_327 (fun H locs hP1 hD1 hk1 hS => ?_)
              have hP := hP1
              have hD := hD1.weaken (fun k q _ h => hFc q.1 h)
              refine lv_goto (tgt := 341) hx hb dX13_shorts_330 (by decide) ?_
              exact (db_X13_shorts_341 C K)  s31 _ _ _ h hP hD hS (lv_sub hl [] rfl)
          · have h := nd_neg h c22
            exact (db_X13_shorts_287 C K) (x2) (x4) (x5) s13 _ _ _ h hP hD hS (lv_sub hl [0, 2, 4, 5] rfl)
      · have h := nd_pos h c17
        refine lv_aload_n hx hb dX13_shorts_250 rfl (lv_at hl 0 rfl) ?_
        refine lv_iload_n hx hb dX13_shorts_251 rfl (lv_at hl 2 rfl) ?_
        refine lv_iload hx hb dX13_shorts_252 (lv_at hl 4 rfl) ?_
        refine lv_bipush (v := 7) hx hb dX13_shorts_254 (by decide) ?_
        refine lv_ishl hx hb dX13_shorts_256 ?_
        refine lv_ior hx hb dX13_shorts_257 ?_
        refine lv_aload_n hx hb dX13_shorts_258 rfl (lv_at hl 0 rfl) ?_
        refine lv_aload_n hx hb dX13_shorts_259 rfl (lv_at hl 0 rfl) ?_
        obtain ⟨q33, s34, hq, h⟩ := nd_b2_e h
        have hPc := hP
        have hDc := hD
        have hKc := hK
        have hFc := nd_rs hD hS hA
        refine nd_cVi (As := []) (rest := [.ref (a 0), .int (x2 ||| ((x4 : Int32) <<< ((7 : Int32) &&& 31))), .ref (a 0)]) (q := q33) (w' := dw_X13 a ac s34) ⟨hx, hb, hml, hown, hts⟩ (fun sz => dm_X13_taken l hlt dC dI a ac n  s13 hq sz) (cwV 0 hts gi_dm_X13_shorts_0 rfl rfl rfl (by decide +kernel) ⟨Nat.le_of_ble_eq_true rfl, Nat.le_of_ble_eq_true rfl⟩) hPc hDc hKc hS hA hN (va_recv hKc hPc (ci := 14) (q0 := 0) rfl rfl) rfl hl.1 rfl (Nat.le_of_ble_eq_true rfl) dX13_shorts_260 (fun H locs hP1 hD1 hk1 hS => ?_)
        have hP := hP1
        have hD := hD1.weaken (fun k q _ h => hFc q.1 h)
        refine lv_iconst (v := 0) hx hb dX13_shorts_263 (by decide) ?_
        obtain ⟨q36, s37, hq, h⟩ := nd_b2_e h
        have hPc := hP
        have hDc := hD
        have hKc := hK
        have hFc := nd_rs hD hS hA
        refine nd_cVi (As := [.int q33, .int 0]) (rest := [.int (x2 ||| ((x4 : Int32) <<< ((7 : Int32) &&& 31))), .ref (a 0)]) (q := q36) (w' := dw_X13 a ac s37) ⟨hx, hb, hml, hown, hts⟩ (fun sz => dm_X13_not l hlt dC dI a ac n (q33) (0) s34 hq sz) (cwV 2 hts gi_dm_X13_shorts_6 rfl rfl rfl (by decide +kernel) ⟨Nat.le_of_ble_eq_true rfl, Nat.le_of_ble_eq_true rfl⟩) hPc hDc hKc hS hA hN (va_recv hKc hPc (ci := 14) (q0 := 0) rfl rfl) rfl hl.1 rfl (Nat.le_of_ble_eq_true rfl) dX13_shorts_264 (fun H locs hP1 hD1 hk1 hS => ?_)
        have hP := hP1
        have hD := hD1.weaken (fun k q _ h => hFc q.1 h)
        refine lv_iconst (v := 2) hx hb dX13_shorts_267 (by decide) ?_
        refine lv_ishl hx hb dX13_shorts_268 ?_
        refine lv_ior hx hb dX13_shorts_269 ?_
        obtain ⟨s40, hq, h⟩ := nd_b1_e h
        have hPc := hP
        have hDc := hD
        have hKc := hK
        have hFc := nd_rs hD hS hA
        refine nd_cVv (As := [.int ((x2 ||| ((x4 : Int32) <<< ((7 : Int32) &&& 31))) ||| ((q36 : Int32) <<< ((2 : Int32) &&& 31)))]) (rest := []) (w' := dw_X13 a ac s40) ⟨hx, hb, hml, hown, hts⟩ (fun sz => dm_X13_half l hlt dC dI a ac n (((x2 ||| ((x4 : Int32) <<< ((7 : Int32) &&& 31))) ||| ((q36 : Int32) <<< ((2 : Int32) &&& 31)))) s37 hq sz) (cwV 1 hts gi_dm_X13_shorts_5 rfl rfl rfl (by decide +kernel) ⟨Nat.le_of_ble_eq_true rfl, Nat.le_of_ble_eq_true rfl⟩) hPc hDc hKc hS hA hN (va_recv hKc hPc (ci := 14) (q0 := 0) rfl rfl) rfl hl.1 rfl (Nat.le_of_ble_eq_true rfl) dX13_shorts_270 (fun H locs hP1 hD1 hk1 hS => ?_)
        have hP := hP1
        have hD := hD1.weaken (fun k q _ h => hFc q.1 h)
        refine lv_goto (tgt := 341) hx hb dX13_shorts_273 (by decide) ?_
        exact (db_X13_shorts_341 C K)  s40 _ _ _ h hP hD hS (lv_sub hl [] rfl)
    · have h := nd_neg h c16
      refine lv_aload_n hx hb dX13_shorts_233 rfl (lv_at hl 0 rfl) ?_
      refine lv_iload_n hx hb dX13_shorts_234 rfl (lv_at hl 1 rfl) ?_
      refine lv_iload_n hx hb dX13_shorts_235 rfl (lv_at hl 2 rfl) ?_
      refine lv_iload hx hb dX13_shorts_236 (lv_at hl 4 rfl) ?_
      obtain ⟨s43, hq, h⟩ := nd_b1_e h
      have hPc := hP
      have hDc := hD
      have hKc := hK
      have hFc := nd_rs hD hS hA
      refine nd_cVv (As := [.int x1, .int x2, .int x4]) (rest := []) (w' := dw_X13 a ac s43) ⟨hx, hb, hml, hown, hts⟩ (fun sz => dm_X13_smalls l hlt dC dI a ac n (x1) (x2) (x4) s13 hq sz) (cwV 3 hts gi_dm_X13_shorts_7 rfl rfl rfl (by decide +kernel) ⟨Nat.le_of_ble_eq_true rfl, Nat.le_of_ble_eq_true rfl⟩) hPc hDc hKc hS hA hN (va_recv hKc hPc (ci := 14) (q0 := 0) rfl rfl) rfl hl.1 rfl (Nat.le_of_ble_eq_true rfl) dX13_shorts_238 (fun H locs hP1 hD1 hk1 hS => ?_)
      have hP := hP1
      have hD := hD1.weaken (fun k q _ h => hFc q.1 h)
      refine lv_goto (tgt := 341) hx hb dX13_shorts_241 (by decide) ?_
      exact (db_X13_shorts_341 C K)  s43 _ _ _ h hP hD hS (lv_sub hl [] rfl)
  · have h := nd_pos h c15
    exact K _ _ _ _ _ dX13_shorts_228 (Option.some.inj h).symm hP hD hS
set_option maxHeartbeats 40000000 in
set_option maxRecDepth 100000 in
theorem db_X13_shorts_206 {p : Program} {l : Launch} {e : Env} {s : State} {m : MethodId} {args : Array Value} {below : List Frame} {meth : Method} {c : Code} {Q : State → Prop} {A : Nat → Prop} {dC : Nat → ClassId} {dI : Nat → Nat → Nat} {a : Nat → Nat} {ac : Nat → ClassId} {n : Nat} {r : St} (C : nd_C p l s m args c A (dC, dI) cX13_shorts 6 RX13 ow_dm_X13_shorts (dk_X13 ac)) (K : nd_Kv p l e (headSpec ow_dm_X13_shorts ({ frames := 10, cells := 0, slots := 0, locals := 231 })).room s m args below meth c Q A (dC, dI) cX13_shorts (St) (dw_X13 a ac) r) : dj_X13_shorts_206 p l e s m args below meth c Q A dC dI a ac (df_X13_shorts_206 n) r := by
  obtain ⟨hlt, hx, hb, hml, hown, hts, hN, hA, hK⟩ := id C
  intro x1 x2 x3 x4 y0 s0 H locs ls h hP hD hS hl
  unfold df_X13_shorts_206 at h
  refine lv_istore (lv' := [(5, .int y0), (0, .ref (a 0)), (1, .int x1), (2, .int x2), (3, .int x3), (4, .int x4)]) hx hb dX13_shorts_206 hl (by decide) rfl (fun ls hl => ?_)
  refine lv_iload hx hb dX13_shorts_208 (lv_at hl 0 rfl) ?_
  refine lv_if_eq (tgt := 221) hx hb dX13_shorts_210 (by decide) (fun c11 => ?_) (fun c11 => ?_)
  · have h := nd_pos h c11
    exact (db_X13_shorts_221 C K) (x1) (x2) (x3) (x4) (y0) s0 _ _ _ h hP hD hS (lv_sub hl [1, 2, 3, 4, 5, 0] rfl)
  · have h := nd_neg h c11
    refine lv_aload_n hx hb dX13_shorts_213 rfl (lv_at hl 1 rfl) ?_
    refine lv_iload hx hb dX13_shorts_214 (lv_at hl 5 rfl) ?_
    refine lv_iconst (v := 2) hx hb dX13_shorts_216 (by decide) ?_
    obtain ⟨q45, s46, hq, h⟩ := nd_b2_e h
    have hPc := hP
    have hDc := hD
    have hKc := hK
    have hFc := nd_rs hD hS hA
    refine nd_cVi (As := [.int x4, .int 2]) (rest := []) (q := q45) (w' := dw_X13 a ac s46) ⟨hx, hb, hml, hown, hts⟩ (fun sz => dm_X13_not l hlt dC dI a ac n (x4) (2) s0 hq sz) (cwV 2 hts gi_dm_X13_shorts_6 rfl rfl rfl (by decide +kernel) ⟨Nat.le_of_ble_eq_true rfl, Nat.le_of_ble_eq_true rfl⟩) hPc hDc hKc hS hA hN (va_recv hKc hPc (ci := 14) (q0 := 0) rfl rfl) rfl hl.1 rfl (Nat.le_of_ble_eq_true rfl) dX13_shorts_217 (fun H locs hP1 hD1 hk1 hS => ?_)
    have hP := hP1
    have hD := hD1.weaken (fun k q _ h => hFc q.1 h)
    refine lv_pop hx hb dX13_shorts_220 rfl ?_
    exact (db_X13_shorts_221 C K) (x1) (x2) (x3) (x4) (y0) s46 _ _ _ h hP hD hS (lv_sub hl [1, 2, 3, 4, 5, 0] rfl)
set_option maxHeartbeats 40000000 in
set_option maxRecDepth 100000 in
theorem db_X13_shorts_195 {p : Program} {l : Launch} {e : Env} {s : State} {m : MethodId} {args : Array Value} {below : List Frame} {meth : Method} {c : Code} {Q : State → Prop} {A : Nat → Prop} {dC : Nat → ClassId} {dI : Nat → Nat → Nat} {a : Nat → Nat} {ac : Nat → ClassId} {n : Nat} {r : St} (C : nd_C p l s m args c A (dC, dI) cX13_shorts 6 RX13 ow_dm_X13_shorts (dk_X13 ac)) (K : nd_Kv p l e (headSpec ow_dm_X13_shorts ({ frames := 10, cells := 0, slots := 0, locals := 231 })).room s m args below meth c Q A (dC, dI) cX13_shorts (St) (dw_X13 a ac) r) : dj_X13_shorts_195 p l e s m args below meth c Q A dC dI a ac (df_X13_shorts_195 n) r := by
  obtain ⟨hlt, hx, hb, hml, hown, hts, hN, hA, hK⟩ := id C
  intro x1 x2 x3 x4 s0 H locs ls h hP hD hS hl
  unfold df_X13_shorts_195 at h
  refine lv_iload_n hx hb dX13_shorts_195 rfl (lv_at hl 1 rfl) ?_
  refine lv_bipush (v := 18) hx hb dX13_shorts_196 (by decide) ?_
  refine lv_icmp_ne (tgt := 205) hx hb dX13_shorts_198 (by decide) (fun c10 => ?_) (fun c10 => ?_)
  · have h := nd_neg h c10
    refine lv_iconst (v := 0) hx hb dX13_shorts_205 (by decide) ?_
    exact (db_X13_shorts_206 C K) (x1) (x2) (x3) (x4) (0) s0 _ _ _ h hP hD hS (lv_sub hl [0, 1, 2, 3, 4] rfl)
  · have h := nd_pos h c10
    refine lv_iconst (v := 1) hx hb dX13_shorts_201 (by decide) ?_
    refine lv_goto (tgt := 206) hx hb dX13_shorts_202 (by decide) ?_
    exact (db_X13_shorts_206 C K) (x1) (x2) (x3) (x4) (1) s0 _ _ _ h hP hD hS (lv_sub hl [0, 1, 2, 3, 4] rfl)
set_option maxHeartbeats 40000000 in
set_option maxRecDepth 100000 in
theorem db_X13_shorts_156 {p : Program} {l : Launch} {e : Env} {s : State} {m : MethodId} {args : Array Value} {below : List Frame} {meth : Method} {c : Code} {Q : State → Prop} {A : Nat → Prop} {dC : Nat → ClassId} {dI : Nat → Nat → Nat} {a : Nat → Nat} {ac : Nat → ClassId} {n : Nat} {r : St} (C : nd_C p l s m args c A (dC, dI) cX13_shorts 6 RX13 ow_dm_X13_shorts (dk_X13 ac)) (K : nd_Kv p l e (headSpec ow_dm_X13_shorts ({ frames := 10, cells := 0, slots := 0, locals := 231 })).room s m args below meth c Q A (dC, dI) cX13_shorts (St) (dw_X13 a ac) r) : dj_X13_shorts_156 p l e s m args below meth c Q A dC dI a ac (df_X13_shorts_156 n) r := by
  obtain ⟨hlt, hx, hb, hml, hown, hts, hN, hA, hK⟩ := id C
  intro x1 x2 x3 y0 s0 H locs ls h hP hD hS hl
  unfold df_X13_shorts_156 at h
  refine lv_istore (lv' := [(4, .int y0), (0, .ref (a 0)), (1, .int x1), (2, .int x2), (3, .int x3)]) hx hb dX13_shorts_156 hl (by decide) rfl (fun ls hl => ?_)
  refine lv_iload_n hx hb dX13_shorts_158 rfl (lv_at hl 2 rfl) ?_
  refine lv_bipush (v := 27) hx hb dX13_shorts_159 (by decide) ?_
  refine lv_icmp_ne (tgt := 181) hx hb dX13_shorts_161 (by decide) (fun c8 => ?_) (fun c8 => ?_)
  · have h := nd_neg h c8
    refine lv_iload_n hx hb dX13_shorts_181 rfl (lv_at hl 2 rfl) ?_
    refine lv_bipush (v := 26) hx hb dX13_shorts_182 (by decide) ?_
    refine lv_icmp_ne (tgt := 195) hx hb dX13_shorts_184 (by decide) (fun c9 => ?_) (fun c9 => ?_)
    · have h := nd_neg h c9
      exact (db_X13_shorts_195 C K) (x1) (x2) (x3) (y0) s0 _ _ _ h hP hD hS (lv_sub hl [1, 2, 3, 4, 0] rfl)
    · have h := nd_pos h c9
      refine lv_aload_n hx hb dX13_shorts_187 rfl (lv_at hl 1 rfl) ?_
      refine lv_iload hx hb dX13_shorts_188 (lv_at hl 0 rfl) ?_
      refine lv_iconst (v := 0) hx hb dX13_shorts_190 (by decide) ?_
      obtain ⟨q48, s49, hq, h⟩ := nd_b2_e h
      have hPc := hP
      have hDc := hD
      have hKc := hK
      have hFc := nd_rs hD hS hA
      refine nd_cVi (As := [.int y0, .int 0]) (rest := []) (q := q48) (w' := dw_X13 a ac s49) ⟨hx, hb, hml, hown, hts⟩ (fun sz => dm_X13_not l hlt dC dI a ac n (y0) (0) s0 hq sz) (cwV 2 hts gi_dm_X13_shorts_6 rfl rfl rfl (by decide +kernel) ⟨Nat.le_of_ble_eq_true rfl, Nat.le_of_ble_eq_true rfl⟩) hPc hDc hKc hS hA hN (va_recv hKc hPc (ci := 14) (q0 := 0) rfl rfl) rfl hl.1 rfl (Nat.le_of_ble_eq_true rfl) dX13_shorts_191 (fun H locs hP1 hD1 hk1 hS => ?_)
      have hP := hP1
      have hD := hD1.weaken (fun k q _ h => hFc q.1 h)
      refine lv_pop hx hb dX13_shorts_194 rfl ?_
      exact (db_X13_shorts_195 C K) (x1) (x2) (x3) (y0) s49 _ _ _ h hP hD hS (lv_sub hl [1, 2, 3, 4, 0] rfl)
  · have h := nd_pos h c8
    refine lv_aload_n hx hb dX13_shorts_164 rfl (lv_at hl 1 rfl) ?_
    refine lv_iload_n hx hb dX13_shorts_165 rfl (lv_at hl 3 rfl) ?_
    refine lv_aload_n hx hb dX13_shorts_166 rfl (lv_at hl 1 rfl) ?_
    refine lv_iload hx hb dX13_shorts_167 (lv_at hl 0 rfl) ?_
    refine lv_iconst (v := 0) hx hb dX13_shorts_169 (by decide) ?_
    obtain ⟨q51, s52, hq, h⟩ := nd_b2_e h
    have hPc := hP
    have hDc := hD
    have hKc := hK
    have hFc := nd_rs hD hS hA
    refine nd_cVi (As := [.int y0, .int 0]) (rest := [.int x2, .ref (a 0)]) (q := q51) (w' := dw_X13 a ac s52) ⟨hx, hb, hml, hown, hts⟩ (fun sz => dm_X13_not l hlt dC dI a ac n (y0) (0) s0 hq sz) (cwV 2 hts gi_dm_X13_shorts_6 rfl rfl rfl (by decide +kernel) ⟨Nat.le_of_ble_eq_true rfl, Nat.le_of_ble_eq_true rfl⟩) hPc hDc hKc hS hA hN (va_recv hKc hPc (ci := 14) (q0 := 0) rfl rfl) rfl hl.1 rfl (Nat.le_of_ble_eq_true rfl) dX13_shorts_170 (fun H locs hP1 hD1 hk1 hS => ?_)
    have hP := hP1
    have hD := hD1.weaken (fun k q _ h => hFc q.1 h)
    refine lv_bipush (v := 7) hx hb dX13_shorts_173 (by decide) ?_
    refine lv_ishl hx hb dX13_shorts_175 ?_
    refine lv_ior hx hb dX13_shorts_176 ?_
    obtain ⟨s55, hq, h⟩ := nd_b1_e h
    have hPc := hP
    have hDc := hD
    have hKc := hK
    have hFc := nd_rs hD hS hA
    refine nd_cVv (As := [.int (x2 ||| ((q51 : Int32) <<< ((7 : Int32) &&& 31)))]) (rest := []) (w' := dw_X13 a ac s55) ⟨hx, hb, hml, hown, hts⟩ (fun sz => dm_X13_half l hlt dC dI a ac n ((x2 ||| ((q51 : Int32) <<< ((7 : Int32) &&& 31)))) s52 hq sz) (cwV 1 hts gi_dm_X13_shorts_5 rfl rfl rfl (by decide +kernel) ⟨Nat.le_of_ble_eq_true rfl, Nat.le_of_ble_eq_true rfl⟩) hPc hDc hKc hS hA hN (va_recv hKc hPc (ci := 14) (q0 := 0) rfl rfl) rfl hl.1 rfl (Nat.le_of_ble_eq_true rfl) dX13_shorts_177 (fun H locs hP1 hD1 hk1 hS => ?_)
    have hP := hP1
    have hD := hD1.weaken (fun k q _ h => hFc q.1 h)
    exact K _ _ _ _ _ dX13_shorts_180 (Option.some.inj h).symm hP hD hS
set_option maxHeartbeats 40000000 in
set_option maxRecDepth 100000 in
theorem db_X13_shorts_140 {p : Program} {l : Launch} {e : Env} {s : State} {m : MethodId} {args : Array Value} {below : List Frame} {meth : Method} {c : Code} {Q : State → Prop} {A : Nat → Prop} {dC : Nat → ClassId} {dI : Nat → Nat → Nat} {a : Nat → Nat} {ac : Nat → ClassId} {n : Nat} {r : St} (C : nd_C p l s m args c A (dC, dI) cX13_shorts 6 RX13 ow_dm_X13_shorts (dk_X13 ac)) (K : nd_Kv p l e (headSpec ow_dm_X13_shorts ({ frames := 10, cells := 0, slots := 0, locals := 231 })).room s m args below meth c Q A (dC, dI) cX13_shorts (St) (dw_X13 a ac) r) : dj_X13_shorts_140 p l e s m args below meth c Q A dC dI a ac (df_X13_shorts_140 n) r := by
  obtain ⟨hlt, hx, hb, hml, hown, hts, hN, hA, hK⟩ := id C
  intro x1 x2 y0 s0 H locs ls h hP hD hS hl
  unfold df_X13_shorts_140 at h
  refine lv_istore_n (lv' := [(3, .int y0), (0, .ref (a 0)), (1, .int x1), (2, .int x2)]) hx hb dX13_shorts_140 rfl hl (by decide) rfl (fun ls hl => ?_)
  refine lv_iload_n hx hb dX13_shorts_141 rfl (lv_at hl 0 rfl) ?_
  refine lv_if_eq (tgt := 152) hx hb dX13_shorts_142 (by decide) (fun c4 => ?_) (fun c4 => ?_)
  · have h := nd_pos h c4
    refine lv_aload_n hx hb dX13_shorts_152 rfl (lv_at hl 1 rfl) ?_
    obtain ⟨q5, s6, hq, h⟩ := nd_b2_e h
    have hPc := hP
    have hDc := hD
    have hKc := hK
    have hFc := nd_rs hD hS hA
    refine nd_cVi (As := []) (rest := []) (q := q5) (w' := dw_X13 a ac s6) ⟨hx, hb, hml, hown, hts⟩ (fun sz => dm_X13_taken l hlt dC dI a ac n  s0 hq sz) (cwV 0 hts gi_dm_X13_shorts_0 rfl rfl rfl (by decide +kernel) ⟨Nat.le_of_ble_eq_true rfl, Nat.le_of_ble_eq_true rfl⟩) hPc hDc hKc hS hA hN (va_recv hKc hPc (ci := 14) (q0 := 0) rfl rfl) rfl hl.1 rfl (Nat.le_of_ble_eq_true rfl) dX13_shorts_153 (fun H locs hP1 hD1 hk1 hS => ?_)
    have hP := hP1
    have hD := hD1.weaken (fun k q _ h => hFc q.1 h)
    exact (db_X13_shorts_156 C K) (x1) (x2) (y0) (q5) s6 _ _ _ h hP hD hS (lv_sub hl [1, 2, 3, 0] rfl)
  · have h := nd_neg h c4
    refine lv_aload_n hx hb dX13_shorts_145 rfl (lv_at hl 1 rfl) ?_
    obtain ⟨q57, s58, hq, h⟩ := nd_b2_e h
    have hPc := hP
    have hDc := hD
    have hKc := hK
    have hFc := nd_rs hD hS hA
    refine nd_cVi (As := []) (rest := []) (q := q57) (w' := dw_X13 a ac s58) ⟨hx, hb, hml, hown, hts⟩ (fun sz => dm_X13_near8 l hlt dC dI a ac n  s0 hq sz) (cwV 0 hts gi_dm_X13_shorts_8 rfl rfl rfl (by decide +kernel) ⟨Nat.le_of_ble_eq_true rfl, Nat.le_of_ble_eq_true rfl⟩) hPc hDc hKc hS hA hN (va_recv hKc hPc (ci := 14) (q0 := 0) rfl rfl) rfl hl.1 rfl (Nat.le_of_ble_eq_true rfl) dX13_shorts_146 (fun H locs hP1 hD1 hk1 hS => ?_)
    have hP := hP1
    have hD := hD1.weaken (fun k q _ h => hFc q.1 h)
    refine lv_goto (tgt := 156) hx hb dX13_shorts_149 (by decide) ?_
    exact (db_X13_shorts_156 C K) (x1) (x2) (y0) (q57) s58 _ _ _ h hP hD hS (lv_sub hl [1, 2, 3, 0] rfl)
set_option maxHeartbeats 40000000 in
set_option maxRecDepth 100000 in
theorem db_X13_shorts_135 {p : Program} {l : Launch} {e : Env} {s : State} {m : MethodId} {args : Array Value} {below : List Frame} {meth : Method} {c : Code} {Q : State → Prop} {A : Nat → Prop} {dC : Nat → ClassId} {dI : Nat → Nat → Nat} {a : Nat → Nat} {ac : Nat → ClassId} {n : Nat} {r : St} (C : nd_C p l s m args c A (dC, dI) cX13_shorts 6 RX13 ow_dm_X13_shorts (dk_X13 ac)) (K : nd_Kv p l e (headSpec ow_dm_X13_shorts ({ frames := 10, cells := 0, slots := 0, locals := 231 })).room s m args below meth c Q A (dC, dI) cX13_shorts (St) (dw_X13 a ac) r) : dj_X13_shorts_135 p l e s m args below meth c Q A dC dI a ac (df_X13_shorts_135 n) r := by
  obtain ⟨hlt, hx, hb, hml, hown, hts, hN, hA, hK⟩ := id C
  intro x1 x2 s0 H locs ls h hP hD hS hl
  unfold df_X13_shorts_135 at h
  refine lv_iconst (v := 1) hx hb dX13_shorts_135 (by decide) ?_
  refine lv_goto (tgt := 140) hx hb dX13_shorts_136 (by decide) ?_
  exact (db_X13_shorts_140 C K) (x1) (x2) (1) s0 _ _ _ h hP hD hS (lv_sub hl [0, 1, 2] rfl)
set_option maxHeartbeats 40000000 in
set_option maxRecDepth 100000 in
theorem db_X13_shorts_139 {p : Program} {l : Launch} {e : Env} {s : State} {m : MethodId} {args : Array Value} {below : List Frame} {meth : Method} {c : Code} {Q : State → Prop} {A : Nat → Prop} {dC : Nat → ClassId} {dI : Nat → Nat → Nat} {a : Nat → Nat} {ac : Nat → ClassId} {n : Nat} {r : St} (C : nd_C p l s m args c A (dC, dI) cX13_shorts 6 RX13 ow_dm_X13_shorts (dk_X13 ac)) (K : nd_Kv p l e (headSpec ow_dm_X13_shorts ({ frames := 10, cells := 0, slots := 0, locals := 231 })).room s m args below meth c Q A (dC, dI) cX13_shorts (St) (dw_X13 a ac) r) : dj_X13_shorts_139 p l e s m args below meth c Q A dC dI a ac (df_X13_shorts_139 n) r := by
  obtain ⟨hlt, hx, hb, hml, hown, hts, hN, hA, hK⟩ := id C
  intro x1 x2 s0 H locs ls h hP hD hS hl
  unfold df_X13_shorts_139 at h
  refine lv_iconst (v := 0) hx hb dX13_shorts_139 (by decide) ?_
  exact (db_X13_shorts_140 C K) (x1) (x2) (0) s0 _ _ _ h hP hD hS (lv_sub hl [0, 1, 2] rfl)
set_option maxHeartbeats 40000000 in
set_option maxRecDepth 100000 in
theorem db_X13_shorts_0 {p : Program} {l : Launch} {e : Env} {s : State} {m : MethodId} {args : Array Value} {below : List Frame} {meth : Method} {c : Code} {Q : State → Prop} {A : Nat → Prop} {dC : Nat → ClassId} {dI : Nat → Nat → Nat} {a : Nat → Nat} {ac : Nat → ClassId} {n : Nat} {r : St} (C : nd_C p l s m args c A (dC, dI) cX13_shorts 6 RX13 ow_dm_X13_shorts (dk_X13 ac)) (K : nd_Kv p l e (headSpec ow_dm_X13_shorts ({ frames := 10, cells := 0, slots := 0, locals := 231 })).room s m args below meth c Q A (dC, dI) cX13_shorts (St) (dw_X13 a ac) r) : dj_X13_shorts_0 p l e s m args below meth c Q A dC dI a ac (df_X13_shorts_0 n) r := by
  obtain ⟨hlt, hx, hb, hml, hown, hts, hN, hA, hK⟩ := id C
  intro v0 v1 s0 H locs ls h hP hD hS hl
  unfold df_X13_shorts_0 at h
  refine lv_iload_n hx hb dX13_shorts_0 rfl (lv_at hl 1 rfl) ?_
  refine lv_bipush (v := 19) hx hb dX13_shorts_1 (by decide) ?_
  refine lv_icmp_ne (tgt := 39) hx hb dX13_shorts_3 (by decide) (fun c1 => ?_) (fun c1 => ?_)
  · have h := nd_neg h c1
    refine lv_iload_n hx hb dX13_shorts_39 rfl (lv_at hl 1 rfl) ?_
    refine lv_bipush (v := 20) hx hb dX13_shorts_40 (by decide) ?_
    refine lv_icmp_ne (tgt := 117) hx hb dX13_shorts_42 (by decide) (fun c2 => ?_) (fun c2 => ?_)
    · have h := nd_neg h c2
      refine lv_iload_n hx hb dX13_shorts_117 rfl (lv_at hl 1 rfl) ?_
      refine lv_bipush (v := 16) hx hb dX13_shorts_118 (by decide) ?_
      refine lv_icmp_lt (tgt := 135) hx hb dX13_shorts_120 (by decide) (fun c3 => ?_) (fun c3 => ?_)
      · have h := nd_pos h c3
        exact (db_X13_shorts_135 C K) (v0) (v1) s0 _ _ _ h hP hD hS (lv_sub hl [0, 1, 2] rfl)
      · have h := nd_neg h c3
        refine lv_iload_n hx hb dX13_shorts_123 rfl (lv_at hl 1 rfl) ?_
        refine lv_bipush (v := 20) hx hb dX13_shorts_124 (by decide) ?_
        refine lv_icmp_le (tgt := 139) hx hb dX13_shorts_126 (by decide) (fun c60 => ?_) (fun c60 => ?_)
        · have h := nd_pos h c60
          exact (db_X13_shorts_139 C K) (v0) (v1) s0 _ _ _ h hP hD hS (lv_sub hl [0, 1, 2] rfl)
        · have h := nd_neg h c60
          refine lv_iload_n hx hb dX13_shorts_129 rfl (lv_at hl 1 rfl) ?_
          refine lv_bipush (v := 25) hx hb dX13_shorts_130 (by decide) ?_
          refine lv_icmp_ge (tgt := 139) hx hb dX13_shorts_132 (by decide) (fun c61 => ?_) (fun c61 => ?_)
          · have h := nd_pos h c61
            exact (db_X13_shorts_139 C K) (v0) (v1) s0 _ _ _ h hP hD hS (lv_sub hl [0, 1, 2] rfl)
          · have h := nd_neg h c61
            exact (db_X13_shorts_135 C K) (v0) (v1) s0 _ _ _ h hP hD hS (lv_sub hl [0, 1, 2] rfl)
    · have h := nd_pos h c2
      refine lv_aload_n hx hb dX13_shorts_45 rfl (lv_at hl 0 rfl) ?_
      refine lv_sipush (v := (-512)) hx hb dX13_shorts_46 (by decide) ?_
      refine lv_sipush (v := 496) hx hb dX13_shorts_49 (by decide) ?_
      refine lv_bipush (v := 16) hx hb dX13_shorts_52 (by decide) ?_
      obtain ⟨q62, s63, hq, h⟩ := nd_b2_e h
      have hPc := hP
      have hDc := hD
      have hKc := hK
      have hFc := nd_rs hD hS hA
      refine nd_cVi (As := [.int (-512), .int 496, .int 16]) (rest := []) (q := q62) (w' := dw_X13 a ac s63) ⟨hx, hb, hml, hown, hts⟩ (fun sz => dm_X13_within l hlt dC dI a ac n ((-512)) (496) (16) s0 hq sz) (cwV 3 hts gi_dm_X13_shorts_4 rfl rfl rfl (by decide +kernel) ⟨Nat.le_of_ble_eq_true rfl, Nat.le_of_ble_eq_true rfl⟩) hPc hDc hKc hS hA hN (va_recv hKc hPc (ci := 14) (q0 := 0) rfl rfl) rfl hl.1 rfl (Nat.le_of_ble_eq_true rfl) dX13_shorts_54 (fun H locs hP1 hD1 hk1 hS => ?_)
      have hP := hP1
      have hD := hD1.weaken (fun k q _ h => hFc q.1 h)
      refine lv_istore_n (lv' := [(3, .int q62), (0, .ref (a 0)), (1, .int v0), (2, .int v1)]) hx hb dX13_shorts_57 rfl hl (by decide) rfl (fun ls hl => ?_)
      refine lv_aload_n hx hb dX13_shorts_58 rfl (lv_at hl 1 rfl) ?_
      refine lv_iload_n hx hb dX13_shorts_59 rfl (lv_at hl 0 rfl) ?_
      obtain ⟨s66, hq, h⟩ := nd_b1_e h
      have hPc := hP
      have hDc := hD
      have hKc := hK
      have hFc := nd_rs hD hS hA
      refine nd_cVv (As := [.int q62]) (rest := []) (w' := dw_X13 a ac s66) ⟨hx, hb, hml, hown, hts⟩ (fun sz => dm_X13_notZero l hlt dC dI a ac n (q62) s63 hq sz) (cwV 1 hts gi_dm_X13_shorts_9 rfl rfl rfl (by decide +kernel) ⟨Nat.le_of_ble_eq_true rfl, Nat.le_of_ble_eq_true rfl⟩) hPc hDc hKc hS hA hN (va_recv hKc hPc (ci := 14) (q0 := 0) rfl rfl) rfl hl.1 rfl (Nat.le_of_ble_eq_true rfl) dX13_shorts_60 (fun H locs hP1 hD1 hk1 hS => ?_)
      have hP := hP1
      have hD := hD1.weaken (fun k q _ h => hFc q.1 h)
      refine lv_aload_n hx hb dX13_shorts_63 rfl (lv_at hl 1 rfl) ?_
      refine lv_iload_n hx hb dX13_shorts_64 rfl (lv_at hl 3 rfl) ?_
      refine lv_iload_n hx hb dX13_shorts_65 rfl (lv_at hl 0 rfl) ?_
      refine lv_bipush (v := 9) hx hb dX13_shorts_66 (by decide) ?_
      refine lv_bipush (v := 9) hx hb dX13_shorts_68 (by decide) ?_
      refine lv_bipush (v := 12) hx hb dX13_shorts_70 (by decide) ?_
      obtain ⟨q68, s69, hq, h⟩ := nd_b2_e h
      have hPc : va_P (dC, dI) vwCl (dw_P a ac ()) H := nd_p0
      have hDc : va_D A (dw_P a ac ()) := nd_d0
      have hKc : va_K (dC, dI) vwCl (dk_P ac) s := nd_y0 hK
      have hFc : ∀ q, va_A (dw_P a ac ()) H.size q → A q := nd_r0 hS hA
      refine nd_cSi (As := [.int q62, .int 9, .int 9, .int 12]) (rest := [.int v1, .ref (a 0)]) (q := q68) (w' := dw_P a ac s69) ⟨hx, hb, hml, hown, hts⟩ (fun sz => dm_X13_bits l hlt dC dI a ac n (q62) (9) (9) (12) () hq sz) (cwS 4 hts gi_dm_X13_shorts_10 rfl rfl rfl (by decide +kernel) ⟨Nat.le_of_ble_eq_true rfl, Nat.le_of_ble_eq_true rfl⟩) hPc hDc hKc hS hA hN rfl hl.1 rfl (Nat.le_of_ble_eq_true rfl) dX13_shorts_72 (fun H locs hP1 hD1 hk1 hS => ?_)
      have hP := nd_n0 hP hk1
      refine lv_ior hx hb dX13_shorts_75 ?_
      refine lv_iload_n hx hb dX13_shorts_76 rfl (lv_at hl 0 rfl) ?_
      refine lv_iconst (v := 4) hx hb dX13_shorts_77 (by decide) ?_
      refine lv_iconst (v := 4) hx hb dX13_shorts_78 (by decide) ?_
      refine lv_bipush (v := 6) hx hb dX13_shorts_79 (by decide) ?_
      obtain ⟨q71, s72, hq, h⟩ := nd_b2_e h
      have hPc : va_P (dC, dI) vwCl (dw_P a ac ()) H := nd_p0
      have hDc : va_D A (dw_P a ac ()) := nd_d0
      have hKc : va_K (dC, dI) vwCl (dk_P ac) s := nd_y0 hK
      have hFc : ∀ q, va_A (dw_P a ac ()) H.size q → A q := nd_r0 hS hA
      refine nd_cSi (As := [.int q62, .int 4, .int 4, .int 6]) (rest := [.int (v1 ||| q68), .ref (a 0)]) (q := q71) (w' := dw_P a ac s72) ⟨hx, hb, hml, hown, hts⟩ (fun sz => dm_X13_bits l hlt dC dI a ac n (q62) (4) (4) (6) () hq sz) (cwS 4 hts gi_dm_X13_shorts_10 rfl rfl rfl (by decide +kernel) ⟨Nat.le_of_ble_eq_true rfl, Nat.le_of_ble_eq_true rfl⟩) hPc hDc hKc hS hA hN rfl hl.1 rfl (Nat.le_of_ble_eq_true rfl) dX13_shorts_81 (fun H locs hP1 hD1 hk1 hS => ?_)
      have hP := nd_n0 hP hk1
      refine lv_ior hx hb dX13_shorts_84 ?_
      refine lv_iload_n hx hb dX13_shorts_85 rfl (lv_at hl 0 rfl) ?_
      refine lv_bipush (v := 6) hx hb dX13_shorts_86 (by decide) ?_
      refine lv_bipush (v := 6) hx hb dX13_shorts_88 (by decide) ?_
      refine lv_iconst (v := 5) hx hb dX13_shorts_90 (by decide) ?_
      obtain ⟨q74, s75, hq, h⟩ := nd_b2_e h
      have hPc : va_P (dC, dI) vwCl (dw_P a ac ()) H := nd_p0
      have hDc : va_D A (dw_P a ac ()) := nd_d0
      have hKc : va_K (dC, dI) vwCl (dk_P ac) s := nd_y0 hK
      have hFc : ∀ q, va_A (dw_P a ac ()) H.size q → A q := nd_r0 hS hA
      refine nd_cSi (As := [.int q62, .int 6, .int 6, .int 5]) (rest := [.int ((v1 ||| q68) ||| q71), .ref (a 0)]) (q := q74) (w' := dw_P a ac s75) ⟨hx, hb, hml, hown, hts⟩ (fun sz => dm_X13_bits l hlt dC dI a ac n (q62) (6) (6) (5) () hq sz) (cwS 4 hts gi_dm_X13_shorts_10 rfl rfl rfl (by decide +kernel) ⟨Nat.le_of_ble_eq_true rfl, Nat.le_of_ble_eq_true rfl⟩) hPc hDc hKc hS hA hN rfl hl.1 rfl (Nat.le_of_ble_eq_true rfl) dX13_shorts_91 (fun H locs hP1 hD1 hk1 hS => ?_)
      have hP := nd_n0 hP hk1
      refine lv_ior hx hb dX13_shorts_94 ?_
      refine lv_iload_n hx hb dX13_shorts_95 rfl (lv_at hl 0 rfl) ?_
      refine lv_bipush (v := 8) hx hb dX13_shorts_96 (by decide) ?_
      refine lv_bipush (v := 7) hx hb dX13_shorts_98 (by decide) ?_
      refine lv_iconst (v := 3) hx hb dX13_shorts_100 (by decide) ?_
      obtain ⟨q77, s78, hq, h⟩ := nd_b2_e h
      have hPc : va_P (dC, dI) vwCl (dw_P a ac ()) H := nd_p0
      have hDc : va_D A (dw_P a ac ()) := nd_d0
      have hKc : va_K (dC, dI) vwCl (dk_P ac) s := nd_y0 hK
      have hFc : ∀ q, va_A (dw_P a ac ()) H.size q → A q := nd_r0 hS hA
      refine nd_cSi (As := [.int q62, .int 8, .int 7, .int 3]) (rest := [.int (((v1 ||| q68) ||| q71) ||| q74), .ref (a 0)]) (q := q77) (w' := dw_P a ac s78) ⟨hx, hb, hml, hown, hts⟩ (fun sz => dm_X13_bits l hlt dC dI a ac n (q62) (8) (7) (3) () hq sz) (cwS 4 hts gi_dm_X13_shorts_10 rfl rfl rfl (by decide +kernel) ⟨Nat.le_of_ble_eq_true rfl, Nat.le_of_ble_eq_true rfl⟩) hPc hDc hKc hS hA hN rfl hl.1 rfl (Nat.le_of_ble_eq_true rfl) dX13_shorts_101 (fun H locs hP1 hD1 hk1 hS => ?_)
      have hP := nd_n0 hP hk1
      refine lv_ior hx hb dX13_shorts_104 ?_
      refine lv_iload_n hx hb dX13_shorts_105 rfl (lv_at hl 0 rfl) ?_
      refine lv_iconst (v := 5) hx hb dX13_shorts_106 (by decide) ?_
      refine lv_iconst (v := 5) hx hb dX13_shorts_107 (by decide) ?_
      refine lv_iconst (v := 2) hx hb dX13_shorts_108 (by decide) ?_
      obtain ⟨q80, s81, hq, h⟩ := nd_b2_e h
      have hPc : va_P (dC, dI) vwCl (dw_P a ac ()) H := nd_p0
      have hDc : va_D A (dw_P a ac ()) := nd_d0
      have hKc : va_K (dC, dI) vwCl (dk_P ac) s := nd_y0 hK
      have hFc : ∀ q, va_A (dw_P a ac ()) H.size q → A q := nd_r0 hS hA
      refine nd_cSi (As := [.int q62, .int 5, .int 5, .int 2]) (rest := [.int ((((v1 ||| q68) ||| q71) ||| q74) ||| q77), .ref (a 0)]) (q := q80) (w' := dw_P a ac s81) ⟨hx, hb, hml, hown, hts⟩ (fun sz => dm_X13_bits l hlt dC dI a ac n (q62) (5) (5) (2) () hq sz) (cwS 4 hts gi_dm_X13_shorts_10 rfl rfl rfl (by decide +kernel) ⟨Nat.le_of_ble_eq_true rfl, Nat.le_of_ble_eq_true rfl⟩) hPc hDc hKc hS hA hN rfl hl.1 rfl (Nat.le_of_ble_eq_true rfl) dX13_shorts_109 (fun H locs hP1 hD1 hk1 hS => ?_)
      have hP := nd_n0 hP hk1
      refine lv_ior hx hb dX13_shorts_112 ?_
      obtain ⟨s84, hq, h⟩ := nd_b1_e h
      have hPc := hP
      have hDc := hD
      have hKc := hK
      have hFc := nd_rs hD hS hA
      refine nd_cVv (As := [.int (((((v1 ||| q68) ||| q71) ||| q74) ||| q77) ||| q80)]) (rest := []) (w' := dw_X13 a ac s84) ⟨hx, hb, hml, hown, hts⟩ (fun sz => dm_X13_half l hlt dC dI a ac n ((((((v1 ||| q68) ||| q71) ||| q74) ||| q77) ||| q80)) s66 hq sz) (cwV 1 hts gi_dm_X13_shorts_5 rfl rfl rfl (by decide +kernel) ⟨Nat.le_of_ble_eq_true rfl, Nat.le_of_ble_eq_true rfl⟩) hPc hDc hKc hS hA hN (va_recv hKc hPc (ci := 14) (q0 := 0) rfl rfl) rfl hl.1 rfl (Nat.le_of_ble_eq_true rfl) dX13_shorts_113 (fun H locs hP1 hD1 hk1 hS => ?_)
      have hP := hP1
      have hD := hD1.weaken (fun k q _ h => hFc q.1 h)
      exact K _ _ _ _ _ dX13_shorts_116 (Option.some.inj h).symm hP hD hS
  · have h := nd_pos h c1
    refine lv_aload_n hx hb dX13_shorts_6 rfl (lv_at hl 0 rfl) ?_
    obtain ⟨q86, s87, hq, h⟩ := nd_b2_e h
    have hPc := hP
    have hDc := hD
    have hKc := hK
    have hFc := nd_rs hD hS hA
    refine nd_cVi (As := []) (rest := []) (q := q86) (w' := dw_X13 a ac s87) ⟨hx, hb, hml, hown, hts⟩ (fun sz => dm_X13_expression l hlt dC dI a ac n  s0 hq sz) (cwV 0 hts gi_dm_X13_shorts_11 rfl rfl rfl (by decide +kernel) ⟨Nat.le_of_ble_eq_true rfl, Nat.le_of_ble_eq_true rfl⟩) hPc hDc hKc hS hA hN (va_recv hKc hPc (ci := 14) (q0 := 0) rfl rfl) rfl hl.1 rfl (Nat.le_of_ble_eq_true rfl) dX13_shorts_7 (fun H locs hP1 hD1 hk1 hS => ?_)
    have hP := hP1
    have hD := hD1.weaken (fun k q _ h => hFc q.1 h)
    refine lv_aload_n hx hb dX13_shorts_10 rfl (lv_at hl 0 rfl) ?_
    refine va_get (D := (dC, dI)) (ci := 14) (v := .int (sI s87 17)) (C := RX13) (T := TX13) (N := 37) hx hb hts hi_dm_X13_shorts_X13 hown hK hP 0 rfl rfl 26 (by decide) (hts (.fieldLink RX13 486 "TimeMachineModel$Assembler" "address" "I") (List.mem_of_getElem? (i := 37) rfl)) (fun _ h9 => h9) rfl dX13_shorts_11 ?_
    refine lv_isub hx hb dX13_shorts_14 ?_
    refine lv_topi (fun z89 ez89 => ?_)
    have h := nd_at h ez89
    refine lv_istore_n (lv' := [(3, .int z89), (0, .ref (a 0)), (1, .int v0), (2, .int v1)]) hx hb dX13_shorts_15 rfl hl (by decide) rfl (fun ls hl => ?_)
    refine lv_aload_n hx hb dX13_shorts_16 rfl (lv_at hl 1 rfl) ?_
    refine lv_iload_n hx hb dX13_shorts_17 rfl (lv_at hl 0 rfl) ?_
    refine lv_sipush (v := (-2048)) hx hb dX13_shorts_18 (by decide) ?_
    refine lv_sipush (v := 2046) hx hb dX13_shorts_21 (by decide) ?_
    refine lv_iconst (v := 2) hx hb dX13_shorts_24 (by decide) ?_
    obtain ⟨s91, hq, h⟩ := nd_b1_e h
    have hPc := hP
    have hDc := hD
    have hKc := hK
    have hFc := nd_rs hD hS hA
    refine nd_cVv (As := [.int z89, .int (-2048), .int 2046, .int 2]) (rest := []) (w' := dw_X13 a ac s91) ⟨hx, hb, hml, hown, hts⟩ (fun sz => dm_X13_fits l hlt dC dI a ac n (z89) ((-2048)) (2046) (2) s87 hq sz) (cwV 4 hts gi_dm_X13_shorts_12 rfl rfl rfl (by decide +kernel) ⟨Nat.le_of_ble_eq_true rfl, Nat.le_of_ble_eq_true rfl⟩) hPc hDc hKc hS hA hN (va_recv hKc hPc (ci := 14) (q0 := 0) rfl rfl) rfl hl.1 rfl (Nat.le_of_ble_eq_true rfl) dX13_shorts_25 (fun H locs hP1 hD1 hk1 hS => ?_)
    have hP := hP1
    have hD := hD1.weaken (fun k q _ h => hFc q.1 h)
    refine lv_aload_n hx hb dX13_shorts_28 rfl (lv_at hl 1 rfl) ?_
    refine lv_iload_n hx hb dX13_shorts_29 rfl (lv_at hl 3 rfl) ?_
    refine lv_iload_n hx hb dX13_shorts_30 rfl (lv_at hl 0 rfl) ?_
    obtain ⟨q93, s94, hq, h⟩ := nd_b2_e h
    have hPc : va_P (dC, dI) vwCl (dw_P a ac ()) H := nd_p0
    have hDc : va_D A (dw_P a ac ()) := nd_d0
    have hKc : va_K (dC, dI) vwCl (dk_P ac) s := nd_y0 hK
    have hFc : ∀ q, va_A (dw_P a ac ()) H.size q → A q := nd_r0 hS hA
    refine nd_cSi (As := [.int z89]) (rest := [.int v1, .ref (a 0)]) (q := q93) (w' := dw_P a ac s94) ⟨hx, hb, hml, hown, hts⟩ (fun sz => dm_X13_shortJump l hlt dC dI a ac n (z89) () hq sz) (cwS 1 hts gi_dm_X13_shorts_13 rfl rfl rfl (by decide +kernel) ⟨Nat.le_of_ble_eq_true rfl, Nat.le_of_ble_eq_true rfl⟩) hPc hDc hKc hS hA hN rfl hl.1 rfl (Nat.le_of_ble_eq_true rfl) dX13_shorts_31 (fun H locs hP1 hD1 hk1 hS => ?_)
    have hP := nd_n0 hP hk1
    refine lv_ior hx hb dX13_shorts_34 ?_
    obtain ⟨s97, hq, h⟩ := nd_b1_e h
    have hPc := hP
    have hDc := hD
    have hKc := hK
    have hFc := nd_rs hD hS hA
    refine nd_cVv (As := [.int (v1 ||| q93)]) (rest := []) (w' := dw_X13 a ac s97) ⟨hx, hb, hml, hown, hts⟩ (fun sz => dm_X13_half l hlt dC dI a ac n ((v1 ||| q93)) s91 hq sz) (cwV 1 hts gi_dm_X13_shorts_5 rfl rfl rfl (by decide +kernel) ⟨Nat.le_of_ble_eq_true rfl, Nat.le_of_ble_eq_true rfl⟩) hPc hDc hKc hS hA hN (va_recv hKc hPc (ci := 14) (q0 := 0) rfl rfl) rfl hl.1 rfl (Nat.le_of_ble_eq_true rfl) dX13_shorts_35 (fun H locs hP1 hD1 hk1 hS => ?_)
    have hP := hP1
    have hD := hD1.weaken (fun k q _ h => hFc q.1 h)
    exact K _ _ _ _ _ dX13_shorts_38 (Option.some.inj h).symm hP hD hS
set_option maxHeartbeats 40000000 in
set_option maxRecDepth 100000 in
theorem dm_X13_shorts (l : Launch) (hlt : l.stackTraces = false) (dC : Nat → ClassId) (dI : Nat → Nat → Nat) (a : Nat → Nat) (ac : Nat → ClassId) (n : Nat) (v0 : Int32) (v1 : Int32) (s0 : St) {r : St} (h : df_X13_shorts n v0 v1 s0 = some r) (sz : Nat) : Met l yX13_shorts ow_dm_X13_shorts ({ frames := 10, cells := 0, slots := 0, locals := 231 }) (va_Pc [.ref (a 0), .int v0, .int v1] (fun U => U.heap.size = sz ∧ va_P (dC, dI) vwCl (dw_X13 a ac s0) U.heap ∧ va_K (dC, dI) vwCl (dk_X13 ac) U ∧ va_D (fun _ => True) (dw_X13 a ac s0) ∧ nv_E dI (va_A (dw_X13 a ac s0) sz) U)) (va_Qv (fun _ => True) (fun (_ : Unit) t => va_P (dC, dI) vwCl (dw_X13 a ac r) t.heap ∧ va_K (dC, dI) vwCl (dk_X13 ac) t ∧ va_D (va_A (dw_X13 a ac s0) sz) (dw_X13 a ac r)) (va_A (dw_X13 a ac s0) sz)) 0 0 (va_A (dw_X13 a ac s0) sz) := by
  refine Met.ofW (cc := cX13_shorts) (maxL := 6) (ret := none) (by decide) rfl ?_
  intro p e s m args below meth c s₁ B hml hv
  obtain ⟨rfl, hsz, hP, hK, hD0, hN⟩ := hv
  have hx := B.exec
  have hb := B.bytes
  have hr := B.returns
  have hts := atoms_spec (ws := ow_dm_X13_shorts) B.pre
  have hown : s.vm.findClass RX13 = some m.cls := findClass_of_methodNamed B.named
  have hlocks := B.notSynchronized
  subst hsz
  have hD := hD0.self (sz := s.heap.size)
  generalize hAe : va_A (dw_X13 a ac s0) s.heap.size = A at hD hN ⊢
  have hA : ∀ q : Nat, s.heap.size ≤ q → A q := fun q h => by rw [← hAe]; exact Or.inr h
  have hl := lv_entry ([.ref (a 0), .int v0, .int v1]) (n := 6) (Nat.le_of_ble_eq_true rfl)
  rw [lg_entry_eq]
  generalize (lg_sl ([.ref (a 0), .int v0, .int v1]) ++ List.replicate (6 - (lg_sl ([.ref (a 0), .int v0, .int v1])).length) Slot.unset).toArray = ls at hl ⊢
  have hl : lv_has ls 6 [(0, .ref (a 0)), (1, .int v0), (2, .int v1)] := hl
  exact db_X13_shorts_0 (dC := dC) (dI := dI) (a := a) (ac := ac) (n := n) (r := r) ⟨hlt, hx, hb, hml, hown, hts, hN, hA, hK⟩ (fun pc τ H locs ls d er hP hD hS => by subst er; exact W.vret hx hb hr (fun t ht hW => ⟨⟨(), rfl, trivial, by rw [ht]; exact hP, va_K.moved hW.alike hK, hD⟩, hS.F ht⟩) hS.2.2 d) v0 v1 s0 _ _ _ h hP hD va_S.rf (lv_sub hl [0, 1, 2] rfl)
def ow_dm_X13_constant : List Cond := Cond.code yX13_constant cX13_constant 4 none :: ([Cond.methodLink RX13 506 yX13_needs, Cond.instanceMethod yX13_needs, Cond.selects RX13 yX13_needs yX13_needs, Cond.initialized RX13, Cond.fieldLink RX13 368 "TimeMachineModel$Assembler" "from" "I", Cond.fieldLink RX13 371 "TimeMachineModel$Assembler" "to" "I", Cond.fieldLink RX13 522 "TimeMachineModel$Assembler" "mode" "I", Cond.methodLink RX13 582 yX13_comma, Cond.instanceMethod yX13_comma, Cond.selects RX13 yX13_comma yX13_comma, Cond.constant RX13 603 (-2147483648), Cond.constant RX13 604 (2147483647), Cond.methodLink RX13 605 yX13_fixed, Cond.instanceMethod yX13_fixed, Cond.selects RX13 yX13_fixed yX13_fixed, Cond.fieldLink RX13 410 "TimeMachineModel$Assembler" "fault" "I", Cond.methodLink RX13 631 yX13_define, Cond.instanceMethod yX13_define, Cond.selects RX13 yX13_define yX13_define, Cond.methodLink RX13 477 yX13_register, Cond.instanceMethod yX13_register, Cond.selects RX13 yX13_register yX13_register, Cond.methodLink RX13 419 yX13_blame, Cond.instanceMethod yX13_blame, Cond.selects RX13 yX13_blame yX13_blame, Cond.methodLink RX13 480 yX13_find, Cond.instanceMethod yX13_find, Cond.selects RX13 yX13_find yX13_find] ++ (u_ws RX13 TX13 37 ++ (ow_dm_X13_needs ++ (ow_dm_X13_comma ++ (ow_dm_X13_fixed ++ (ow_dm_X13_define ++ (ow_dm_X13_register ++ (ow_dm_X13_blame ++ (ow_dm_X13_find ++ [])))))))))
theorem gd_dm_X13_constant : ∀ w ∈ ow_dm_X13_constant, (w.onTables && w.keeps) = true ∨ ∃ ty, w = Cond.arrayClass ty := List.forall_mem_cons.mpr ⟨good_of_word rfl, List.forall_mem_append.mpr ⟨fun w h => good_of_word (List.all_eq_true.mp (by decide +kernel) w h), List.forall_mem_append.mpr ⟨gu_X13, List.forall_mem_append.mpr ⟨gd_dm_X13_needs, List.forall_mem_append.mpr ⟨gd_dm_X13_comma, List.forall_mem_append.mpr ⟨gd_dm_X13_fixed, List.forall_mem_append.mpr ⟨gd_dm_X13_define, List.forall_mem_append.mpr ⟨gd_dm_X13_register, List.forall_mem_append.mpr ⟨gd_dm_X13_blame, List.forall_mem_append.mpr ⟨gd_dm_X13_find, fun _ h => nomatch h⟩⟩⟩⟩⟩⟩⟩⟩⟩⟩
theorem hi_dm_X13_constant_X13 : ∀ w ∈ u_ws RX13 TX13 37, w ∈ ow_dm_X13_constant := fun w h => List.mem_cons_of_mem _ (List.mem_append_right _ (List.mem_append_left _ h))
theorem gi_dm_X13_constant_0 : GoodIn ow_dm_X13_constant (wsV RX13 506 RX13 yX13_needs ow_dm_X13_needs) := goodIn_app (goodIn_of _ (by decide +kernel)) (fun w h => ⟨List.mem_cons_of_mem _ (List.mem_append_right _ (List.mem_append_right _ (List.mem_append_left _ h))), gd_dm_X13_needs w h⟩)
theorem gi_dm_X13_constant_1 : GoodIn ow_dm_X13_constant (wsV RX13 582 RX13 yX13_comma ow_dm_X13_comma) := goodIn_app (goodIn_of _ (by decide +kernel)) (fun w h => ⟨List.mem_cons_of_mem _ (List.mem_append_right _ (List.mem_append_right _ (List.mem_append_right _ (List.mem_append_left _ h)))), gd_dm_X13_comma w h⟩)
theorem gi_dm_X13_constant_2 : GoodIn ow_dm_X13_constant (wsV RX13 605 RX13 yX13_fixed ow_dm_X13_fixed) := goodIn_app (goodIn_of _ (by decide +kernel)) (fun w h => ⟨List.mem_cons_of_mem _ (List.mem_append_right _ (List.mem_append_right _ (List.mem_append_right _ (List.mem_append_right _ (List.mem_append_left _ h))))), gd_dm_X13_fixed w h⟩)
theorem gi_dm_X13_constant_3 : GoodIn ow_dm_X13_constant (wsV RX13 631 RX13 yX13_define ow_dm_X13_define) := goodIn_app (goodIn_of _ (by decide +kernel)) (fun w h => ⟨List.mem_cons_of_mem _ (List.mem_append_right _ (List.mem_append_right _ (List.mem_append_right _ (List.mem_append_right _ (List.mem_append_right _ (List.mem_append_left _ h)))))), gd_dm_X13_define w h⟩)
theorem gi_dm_X13_constant_4 : GoodIn ow_dm_X13_constant (wsV RX13 477 RX13 yX13_register ow_dm_X13_register) := goodIn_app (goodIn_of _ (by decide +kernel)) (fun w h => ⟨List.mem_cons_of_mem _ (List.mem_append_right _ (List.mem_append_right _ (List.mem_append_right _ (List.mem_append_right _ (List.mem_append_right _ (List.mem_append_right _ (List.mem_append_left _ h))))))), gd_dm_X13_register w h⟩)
theorem gi_dm_X13_constant_5 : GoodIn ow_dm_X13_constant (wsV RX13 419 RX13 yX13_blame ow_dm_X13_blame) := goodIn_app (goodIn_of _ (by decide +kernel)) (fun w h => ⟨List.mem_cons_of_mem _ (List.mem_append_right _ (List.mem_append_right _ (List.mem_append_right _ (List.mem_append_right _ (List.mem_append_right _ (List.mem_append_right _ (List.mem_append_right _ (List.mem_append_left _ h)))))))), gd_dm_X13_blame w h⟩)
theorem gi_dm_X13_constant_6 : GoodIn ow_dm_X13_constant (wsV RX13 480 RX13 yX13_find ow_dm_X13_find) := goodIn_app (goodIn_of _ (by decide +kernel)) (fun w h => ⟨List.mem_cons_of_mem _ (List.mem_append_right _ (List.mem_append_right _ (List.mem_append_right _ (List.mem_append_right _ (List.mem_append_right _ (List.mem_append_right _ (List.mem_append_right _ (List.mem_append_right _ (List.mem_append_left _ h))))))))), gd_dm_X13_find w h⟩)
def dj_X13_constant_90 (p : Program) (l : Launch) (e : Env) (s : State) (m : MethodId) (args : Array Value) (below : List Frame) (meth : Method) (c : Code) (Q : State → Prop) (A : Nat → Prop) (dC : Nat → ClassId) (dI : Nat → Nat → Nat) (a : Nat → Nat) (ac : Nat → ClassId) (g : (St) → Option (St)) (r : St) : Prop := ∀ (s0 : St) (H : Heap) (locs : List Loc) (ls : Array Slot), g s0 = some r → va_P (dC, dI) vwCl (dw_X13 a ac s0) H → va_D A (dw_X13 a ac s0) → va_S A s.heap H locs → lv_has ls 4 [] → W p l e (headSpec ow_dm_X13_constant ({ frames := 9, cells := 0, slots := 0, locals := 205 })).room s m args below meth c H locs 0 0 Q (F0 m 90 ls [])
def dj_X13_constant_49 (p : Program) (l : Launch) (e : Env) (s : State) (m : MethodId) (args : Array Value) (below : List Frame) (meth : Method) (c : Code) (Q : State → Prop) (A : Nat → Prop) (dC : Nat → ClassId) (dI : Nat → Nat → Nat) (a : Nat → Nat) (ac : Nat → ClassId) (g : Int32 → Int32 → (St) → Option (St)) (r : St) : Prop := ∀ (x1 : Int32) (x2 : Int32) (s0 : St) (H : Heap) (locs : List Loc) (ls : Array Slot), g x1 x2 s0 = some r → va_P (dC, dI) vwCl (dw_X13 a ac s0) H → va_D A (dw_X13 a ac s0) → va_S A s.heap H locs → lv_has ls 4 [(0, .ref (a 0)), (1, .int x1), (2, .int x2)] → W p l e (headSpec ow_dm_X13_constant ({ frames := 9, cells := 0, slots := 0, locals := 205 })).room s m args below meth c H locs 0 0 Q (F0 m 49 ls [])
def dj_X13_constant_44 (p : Program) (l : Launch) (e : Env) (s : State) (m : MethodId) (args : Array Value) (below : List Frame) (meth : Method) (c : Code) (Q : State → Prop) (A : Nat → Prop) (dC : Nat → ClassId) (dI : Nat → Nat → Nat) (a : Nat → Nat) (ac : Nat → ClassId) (g : Int32 → Int32 → (St) → Option (St)) (r : St) : Prop := ∀ (x1 : Int32) (x2 : Int32) (s0 : St) (H : Heap) (locs : List Loc) (ls : Array Slot), g x1 x2 s0 = some r → va_P (dC, dI) vwCl (dw_X13 a ac s0) H → va_D A (dw_X13 a ac s0) → va_S A s.heap H locs → lv_has ls 4 [(0, .ref (a 0)), (1, .int x1), (2, .int x2)] → W p l e (headSpec ow_dm_X13_constant ({ frames := 9, cells := 0, slots := 0, locals := 205 })).room s m args below meth c H locs 0 0 Q (F0 m 44 ls [])
def dj_X13_constant_0 (p : Program) (l : Launch) (e : Env) (s : State) (m : MethodId) (args : Array Value) (below : List Frame) (meth : Method) (c : Code) (Q : State → Prop) (A : Nat → Prop) (dC : Nat → ClassId) (dI : Nat → Nat → Nat) (a : Nat → Nat) (ac : Nat → ClassId) (g : (St) → Option (St)) (r : St) : Prop := ∀ (s0 : St) (H : Heap) (locs : List Loc) (ls : Array Slot), g s0 = some r → va_P (dC, dI) vwCl (dw_X13 a ac s0) H → va_D A (dw_X13 a ac s0) → va_S A s.heap H locs → lv_has ls 4 [(0, .ref (a 0))] → W p l e (headSpec ow_dm_X13_constant ({ frames := 9, cells := 0, slots := 0, locals := 205 })).room s m args below meth c H locs 0 0 Q (F0 m 0 ls [])
set_option maxHeartbeats 40000000 in
set_option maxRecDepth 100000 in
theorem db_X13_constant_90 {p : Program} {l : Launch} {e : Env} {s : State} {m : MethodId} {args : Array Value} {below : List Frame} {meth : Method} {c : Code} {Q : State → Prop} {A : Nat → Prop} {dC : Nat → ClassId} {dI : Nat → Nat → Nat} {a : Nat → Nat} {ac : Nat → ClassId} {n : Nat} {r : St} (C : nd_C p l s m args c A (dC, dI) cX13_constant 4 RX13 ow_dm_X13_constant (dk_X13 ac)) (K : nd_Kv p l e (headSpec ow_dm_X13_constant ({ frames := 9, cells := 0, slots := 0, locals := 205 })).room s m args below meth c Q A (dC, dI) cX13_constant (St) (dw_X13 a ac) r) : dj_X13_constant_90 p l e s m args below meth c Q A dC dI a ac (df_X13_constant_90 n) r := by
  obtain ⟨hlt, hx, hb, hml, hown, hts, hN, hA, hK⟩ := id C
  intro s0 H locs ls h hP hD hS hl
  unfold df_X13_constant_90 at h
  exact K _ _ _ _ _ dX13_constant_90 (Option.some.inj h).symm hP hD hS
set_option maxHeartbeats 40000000 in
set_option maxRecDepth 100000 in
theorem db_X13_constant_49 {p : Program} {l : Launch} {e : Env} {s : State} {m : MethodId} {args : Array Value} {below : List Frame} {meth : Method} {c : Code} {Q : State → Prop} {A : Nat → Prop} {dC : Nat → ClassId} {dI : Nat → Nat → Nat} {a : Nat → Nat} {ac : Nat → ClassId} {n : Nat} {r : St} (C : nd_C p l s m args c A (dC, dI) cX13_constant 4 RX13 ow_dm_X13_constant (dk_X13 ac)) (K : nd_Kv p l e (headSpec ow_dm_X13_constant ({ frames := 9, cells := 0, slots := 0, locals := 205 })).room s m args below meth c Q A (dC, dI) cX13_constant (St) (dw_X13 a ac) r) : dj_X13_constant_49 p l e s m args below meth c Q A dC dI a ac (df_X13_constant_49 n) r := by
  obtain ⟨hlt, hx, hb, hml, hown, hts, hN, hA, hK⟩ := id C
  intro x1 x2 s0 H locs ls h hP hD hS hl
  unfold df_X13_constant_49 at h
  refine lv_aload_n hx hb dX13_constant_49 rfl (lv_at hl 0 rfl) ?_
  obtain ⟨q8, s9, hq, h⟩ := nd_b2_e h
  have hPc := hP
  have hDc := hD
  have hKc := hK
  have hFc := nd_rs hD hS hA
  refine nd_cVi (As := []) (rest := []) (q := q8) (w' := dw_X13 a ac s9) ⟨hx, hb, hml, hown, hts⟩ (fun sz => dm_X13_comma l hlt dC dI a ac n  s0 hq sz) (cwV 0 hts gi_dm_X13_constant_1 rfl rfl rfl (by decide +kernel) ⟨Nat.le_of_ble_eq_true rfl, Nat.le_of_ble_eq_true rfl⟩) hPc hDc hKc hS hA hN (va_recv hKc hPc (ci := 14) (q0 := 0) rfl rfl) rfl hl.1 rfl (Nat.le_of_ble_eq_true rfl) dX13_constant_50 (fun H locs hP1 hD1 hk1 hS => ?_)
  have hP := hP1
  have hD := hD1.weaken (fun k q _ h => hFc q.1 h)
  refine lv_if_ne (tgt := 57) hx hb dX13_constant_53 (by decide) (fun c11 => ?_) (fun c11 => ?_)
  · have h := nd_neg h c11
    refine lv_aload_n hx hb dX13_constant_57 rfl (lv_at hl 0 rfl) ?_
    refine lv_ldcw hx hb hown (hts (.constant RX13 603 (-2147483648)) (List.mem_of_getElem? (i := 11) rfl)) dX13_constant_58 ?_
    refine lv_ldcw hx hb hown (hts (.constant RX13 604 (2147483647)) (List.mem_of_getElem? (i := 12) rfl)) dX13_constant_61 ?_
    obtain ⟨q12, s13, hq, h⟩ := nd_b2_e h
    have hPc := hP
    have hDc := hD
    have hKc := hK
    have hFc := nd_rs hD hS hA
    refine nd_cVi (As := [.int (-2147483648), .int 2147483647]) (rest := []) (q := q12) (w' := dw_X13 a ac s13) ⟨hx, hb, hml, hown, hts⟩ (fun sz => dm_X13_fixed l hlt dC dI a ac n ((-2147483648)) (2147483647) s9 hq sz) (cwV 2 hts gi_dm_X13_constant_2 rfl rfl rfl (by decide +kernel) ⟨Nat.le_of_ble_eq_true rfl, Nat.le_of_ble_eq_true rfl⟩) hPc hDc hKc hS hA hN (va_recv hKc hPc (ci := 14) (q0 := 0) rfl rfl) rfl hl.1 rfl (Nat.le_of_ble_eq_true rfl) dX13_constant_64 (fun H locs hP1 hD1 hk1 hS => ?_)
    have hP := hP1
    have hD := hD1.weaken (fun k q _ h => hFc q.1 h)
    refine lv_istore_n (lv' := [(3, .int q12), (0, .ref (a 0)), (1, .int x1), (2, .int x2)]) hx hb dX13_constant_67 rfl hl (by decide) rfl (fun ls hl => ?_)
    refine lv_aload_n hx hb dX13_constant_68 rfl (lv_at hl 1 rfl) ?_
    refine va_get (D := (dC, dI)) (ci := 14) (v := .int (sI s13 15)) (C := RX13) (T := TX13) (N := 37) hx hb hts hi_dm_X13_constant_X13 hown hK hP 0 rfl rfl 24 (by decide) (hts (.fieldLink RX13 522 "TimeMachineModel$Assembler" "mode" "I") (List.mem_of_getElem? (i := 7) rfl)) (fun _ h9 => h9) rfl dX13_constant_69 ?_
    refine lv_if_ne (tgt := 90) hx hb dX13_constant_72 (by decide) (fun c15 => ?_) (fun c15 => ?_)
    · have h := nd_neg h c15
      exact (db_X13_constant_90 C K)  s13 _ _ _ h hP hD hS (lv_sub hl [] rfl)
    · have h := nd_pos h c15
      refine lv_aload_n hx hb dX13_constant_75 rfl (lv_at hl 1 rfl) ?_
      refine va_get (D := (dC, dI)) (ci := 14) (v := .int (sI s13 12)) (C := RX13) (T := TX13) (N := 37) hx hb hts hi_dm_X13_constant_X13 hown hK hP 0 rfl rfl 21 (by decide) (hts (.fieldLink RX13 410 "TimeMachineModel$Assembler" "fault" "I") (List.mem_of_getElem? (i := 16) rfl)) (fun _ h9 => h9) rfl dX13_constant_76 ?_
      refine lv_if_ne (tgt := 90) hx hb dX13_constant_79 (by decide) (fun c16 => ?_) (fun c16 => ?_)
      · have h := nd_neg h c16
        exact (db_X13_constant_90 C K)  s13 _ _ _ h hP hD hS (lv_sub hl [] rfl)
      · have h := nd_pos h c16
        refine lv_aload_n hx hb dX13_constant_82 rfl (lv_at hl 1 rfl) ?_
        refine lv_iload_n hx hb dX13_constant_83 rfl (lv_at hl 2 rfl) ?_
        refine lv_iload_n hx hb dX13_constant_84 rfl (lv_at hl 3 rfl) ?_
        refine lv_iconst (v := 2) hx hb dX13_constant_85 (by decide) ?_
        refine lv_iload_n hx hb dX13_constant_86 rfl (lv_at hl 0 rfl) ?_
        obtain ⟨s18, hq, h⟩ := nd_b1_e h
        have hPc := hP
        have hDc := hD
        have hKc := hK
        have hFc := nd_rs hD hS hA
        refine nd_cVv (As := [.int x1, .int x2, .int 2, .int q12]) (rest := []) (w' := dw_X13 a ac s18) ⟨hx, hb, hml, hown, hts⟩ (fun sz => dm_X13_define l hlt dC dI a ac n (x1) (x2) (2) (q12) s13 hq sz) (cwV 4 hts gi_dm_X13_constant_3 rfl rfl rfl (by decide +kernel) ⟨Nat.le_of_ble_eq_true rfl, Nat.le_of_ble_eq_true rfl⟩) hPc hDc hKc hS hA hN (va_recv hKc hPc (ci := 14) (q0 := 0) rfl rfl) rfl hl.1 rfl (Nat.le_of_ble_eq_true rfl) dX13_constant_87 (fun H locs hP1 hD1 hk1 hS => ?_)
        have hP := hP1
        have hD := hD1.weaken (fun k q _ h => hFc q.1 h)
        exact (db_X13_constant_90 C K)  s18 _ _ _ h hP hD hS (lv_sub hl [] rfl)
  · have h := nd_pos h c11
    exact K _ _ _ _ _ dX13_constant_56 (Option.some.inj h).symm hP hD hS
set_option maxHeartbeats 40000000 in
set_option maxRecDepth 100000 in
theorem db_X13_constant_44 {p : Program} {l : Launch} {e : Env} {s : State} {m : MethodId} {args : Array Value} {below : List Frame} {meth : Method} {c : Code} {Q : State → Prop} {A : Nat → Prop} {dC : Nat → ClassId} {dI : Nat → Nat → Nat} {a : Nat → Nat} {ac : Nat → ClassId} {n : Nat} {r : St} (C : nd_C p l s m args c A (dC, dI) cX13_constant 4 RX13 ow_dm_X13_constant (dk_X13 ac)) (K : nd_Kv p l e (headSpec ow_dm_X13_constant ({ frames := 9, cells := 0, slots := 0, locals := 205 })).room s m args below meth c Q A (dC, dI) cX13_constant (St) (dw_X13 a ac) r) : dj_X13_constant_44 p l e s m args below meth c Q A dC dI a ac (df_X13_constant_44 n) r := by
  obtain ⟨hlt, hx, hb, hml, hown, hts, hN, hA, hK⟩ := id C
  intro x1 x2 s0 H locs ls h hP hD hS hl
  unfold df_X13_constant_44 at h
  refine lv_aload_n hx hb dX13_constant_44 rfl (lv_at hl 0 rfl) ?_
  refine lv_iconst (v := 4) hx hb dX13_constant_45 (by decide) ?_
  obtain ⟨s25, hq, h⟩ := nd_b1_e h
  have hPc := hP
  have hDc := hD
  have hKc := hK
  have hFc := nd_rs hD hS hA
  refine nd_cVv (As := [.int 4]) (rest := []) (w' := dw_X13 a ac s25) ⟨hx, hb, hml, hown, hts⟩ (fun sz => dm_X13_blame l hlt dC dI a ac n (4) s0 hq sz) (cwV 1 hts gi_dm_X13_constant_5 rfl rfl rfl (by decide +kernel) ⟨Nat.le_of_ble_eq_true rfl, Nat.le_of_ble_eq_true rfl⟩) hPc hDc hKc hS hA hN (va_recv hKc hPc (ci := 14) (q0 := 0) rfl rfl) rfl hl.1 rfl (Nat.le_of_ble_eq_true rfl) dX13_constant_46 (fun H locs hP1 hD1 hk1 hS => ?_)
  have hP := hP1
  have hD := hD1.weaken (fun k q _ h => hFc q.1 h)
  exact (db_X13_constant_49 C K) (x1) (x2) s25 _ _ _ h hP hD hS (lv_sub hl [0, 1, 2] rfl)
set_option maxHeartbeats 40000000 in
set_option maxRecDepth 100000 in
theorem db_X13_constant_0 {p : Program} {l : Launch} {e : Env} {s : State} {m : MethodId} {args : Array Value} {below : List Frame} {meth : Method} {c : Code} {Q : State → Prop} {A : Nat → Prop} {dC : Nat → ClassId} {dI : Nat → Nat → Nat} {a : Nat → Nat} {ac : Nat → ClassId} {n : Nat} {r : St} (C : nd_C p l s m args c A (dC, dI) cX13_constant 4 RX13 ow_dm_X13_constant (dk_X13 ac)) (K : nd_Kv p l e (headSpec ow_dm_X13_constant ({ frames := 9, cells := 0, slots := 0, locals := 205 })).room s m args below meth c Q A (dC, dI) cX13_constant (St) (dw_X13 a ac) r) : dj_X13_constant_0 p l e s m args below meth c Q A dC dI a ac (df_X13_constant_0 n) r := by
  obtain ⟨hlt, hx, hb, hml, hown, hts, hN, hA, hK⟩ := id C
  intro s0 H locs ls h hP hD hS hl
  unfold df_X13_constant_0 at h
  refine lv_aload_n hx hb dX13_constant_0 rfl (lv_at hl 0 rfl) ?_
  refine lv_iconst (v := 1) hx hb dX13_constant_1 (by decide) ?_
  obtain ⟨q1, s2, hq, h⟩ := nd_b2_e h
  have hPc := hP
  have hDc := hD
  have hKc := hK
  have hFc := nd_rs hD hS hA
  refine nd_cVi (As := [.int 1]) (rest := []) (q := q1) (w' := dw_X13 a ac s2) ⟨hx, hb, hml, hown, hts⟩ (fun sz => dm_X13_needs l hlt dC dI a ac n (1) s0 hq sz) (cwV 1 hts gi_dm_X13_constant_0 rfl rfl rfl (by decide +kernel) ⟨Nat.le_of_ble_eq_true rfl, Nat.le_of_ble_eq_true rfl⟩) hPc hDc hKc hS hA hN (va_recv hKc hPc (ci := 14) (q0 := 0) rfl rfl) rfl hl.1 rfl (Nat.le_of_ble_eq_true rfl) dX13_constant_2 (fun H locs hP1 hD1 hk1 hS => ?_)
  have hP := hP1
  have hD := hD1.weaken (fun k q _ h => hFc q.1 h)
  refine lv_if_ne (tgt := 9) hx hb dX13_constant_5 (by decide) (fun c4 => ?_) (fun c4 => ?_)
  · have h := nd_neg h c4
    refine lv_aload_n hx hb dX13_constant_9 rfl (lv_at hl 0 rfl) ?_
    refine va_get (D := (dC, dI)) (ci := 14) (v := .int (sI s2 9)) (C := RX13) (T := TX13) (N := 37) hx hb hts hi_dm_X13_constant_X13 hown hK hP 0 rfl rfl 18 (by decide) (hts (.fieldLink RX13 368 "TimeMachineModel$Assembler" "from" "I") (List.mem_of_getElem? (i := 5) rfl)) (fun _ h9 => h9) rfl dX13_constant_10 ?_
    refine lv_topi (fun z5 ez5 => ?_)
    have h := nd_at h ez5
    refine lv_istore_n (lv' := [(1, .int z5), (0, .ref (a 0))]) hx hb dX13_constant_13 rfl hl (by decide) rfl (fun ls hl => ?_)
    refine lv_aload_n hx hb dX13_constant_14 rfl (lv_at hl 1 rfl) ?_
    refine va_get (D := (dC, dI)) (ci := 14) (v := .int (sI s2 10)) (C := RX13) (T := TX13) (N := 37) hx hb hts hi_dm_X13_constant_X13 hown hK hP 0 rfl rfl 19 (by decide) (hts (.fieldLink RX13 371 "TimeMachineModel$Assembler" "to" "I") (List.mem_of_getElem? (i := 6) rfl)) (fun _ h9 => h9) rfl dX13_constant_15 ?_
    refine lv_topi (fun z6 ez6 => ?_)
    have h := nd_at h ez6
    refine lv_istore_n (lv' := [(2, .int z6), (1, .int z5), (0, .ref (a 0))]) hx hb dX13_constant_18 rfl hl (by decide) rfl (fun ls hl => ?_)
    refine lv_aload_n hx hb dX13_constant_19 rfl (lv_at hl 2 rfl) ?_
    refine va_get (D := (dC, dI)) (ci := 14) (v := .int (sI s2 15)) (C := RX13) (T := TX13) (N := 37) hx hb hts hi_dm_X13_constant_X13 hown hK hP 0 rfl rfl 24 (by decide) (hts (.fieldLink RX13 522 "TimeMachineModel$Assembler" "mode" "I") (List.mem_of_getElem? (i := 7) rfl)) (fun _ h9 => h9) rfl dX13_constant_20 ?_
    refine lv_if_ne (tgt := 49) hx hb dX13_constant_23 (by decide) (fun c7 => ?_) (fun c7 => ?_)
    · have h := nd_neg h c7
      exact (db_X13_constant_49 C K) (z5) (z6) s2 _ _ _ h hP hD hS (lv_sub hl [2, 1, 0] rfl)
    · have h := nd_pos h c7
      refine lv_aload_n hx hb dX13_constant_26 rfl (lv_at hl 2 rfl) ?_
      refine lv_iload_n hx hb dX13_constant_27 rfl (lv_at hl 1 rfl) ?_
      refine lv_iload_n hx hb dX13_constant_28 rfl (lv_at hl 0 rfl) ?_
      obtain ⟨q20, s21, hq, h⟩ := nd_b2_e h
      have hPc := hP
      have hDc := hD
      have hKc := hK
      have hFc := nd_rs hD hS hA
      refine nd_cVi (As := [.int z5, .int z6]) (rest := []) (q := q20) (w' := dw_X13 a ac s21) ⟨hx, hb, hml, hown, hts⟩ (fun sz => dm_X13_register l hlt dC dI a ac n (z5) (z6) s2 hq sz) (cwV 2 hts gi_dm_X13_constant_4 rfl rfl rfl (by decide +kernel) ⟨Nat.le_of_ble_eq_true rfl, Nat.le_of_ble_eq_true rfl⟩) hPc hDc hKc hS hA hN (va_recv hKc hPc (ci := 14) (q0 := 0) rfl rfl) rfl hl.1 rfl (Nat.le_of_ble_eq_true rfl) dX13_constant_29 (fun H locs hP1 hD1 hk1 hS => ?_)
      have hP := hP1
      have hD := hD1.weaken (fun k q _ h => hFc q.1 h)
      refine lv_if_ge (tgt := 44) hx hb dX13_constant_32 (by decide) (fun c23 => ?_) (fun c23 => ?_)
      · have h := nd_pos h c23
        exact (db_X13_constant_44 C K) (z5) (z6) s21 _ _ _ h hP hD hS (lv_sub hl [2, 1, 0] rfl)
      · have h := nd_neg h c23
        refine lv_aload_n hx hb dX13_constant_35 rfl (lv_at hl 2 rfl) ?_
        refine lv_iload_n hx hb dX13_constant_36 rfl (lv_at hl 1 rfl) ?_
        refine lv_iload_n hx hb dX13_constant_37 rfl (lv_at hl 0 rfl) ?_
        obtain ⟨q27, s28, hq, h⟩ := nd_b2_e h
        have hPc := hP
        have hDc := hD
        have hKc := hK
        have hFc := nd_rs hD hS hA
        refine nd_cVi (As := [.int z5, .int z6]) (rest := []) (q := q27) (w' := dw_X13 a ac s28) ⟨hx, hb, hml, hown, hts⟩ (fun sz => dm_X13_find l hlt dC dI a ac n (z5) (z6) s21 hq sz) (cwV 2 hts gi_dm_X13_constant_6 rfl rfl rfl (by decide +kernel) ⟨Nat.le_of_ble_eq_true rfl, Nat.le_of_ble_eq_true rfl⟩) hPc hDc hKc hS hA hN (va_recv hKc hPc (ci := 14) (q0 := 0) rfl rfl) rfl hl.1 rfl (Nat.le_of_ble_eq_true rfl) dX13_constant_38 (fun H locs hP1 hD1 hk1 hS => ?_)
        have hP := hP1
        have hD := hD1.weaken (fun k q _ h => hFc q.1 h)
        refine lv_if_lt (tgt := 49) hx hb dX13_constant_41 (by decide) (fun c30 => ?_) (fun c30 => ?_)
        · have h := nd_pos h c30
          exact (db_X13_constant_49 C K) (z5) (z6) s28 _ _ _ h hP hD hS (lv_sub hl [2, 1, 0] rfl)
        · have h := nd_neg h c30
          exact (db_X13_constant_44 C K) (z5) (z6) s28 _ _ _ h hP hD hS (lv_sub hl [2, 1, 0] rfl)
  · have h := nd_pos h c4
    exact K _ _ _ _ _ dX13_constant_8 (Option.some.inj h).symm hP hD hS
set_option maxHeartbeats 40000000 in
set_option maxRecDepth 100000 in
theorem dm_X13_constant (l : Launch) (hlt : l.stackTraces = false) (dC : Nat → ClassId) (dI : Nat → Nat → Nat) (a : Nat → Nat) (ac : Nat → ClassId) (n : Nat) (s0 : St) {r : St} (h : df_X13_constant n s0 = some r) (sz : Nat) : Met l yX13_constant ow_dm_X13_constant ({ frames := 9, cells := 0, slots := 0, locals := 205 }) (va_Pc [.ref (a 0)] (fun U => U.heap.size = sz ∧ va_P (dC, dI) vwCl (dw_X13 a ac s0) U.heap ∧ va_K (dC, dI) vwCl (dk_X13 ac) U ∧ va_D (fun _ => True) (dw_X13 a ac s0) ∧ nv_E dI (va_A (dw_X13 a ac s0) sz) U)) (va_Qv (fun _ => True) (fun (_ : Unit) t => va_P (dC, dI) vwCl (dw_X13 a ac r) t.heap ∧ va_K (dC, dI) vwCl (dk_X13 ac) t ∧ va_D (va_A (dw_X13 a ac s0) sz) (dw_X13 a ac r)) (va_A (dw_X13 a ac s0) sz)) 0 0 (va_A (dw_X13 a ac s0) sz) := by
  refine Met.ofW (cc := cX13_constant) (maxL := 4) (ret := none) (by decide) rfl ?_
  intro p e s m args below meth c s₁ B hml hv
  obtain ⟨rfl, hsz, hP, hK, hD0, hN⟩ := hv
  have hx := B.exec
  have hb := B.bytes
  have hr := B.returns
  have hts := atoms_spec (ws := ow_dm_X13_constant) B.pre
  have hown : s.vm.findClass RX13 = some m.cls := findClass_of_methodNamed B.named
  have hlocks := B.notSynchronized
  subst hsz
  have hD := hD0.self (sz := s.heap.size)
  generalize hAe : va_A (dw_X13 a ac s0) s.heap.size = A at hD hN ⊢
  have hA : ∀ q : Nat, s.heap.size ≤ q → A q := fun q h => by rw [← hAe]; exact Or.inr h
  have hl := lv_entry ([.ref (a 0)]) (n := 4) (Nat.le_of_ble_eq_true rfl)
  rw [lg_entry_eq]
  generalize (lg_sl ([.ref (a 0)]) ++ List.replicate (4 - (lg_sl ([.ref (a 0)])).length) Slot.unset).toArray = ls at hl ⊢
  have hl : lv_has ls 4 [(0, .ref (a 0))] := hl
  exact db_X13_constant_0 (dC := dC) (dI := dI) (a := a) (ac := ac) (n := n) (r := r) ⟨hlt, hx, hb, hml, hown, hts, hN, hA, hK⟩ (fun pc τ H locs ls d er hP hD hS => by subst er; exact W.vret hx hb hr (fun t ht hW => ⟨⟨(), rfl, trivial, by rw [ht]; exact hP, va_K.moved hW.alike hK, hD⟩, hS.F ht⟩) hS.2.2 d) s0 _ _ _ h hP hD va_S.rf (lv_sub hl [0] rfl)
def ow_dm_X13_quoted : List Cond := Cond.code yX13_quoted cX13_quoted 4 none :: ([Cond.methodLink RX13 506 yX13_needs, Cond.instanceMethod yX13_needs, Cond.selects RX13 yX13_needs yX13_needs, Cond.initialized RX13, Cond.fieldLink RX13 371 "TimeMachineModel$Assembler" "to" "I", Cond.fieldLink RX13 368 "TimeMachineModel$Assembler" "from" "I", Cond.fieldLink RX13 374 "TimeMachineModel$Assembler" "at" "I", Cond.methodLink RX13 544 yX13_put, Cond.instanceMethod yX13_put, Cond.selects RX13 yX13_put yX13_put, Cond.methodLink RX13 406 yX13_shown, Cond.instanceMethod yX13_shown, Cond.selects RX13 yX13_shown yX13_shown] ++ (u_ws RX13 TX13 37 ++ (ow_dm_X13_needs ++ (ow_dm_X13_put ++ (ow_dm_X13_shown ++ [])))))
theorem gd_dm_X13_quoted : ∀ w ∈ ow_dm_X13_quoted, (w.onTables && w.keeps) = true ∨ ∃ ty, w = Cond.arrayClass ty := List.forall_mem_cons.mpr ⟨good_of_word rfl, List.forall_mem_append.mpr ⟨fun w h => good_of_word (List.all_eq_true.mp (by decide +kernel) w h), List.forall_mem_append.mpr ⟨gu_X13, List.forall_mem_append.mpr ⟨gd_dm_X13_needs, List.forall_mem_append.mpr ⟨gd_dm_X13_put, List.forall_mem_append.mpr ⟨gd_dm_X13_shown, fun _ h => nomatch h⟩⟩⟩⟩⟩⟩
theorem hi_dm_X13_quoted_X13 : ∀ w ∈ u_ws RX13 TX13 37, w ∈ ow_dm_X13_quoted := fun w h => List.mem_cons_of_mem _ (List.mem_append_right _ (List.mem_append_left _ h))
theorem gi_dm_X13_quoted_0 : GoodIn ow_dm_X13_quoted (wsV RX13 506 RX13 yX13_needs ow_dm_X13_needs) := goodIn_app (goodIn_of _ (by decide +kernel)) (fun w h => ⟨List.mem_cons_of_mem _ (List.mem_append_right _ (List.mem_append_right _ (List.mem_append_left _ h))), gd_dm_X13_needs w h⟩)
theorem gi_dm_X13_quoted_1 : GoodIn ow_dm_X13_quoted (wsV RX13 544 RX13 yX13_put ow_dm_X13_put) := goodIn_app (goodIn_of _ (by decide +kernel)) (fun w h => ⟨List.mem_cons_of_mem _ (List.mem_append_right _ (List.mem_append_right _ (List.mem_append_right _ (List.mem_append_left _ h)))), gd_dm_X13_put w h⟩)
theorem gi_dm_X13_quoted_2 : GoodIn ow_dm_X13_quoted (wsV RX13 406 RX13 yX13_shown ow_dm_X13_shown) := goodIn_app (goodIn_of _ (by decide +kernel)) (fun w h => ⟨List.mem_cons_of_mem _ (List.mem_append_right _ (List.mem_append_right _ (List.mem_append_right _ (List.mem_append_right _ (List.mem_append_left _ h))))), gd_dm_X13_shown w h⟩)
def dj_X13_quoted_61 (p : Program) (l : Launch) (e : Env) (s : State) (m : MethodId) (args : Array Value) (below : List Frame) (meth : Method) (c : Code) (Q : State → Prop) (A : Nat → Prop) (dC : Nat → ClassId) (dI : Nat → Nat → Nat) (a : Nat → Nat) (ac : Nat → ClassId) (g : (St) → Option (St)) (r : St) : Prop := ∀ (s0 : St) (H : Heap) (locs : List Loc) (ls : Array Slot), g s0 = some r → va_P (dC, dI) vwCl (dw_X13 a ac s0) H → va_D A (dw_X13 a ac s0) → va_S A s.heap H locs → lv_has ls 4 [] → W p l e (headSpec ow_dm_X13_quoted ({ frames := 6, cells := 0, slots := 0, locals := 135 })).room s m args below meth c H locs 0 0 Q (F0 m 61 ls [])
def dj_X13_quoted_21 (p : Program) (l : Launch) (e : Env) (s : State) (m : MethodId) (args : Array Value) (below : List Frame) (meth : Method) (c : Code) (Q : State → Prop) (A : Nat → Prop) (dC : Nat → ClassId) (dI : Nat → Nat → Nat) (a : Nat → Nat) (ac : Nat → ClassId) (g : Int32 → Int32 → Int32 → (St) → Option (St)) (r : St) : Prop := ∀ (x1 : Int32) (x2 : Int32) (x3 : Int32) (s0 : St) (H : Heap) (locs : List Loc) (ls : Array Slot), g x1 x2 x3 s0 = some r → va_P (dC, dI) vwCl (dw_X13 a ac s0) H → va_D A (dw_X13 a ac s0) → va_S A s.heap H locs → lv_has ls 4 [(0, .ref (a 0)), (1, .int x1), (2, .int x2), (3, .int x3)] → W p l e (headSpec ow_dm_X13_quoted ({ frames := 6, cells := 0, slots := 0, locals := 135 })).room s m args below meth c H locs 0 0 Q (F0 m 21 ls [])
def dj_X13_quoted_0 (p : Program) (l : Launch) (e : Env) (s : State) (m : MethodId) (args : Array Value) (below : List Frame) (meth : Method) (c : Code) (Q : State → Prop) (A : Nat → Prop) (dC : Nat → ClassId) (dI : Nat → Nat → Nat) (a : Nat → Nat) (ac : Nat → ClassId) (g : Int32 → (St) → Option (St)) (r : St) : Prop := ∀ (v0 : Int32) (s0 : St) (H : Heap) (locs : List Loc) (ls : Array Slot), g v0 s0 = some r → va_P (dC, dI) vwCl (dw_X13 a ac s0) H → va_D A (dw_X13 a ac s0) → va_S A s.heap H locs → lv_has ls 4 [(0, .ref (a 0)), (1, .int v0)] → W p l e (headSpec ow_dm_X13_quoted ({ frames := 6, cells := 0, slots := 0, locals := 135 })).room s m args below meth c H locs 0 0 Q (F0 m 0 ls [])
set_option maxHeartbeats 40000000 in
set_option maxRecDepth 100000 in
theorem db_X13_quoted_61 {p : Program} {l : Launch} {e : Env} {s : State} {m : MethodId} {args : Array Value} {below : List Frame} {meth : Method} {c : Code} {Q : State → Prop} {A : Nat → Prop} {dC : Nat → ClassId} {dI : Nat → Nat → Nat} {a : Nat → Nat} {ac : Nat → ClassId} {n : Nat} {r : St} (C : nd_C p l s m args c A (dC, dI) cX13_quoted 4 RX13 ow_dm_X13_quoted (dk_X13 ac)) (K : nd_Kv p l e (headSpec ow_dm_X13_quoted ({ frames := 6, cells := 0, slots := 0, locals := 135 })).room s m args below meth c Q A (dC, dI) cX13_quoted (St) (dw_X13 a ac) r) : dj_X13_quoted_61 p l e s m args below meth c Q A dC dI a ac (df_X13_quoted_61 n) r := by
  obtain ⟨hlt, hx, hb, hml, hown, hts, hN, hA, hK⟩ := id C
  intro s0 H locs ls h hP hD hS hl
  unfold df_X13_quoted_61 at h
  exact K _ _ _ _ _ dX13_quoted_61 (Option.some.inj h).symm hP hD hS
set_option maxHeartbeats 40000000 in
set_option maxRecDepth 100000 in
theorem dB_X13_quoted_21 {p : Program} {l : Launch} {e : Env} {s : State} {m : MethodId} {args : Array Value} {below : List Frame} {meth : Method} {c : Code} {Q : State → Prop} {A : Nat → Prop} {dC : Nat → ClassId} {dI : Nat → Nat → Nat} {a : Nat → Nat} {ac : Nat → ClassId} {n : Nat} {r : St} (C : nd_C p l s m args c A (dC, dI) cX13_quoted 4 RX13 ow_dm_X13_quoted (dk_X13 ac)) (K : nd_Kv p l e (headSpec ow_dm_X13_quoted ({ frames := 6, cells := 0, slots := 0, locals := 135 })).room s m args below meth c Q A (dC, dI) cX13_quoted (St) (dw_X13 a ac) r) {g21 : Int32 → Int32 → Int32 → (St) → Option (St)} (J21 : dj_X13_quoted_21 p l e s m args below meth c Q A dC dI a ac g21 r) : dj_X13_quoted_21 p l e s m args below meth c Q A dC dI a ac (dF_X13_quoted_21 n g21) r := by
  obtain ⟨hlt, hx, hb, hml, hown, hts, hN, hA, hK⟩ := id C
  intro x1 x2 x3 s0 H locs ls h hP hD hS hl
  unfold dF_X13_quoted_21 at h
  refine lv_iload_n hx hb dX13_quoted_21 rfl (lv_at hl 3 rfl) ?_
  refine lv_iload_n hx hb dX13_quoted_22 rfl (lv_at hl 2 rfl) ?_
  refine lv_iconst (v := 1) hx hb dX13_quoted_23 (by decide) ?_
  refine lv_isub hx hb dX13_quoted_24 ?_
  refine lv_icmp_ge (tgt := 47) hx hb dX13_quoted_25 (by decide) (fun c7 => ?_) (fun c7 => ?_)
  · have h := nd_pos h c7
    refine lv_aload_n hx hb dX13_quoted_47 rfl (lv_at hl 0 rfl) ?_
    refine lv_iload_n hx hb dX13_quoted_48 rfl (lv_at hl 2 rfl) ?_
    refine va_put (D := (dC, dI)) (ci := 14) (v := .int x2) (ty := .int) (C := RX13) (T := TX13) (N := 37) hx hb hts hi_dm_X13_quoted_X13 tyX13 tyX13_ok nmX13 hown hK hP hD hS 0 rfl rfl 16 (by decide) (hts (.fieldLink RX13 374 "TimeMachineModel$Assembler" "at" "I") (List.mem_of_getElem? (i := 7) rfl)) (fun _ h9 => h9) rfl (by decide +kernel) rfl rfl (Nat.le_of_ble_eq_true rfl) dX13_quoted_49 (fun H locs hP hD hS => ?_)
    obtain ⟨s8, es8, h⟩ := nd_let_e h
    have hP : va_P (dC, dI) vwCl (dw_X13 a ac s8) H := by rw [es8]; exact hP
    have hD : va_D A (dw_X13 a ac s8) := by rw [es8]; exact hD
    refine lv_iload_n hx hb dX13_quoted_52 rfl (lv_at hl 1 rfl) ?_
    refine lv_if_eq (tgt := 61) hx hb dX13_quoted_53 (by decide) (fun c9 => ?_) (fun c9 => ?_)
    · have h := nd_pos h c9
      exact (db_X13_quoted_61 C K)  s8 _ _ _ h hP hD hS (lv_sub hl [] rfl)
    · have h := nd_neg h c9
      refine lv_aload_n hx hb dX13_quoted_56 rfl (lv_at hl 0 rfl) ?_
      refine lv_iconst (v := 0) hx hb dX13_quoted_57 (by decide) ?_
      obtain ⟨s11, hq, h⟩ := nd_b1_e h
      have hPc := hP
      have hDc := hD
      have hKc := hK
      have hFc := nd_rs hD hS hA
      refine nd_cVv (As := [.int 0]) (rest := []) (w' := dw_X13 a ac s11) ⟨hx, hb, hml, hown, hts⟩ (fun sz => dm_X13_put l hlt dC dI a ac n (0) s8 hq sz) (cwV 1 hts gi_dm_X13_quoted_1 rfl rfl rfl (by decide +kernel) ⟨Nat.le_of_ble_eq_true rfl, Nat.le_of_ble_eq_true rfl⟩) hPc hDc hKc hS hA hN (va_recv hKc hPc (ci := 14) (q0 := 0) rfl rfl) rfl hl.1 rfl (Nat.le_of_ble_eq_true rfl) dX13_quoted_58 (fun H locs hP1 hD1 hk1 hS => ?_)
      have hP := hP1
      have hD := hD1.weaken (fun k q _ h => hFc q.1 h)
      exact (db_X13_quoted_61 C K)  s11 _ _ _ h hP hD hS (lv_sub hl [] rfl)
  · have h := nd_neg h c7
    refine lv_aload_n hx hb dX13_quoted_28 rfl (lv_at hl 0 rfl) ?_
    refine lv_aload_n hx hb dX13_quoted_29 rfl (lv_at hl 0 rfl) ?_
    refine lv_iload_n hx hb dX13_quoted_30 rfl (lv_at hl 3 rfl) ?_
    refine lv_bipush (v := 34) hx hb dX13_quoted_31 (by decide) ?_
    obtain ⟨q13, s14, hq, h⟩ := nd_b2_e h
    have hPc := hP
    have hDc := hD
    have hKc := hK
    have hFc := nd_rs hD hS hA
    refine nd_cVi (As := [.int x3, .int 34]) (rest := [.ref (a 0)]) (q := q13) (w' := dw_X13 a ac s14) ⟨hx, hb, hml, hown, hts⟩ (fun sz => dm_X13_shown l hlt dC dI a ac n (x3) (34) s0 hq sz) (cwV 2 hts gi_dm_X13_quoted_2 rfl rfl rfl (by decide +kernel) ⟨Nat.le_of_ble_eq_true rfl, Nat.le_of_ble_eq_true rfl⟩) hPc hDc hKc hS hA hN (va_recv hKc hPc (ci := 14) (q0 := 0) rfl rfl) rfl hl.1 rfl (Nat.le_of_ble_eq_true rfl) dX13_quoted_33 (fun H locs hP1 hD1 hk1 hS => ?_)
    have hP := hP1
    have hD := hD1.weaken (fun k q _ h => hFc q.1 h)
    obtain ⟨s17, hq, h⟩ := nd_b1_e h
    have hPc := hP
    have hDc := hD
    have hKc := hK
    have hFc := nd_rs hD hS hA
    refine nd_cVv (As := [.int q13]) (rest := []) (w' := dw_X13 a ac s17) ⟨hx, hb, hml, hown, hts⟩ (fun sz => dm_X13_put l hlt dC dI a ac n (q13) s14 hq sz) (cwV 1 hts gi_dm_X13_quoted_1 rfl rfl rfl (by decide +kernel) ⟨Nat.le_of_ble_eq_true rfl, Nat.le_of_ble_eq_true rfl⟩) hPc hDc hKc hS hA hN (va_recv hKc hPc (ci := 14) (q0 := 0) rfl rfl) rfl hl.1 rfl (Nat.le_of_ble_eq_true rfl) dX13_quoted_36 (fun H locs hP1 hD1 hk1 hS => ?_)
    have hP := hP1
    have hD := hD1.weaken (fun k q _ h => hFc q.1 h)
    refine lv_aload_n hx hb dX13_quoted_39 rfl (lv_at hl 0 rfl) ?_
    refine va_get (D := (dC, dI)) (ci := 14) (v := .int (sI s17 10)) (C := RX13) (T := TX13) (N := 37) hx hb hts hi_dm_X13_quoted_X13 hown hK hP 0 rfl rfl 19 (by decide) (hts (.fieldLink RX13 371 "TimeMachineModel$Assembler" "to" "I") (List.mem_of_getElem? (i := 5) rfl)) (fun _ h9 => h9) rfl dX13_quoted_40 ?_
    refine lv_topi (fun z19 ez19 => ?_)
    have h := nd_at h ez19
    refine lv_istore_n (lv' := [(3, .int z19), (0, .ref (a 0)), (1, .int x1), (2, .int x2)]) hx hb dX13_quoted_43 rfl hl (by decide) rfl (fun ls hl => ?_)
    refine lv_goto (tgt := 21) hx hb dX13_quoted_44 (by decide) ?_
    exact (J21) (x1) (x2) (z19) s17 _ _ _ h hP hD hS (lv_sub hl [1, 2, 3, 0] rfl)
set_option maxHeartbeats 40000000 in
set_option maxRecDepth 100000 in
theorem db_X13_quoted_21 {p : Program} {l : Launch} {e : Env} {s : State} {m : MethodId} {args : Array Value} {below : List Frame} {meth : Method} {c : Code} {Q : State → Prop} {A : Nat → Prop} {dC : Nat → ClassId} {dI : Nat → Nat → Nat} {a : Nat → Nat} {ac : Nat → ClassId} {n : Nat} {r : St} (C : nd_C p l s m args c A (dC, dI) cX13_quoted 4 RX13 ow_dm_X13_quoted (dk_X13 ac)) (K : nd_Kv p l e (headSpec ow_dm_X13_quoted ({ frames := 6, cells := 0, slots := 0, locals := 135 })).room s m args below meth c Q A (dC, dI) cX13_quoted (St) (dw_X13 a ac) r) (k : Nat) : dj_X13_quoted_21 p l e s m args below meth c Q A dC dI a ac (df_X13_quoted_21 n k) r := by
  induction k with
  | zero => intro x1 x2 x3 s0 H locs ls h; exact nomatch (show (none : Option (St)) = some r from h)
  | succ k ih => exact dB_X13_quoted_21 C K ih
set_option maxHeartbeats 40000000 in
set_option maxRecDepth 100000 in
theorem db_X13_quoted_0 {p : Program} {l : Launch} {e : Env} {s : State} {m : MethodId} {args : Array Value} {below : List Frame} {meth : Method} {c : Code} {Q : State → Prop} {A : Nat → Prop} {dC : Nat → ClassId} {dI : Nat → Nat → Nat} {a : Nat → Nat} {ac : Nat → ClassId} {n : Nat} {r : St} (C : nd_C p l s m args c A (dC, dI) cX13_quoted 4 RX13 ow_dm_X13_quoted (dk_X13 ac)) (K : nd_Kv p l e (headSpec ow_dm_X13_quoted ({ frames := 6, cells := 0, slots := 0, locals := 135 })).room s m args below meth c Q A (dC, dI) cX13_quoted (St) (dw_X13 a ac) r) : dj_X13_quoted_0 p l e s m args below meth c Q A dC dI a ac (df_X13_quoted_0 n) r := by
  obtain ⟨hlt, hx, hb, hml, hown, hts, hN, hA, hK⟩ := id C
  intro v0 s0 H locs ls h hP hD hS hl
  unfold df_X13_quoted_0 at h
  refine lv_aload_n hx hb dX13_quoted_0 rfl (lv_at hl 0 rfl) ?_
  refine lv_iconst (v := 4) hx hb dX13_quoted_1 (by decide) ?_
  obtain ⟨q1, s2, hq, h⟩ := nd_b2_e h
  have hPc := hP
  have hDc := hD
  have hKc := hK
  have hFc := nd_rs hD hS hA
  refine nd_cVi (As := [.int 4]) (rest := []) (q := q1) (w' := dw_X13 a ac s2) ⟨hx, hb, hml, hown, hts⟩ (fun sz => dm_X13_needs l hlt dC dI a ac n (4) s0 hq sz) (cwV 1 hts gi_dm_X13_quoted_0 rfl rfl rfl (by decide +kernel) ⟨Nat.le_of_ble_eq_true rfl, Nat.le_of_ble_eq_true rfl⟩) hPc hDc hKc hS hA hN (va_recv hKc hPc (ci := 14) (q0 := 0) rfl rfl) rfl hl.1 rfl (Nat.le_of_ble_eq_true rfl) dX13_quoted_2 (fun H locs hP1 hD1 hk1 hS => ?_)
  have hP := hP1
  have hD := hD1.weaken (fun k q _ h => hFc q.1 h)
  refine lv_if_ne (tgt := 9) hx hb dX13_quoted_5 (by decide) (fun c4 => ?_) (fun c4 => ?_)
  · have h := nd_neg h c4
    refine lv_aload_n hx hb dX13_quoted_9 rfl (lv_at hl 0 rfl) ?_
    refine va_get (D := (dC, dI)) (ci := 14) (v := .int (sI s2 10)) (C := RX13) (T := TX13) (N := 37) hx hb hts hi_dm_X13_quoted_X13 hown hK hP 0 rfl rfl 19 (by decide) (hts (.fieldLink RX13 371 "TimeMachineModel$Assembler" "to" "I") (List.mem_of_getElem? (i := 5) rfl)) (fun _ h9 => h9) rfl dX13_quoted_10 ?_
    refine lv_topi (fun z5 ez5 => ?_)
    have h := nd_at h ez5
    refine lv_istore_n (lv' := [(2, .int z5), (0, .ref (a 0)), (1, .int v0)]) hx hb dX13_quoted_13 rfl hl (by decide) rfl (fun ls hl => ?_)
    refine lv_aload_n hx hb dX13_quoted_14 rfl (lv_at hl 1 rfl) ?_
    refine va_get (D := (dC, dI)) (ci := 14) (v := .int (sI s2 9)) (C := RX13) (T := TX13) (N := 37) hx hb hts hi_dm_X13_quoted_X13 hown hK hP 0 rfl rfl 18 (by decide) (hts (.fieldLink RX13 368 "TimeMachineModel$Assembler" "from" "I") (List.mem_of_getElem? (i := 6) rfl)) (fun _ h9 => h9) rfl dX13_quoted_15 ?_
    refine lv_iconst (v := 1) hx hb dX13_quoted_18 (by decide) ?_
    refine lv_iadd hx hb dX13_quoted_19 ?_
    refine lv_topi (fun z6 ez6 => ?_)
    have h := nd_at h ez6
    refine lv_istore_n (lv' := [(3, .int z6), (2, .int z5), (0, .ref (a 0)), (1, .int v0)]) hx hb dX13_quoted_20 rfl hl (by decide) rfl (fun ls hl => ?_)
    exact (db_X13_quoted_21 C K n) (v0) (z5) (z6) s2 _ _ _ h hP hD hS (lv_sub hl [2, 3, 1, 0] rfl)
  · have h := nd_pos h c4
    exact K _ _ _ _ _ dX13_quoted_8 (Option.some.inj h).symm hP hD hS
set_option maxHeartbeats 40000000 in
set_option maxRecDepth 100000 in
theorem dm_X13_quoted (l : Launch) (hlt : l.stackTraces = false) (dC : Nat → ClassId) (dI : Nat → Nat → Nat) (a : Nat → Nat) (ac : Nat → ClassId) (n : Nat) (v0 : Int32) (s0 : St) {r : St} (h : df_X13_quoted n v0 s0 = some r) (sz : Nat) : Met l yX13_quoted ow_dm_X13_quoted ({ frames := 6, cells := 0, slots := 0, locals := 135 }) (va_Pc [.ref (a 0), .int v0] (fun U => U.heap.size = sz ∧ va_P (dC, dI) vwCl (dw_X13 a ac s0) U.heap ∧ va_K (dC, dI) vwCl (dk_X13 ac) U ∧ va_D (fun _ => True) (dw_X13 a ac s0) ∧ nv_E dI (va_A (dw_X13 a ac s0) sz) U)) (va_Qv (fun _ => True) (fun (_ : Unit) t => va_P (dC, dI) vwCl (dw_X13 a ac r) t.heap ∧ va_K (dC, dI) vwCl (dk_X13 ac) t ∧ va_D (va_A (dw_X13 a ac s0) sz) (dw_X13 a ac r)) (va_A (dw_X13 a ac s0) sz)) 0 0 (va_A (dw_X13 a ac s0) sz) := by
  refine Met.ofW (cc := cX13_quoted) (maxL := 4) (ret := none) (by decide) rfl ?_
  intro p e s m args below meth c s₁ B hml hv
  obtain ⟨rfl, hsz, hP, hK, hD0, hN⟩ := hv
  have hx := B.exec
  have hb := B.bytes
  have hr := B.returns
  have hts := atoms_spec (ws := ow_dm_X13_quoted) B.pre
  have hown : s.vm.findClass RX13 = some m.cls := findClass_of_methodNamed B.named
  have hlocks := B.notSynchronized
  subst hsz
  have hD := hD0.self (sz := s.heap.size)
  generalize hAe : va_A (dw_X13 a ac s0) s.heap.size = A at hD hN ⊢
  have hA : ∀ q : Nat, s.heap.size ≤ q → A q := fun q h => by rw [← hAe]; exact Or.inr h
  have hl := lv_entry ([.ref (a 0), .int v0]) (n := 4) (Nat.le_of_ble_eq_true rfl)
  rw [lg_entry_eq]
  generalize (lg_sl ([.ref (a 0), .int v0]) ++ List.replicate (4 - (lg_sl ([.ref (a 0), .int v0])).length) Slot.unset).toArray = ls at hl ⊢
  have hl : lv_has ls 4 [(0, .ref (a 0)), (1, .int v0)] := hl
  exact db_X13_quoted_0 (dC := dC) (dI := dI) (a := a) (ac := ac) (n := n) (r := r) ⟨hlt, hx, hb, hml, hown, hts, hN, hA, hK⟩ (fun pc τ H locs ls d er hP hD hS => by subst er; exact W.vret hx hb hr (fun t ht hW => ⟨⟨(), rfl, trivial, by rw [ht]; exact hP, va_K.moved hW.alike hK, hD⟩, hS.F ht⟩) hS.2.2 d) v0 s0 _ _ _ h hP hD va_S.rf (lv_sub hl [0, 1] rfl)
def ow_dm_X13_directive : List Cond := Cond.code yX13_directive cX13_directive 6 none :: ([Cond.fieldLink RX13 410 "TimeMachineModel$Assembler" "fault" "I", Cond.methodLink RX13 525 yX13_expression, Cond.instanceMethod yX13_expression, Cond.selects RX13 yX13_expression yX13_expression, Cond.initialized RX13, Cond.methodLink RX13 579 yX13_isEnd, Cond.instanceMethod yX13_isEnd, Cond.selects RX13 yX13_isEnd yX13_isEnd, Cond.methodLink RX13 506 yX13_needs, Cond.instanceMethod yX13_needs, Cond.selects RX13 yX13_needs yX13_needs, Cond.methodLink RX13 544 yX13_put, Cond.instanceMethod yX13_put, Cond.selects RX13 yX13_put yX13_put, Cond.methodLink RX13 641 yX13_quoted, Cond.instanceMethod yX13_quoted, Cond.selects RX13 yX13_quoted yX13_quoted, Cond.methodLink RX13 605 yX13_fixed, Cond.instanceMethod yX13_fixed, Cond.selects RX13 yX13_fixed yX13_fixed, Cond.fieldLink RX13 334 "TimeMachineModel$Assembler" "bytes" "[I", Cond.fieldLink RX13 454 "TimeMachineModel$Assembler" "current" "I", Cond.fieldLink RX13 541 "TimeMachineModel$Assembler" "count" "I", Cond.constant RX13 640 (32768), Cond.methodLink RX13 637 yX13_constant, Cond.instanceMethod yX13_constant, Cond.selects RX13 yX13_constant yX13_constant, Cond.fieldLink RX13 634 "TimeMachineModel$Assembler" "section" "I"] ++ (u_ws RX13 TX13 37 ++ (ow_dm_X13_expression ++ (ow_dm_X13_isEnd ++ (ow_dm_X13_needs ++ (ow_dm_X13_put ++ (ow_dm_X13_quoted ++ (ow_dm_X13_fixed ++ (ow_dm_X13_constant ++ [])))))))))
theorem gd_dm_X13_directive : ∀ w ∈ ow_dm_X13_directive, (w.onTables && w.keeps) = true ∨ ∃ ty, w = Cond.arrayClass ty := List.forall_mem_cons.mpr ⟨good_of_word rfl, List.forall_mem_append.mpr ⟨fun w h => good_of_word (List.all_eq_true.mp (by decide +kernel) w h), List.forall_mem_append.mpr ⟨gu_X13, List.forall_mem_append.mpr ⟨gd_dm_X13_expression, List.forall_mem_append.mpr ⟨gd_dm_X13_isEnd, List.forall_mem_append.mpr ⟨gd_dm_X13_needs, List.forall_mem_append.mpr ⟨gd_dm_X13_put, List.forall_mem_append.mpr ⟨gd_dm_X13_quoted, List.forall_mem_append.mpr ⟨gd_dm_X13_fixed, List.forall_mem_append.mpr ⟨gd_dm_X13_constant, fun _ h => nomatch h⟩⟩⟩⟩⟩⟩⟩⟩⟩⟩
theorem hi_dm_X13_directive_X13 : ∀ w ∈ u_ws RX13 TX13 37, w ∈ ow_dm_X13_directive := fun w h => List.mem_cons_of_mem _ (List.mem_append_right _ (List.mem_append_left _ h))
theorem gi_dm_X13_directive_0 : GoodIn ow_dm_X13_directive (wsV RX13 525 RX13 yX13_expression ow_dm_X13_expression) := goodIn_app (goodIn_of _ (by decide +kernel)) (fun w h => ⟨List.mem_cons_of_mem _ (List.mem_append_right _ (List.mem_append_right _ (List.mem_append_left _ h))), gd_dm_X13_expression w h⟩)
theorem gi_dm_X13_directive_1 : GoodIn ow_dm_X13_directive (wsV RX13 579 RX13 yX13_isEnd ow_dm_X13_isEnd) := goodIn_app (goodIn_of _ (by decide +kernel)) (fun w h => ⟨List.mem_cons_of_mem _ (List.mem_append_right _ (List.mem_append_right _ (List.mem_append_right _ (List.mem_append_left _ h)))), gd_dm_X13_isEnd w h⟩)
theorem gi_dm_X13_directive_2 : GoodIn ow_dm_X13_directive (wsV RX13 506 RX13 yX13_needs ow_dm_X13_needs) := goodIn_app (goodIn_of _ (by decide +kernel)) (fun w h => ⟨List.mem_cons_of_mem _ (List.mem_append_right _ (List.mem_append_right _ (List.mem_append_right _ (List.mem_append_right _ (List.mem_append_left _ h))))), gd_dm_X13_needs w h⟩)
theorem gi_dm_X13_directive_3 : GoodIn ow_dm_X13_directive (wsV RX13 544 RX13 yX13_put ow_dm_X13_put) := goodIn_app (goodIn_of _ (by decide +kernel)) (fun w h => ⟨List.mem_cons_of_mem _ (List.mem_append_right _ (List.mem_append_right _ (List.mem_append_right _ (List.mem_append_right _ (List.mem_append_right _ (List.mem_append_left _ h)))))), gd_dm_X13_put w h⟩)
theorem gi_dm_X13_directive_4 : GoodIn ow_dm_X13_directive (wsV RX13 641 RX13 yX13_quoted ow_dm_X13_quoted) := goodIn_app (goodIn_of _ (by decide +kernel)) (fun w h => ⟨List.mem_cons_of_mem _ (List.mem_append_right _ (List.mem_append_right _ (List.mem_append_right _ (List.mem_append_right _ (List.mem_append_right _ (List.mem_append_right _ (List.mem_append_left _ h))))))), gd_dm_X13_quoted w h⟩)
theorem gi_dm_X13_directive_5 : GoodIn ow_dm_X13_directive (wsV RX13 605 RX13 yX13_fixed ow_dm_X13_fixed) := goodIn_app (goodIn_of _ (by decide +kernel)) (fun w h => ⟨List.mem_cons_of_mem _ (List.mem_append_right _ (List.mem_append_right _ (List.mem_append_right _ (List.mem_append_right _ (List.mem_append_right _ (List.mem_append_right _ (List.mem_append_right _ (List.mem_append_left _ h)))))))), gd_dm_X13_fixed w h⟩)
theorem gi_dm_X13_directive_6 : GoodIn ow_dm_X13_directive (wsV RX13 637 RX13 yX13_constant ow_dm_X13_constant) := goodIn_app (goodIn_of _ (by decide +kernel)) (fun w h => ⟨List.mem_cons_of_mem _ (List.mem_append_right _ (List.mem_append_right _ (List.mem_append_right _ (List.mem_append_right _ (List.mem_append_right _ (List.mem_append_right _ (List.mem_append_right _ (List.mem_append_right _ (List.mem_append_left _ h))))))))), gd_dm_X13_constant w h⟩)
def dj_X13_directive_185 (p : Program) (l : Launch) (e : Env) (s : State) (m : MethodId) (args : Array Value) (below : List Frame) (meth : Method) (c : Code) (Q : State → Prop) (A : Nat → Prop) (dC : Nat → ClassId) (dI : Nat → Nat → Nat) (a : Nat → Nat) (ac : Nat → ClassId) (g : (St) → Option (St)) (r : St) : Prop := ∀ (s0 : St) (H : Heap) (locs : List Loc) (ls : Array Slot), g s0 = some r → va_P (dC, dI) vwCl (dw_X13 a ac s0) H → va_D A (dw_X13 a ac s0) → va_S A s.heap H locs → lv_has ls 6 [] → W p l e (headSpec ow_dm_X13_directive ({ frames := 10, cells := 0, slots := 0, locals := 228 })).room s m args below meth c H locs 0 0 Q (F0 m 185 ls [])
def dj_X13_directive_181 (p : Program) (l : Launch) (e : Env) (s : State) (m : MethodId) (args : Array Value) (below : List Frame) (meth : Method) (c : Code) (Q : State → Prop) (A : Nat → Prop) (dC : Nat → ClassId) (dI : Nat → Nat → Nat) (a : Nat → Nat) (ac : Nat → ClassId) (g : Int32 → Int32 → Int32 → (St) → Option (St)) (r : St) : Prop := ∀ (x1 : Int32) (x2 : Int32) (y0 : Int32) (s0 : St) (H : Heap) (locs : List Loc) (ls : Array Slot), g x1 x2 y0 s0 = some r → va_P (dC, dI) vwCl (dw_X13 a ac s0) H → va_D A (dw_X13 a ac s0) → va_S A s.heap H locs → lv_has ls 6 [(0, .ref (a 0)), (1, .int x1), (2, .int x2)] → W p l e (headSpec ow_dm_X13_directive ({ frames := 10, cells := 0, slots := 0, locals := 228 })).room s m args below meth c H locs 0 0 Q (F0 m 181 ls [.int y0])
def dj_X13_directive_180 (p : Program) (l : Launch) (e : Env) (s : State) (m : MethodId) (args : Array Value) (below : List Frame) (meth : Method) (c : Code) (Q : State → Prop) (A : Nat → Prop) (dC : Nat → ClassId) (dI : Nat → Nat → Nat) (a : Nat → Nat) (ac : Nat → ClassId) (g : Int32 → Int32 → (St) → Option (St)) (r : St) : Prop := ∀ (x1 : Int32) (x2 : Int32) (s0 : St) (H : Heap) (locs : List Loc) (ls : Array Slot), g x1 x2 s0 = some r → va_P (dC, dI) vwCl (dw_X13 a ac s0) H → va_D A (dw_X13 a ac s0) → va_S A s.heap H locs → lv_has ls 6 [(0, .ref (a 0)), (1, .int x1), (2, .int x2)] → W p l e (headSpec ow_dm_X13_directive ({ frames := 10, cells := 0, slots := 0, locals := 228 })).room s m args below meth c H locs 0 0 Q (F0 m 180 ls [])
def dj_X13_directive_153 (p : Program) (l : Launch) (e : Env) (s : State) (m : MethodId) (args : Array Value) (below : List Frame) (meth : Method) (c : Code) (Q : State → Prop) (A : Nat → Prop) (dC : Nat → ClassId) (dI : Nat → Nat → Nat) (a : Nat → Nat) (ac : Nat → ClassId) (g : Int32 → Int32 → (St) → Option (St)) (r : St) : Prop := ∀ (x1 : Int32) (x2 : Int32) (s0 : St) (H : Heap) (locs : List Loc) (ls : Array Slot), g x1 x2 s0 = some r → va_P (dC, dI) vwCl (dw_X13 a ac s0) H → va_D A (dw_X13 a ac s0) → va_S A s.heap H locs → lv_has ls 6 [(0, .ref (a 0)), (1, .int x1), (2, .int x2)] → W p l e (headSpec ow_dm_X13_directive ({ frames := 10, cells := 0, slots := 0, locals := 228 })).room s m args below meth c H locs 0 0 Q (F0 m 153 ls [])
def dj_X13_directive_129 (p : Program) (l : Launch) (e : Env) (s : State) (m : MethodId) (args : Array Value) (below : List Frame) (meth : Method) (c : Code) (Q : State → Prop) (A : Nat → Prop) (dC : Nat → ClassId) (dI : Nat → Nat → Nat) (a : Nat → Nat) (ac : Nat → ClassId) (g : Int32 → Int32 → Int32 → Int32 → (St) → Option (St)) (r : St) : Prop := ∀ (x1 : Int32) (x2 : Int32) (x4 : Int32) (x5 : Int32) (s0 : St) (H : Heap) (locs : List Loc) (ls : Array Slot), g x1 x2 x4 x5 s0 = some r → va_P (dC, dI) vwCl (dw_X13 a ac s0) H → va_D A (dw_X13 a ac s0) → va_S A s.heap H locs → lv_has ls 6 [(0, .ref (a 0)), (1, .int x1), (2, .int x2), (4, .int x4), (5, .int x5)] → W p l e (headSpec ow_dm_X13_directive ({ frames := 10, cells := 0, slots := 0, locals := 228 })).room s m args below meth c H locs 0 0 Q (F0 m 129 ls [])
def dj_X13_directive_114 (p : Program) (l : Launch) (e : Env) (s : State) (m : MethodId) (args : Array Value) (below : List Frame) (meth : Method) (c : Code) (Q : State → Prop) (A : Nat → Prop) (dC : Nat → ClassId) (dI : Nat → Nat → Nat) (a : Nat → Nat) (ac : Nat → ClassId) (g : Int32 → Int32 → Int32 → (St) → Option (St)) (r : St) : Prop := ∀ (x1 : Int32) (x2 : Int32) (y1 : Int32) (s0 : St) (H : Heap) (locs : List Loc) (ls : Array Slot), g x1 x2 y1 s0 = some r → va_P (dC, dI) vwCl (dw_X13 a ac s0) H → va_D A (dw_X13 a ac s0) → va_S A s.heap H locs → lv_has ls 6 [(0, .ref (a 0)), (1, .int x1), (2, .int x2)] → W p l e (headSpec ow_dm_X13_directive ({ frames := 10, cells := 0, slots := 0, locals := 228 })).room s m args below meth c H locs 0 0 Q (F0 m 114 ls [.int y1, .ref (a 0)])
def dj_X13_directive_87 (p : Program) (l : Launch) (e : Env) (s : State) (m : MethodId) (args : Array Value) (below : List Frame) (meth : Method) (c : Code) (Q : State → Prop) (A : Nat → Prop) (dC : Nat → ClassId) (dI : Nat → Nat → Nat) (a : Nat → Nat) (ac : Nat → ClassId) (g : Int32 → Int32 → Int32 → (St) → Option (St)) (r : St) : Prop := ∀ (x1 : Int32) (x2 : Int32) (x3 : Int32) (s0 : St) (H : Heap) (locs : List Loc) (ls : Array Slot), g x1 x2 x3 s0 = some r → va_P (dC, dI) vwCl (dw_X13 a ac s0) H → va_D A (dw_X13 a ac s0) → va_S A s.heap H locs → lv_has ls 6 [(0, .ref (a 0)), (1, .int x1), (2, .int x2), (3, .int x3)] → W p l e (headSpec ow_dm_X13_directive ({ frames := 10, cells := 0, slots := 0, locals := 228 })).room s m args below meth c H locs 0 0 Q (F0 m 87 ls [])
def dj_X13_directive_0 (p : Program) (l : Launch) (e : Env) (s : State) (m : MethodId) (args : Array Value) (below : List Frame) (meth : Method) (c : Code) (Q : State → Prop) (A : Nat → Prop) (dC : Nat → ClassId) (dI : Nat → Nat → Nat) (a : Nat → Nat) (ac : Nat → ClassId) (g : Int32 → Int32 → (St) → Option (St)) (r : St) : Prop := ∀ (v0 : Int32) (v1 : Int32) (s0 : St) (H : Heap) (locs : List Loc) (ls : Array Slot), g v0 v1 s0 = some r → va_P (dC, dI) vwCl (dw_X13 a ac s0) H → va_D A (dw_X13 a ac s0) → va_S A s.heap H locs → lv_has ls 6 [(0, .ref (a 0)), (1, .int v0), (2, .int v1)] → W p l e (headSpec ow_dm_X13_directive ({ frames := 10, cells := 0, slots := 0, locals := 228 })).room s m args below meth c H locs 0 0 Q (F0 m 0 ls [])
set_option maxHeartbeats 40000000 in
set_option maxRecDepth 100000 in
theorem db_X13_directive_185 {p : Program} {l : Launch} {e : Env} {s : State} {m : MethodId} {args : Array Value} {below : List Frame} {meth : Method} {c : Code} {Q : State → Prop} {A : Nat → Prop} {dC : Nat → ClassId} {dI : Nat → Nat → Nat} {a : Nat → Nat} {ac : Nat → ClassId} {n : Nat} {r : St} (C : nd_C p l s m args c A (dC, dI) cX13_directive 6 RX13 ow_dm_X13_directive (dk_X13 ac)) (K : nd_Kv p l e (headSpec ow_dm_X13_directive ({ frames := 10, cells := 0, slots := 0, locals := 228 })).room s m args below meth c Q A (dC, dI) cX13_directive (St) (dw_X13 a ac) r) : dj_X13_directive_185 p l e s m args below meth c Q A dC dI a ac (df_X13_directive_185 n) r := by
  obtain ⟨hlt, hx, hb, hml, hown, hts, hN, hA, hK⟩ := id C
  intro s0 H locs ls h hP hD hS hl
  unfold df_X13_directive_185 at h
  exact K _ _ _ _ _ dX13_directive_185 (Option.some.inj h).symm hP hD hS
set_option maxHeartbeats 40000000 in
set_option maxRecDepth 100000 in
theorem db_X13_directive_181 {p : Program} {l : Launch} {e : Env} {s : State} {m : MethodId} {args : Array Value} {below : List Frame} {meth : Method} {c : Code} {Q : State → Prop} {A : Nat → Prop} {dC : Nat → ClassId} {dI : Nat → Nat → Nat} {a : Nat → Nat} {ac : Nat → ClassId} {n : Nat} {r : St} (C : nd_C p l s m args c A (dC, dI) cX13_directive 6 RX13 ow_dm_X13_directive (dk_X13 ac)) (K : nd_Kv p l e (headSpec ow_dm_X13_directive ({ frames := 10, cells := 0, slots := 0, locals := 228 })).room s m args below meth c Q A (dC, dI) cX13_directive (St) (dw_X13 a ac) r) {g87 : Int32 → Int32 → Int32 → (St) → Option (St)} (J87 : dj_X13_directive_87 p l e s m args below meth c Q A dC dI a ac g87 r) : dj_X13_directive_181 p l e s m args below meth c Q A dC dI a ac (df_X13_directive_181 n g87) r := by
  obtain ⟨hlt, hx, hb, hml, hown, hts, hN, hA, hK⟩ := id C
  intro x1 x2 y0 s0 H locs ls h hP hD hS hl
  unfold df_X13_directive_181 at h
  refine lv_istore_n (lv' := [(3, .int y0), (0, .ref (a 0)), (1, .int x1), (2, .int x2)]) hx hb dX13_directive_181 rfl hl (by decide) rfl (fun ls hl => ?_)
  refine lv_goto (tgt := 87) hx hb dX13_directive_182 (by decide) ?_
  exact (J87) (x1) (x2) (y0) s0 _ _ _ h hP hD hS (lv_sub hl [1, 2, 3, 0] rfl)
set_option maxHeartbeats 40000000 in
set_option maxRecDepth 100000 in
theorem db_X13_directive_180 {p : Program} {l : Launch} {e : Env} {s : State} {m : MethodId} {args : Array Value} {below : List Frame} {meth : Method} {c : Code} {Q : State → Prop} {A : Nat → Prop} {dC : Nat → ClassId} {dI : Nat → Nat → Nat} {a : Nat → Nat} {ac : Nat → ClassId} {n : Nat} {r : St} (C : nd_C p l s m args c A (dC, dI) cX13_directive 6 RX13 ow_dm_X13_directive (dk_X13 ac)) (K : nd_Kv p l e (headSpec ow_dm_X13_directive ({ frames := 10, cells := 0, slots := 0, locals := 228 })).room s m args below meth c Q A (dC, dI) cX13_directive (St) (dw_X13 a ac) r) {g87 : Int32 → Int32 → Int32 → (St) → Option (St)} (J87 : dj_X13_directive_87 p l e s m args below meth c Q A dC dI a ac g87 r) : dj_X13_directive_180 p l e s m args below meth c Q A dC dI a ac (df_X13_directive_180 n g87) r := by
  obtain ⟨hlt, hx, hb, hml, hown, hts, hN, hA, hK⟩ := id C
  intro x1 x2 s0 H locs ls h hP hD hS hl
  unfold df_X13_directive_180 at h
  refine lv_iconst (v := 0) hx hb dX13_directive_180 (by decide) ?_
  exact (db_X13_directive_181 C K J87) (x1) (x2) (0) s0 _ _ _ h hP hD hS (lv_sub hl [0, 1, 2] rfl)
set_option maxHeartbeats 40000000 in
set_option maxRecDepth 100000 in
theorem db_X13_directive_153 {p : Program} {l : Launch} {e : Env} {s : State} {m : MethodId} {args : Array Value} {below : List Frame} {meth : Method} {c : Code} {Q : State → Prop} {A : Nat → Prop} {dC : Nat → ClassId} {dI : Nat → Nat → Nat} {a : Nat → Nat} {ac : Nat → ClassId} {n : Nat} {r : St} (C : nd_C p l s m args c A (dC, dI) cX13_directive 6 RX13 ow_dm_X13_directive (dk_X13 ac)) (K : nd_Kv p l e (headSpec ow_dm_X13_directive ({ frames := 10, cells := 0, slots := 0, locals := 228 })).room s m args below meth c Q A (dC, dI) cX13_directive (St) (dw_X13 a ac) r) {g87 : Int32 → Int32 → Int32 → (St) → Option (St)} (J87 : dj_X13_directive_87 p l e s m args below meth c Q A dC dI a ac g87 r) : dj_X13_directive_153 p l e s m args below meth c Q A dC dI a ac (df_X13_directive_153 n g87) r := by
  obtain ⟨hlt, hx, hb, hml, hown, hts, hN, hA, hK⟩ := id C
  intro x1 x2 s0 H locs ls h hP hD hS hl
  unfold df_X13_directive_153 at h
  refine lv_aload_n hx hb dX13_directive_153 rfl (lv_at hl 0 rfl) ?_
  refine va_get (D := (dC, dI)) (ci := 14) (v := .int (sI s0 12)) (C := RX13) (T := TX13) (N := 37) hx hb hts hi_dm_X13_directive_X13 hown hK hP 0 rfl rfl 21 (by decide) (hts (.fieldLink RX13 410 "TimeMachineModel$Assembler" "fault" "I") (List.mem_of_getElem? (i := 1) rfl)) (fun _ h9 => h9) rfl dX13_directive_154 ?_
  refine lv_if_ne (tgt := 180) hx hb dX13_directive_157 (by decide) (fun c12 => ?_) (fun c12 => ?_)
  · have h := nd_neg h c12
    exact (db_X13_directive_180 C K J87) (x1) (x2) s0 _ _ _ h hP hD hS (lv_sub hl [0, 1, 2] rfl)
  · have h := nd_pos h c12
    refine lv_aload_n hx hb dX13_directive_160 rfl (lv_at hl 0 rfl) ?_
    obtain ⟨q13, s14, hq, h⟩ := nd_b2_e h
    have hPc := hP
    have hDc := hD
    have hKc := hK
    have hFc := nd_rs hD hS hA
    refine nd_cVi (As := []) (rest := []) (q := q13) (w' := dw_X13 a ac s14) ⟨hx, hb, hml, hown, hts⟩ (fun sz => dm_X13_isEnd l hlt dC dI a ac n  s0 hq sz) (cwV 0 hts gi_dm_X13_directive_1 rfl rfl rfl (by decide +kernel) ⟨Nat.le_of_ble_eq_true rfl, Nat.le_of_ble_eq_true rfl⟩) hPc hDc hKc hS hA hN (va_recv hKc hPc (ci := 14) (q0 := 0) rfl rfl) rfl hl.1 rfl (Nat.le_of_ble_eq_true rfl) dX13_directive_161 (fun H locs hP1 hD1 hk1 hS => ?_)
    have hP := hP1
    have hD := hD1.weaken (fun k q _ h => hFc q.1 h)
    refine lv_if_ne (tgt := 180) hx hb dX13_directive_164 (by decide) (fun c16 => ?_) (fun c16 => ?_)
    · have h := nd_neg h c16
      exact (db_X13_directive_180 C K J87) (x1) (x2) s14 _ _ _ h hP hD hS (lv_sub hl [0, 1, 2] rfl)
    · have h := nd_pos h c16
      refine lv_aload_n hx hb dX13_directive_167 rfl (lv_at hl 0 rfl) ?_
      refine lv_bipush (v := 44) hx hb dX13_directive_168 (by decide) ?_
      obtain ⟨q17, s18, hq, h⟩ := nd_b2_e h
      have hPc := hP
      have hDc := hD
      have hKc := hK
      have hFc := nd_rs hD hS hA
      refine nd_cVi (As := [.int 44]) (rest := []) (q := q17) (w' := dw_X13 a ac s18) ⟨hx, hb, hml, hown, hts⟩ (fun sz => dm_X13_needs l hlt dC dI a ac n (44) s14 hq sz) (cwV 1 hts gi_dm_X13_directive_2 rfl rfl rfl (by decide +kernel) ⟨Nat.le_of_ble_eq_true rfl, Nat.le_of_ble_eq_true rfl⟩) hPc hDc hKc hS hA hN (va_recv hKc hPc (ci := 14) (q0 := 0) rfl rfl) rfl hl.1 rfl (Nat.le_of_ble_eq_true rfl) dX13_directive_170 (fun H locs hP1 hD1 hk1 hS => ?_)
      have hP := hP1
      have hD := hD1.weaken (fun k q _ h => hFc q.1 h)
      refine lv_if_eq (tgt := 180) hx hb dX13_directive_173 (by decide) (fun c20 => ?_) (fun c20 => ?_)
      · have h := nd_pos h c20
        exact (db_X13_directive_180 C K J87) (x1) (x2) s18 _ _ _ h hP hD hS (lv_sub hl [0, 1, 2] rfl)
      · have h := nd_neg h c20
        refine lv_iconst (v := 1) hx hb dX13_directive_176 (by decide) ?_
        refine lv_goto (tgt := 181) hx hb dX13_directive_177 (by decide) ?_
        exact (db_X13_directive_181 C K J87) (x1) (x2) (1) s18 _ _ _ h hP hD hS (lv_sub hl [0, 1, 2] rfl)
set_option maxHeartbeats 40000000 in
set_option maxRecDepth 100000 in
theorem dB_X13_directive_129 {p : Program} {l : Launch} {e : Env} {s : State} {m : MethodId} {args : Array Value} {below : List Frame} {meth : Method} {c : Code} {Q : State → Prop} {A : Nat → Prop} {dC : Nat → ClassId} {dI : Nat → Nat → Nat} {a : Nat → Nat} {ac : Nat → ClassId} {n : Nat} {r : St} (C : nd_C p l s m args c A (dC, dI) cX13_directive 6 RX13 ow_dm_X13_directive (dk_X13 ac)) (K : nd_Kv p l e (headSpec ow_dm_X13_directive ({ frames := 10, cells := 0, slots := 0, locals := 228 })).room s m args below meth c Q A (dC, dI) cX13_directive (St) (dw_X13 a ac) r) {g87 : Int32 → Int32 → Int32 → (St) → Option (St)} (J87 : dj_X13_directive_87 p l e s m args below meth c Q A dC dI a ac g87 r) {g129 : Int32 → Int32 → Int32 → Int32 → (St) → Option (St)} (J129 : dj_X13_directive_129 p l e s m args below meth c Q A dC dI a ac g129 r) : dj_X13_directive_129 p l e s m args below meth c Q A dC dI a ac (dF_X13_directive_129 n g87 g129) r := by
  obtain ⟨hlt, hx, hb, hml, hown, hts, hN, hA, hK⟩ := id C
  intro x1 x2 x4 x5 s0 H locs ls h hP hD hS hl
  unfold dF_X13_directive_129 at h
  refine lv_iload hx hb dX13_directive_129 (lv_at hl 4 rfl) ?_
  refine lv_iload_n hx hb dX13_directive_131 rfl (lv_at hl 2 rfl) ?_
  refine lv_icmp_ge (tgt := 153) hx hb dX13_directive_132 (by decide) (fun c11 => ?_) (fun c11 => ?_)
  · have h := nd_pos h c11
    exact (db_X13_directive_153 C K J87) (x1) (x2) s0 _ _ _ h hP hD hS (lv_sub hl [0, 1, 2] rfl)
  · have h := nd_neg h c11
    refine lv_aload_n hx hb dX13_directive_135 rfl (lv_at hl 0 rfl) ?_
    refine lv_iload hx hb dX13_directive_136 (lv_at hl 3 rfl) ?_
    refine lv_bipush (v := 8) hx hb dX13_directive_138 (by decide) ?_
    refine lv_iload hx hb dX13_directive_140 (lv_at hl 4 rfl) ?_
    refine lv_imul hx hb dX13_directive_142 ?_
    refine lv_ishr hx hb dX13_directive_143 ?_
    obtain ⟨s22, hq, h⟩ := nd_b1_e h
    have hPc := hP
    have hDc := hD
    have hKc := hK
    have hFc := nd_rs hD hS hA
    refine nd_cVv (As := [.int ((x4 : Int32) >>> (((8 * x5) : Int32) &&& 31))]) (rest := []) (w' := dw_X13 a ac s22) ⟨hx, hb, hml, hown, hts⟩ (fun sz => dm_X13_put l hlt dC dI a ac n (((x4 : Int32) >>> (((8 * x5) : Int32) &&& 31))) s0 hq sz) (cwV 1 hts gi_dm_X13_directive_3 rfl rfl rfl (by decide +kernel) ⟨Nat.le_of_ble_eq_true rfl, Nat.le_of_ble_eq_true rfl⟩) hPc hDc hKc hS hA hN (va_recv hKc hPc (ci := 14) (q0 := 0) rfl rfl) rfl hl.1 rfl (Nat.le_of_ble_eq_true rfl) dX13_directive_144 (fun H locs hP1 hD1 hk1 hS => ?_)
    have hP := hP1
    have hD := hD1.weaken (fun k q _ h => hFc q.1 h)
    obtain ⟨z24, ez24, h⟩ := nd_let_e h
    refine lv_iinc (v := z24) (lv' := [(5, .int z24), (0, .ref (a 0)), (1, .int x1), (2, .int x2), (4, .int x4)]) hx hb dX13_directive_147 hl (k := 4) rfl (by rw [ez24]) (by decide) rfl (fun ls hl => ?_)
    refine lv_goto (tgt := 129) hx hb dX13_directive_150 (by decide) ?_
    exact (J129) (x1) (x2) (x4) (z24) s22 _ _ _ h hP hD hS (lv_sub hl [1, 2, 3, 4, 0] rfl)
set_option maxHeartbeats 40000000 in
set_option maxRecDepth 100000 in
theorem db_X13_directive_129 {p : Program} {l : Launch} {e : Env} {s : State} {m : MethodId} {args : Array Value} {below : List Frame} {meth : Method} {c : Code} {Q : State → Prop} {A : Nat → Prop} {dC : Nat → ClassId} {dI : Nat → Nat → Nat} {a : Nat → Nat} {ac : Nat → ClassId} {n : Nat} {r : St} (C : nd_C p l s m args c A (dC, dI) cX13_directive 6 RX13 ow_dm_X13_directive (dk_X13 ac)) (K : nd_Kv p l e (headSpec ow_dm_X13_directive ({ frames := 10, cells := 0, slots := 0, locals := 228 })).room s m args below meth c Q A (dC, dI) cX13_directive (St) (dw_X13 a ac) r) {g87 : Int32 → Int32 → Int32 → (St) → Option (St)} (J87 : dj_X13_directive_87 p l e s m args below meth c Q A dC dI a ac g87 r) (k : Nat) : dj_X13_directive_129 p l e s m args below meth c Q A dC dI a ac (df_X13_directive_129 n g87 k) r := by
  induction k with
  | zero => intro x1 x2 x4 x5 s0 H locs ls h; exact nomatch (show (none : Option (St)) = some r from h)
  | succ k ih => exact dB_X13_directive_129 C K J87 ih
set_option maxHeartbeats 40000000 in
set_option maxRecDepth 100000 in
theorem db_X13_directive_114 {p : Program} {l : Launch} {e : Env} {s : State} {m : MethodId} {args : Array Value} {below : List Frame} {meth : Method} {c : Code} {Q : State → Prop} {A : Nat → Prop} {dC : Nat → ClassId} {dI : Nat → Nat → Nat} {a : Nat → Nat} {ac : Nat → ClassId} {n : Nat} {r : St} (C : nd_C p l s m args c A (dC, dI) cX13_directive 6 RX13 ow_dm_X13_directive (dk_X13 ac)) (K : nd_Kv p l e (headSpec ow_dm_X13_directive ({ frames := 10, cells := 0, slots := 0, locals := 228 })).room s m args below meth c Q A (dC, dI) cX13_directive (St) (dw_X13 a ac) r) {g87 : Int32 → Int32 → Int32 → (St) → Option (St)} (J87 : dj_X13_directive_87 p l e s m args below meth c Q A dC dI a ac g87 r) : dj_X13_directive_114 p l e s m args below meth c Q A dC dI a ac (df_X13_directive_114 n g87) r := by
  obtain ⟨hlt, hx, hb, hml, hown, hts, hN, hA, hK⟩ := id C
  intro x1 x2 y1 s0 H locs ls h hP hD hS hl
  unfold df_X13_directive_114 at h
  obtain ⟨s27, hq, h⟩ := nd_b1_e h
  have hPc := hP
  have hDc := hD
  have hKc := hK
  have hFc := nd_rs hD hS hA
  refine nd_cVv (As := [.int y1]) (rest := []) (w' := dw_X13 a ac s27) ⟨hx, hb, hml, hown, hts⟩ (fun sz => dm_X13_quoted l hlt dC dI a ac n (y1) s0 hq sz) (cwV 1 hts gi_dm_X13_directive_4 rfl rfl rfl (by decide +kernel) ⟨Nat.le_of_ble_eq_true rfl, Nat.le_of_ble_eq_true rfl⟩) hPc hDc hKc hS hA hN (va_recv hKc hPc (ci := 14) (q0 := 0) rfl rfl) rfl hl.1 rfl (Nat.le_of_ble_eq_true rfl) dX13_directive_114 (fun H locs hP1 hD1 hk1 hS => ?_)
  have hP := hP1
  have hD := hD1.weaken (fun k q _ h => hFc q.1 h)
  refine lv_goto (tgt := 153) hx hb dX13_directive_117 (by decide) ?_
  exact (db_X13_directive_153 C K J87) (x1) (x2) s27 _ _ _ h hP hD hS (lv_sub hl [0, 1, 2] rfl)
set_option maxHeartbeats 40000000 in
set_option maxRecDepth 100000 in
theorem dB_X13_directive_87 {p : Program} {l : Launch} {e : Env} {s : State} {m : MethodId} {args : Array Value} {below : List Frame} {meth : Method} {c : Code} {Q : State → Prop} {A : Nat → Prop} {dC : Nat → ClassId} {dI : Nat → Nat → Nat} {a : Nat → Nat} {ac : Nat → ClassId} {n : Nat} {r : St} (C : nd_C p l s m args c A (dC, dI) cX13_directive 6 RX13 ow_dm_X13_directive (dk_X13 ac)) (K : nd_Kv p l e (headSpec ow_dm_X13_directive ({ frames := 10, cells := 0, slots := 0, locals := 228 })).room s m args below meth c Q A (dC, dI) cX13_directive (St) (dw_X13 a ac) r) {g87 : Int32 → Int32 → Int32 → (St) → Option (St)} (J87 : dj_X13_directive_87 p l e s m args below meth c Q A dC dI a ac g87 r) : dj_X13_directive_87 p l e s m args below meth c Q A dC dI a ac (dF_X13_directive_87 n g87) r := by
  obtain ⟨hlt, hx, hb, hml, hown, hts, hN, hA, hK⟩ := id C
  intro x1 x2 x3 s0 H locs ls h hP hD hS hl
  unfold dF_X13_directive_87 at h
  refine lv_iload_n hx hb dX13_directive_87 rfl (lv_at hl 3 rfl) ?_
  refine lv_if_eq (tgt := 185) hx hb dX13_directive_88 (by decide) (fun c5 => ?_) (fun c5 => ?_)
  · have h := nd_pos h c5
    exact (db_X13_directive_185 C K)  s0 _ _ _ h hP hD hS (lv_sub hl [] rfl)
  · have h := nd_neg h c5
    refine lv_aload_n hx hb dX13_directive_91 rfl (lv_at hl 0 rfl) ?_
    refine va_get (D := (dC, dI)) (ci := 14) (v := .int (sI s0 12)) (C := RX13) (T := TX13) (N := 37) hx hb hts hi_dm_X13_directive_X13 hown hK hP 0 rfl rfl 21 (by decide) (hts (.fieldLink RX13 410 "TimeMachineModel$Assembler" "fault" "I") (List.mem_of_getElem? (i := 1) rfl)) (fun _ h9 => h9) rfl dX13_directive_92 ?_
    refine lv_if_ne (tgt := 185) hx hb dX13_directive_95 (by decide) (fun c6 => ?_) (fun c6 => ?_)
    · have h := nd_neg h c6
      exact (db_X13_directive_185 C K)  s0 _ _ _ h hP hD hS (lv_sub hl [] rfl)
    · have h := nd_pos h c6
      refine lv_iload_n hx hb dX13_directive_98 rfl (lv_at hl 2 rfl) ?_
      refine lv_if_ne (tgt := 120) hx hb dX13_directive_99 (by decide) (fun c7 => ?_) (fun c7 => ?_)
      · have h := nd_neg h c7
        refine lv_aload_n hx hb dX13_directive_120 rfl (lv_at hl 0 rfl) ?_
        obtain ⟨q8, s9, hq, h⟩ := nd_b2_e h
        have hPc := hP
        have hDc := hD
        have hKc := hK
        have hFc := nd_rs hD hS hA
        refine nd_cVi (As := []) (rest := []) (q := q8) (w' := dw_X13 a ac s9) ⟨hx, hb, hml, hown, hts⟩ (fun sz => dm_X13_expression l hlt dC dI a ac n  s0 hq sz) (cwV 0 hts gi_dm_X13_directive_0 rfl rfl rfl (by decide +kernel) ⟨Nat.le_of_ble_eq_true rfl, Nat.le_of_ble_eq_true rfl⟩) hPc hDc hKc hS hA hN (va_recv hKc hPc (ci := 14) (q0 := 0) rfl rfl) rfl hl.1 rfl (Nat.le_of_ble_eq_true rfl) dX13_directive_121 (fun H locs hP1 hD1 hk1 hS => ?_)
        have hP := hP1
        have hD := hD1.weaken (fun k q _ h => hFc q.1 h)
        refine lv_istore (lv' := [(4, .int q8), (0, .ref (a 0)), (1, .int x1), (2, .int x2), (3, .int x3)]) hx hb dX13_directive_124 hl (by decide) rfl (fun ls hl => ?_)
        refine lv_iconst (v := 0) hx hb dX13_directive_126 (by decide) ?_
        refine lv_istore (lv' := [(5, .int 0), (4, .int q8), (0, .ref (a 0)), (1, .int x1), (2, .int x2), (3, .int x3)]) hx hb dX13_directive_127 hl (by decide) rfl (fun ls hl => ?_)
        exact (db_X13_directive_129 C K J87 n) (x1) (x2) (q8) (0) s9 _ _ _ h hP hD hS (lv_sub hl [2, 3, 4, 1, 0] rfl)
      · have h := nd_pos h c7
        refine lv_aload_n hx hb dX13_directive_102 rfl (lv_at hl 0 rfl) ?_
        refine lv_iload_n hx hb dX13_directive_103 rfl (lv_at hl 1 rfl) ?_
        refine lv_bipush (v := 47) hx hb dX13_directive_104 (by decide) ?_
        refine lv_icmp_ne (tgt := 113) hx hb dX13_directive_106 (by decide) (fun c25 => ?_) (fun c25 => ?_)
        · have h := nd_neg h c25
          refine lv_iconst (v := 0) hx hb dX13_directive_113 (by decide) ?_
          exact (db_X13_directive_114 C K J87) (x1) (x2) (0) s0 _ _ _ h hP hD hS (lv_sub hl [0, 1, 2] rfl)
        · have h := nd_pos h c25
          refine lv_iconst (v := 1) hx hb dX13_directive_109 (by decide) ?_
          refine lv_goto (tgt := 114) hx hb dX13_directive_110 (by decide) ?_
          exact (db_X13_directive_114 C K J87) (x1) (x2) (1) s0 _ _ _ h hP hD hS (lv_sub hl [0, 1, 2] rfl)
set_option maxHeartbeats 40000000 in
set_option maxRecDepth 100000 in
theorem db_X13_directive_87 {p : Program} {l : Launch} {e : Env} {s : State} {m : MethodId} {args : Array Value} {below : List Frame} {meth : Method} {c : Code} {Q : State → Prop} {A : Nat → Prop} {dC : Nat → ClassId} {dI : Nat → Nat → Nat} {a : Nat → Nat} {ac : Nat → ClassId} {n : Nat} {r : St} (C : nd_C p l s m args c A (dC, dI) cX13_directive 6 RX13 ow_dm_X13_directive (dk_X13 ac)) (K : nd_Kv p l e (headSpec ow_dm_X13_directive ({ frames := 10, cells := 0, slots := 0, locals := 228 })).room s m args below meth c Q A (dC, dI) cX13_directive (St) (dw_X13 a ac) r) (k : Nat) : dj_X13_directive_87 p l e s m args below meth c Q A dC dI a ac (df_X13_directive_87 n k) r := by
  induction k with
  | zero => intro x1 x2 x3 s0 H locs ls h; exact nomatch (show (none : Option (St)) = some r from h)
  | succ k ih => exact dB_X13_directive_87 C K ih
set_option maxHeartbeats 40000000 in
set_option maxRecDepth 100000 in
theorem db_X13_directive_0 {p : Program} {l : Launch} {e : Env} {s : State} {m : MethodId} {args : Array Value} {below : List Frame} {meth : Method} {c : Code} {Q : State → Prop} {A : Nat → Prop} {dC : Nat → ClassId} {dI : Nat → Nat → Nat} {a : Nat → Nat} {ac : Nat → ClassId} {n : Nat} {r : St} (C : nd_C p l s m args c A (dC, dI) cX13_directive 6 RX13 ow_dm_X13_directive (dk_X13 ac)) (K : nd_Kv p l e (headSpec ow_dm_X13_directive ({ frames := 10, cells := 0, slots := 0, locals := 228 })).room s m args below meth c Q A (dC, dI) cX13_directive (St) (dw_X13 a ac) r) : dj_X13_directive_0 p l e s m args below meth c Q A dC dI a ac (df_X13_directive_0 n) r := by
  obtain ⟨hlt, hx, hb, hml, hown, hts, hN, hA, hK⟩ := id C
  intro v0 v1 s0 H locs ls h hP hD hS hl
  unfold df_X13_directive_0 at h
  refine lv_iload_n hx hb dX13_directive_0 rfl (lv_at hl 1 rfl) ?_
  refine lv_bipush (v := 42) hx hb dX13_directive_1 (by decide) ?_
  refine lv_icmp_ge (tgt := 17) hx hb dX13_directive_3 (by decide) (fun c1 => ?_) (fun c1 => ?_)
  · have h := nd_pos h c1
    refine lv_iload_n hx hb dX13_directive_17 rfl (lv_at hl 1 rfl) ?_
    refine lv_bipush (v := 42) hx hb dX13_directive_18 (by decide) ?_
    refine lv_icmp_ne (tgt := 30) hx hb dX13_directive_20 (by decide) (fun c2 => ?_) (fun c2 => ?_)
    · have h := nd_neg h c2
      refine lv_iload_n hx hb dX13_directive_30 rfl (lv_at hl 1 rfl) ?_
      refine lv_bipush (v := 48) hx hb dX13_directive_31 (by decide) ?_
      refine lv_icmp_ne (tgt := 56) hx hb dX13_directive_33 (by decide) (fun c3 => ?_) (fun c3 => ?_)
      · have h := nd_neg h c3
        refine lv_iload_n hx hb dX13_directive_56 rfl (lv_at hl 1 rfl) ?_
        refine lv_bipush (v := 49) hx hb dX13_directive_57 (by decide) ?_
        refine lv_icmp_ne (tgt := 85) hx hb dX13_directive_59 (by decide) (fun c4 => ?_) (fun c4 => ?_)
        · have h := nd_neg h c4
          refine lv_iconst (v := 1) hx hb dX13_directive_85 (by decide) ?_
          refine lv_istore_n (lv' := [(3, .int 1), (0, .ref (a 0)), (1, .int v0), (2, .int v1)]) hx hb dX13_directive_86 rfl hl (by decide) rfl (fun ls hl => ?_)
          exact (db_X13_directive_87 C K n) (v0) (v1) (1) s0 _ _ _ h hP hD hS (lv_sub hl [1, 2, 3, 0] rfl)
        · have h := nd_pos h c4
          refine lv_aload_n hx hb dX13_directive_62 rfl (lv_at hl 0 rfl) ?_
          refine lv_iconst (v := 0) hx hb dX13_directive_63 (by decide) ?_
          refine lv_bipush (v := 10) hx hb dX13_directive_64 (by decide) ?_
          obtain ⟨q29, s30, hq, h⟩ := nd_b2_e h
          have hPc := hP
          have hDc := hD
          have hKc := hK
          have hFc := nd_rs hD hS hA
          refine nd_cVi (As := [.int 0, .int 10]) (rest := []) (q := q29) (w' := dw_X13 a ac s30) ⟨hx, hb, hml, hown, hts⟩ (fun sz => dm_X13_fixed l hlt dC dI a ac n (0) (10) s0 hq sz) (cwV 2 hts gi_dm_X13_directive_5 rfl rfl rfl (by decide +kernel) ⟨Nat.le_of_ble_eq_true rfl, Nat.le_of_ble_eq_true rfl⟩) hPc hDc hKc hS hA hN (va_recv hKc hPc (ci := 14) (q0 := 0) rfl rfl) rfl hl.1 rfl (Nat.le_of_ble_eq_true rfl) dX13_directive_66 (fun H locs hP1 hD1 hk1 hS => ?_)
          have hP := hP1
          have hD := hD1.weaken (fun k q _ h => hFc q.1 h)
          refine lv_istore_n (lv' := [(3, .int q29), (0, .ref (a 0)), (1, .int v0), (2, .int v1)]) hx hb dX13_directive_69 rfl hl (by decide) rfl (fun ls hl => ?_)
          refine lv_aload_n hx hb dX13_directive_70 rfl (lv_at hl 1 rfl) ?_
          refine va_get (D := (dC, dI)) (ci := 14) (v := .ref (a 7)) (C := RX13) (T := TX13) (N := 37) hx hb hts hi_dm_X13_directive_X13 hown hK hP 0 rfl rfl 9 (by decide) (hts (.fieldLink RX13 334 "TimeMachineModel$Assembler" "bytes" "[I") (List.mem_of_getElem? (i := 21) rfl)) (fun _ h9 => h9) rfl dX13_directive_71 ?_
          refine lv_aload_n hx hb dX13_directive_74 rfl (lv_at hl 1 rfl) ?_
          refine va_get (D := (dC, dI)) (ci := 14) (v := .int (sI s30 16)) (C := RX13) (T := TX13) (N := 37) hx hb hts hi_dm_X13_directive_X13 hown hK hP 0 rfl rfl 25 (by decide) (hts (.fieldLink RX13 454 "TimeMachineModel$Assembler" "current" "I") (List.mem_of_getElem? (i := 22) rfl)) (fun _ h9 => h9) rfl dX13_directive_75 ?_
          refine lv_iconst (v := (-1)) hx hb dX13_directive_78 (by decide) ?_
          refine lv_iload_n hx hb dX13_directive_79 rfl (lv_at hl 0 rfl) ?_
          refine lv_isub hx hb dX13_directive_80 ?_
          obtain ⟨i32, h⟩ := nd_ck_e h
          refine va_iast (i := (sI s30 16)) (x := ((-1) - q29)) hx hb hK hP hD hS 7 6 rfl rfl i32 dX13_directive_81 (fun H locs hP hD hS => ?_)
          obtain ⟨s33, es33, h⟩ := nd_let_e h
          have hP : va_P (dC, dI) vwCl (dw_X13 a ac s33) H := by rw [es33]; exact hP
          have hD : va_D A (dw_X13 a ac s33) := by rw [es33]; exact hD
          refine lv_goto (tgt := 185) hx hb dX13_directive_82 (by decide) ?_
          exact (db_X13_directive_185 C K)  s33 _ _ _ h hP hD hS (lv_sub hl [] rfl)
      · have h := nd_pos h c3
        refine lv_aload_n hx hb dX13_directive_36 rfl (lv_at hl 0 rfl) ?_
        refine lv_dup hx hb dX13_directive_37 rfl ?_
        refine va_get (D := (dC, dI)) (ci := 14) (v := .int (sI s0 18)) (C := RX13) (T := TX13) (N := 37) hx hb hts hi_dm_X13_directive_X13 hown hK hP 0 rfl rfl 27 (by decide) (hts (.fieldLink RX13 541 "TimeMachineModel$Assembler" "count" "I") (List.mem_of_getElem? (i := 23) rfl)) (fun _ h9 => h9) rfl dX13_directive_38 ?_
        refine lv_aload_n hx hb dX13_directive_41 rfl (lv_at hl 0 rfl) ?_
        refine lv_iconst (v := 0) hx hb dX13_directive_42 (by decide) ?_
        refine lv_ldcw hx hb hown (hts (.constant RX13 640 (32768)) (List.mem_of_getElem? (i := 24) rfl)) dX13_directive_43 ?_
        obtain ⟨q34, s35, hq, h⟩ := nd_b2_e h
        have hPc := hP
        have hDc := hD
        have hKc := hK
        have hFc := nd_rs hD hS hA
        refine nd_cVi (As := [.int 0, .int 32768]) (rest := [.int (sI s0 18), .ref (a 0)]) (q := q34) (w' := dw_X13 a ac s35) ⟨hx, hb, hml, hown, hts⟩ (fun sz => dm_X13_fixed l hlt dC dI a ac n (0) (32768) s0 hq sz) (cwV 2 hts gi_dm_X13_directive_5 rfl rfl rfl (by decide +kernel) ⟨Nat.le_of_ble_eq_true rfl, Nat.le_of_ble_eq_true rfl⟩) hPc hDc hKc hS hA hN (va_recv hKc hPc (ci := 14) (q0 := 0) rfl rfl) rfl hl.1 rfl (Nat.le_of_ble_eq_true rfl) dX13_directive_46 (fun H locs hP1 hD1 hk1 hS => ?_)
        have hP := hP1
        have hD := hD1.weaken (fun k q _ h => hFc q.1 h)
        refine lv_iadd hx hb dX13_directive_49 ?_
        refine va_put (D := (dC, dI)) (ci := 14) (v := .int ((sI s0 18) + q34)) (ty := .int) (C := RX13) (T := TX13) (N := 37) hx hb hts hi_dm_X13_directive_X13 tyX13 tyX13_ok nmX13 hown hK hP hD hS 0 rfl rfl 27 (by decide) (hts (.fieldLink RX13 541 "TimeMachineModel$Assembler" "count" "I") (List.mem_of_getElem? (i := 23) rfl)) (fun _ h9 => h9) rfl (by decide +kernel) rfl rfl (Nat.le_of_ble_eq_true rfl) dX13_directive_50 (fun H locs hP hD hS => ?_)
        obtain ⟨s37, es37, h⟩ := nd_let_e h
        have hP : va_P (dC, dI) vwCl (dw_X13 a ac s37) H := by rw [es37]; exact hP
        have hD : va_D A (dw_X13 a ac s37) := by rw [es37]; exact hD
        refine lv_goto (tgt := 185) hx hb dX13_directive_53 (by decide) ?_
        exact (db_X13_directive_185 C K)  s37 _ _ _ h hP hD hS (lv_sub hl [] rfl)
    · have h := nd_pos h c2
      refine lv_aload_n hx hb dX13_directive_23 rfl (lv_at hl 0 rfl) ?_
      obtain ⟨s39, hq, h⟩ := nd_b1_e h
      have hPc := hP
      have hDc := hD
      have hKc := hK
      have hFc := nd_rs hD hS hA
      refine nd_cVv (As := []) (rest := []) (w' := dw_X13 a ac s39) ⟨hx, hb, hml, hown, hts⟩ (fun sz => dm_X13_constant l hlt dC dI a ac n  s0 hq sz) (cwV 0 hts gi_dm_X13_directive_6 rfl rfl rfl (by decide +kernel) ⟨Nat.le_of_ble_eq_true rfl, Nat.le_of_ble_eq_true rfl⟩) hPc hDc hKc hS hA hN (va_recv hKc hPc (ci := 14) (q0 := 0) rfl rfl) rfl hl.1 rfl (Nat.le_of_ble_eq_true rfl) dX13_directive_24 (fun H locs hP1 hD1 hk1 hS => ?_)
      have hP := hP1
      have hD := hD1.weaken (fun k q _ h => hFc q.1 h)
      refine lv_goto (tgt := 185) hx hb dX13_directive_27 (by decide) ?_
      exact (db_X13_directive_185 C K)  s39 _ _ _ h hP hD hS (lv_sub hl [] rfl)
  · have h := nd_neg h c1
    refine lv_aload_n hx hb dX13_directive_6 rfl (lv_at hl 0 rfl) ?_
    refine lv_iload_n hx hb dX13_directive_7 rfl (lv_at hl 1 rfl) ?_
    refine lv_bipush (v := 40) hx hb dX13_directive_8 (by decide) ?_
    refine lv_isub hx hb dX13_directive_10 ?_
    refine va_put (D := (dC, dI)) (ci := 14) (v := .int (v0 - 40)) (ty := .int) (C := RX13) (T := TX13) (N := 37) hx hb hts hi_dm_X13_directive_X13 tyX13 tyX13_ok nmX13 hown hK hP hD hS 0 rfl rfl 23 (by decide) (hts (.fieldLink RX13 634 "TimeMachineModel$Assembler" "section" "I") (List.mem_of_getElem? (i := 28) rfl)) (fun _ h9 => h9) rfl (by decide +kernel) rfl rfl (Nat.le_of_ble_eq_true rfl) dX13_directive_11 (fun H locs hP hD hS => ?_)
    obtain ⟨s41, es41, h⟩ := nd_let_e h
    have hP : va_P (dC, dI) vwCl (dw_X13 a ac s41) H := by rw [es41]; exact hP
    have hD : va_D A (dw_X13 a ac s41) := by rw [es41]; exact hD
    refine lv_goto (tgt := 185) hx hb dX13_directive_14 (by decide) ?_
    exact (db_X13_directive_185 C K)  s41 _ _ _ h hP hD hS (lv_sub hl [] rfl)
set_option maxHeartbeats 40000000 in
set_option maxRecDepth 100000 in
theorem dm_X13_directive (l : Launch) (hlt : l.stackTraces = false) (dC : Nat → ClassId) (dI : Nat → Nat → Nat) (a : Nat → Nat) (ac : Nat → ClassId) (n : Nat) (v0 : Int32) (v1 : Int32) (s0 : St) {r : St} (h : df_X13_directive n v0 v1 s0 = some r) (sz : Nat) : Met l yX13_directive ow_dm_X13_directive ({ frames := 10, cells := 0, slots := 0, locals := 228 }) (va_Pc [.ref (a 0), .int v0, .int v1] (fun U => U.heap.size = sz ∧ va_P (dC, dI) vwCl (dw_X13 a ac s0) U.heap ∧ va_K (dC, dI) vwCl (dk_X13 ac) U ∧ va_D (fun _ => True) (dw_X13 a ac s0) ∧ nv_E dI (va_A (dw_X13 a ac s0) sz) U)) (va_Qv (fun _ => True) (fun (_ : Unit) t => va_P (dC, dI) vwCl (dw_X13 a ac r) t.heap ∧ va_K (dC, dI) vwCl (dk_X13 ac) t ∧ va_D (va_A (dw_X13 a ac s0) sz) (dw_X13 a ac r)) (va_A (dw_X13 a ac s0) sz)) 0 0 (va_A (dw_X13 a ac s0) sz) := by
  refine Met.ofW (cc := cX13_directive) (maxL := 6) (ret := none) (by decide) rfl ?_
  intro p e s m args below meth c s₁ B hml hv
  obtain ⟨rfl, hsz, hP, hK, hD0, hN⟩ := hv
  have hx := B.exec
  have hb := B.bytes
  have hr := B.returns
  have hts := atoms_spec (ws := ow_dm_X13_directive) B.pre
  have hown : s.vm.findClass RX13 = some m.cls := findClass_of_methodNamed B.named
  have hlocks := B.notSynchronized
  subst hsz
  have hD := hD0.self (sz := s.heap.size)
  generalize hAe : va_A (dw_X13 a ac s0) s.heap.size = A at hD hN ⊢
  have hA : ∀ q : Nat, s.heap.size ≤ q → A q := fun q h => by rw [← hAe]; exact Or.inr h
  have hl := lv_entry ([.ref (a 0), .int v0, .int v1]) (n := 6) (Nat.le_of_ble_eq_true rfl)
  rw [lg_entry_eq]
  generalize (lg_sl ([.ref (a 0), .int v0, .int v1]) ++ List.replicate (6 - (lg_sl ([.ref (a 0), .int v0, .int v1])).length) Slot.unset).toArray = ls at hl ⊢
  have hl : lv_has ls 6 [(0, .ref (a 0)), (1, .int v0), (2, .int v1)] := hl
  exact db_X13_directive_0 (dC := dC) (dI := dI) (a := a) (ac := ac) (n := n) (r := r) ⟨hlt, hx, hb, hml, hown, hts, hN, hA, hK⟩ (fun pc τ H locs ls d er hP hD hS => by subst er; exact W.vret hx hb hr (fun t ht hW => ⟨⟨(), rfl, trivial, by rw [ht]; exact hP, va_K.moved hW.alike hK, hD⟩, hS.F ht⟩) hS.2.2 d) v0 v1 s0 _ _ _ h hP hD va_S.rf (lv_sub hl [0, 1, 2] rfl)
def ow_dm_X13_named : List Cond := Cond.code yX13_named cX13_named 6 (some .int) :: ([Cond.methodLink RX13 423 yX13_packed, Cond.instanceMethod yX13_packed, Cond.selects RX13 yX13_packed yX13_packed, Cond.initialized RX13, Cond.fieldLink RX13 263 "TimeMachineModel$Assembler" "names" "[J"] ++ (u_ws RX13 TX13 37 ++ (ow_dm_X13_packed ++ [])))
theorem gd_dm_X13_named : ∀ w ∈ ow_dm_X13_named, (w.onTables && w.keeps) = true ∨ ∃ ty, w = Cond.arrayClass ty := List.forall_mem_cons.mpr ⟨good_of_word rfl, List.forall_mem_append.mpr ⟨fun w h => good_of_word (List.all_eq_true.mp (by decide +kernel) w h), List.forall_mem_append.mpr ⟨gu_X13, List.forall_mem_append.mpr ⟨gd_dm_X13_packed, fun _ h => nomatch h⟩⟩⟩⟩
theorem hi_dm_X13_named_X13 : ∀ w ∈ u_ws RX13 TX13 37, w ∈ ow_dm_X13_named := fun w h => List.mem_cons_of_mem _ (List.mem_append_right _ (List.mem_append_left _ h))
theorem gi_dm_X13_named_0 : GoodIn ow_dm_X13_named (wsV RX13 423 RX13 yX13_packed ow_dm_X13_packed) := goodIn_app (goodIn_of _ (by decide +kernel)) (fun w h => ⟨List.mem_cons_of_mem _ (List.mem_append_right _ (List.mem_append_right _ (List.mem_append_left _ h))), gd_dm_X13_packed w h⟩)
def dj_X13_named_10 (p : Program) (l : Launch) (e : Env) (s : State) (m : MethodId) (args : Array Value) (below : List Frame) (meth : Method) (c : Code) (Q : State → Prop) (A : Nat → Prop) (dC : Nat → ClassId) (dI : Nat → Nat → Nat) (a : Nat → Nat) (ac : Nat → ClassId) (g : Int64 → Int32 → (St) → Option (Int32 × (St))) (r : Int32 × (St)) : Prop := ∀ (x3 : Int64) (x5 : Int32) (s0 : St) (H : Heap) (locs : List Loc) (ls : Array Slot), g x3 x5 s0 = some r → va_P (dC, dI) vwCl (dw_X13 a ac s0) H → va_D A (dw_X13 a ac s0) → va_S A s.heap H locs → lv_has ls 6 [(0, .ref (a 0)), (3, .long x3), (5, .int x5)] → W p l e (headSpec ow_dm_X13_named ({ frames := 2, cells := 0, slots := 0, locals := 46 })).room s m args below meth c H locs 0 0 Q (F0 m 10 ls [])
def dj_X13_named_0 (p : Program) (l : Launch) (e : Env) (s : State) (m : MethodId) (args : Array Value) (below : List Frame) (meth : Method) (c : Code) (Q : State → Prop) (A : Nat → Prop) (dC : Nat → ClassId) (dI : Nat → Nat → Nat) (a : Nat → Nat) (ac : Nat → ClassId) (g : Int32 → Int32 → (St) → Option (Int32 × (St))) (r : Int32 × (St)) : Prop := ∀ (v0 : Int32) (v1 : Int32) (s0 : St) (H : Heap) (locs : List Loc) (ls : Array Slot), g v0 v1 s0 = some r → va_P (dC, dI) vwCl (dw_X13 a ac s0) H → va_D A (dw_X13 a ac s0) → va_S A s.heap H locs → lv_has ls 6 [(0, .ref (a 0)), (1, .int v0), (2, .int v1)] → W p l e (headSpec ow_dm_X13_named ({ frames := 2, cells := 0, slots := 0, locals := 46 })).room s m args below meth c H locs 0 0 Q (F0 m 0 ls [])
set_option maxHeartbeats 40000000 in
set_option maxRecDepth 100000 in
theorem dB_X13_named_10 {p : Program} {l : Launch} {e : Env} {s : State} {m : MethodId} {args : Array Value} {below : List Frame} {meth : Method} {c : Code} {Q : State → Prop} {A : Nat → Prop} {dC : Nat → ClassId} {dI : Nat → Nat → Nat} {a : Nat → Nat} {ac : Nat → ClassId} {n : Nat} {r : Int32 × (St)} (C : nd_C p l s m args c A (dC, dI) cX13_named 6 RX13 ow_dm_X13_named (dk_X13 ac)) (K : nd_Ki p l e (headSpec ow_dm_X13_named ({ frames := 2, cells := 0, slots := 0, locals := 46 })).room s m args below meth c Q A (dC, dI) cX13_named .int (St) (dw_X13 a ac) r) {g10 : Int64 → Int32 → (St) → Option (Int32 × (St))} (J10 : dj_X13_named_10 p l e s m args below meth c Q A dC dI a ac g10 r) : dj_X13_named_10 p l e s m args below meth c Q A dC dI a ac (dF_X13_named_10 n g10) r := by
  obtain ⟨hlt, hx, hb, hml, hown, hts, hN, hA, hK⟩ := id C
  intro x3 x5 s0 H locs ls h hP hD hS hl
  unfold dF_X13_named_10 at h
  refine lv_iload hx hb dX13_named_10 (lv_at hl 2 rfl) ?_
  refine lv_aload_n hx hb dX13_named_12 rfl (lv_at hl 0 rfl) ?_
  refine va_get (D := (dC, dI)) (ci := 14) (v := .ref (a 1)) (C := RX13) (T := TX13) (N := 37) hx hb hts hi_dm_X13_named_X13 hown hK hP 0 rfl rfl 0 (by decide) (hts (.fieldLink RX13 263 "TimeMachineModel$Assembler" "names" "[J") (List.mem_of_getElem? (i := 5) rfl)) (fun _ h9 => h9) rfl dX13_named_13 ?_
  refine va_alen (v := 128) hx hb hK hP 1 0 rfl rfl (show Int32.ofNat 128 = 128 by decide) dX13_named_16 ?_
  refine lv_icmp_ge (tgt := 41) hx hb dX13_named_17 (by decide) (fun c4 => ?_) (fun c4 => ?_)
  · have h := nd_pos h c4
    refine lv_iconst (v := (-1)) hx hb dX13_named_41 (by decide) ?_
    exact K _ _ _ _ _ _ dX13_named_42 rfl (Option.some.inj h).symm hP hD hS
  · have h := nd_neg h c4
    refine lv_aload_n hx hb dX13_named_20 rfl (lv_at hl 0 rfl) ?_
    refine va_get (D := (dC, dI)) (ci := 14) (v := .ref (a 1)) (C := RX13) (T := TX13) (N := 37) hx hb hts hi_dm_X13_named_X13 hown hK hP 0 rfl rfl 0 (by decide) (hts (.fieldLink RX13 263 "TimeMachineModel$Assembler" "names" "[J") (List.mem_of_getElem? (i := 5) rfl)) (fun _ h9 => h9) rfl dX13_named_21 ?_
    refine lv_iload hx hb dX13_named_24 (lv_at hl 2 rfl) ?_
    obtain ⟨i5, h⟩ := nd_ck_e h
    refine va_lald (i := x5) hx hb hK hP 1 0 rfl rfl i5 dX13_named_26 ?_
    refine lv_lload_n hx hb dX13_named_27 rfl (lv_at hl 1 rfl) ?_
    refine W.lcmp hx hb dX13_named_28 ?_
    refine lv_if_ne (tgt := 35) hx hb dX13_named_29 (by decide) (fun c6 => ?_) (fun c6 => ?_)
    · have h := nd_neg h c6
      obtain ⟨z7, ez7, h⟩ := nd_let_e h
      refine lv_iinc (v := z7) (lv' := [(5, .int z7), (0, .ref (a 0)), (3, .long x3)]) hx hb dX13_named_35 hl (k := 2) rfl (by rw [ez7]) (by decide) rfl (fun ls hl => ?_)
      refine lv_goto (tgt := 10) hx hb dX13_named_38 (by decide) ?_
      exact (J10) (x3) (z7) s0 _ _ _ h hP hD hS (lv_sub hl [1, 2, 0] rfl)
    · have h := nd_pos h c6
      refine lv_iload hx hb dX13_named_32 (lv_at hl 2 rfl) ?_
      exact K _ _ _ _ _ _ dX13_named_34 rfl (Option.some.inj h).symm hP hD hS
set_option maxHeartbeats 40000000 in
set_option maxRecDepth 100000 in
theorem db_X13_named_10 {p : Program} {l : Launch} {e : Env} {s : State} {m : MethodId} {args : Array Value} {below : List Frame} {meth : Method} {c : Code} {Q : State → Prop} {A : Nat → Prop} {dC : Nat → ClassId} {dI : Nat → Nat → Nat} {a : Nat → Nat} {ac : Nat → ClassId} {n : Nat} {r : Int32 × (St)} (C : nd_C p l s m args c A (dC, dI) cX13_named 6 RX13 ow_dm_X13_named (dk_X13 ac)) (K : nd_Ki p l e (headSpec ow_dm_X13_named ({ frames := 2, cells := 0, slots := 0, locals := 46 })).room s m args below meth c Q A (dC, dI) cX13_named .int (St) (dw_X13 a ac) r) (k : Nat) : dj_X13_named_10 p l e s m args below meth c Q A dC dI a ac (df_X13_named_10 n k) r := by
  induction k with
  | zero => intro x3 x5 s0 H locs ls h; exact nomatch (show (none : Option (Int32 × (St))) = some r from h)
  | succ k ih => exact dB_X13_named_10 C K ih
set_option maxHeartbeats 40000000 in
set_option maxRecDepth 100000 in
theorem db_X13_named_0 {p : Program} {l : Launch} {e : Env} {s : State} {m : MethodId} {args : Array Value} {below : List Frame} {meth : Method} {c : Code} {Q : State → Prop} {A : Nat → Prop} {dC : Nat → ClassId} {dI : Nat → Nat → Nat} {a : Nat → Nat} {ac : Nat → ClassId} {n : Nat} {r : Int32 × (St)} (C : nd_C p l s m args c A (dC, dI) cX13_named 6 RX13 ow_dm_X13_named (dk_X13 ac)) (K : nd_Ki p l e (headSpec ow_dm_X13_named ({ frames := 2, cells := 0, slots := 0, locals := 46 })).room s m args below meth c Q A (dC, dI) cX13_named .int (St) (dw_X13 a ac) r) : dj_X13_named_0 p l e s m args below meth c Q A dC dI a ac (df_X13_named_0 n) r := by
  obtain ⟨hlt, hx, hb, hml, hown, hts, hN, hA, hK⟩ := id C
  intro v0 v1 s0 H locs ls h hP hD hS hl
  unfold df_X13_named_0 at h
  refine lv_aload_n hx hb dX13_named_0 rfl (lv_at hl 0 rfl) ?_
  refine lv_iload_n hx hb dX13_named_1 rfl (lv_at hl 1 rfl) ?_
  refine lv_iload_n hx hb dX13_named_2 rfl (lv_at hl 2 rfl) ?_
  obtain ⟨q1, s2, hq, h⟩ := nd_b2_e h
  have hPc := hP
  have hDc := hD
  have hKc := hK
  have hFc := nd_rs hD hS hA
  refine nd_cVl (As := [.int v0, .int v1]) (rest := []) (q := q1) (w' := dw_X13 a ac s2) ⟨hx, hb, hml, hown, hts⟩ (fun sz => dm_X13_packed l hlt dC dI a ac n (v0) (v1) s0 hq sz) (cwV 2 hts gi_dm_X13_named_0 rfl rfl rfl (by decide +kernel) ⟨Nat.le_of_ble_eq_true rfl, Nat.le_of_ble_eq_true rfl⟩) hPc hDc hKc hS hA hN (va_recv hKc hPc (ci := 14) (q0 := 0) rfl rfl) rfl hl.1 rfl (Nat.le_of_ble_eq_true rfl) dX13_named_3 (fun H locs hP1 hD1 hk1 hS => ?_)
  have hP := hP1
  have hD := hD1.weaken (fun k q _ h => hFc q.1 h)
  refine lv_lstore_n (lv' := [(3, .long q1), (0, .ref (a 0)), (1, .int v0), (2, .int v1)]) hx hb dX13_named_6 rfl hl (by decide) rfl (fun ls hl => ?_)
  refine lv_iconst (v := 0) hx hb dX13_named_7 (by decide) ?_
  refine lv_istore (lv' := [(5, .int 0), (3, .long q1), (0, .ref (a 0)), (1, .int v0), (2, .int v1)]) hx hb dX13_named_8 hl (by decide) rfl (fun ls hl => ?_)
  exact (db_X13_named_10 C K n) (q1) (0) s2 _ _ _ h hP hD hS (lv_sub hl [2, 1, 0] rfl)
set_option maxHeartbeats 40000000 in
set_option maxRecDepth 100000 in
theorem dm_X13_named (l : Launch) (hlt : l.stackTraces = false) (dC : Nat → ClassId) (dI : Nat → Nat → Nat) (a : Nat → Nat) (ac : Nat → ClassId) (n : Nat) (v0 : Int32) (v1 : Int32) (s0 : St) {r : Int32 × (St)} (h : df_X13_named n v0 v1 s0 = some r) (sz : Nat) : Met l yX13_named ow_dm_X13_named ({ frames := 2, cells := 0, slots := 0, locals := 46 }) (va_Pc [.ref (a 0), .int v0, .int v1] (fun U => U.heap.size = sz ∧ va_P (dC, dI) vwCl (dw_X13 a ac s0) U.heap ∧ va_K (dC, dI) vwCl (dk_X13 ac) U ∧ va_D (fun _ => True) (dw_X13 a ac s0) ∧ nv_E dI (va_A (dw_X13 a ac s0) sz) U)) (va_Qi (fun x _ => x = r.1) (fun (_ : Unit) t => va_P (dC, dI) vwCl (dw_X13 a ac r.2) t.heap ∧ va_K (dC, dI) vwCl (dk_X13 ac) t ∧ va_D (va_A (dw_X13 a ac s0) sz) (dw_X13 a ac r.2)) (va_A (dw_X13 a ac s0) sz)) 0 0 (va_A (dw_X13 a ac s0) sz) := by
  refine Met.ofW (cc := cX13_named) (maxL := 6) (ret := (some .int)) (by decide) rfl ?_
  intro p e s m args below meth c s₁ B hml hv
  obtain ⟨rfl, hsz, hP, hK, hD0, hN⟩ := hv
  have hx := B.exec
  have hb := B.bytes
  have hr := B.returns
  have hts := atoms_spec (ws := ow_dm_X13_named) B.pre
  have hown : s.vm.findClass RX13 = some m.cls := findClass_of_methodNamed B.named
  have hlocks := B.notSynchronized
  subst hsz
  have hD := hD0.self (sz := s.heap.size)
  generalize hAe : va_A (dw_X13 a ac s0) s.heap.size = A at hD hN ⊢
  have hA : ∀ q : Nat, s.heap.size ≤ q → A q := fun q h => by rw [← hAe]; exact Or.inr h
  have hl := lv_entry ([.ref (a 0), .int v0, .int v1]) (n := 6) (Nat.le_of_ble_eq_true rfl)
  rw [lg_entry_eq]
  generalize (lg_sl ([.ref (a 0), .int v0, .int v1]) ++ List.replicate (6 - (lg_sl ([.ref (a 0), .int v0, .int v1])).length) Slot.unset).toArray = ls at hl ⊢
  have hl : lv_has ls 6 [(0, .ref (a 0)), (1, .int v0), (2, .int v1)] := hl
  exact db_X13_named_0 (dC := dC) (dI := dI) (a := a) (ac := ac) (n := n) (r := r) ⟨hlt, hx, hb, hml, hown, hts, hN, hA, hK⟩ (fun pc v τ H locs ls d z er hP hD hS => by subst er; exact W.zret (v := v) hx hb hr z (fun t ht hW => ⟨⟨v, (), rfl, rfl, by rw [ht]; exact hP, va_K.moved hW.alike hK, hD⟩, hS.F ht⟩) hS.2.2 d) v0 v1 s0 _ _ _ h hP hD va_S.rf (lv_sub hl [0, 1, 2] rfl)
def ow_dm_X13_suffix : List Cond := Cond.code yX13_suffix cX13_suffix 4 (some .int) :: ([Cond.fieldLink RX13 371 "TimeMachineModel$Assembler" "to" "I", Cond.fieldLink RX13 368 "TimeMachineModel$Assembler" "from" "I", Cond.fieldLink RX13 324 "TimeMachineModel$Assembler" "text" "[C"] ++ (u_ws RX13 TX13 37 ++ []))
theorem gd_dm_X13_suffix : ∀ w ∈ ow_dm_X13_suffix, (w.onTables && w.keeps) = true ∨ ∃ ty, w = Cond.arrayClass ty := List.forall_mem_cons.mpr ⟨good_of_word rfl, List.forall_mem_append.mpr ⟨fun w h => good_of_word (List.all_eq_true.mp (by decide +kernel) w h), List.forall_mem_append.mpr ⟨gu_X13, fun _ h => nomatch h⟩⟩⟩
theorem hi_dm_X13_suffix_X13 : ∀ w ∈ u_ws RX13 TX13 37, w ∈ ow_dm_X13_suffix := fun w h => List.mem_cons_of_mem _ (List.mem_append_right _ (List.mem_append_left _ h))
def dj_X13_suffix_212 (p : Program) (l : Launch) (e : Env) (s : State) (m : MethodId) (args : Array Value) (below : List Frame) (meth : Method) (c : Code) (Q : State → Prop) (A : Nat → Prop) (dC : Nat → ClassId) (dI : Nat → Nat → Nat) (a : Nat → Nat) (ac : Nat → ClassId) (g : Int32 → (St) → Option (Int32 × (St))) (r : Int32 × (St)) : Prop := ∀ (y0 : Int32) (s0 : St) (H : Heap) (locs : List Loc) (ls : Array Slot), g y0 s0 = some r → va_P (dC, dI) vwCl (dw_X13 a ac s0) H → va_D A (dw_X13 a ac s0) → va_S A s.heap H locs → lv_has ls 4 [] → W p l e (headSpec ow_dm_X13_suffix ({ frames := 0, cells := 0, slots := 0, locals := 0 })).room s m args below meth c H locs 0 0 Q (F0 m 212 ls [.int y0])
def dj_X13_suffix_211 (p : Program) (l : Launch) (e : Env) (s : State) (m : MethodId) (args : Array Value) (below : List Frame) (meth : Method) (c : Code) (Q : State → Prop) (A : Nat → Prop) (dC : Nat → ClassId) (dI : Nat → Nat → Nat) (a : Nat → Nat) (ac : Nat → ClassId) (g : (St) → Option (Int32 × (St))) (r : Int32 × (St)) : Prop := ∀ (s0 : St) (H : Heap) (locs : List Loc) (ls : Array Slot), g s0 = some r → va_P (dC, dI) vwCl (dw_X13 a ac s0) H → va_D A (dw_X13 a ac s0) → va_S A s.heap H locs → lv_has ls 4 [] → W p l e (headSpec ow_dm_X13_suffix ({ frames := 0, cells := 0, slots := 0, locals := 0 })).room s m args below meth c H locs 0 0 Q (F0 m 211 ls [])
def dj_X13_suffix_191 (p : Program) (l : Launch) (e : Env) (s : State) (m : MethodId) (args : Array Value) (below : List Frame) (meth : Method) (c : Code) (Q : State → Prop) (A : Nat → Prop) (dC : Nat → ClassId) (dI : Nat → Nat → Nat) (a : Nat → Nat) (ac : Nat → ClassId) (g : (St) → Option (Int32 × (St))) (r : Int32 × (St)) : Prop := ∀ (s0 : St) (H : Heap) (locs : List Loc) (ls : Array Slot), g s0 = some r → va_P (dC, dI) vwCl (dw_X13 a ac s0) H → va_D A (dw_X13 a ac s0) → va_S A s.heap H locs → lv_has ls 4 [(0, .ref (a 0))] → W p l e (headSpec ow_dm_X13_suffix ({ frames := 0, cells := 0, slots := 0, locals := 0 })).room s m args below meth c H locs 0 0 Q (F0 m 191 ls [])
def dj_X13_suffix_182 (p : Program) (l : Launch) (e : Env) (s : State) (m : MethodId) (args : Array Value) (below : List Frame) (meth : Method) (c : Code) (Q : State → Prop) (A : Nat → Prop) (dC : Nat → ClassId) (dI : Nat → Nat → Nat) (a : Nat → Nat) (ac : Nat → ClassId) (g : Int32 → Int32 → (St) → Option (Int32 × (St))) (r : Int32 × (St)) : Prop := ∀ (x2 : Int32) (y0 : Int32) (s0 : St) (H : Heap) (locs : List Loc) (ls : Array Slot), g x2 y0 s0 = some r → va_P (dC, dI) vwCl (dw_X13 a ac s0) H → va_D A (dw_X13 a ac s0) → va_S A s.heap H locs → lv_has ls 4 [(0, .ref (a 0)), (2, .int x2)] → W p l e (headSpec ow_dm_X13_suffix ({ frames := 0, cells := 0, slots := 0, locals := 0 })).room s m args below meth c H locs 0 0 Q (F0 m 182 ls [.int y0])
def dj_X13_suffix_181 (p : Program) (l : Launch) (e : Env) (s : State) (m : MethodId) (args : Array Value) (below : List Frame) (meth : Method) (c : Code) (Q : State → Prop) (A : Nat → Prop) (dC : Nat → ClassId) (dI : Nat → Nat → Nat) (a : Nat → Nat) (ac : Nat → ClassId) (g : Int32 → (St) → Option (Int32 × (St))) (r : Int32 × (St)) : Prop := ∀ (x2 : Int32) (s0 : St) (H : Heap) (locs : List Loc) (ls : Array Slot), g x2 s0 = some r → va_P (dC, dI) vwCl (dw_X13 a ac s0) H → va_D A (dw_X13 a ac s0) → va_S A s.heap H locs → lv_has ls 4 [(0, .ref (a 0)), (2, .int x2)] → W p l e (headSpec ow_dm_X13_suffix ({ frames := 0, cells := 0, slots := 0, locals := 0 })).room s m args below meth c H locs 0 0 Q (F0 m 181 ls [])
def dj_X13_suffix_139 (p : Program) (l : Launch) (e : Env) (s : State) (m : MethodId) (args : Array Value) (below : List Frame) (meth : Method) (c : Code) (Q : State → Prop) (A : Nat → Prop) (dC : Nat → ClassId) (dI : Nat → Nat → Nat) (a : Nat → Nat) (ac : Nat → ClassId) (g : Int32 → Int32 → (St) → Option (Int32 × (St))) (r : Int32 × (St)) : Prop := ∀ (x1 : Int32) (y0 : Int32) (s0 : St) (H : Heap) (locs : List Loc) (ls : Array Slot), g x1 y0 s0 = some r → va_P (dC, dI) vwCl (dw_X13 a ac s0) H → va_D A (dw_X13 a ac s0) → va_S A s.heap H locs → lv_has ls 4 [(0, .ref (a 0)), (1, .int x1)] → W p l e (headSpec ow_dm_X13_suffix ({ frames := 0, cells := 0, slots := 0, locals := 0 })).room s m args below meth c H locs 0 0 Q (F0 m 139 ls [.int y0])
def dj_X13_suffix_138 (p : Program) (l : Launch) (e : Env) (s : State) (m : MethodId) (args : Array Value) (below : List Frame) (meth : Method) (c : Code) (Q : State → Prop) (A : Nat → Prop) (dC : Nat → ClassId) (dI : Nat → Nat → Nat) (a : Nat → Nat) (ac : Nat → ClassId) (g : Int32 → (St) → Option (Int32 × (St))) (r : Int32 × (St)) : Prop := ∀ (x1 : Int32) (s0 : St) (H : Heap) (locs : List Loc) (ls : Array Slot), g x1 s0 = some r → va_P (dC, dI) vwCl (dw_X13 a ac s0) H → va_D A (dw_X13 a ac s0) → va_S A s.heap H locs → lv_has ls 4 [(0, .ref (a 0)), (1, .int x1)] → W p l e (headSpec ow_dm_X13_suffix ({ frames := 0, cells := 0, slots := 0, locals := 0 })).room s m args below meth c H locs 0 0 Q (F0 m 138 ls [])
def dj_X13_suffix_97 (p : Program) (l : Launch) (e : Env) (s : State) (m : MethodId) (args : Array Value) (below : List Frame) (meth : Method) (c : Code) (Q : State → Prop) (A : Nat → Prop) (dC : Nat → ClassId) (dI : Nat → Nat → Nat) (a : Nat → Nat) (ac : Nat → ClassId) (g : Int32 → (St) → Option (Int32 × (St))) (r : Int32 × (St)) : Prop := ∀ (x1 : Int32) (s0 : St) (H : Heap) (locs : List Loc) (ls : Array Slot), g x1 s0 = some r → va_P (dC, dI) vwCl (dw_X13 a ac s0) H → va_D A (dw_X13 a ac s0) → va_S A s.heap H locs → lv_has ls 4 [(0, .ref (a 0)), (1, .int x1)] → W p l e (headSpec ow_dm_X13_suffix ({ frames := 0, cells := 0, slots := 0, locals := 0 })).room s m args below meth c H locs 0 0 Q (F0 m 97 ls [])
def dj_X13_suffix_0 (p : Program) (l : Launch) (e : Env) (s : State) (m : MethodId) (args : Array Value) (below : List Frame) (meth : Method) (c : Code) (Q : State → Prop) (A : Nat → Prop) (dC : Nat → ClassId) (dI : Nat → Nat → Nat) (a : Nat → Nat) (ac : Nat → ClassId) (g : (St) → Option (Int32 × (St))) (r : Int32 × (St)) : Prop := ∀ (s0 : St) (H : Heap) (locs : List Loc) (ls : Array Slot), g s0 = some r → va_P (dC, dI) vwCl (dw_X13 a ac s0) H → va_D A (dw_X13 a ac s0) → va_S A s.heap H locs → lv_has ls 4 [(0, .ref (a 0))] → W p l e (headSpec ow_dm_X13_suffix ({ frames := 0, cells := 0, slots := 0, locals := 0 })).room s m args below meth c H locs 0 0 Q (F0 m 0 ls [])
set_option maxHeartbeats 40000000 in
set_option maxRecDepth 100000 in
theorem db_X13_suffix_212 {p : Program} {l : Launch} {e : Env} {s : State} {m : MethodId} {args : Array Value} {below : List Frame} {meth : Method} {c : Code} {Q : State → Prop} {A : Nat → Prop} {dC : Nat → ClassId} {dI : Nat → Nat → Nat} {a : Nat → Nat} {ac : Nat → ClassId} {n : Nat} {r : Int32 × (St)} (C : nd_C p l s m args c A (dC, dI) cX13_suffix 4 RX13 ow_dm_X13_suffix (dk_X13 ac)) (K : nd_Ki p l e (headSpec ow_dm_X13_suffix ({ frames := 0, cells := 0, slots := 0, locals := 0 })).room s m args below meth c Q A (dC, dI) cX13_suffix .int (St) (dw_X13 a ac) r) : dj_X13_suffix_212 p l e s m args below meth c Q A dC dI a ac (df_X13_suffix_212 n) r := by
  obtain ⟨hlt, hx, hb, hml, hown, hts, hN, hA, hK⟩ := id C
  intro y0 s0 H locs ls h hP hD hS hl
  unfold df_X13_suffix_212 at h
  exact K _ _ _ _ _ _ dX13_suffix_212 rfl (Option.some.inj h).symm hP hD hS
set_option maxHeartbeats 40000000 in
set_option maxRecDepth 100000 in
theorem db_X13_suffix_211 {p : Program} {l : Launch} {e : Env} {s : State} {m : MethodId} {args : Array Value} {below : List Frame} {meth : Method} {c : Code} {Q : State → Prop} {A : Nat → Prop} {dC : Nat → ClassId} {dI : Nat → Nat → Nat} {a : Nat → Nat} {ac : Nat → ClassId} {n : Nat} {r : Int32 × (St)} (C : nd_C p l s m args c A (dC, dI) cX13_suffix 4 RX13 ow_dm_X13_suffix (dk_X13 ac)) (K : nd_Ki p l e (headSpec ow_dm_X13_suffix ({ frames := 0, cells := 0, slots := 0, locals := 0 })).room s m args below meth c Q A (dC, dI) cX13_suffix .int (St) (dw_X13 a ac) r) : dj_X13_suffix_211 p l e s m args below meth c Q A dC dI a ac (df_X13_suffix_211 n) r := by
  obtain ⟨hlt, hx, hb, hml, hown, hts, hN, hA, hK⟩ := id C
  intro s0 H locs ls h hP hD hS hl
  unfold df_X13_suffix_211 at h
  refine lv_iconst (v := 0) hx hb dX13_suffix_211 (by decide) ?_
  exact (db_X13_suffix_212 C K) (0) s0 _ _ _ h hP hD hS (lv_sub hl [] rfl)
set_option maxHeartbeats 40000000 in
set_option maxRecDepth 100000 in
theorem db_X13_suffix_191 {p : Program} {l : Launch} {e : Env} {s : State} {m : MethodId} {args : Array Value} {below : List Frame} {meth : Method} {c : Code} {Q : State → Prop} {A : Nat → Prop} {dC : Nat → ClassId} {dI : Nat → Nat → Nat} {a : Nat → Nat} {ac : Nat → ClassId} {n : Nat} {r : Int32 × (St)} (C : nd_C p l s m args c A (dC, dI) cX13_suffix 4 RX13 ow_dm_X13_suffix (dk_X13 ac)) (K : nd_Ki p l e (headSpec ow_dm_X13_suffix ({ frames := 0, cells := 0, slots := 0, locals := 0 })).room s m args below meth c Q A (dC, dI) cX13_suffix .int (St) (dw_X13 a ac) r) : dj_X13_suffix_191 p l e s m args below meth c Q A dC dI a ac (df_X13_suffix_191 n) r := by
  obtain ⟨hlt, hx, hb, hml, hown, hts, hN, hA, hK⟩ := id C
  intro s0 H locs ls h hP hD hS hl
  unfold df_X13_suffix_191 at h
  refine lv_aload_n hx hb dX13_suffix_191 rfl (lv_at hl 0 rfl) ?_
  refine va_get (D := (dC, dI)) (ci := 14) (v := .ref (a 4)) (C := RX13) (T := TX13) (N := 37) hx hb hts hi_dm_X13_suffix_X13 hown hK hP 0 rfl rfl 3 (by decide) (hts (.fieldLink RX13 324 "TimeMachineModel$Assembler" "text" "[C") (List.mem_of_getElem? (i := 3) rfl)) (fun _ h9 => h9) rfl dX13_suffix_192 ?_
  refine lv_aload_n hx hb dX13_suffix_195 rfl (lv_at hl 0 rfl) ?_
  refine va_get (D := (dC, dI)) (ci := 14) (v := .int (sI s0 10)) (C := RX13) (T := TX13) (N := 37) hx hb hts hi_dm_X13_suffix_X13 hown hK hP 0 rfl rfl 19 (by decide) (hts (.fieldLink RX13 371 "TimeMachineModel$Assembler" "to" "I") (List.mem_of_getElem? (i := 1) rfl)) (fun _ h9 => h9) rfl dX13_suffix_196 ?_
  refine lv_iconst (v := 3) hx hb dX13_suffix_199 (by decide) ?_
  refine lv_isub hx hb dX13_suffix_200 ?_
  obtain ⟨i6, h⟩ := nd_ck_e h
  refine va_cald (i := ((sI s0 10) - 3)) hx hb hK hP 4 3 rfl rfl i6 dX13_suffix_201 ?_
  refine lv_bipush (v := 46) hx hb dX13_suffix_202 (by decide) ?_
  refine lv_icmp_ne (tgt := 211) hx hb dX13_suffix_204 (by decide) (fun c7 => ?_) (fun c7 => ?_)
  · have h := nd_neg h c7
    exact (db_X13_suffix_211 C K)  s0 _ _ _ h hP hD hS (lv_sub hl [] rfl)
  · have h := nd_pos h c7
    refine lv_iconst (v := 3) hx hb dX13_suffix_207 (by decide) ?_
    refine lv_goto (tgt := 212) hx hb dX13_suffix_208 (by decide) ?_
    exact (db_X13_suffix_212 C K) (3) s0 _ _ _ h hP hD hS (lv_sub hl [] rfl)
set_option maxHeartbeats 40000000 in
set_option maxRecDepth 100000 in
theorem db_X13_suffix_182 {p : Program} {l : Launch} {e : Env} {s : State} {m : MethodId} {args : Array Value} {below : List Frame} {meth : Method} {c : Code} {Q : State → Prop} {A : Nat → Prop} {dC : Nat → ClassId} {dI : Nat → Nat → Nat} {a : Nat → Nat} {ac : Nat → ClassId} {n : Nat} {r : Int32 × (St)} (C : nd_C p l s m args c A (dC, dI) cX13_suffix 4 RX13 ow_dm_X13_suffix (dk_X13 ac)) (K : nd_Ki p l e (headSpec ow_dm_X13_suffix ({ frames := 0, cells := 0, slots := 0, locals := 0 })).room s m args below meth c Q A (dC, dI) cX13_suffix .int (St) (dw_X13 a ac) r) : dj_X13_suffix_182 p l e s m args below meth c Q A dC dI a ac (df_X13_suffix_182 n) r := by
  obtain ⟨hlt, hx, hb, hml, hown, hts, hN, hA, hK⟩ := id C
  intro x2 y0 s0 H locs ls h hP hD hS hl
  unfold df_X13_suffix_182 at h
  refine lv_istore_n (lv' := [(3, .int y0), (0, .ref (a 0)), (2, .int x2)]) hx hb dX13_suffix_182 rfl hl (by decide) rfl (fun ls hl => ?_)
  refine lv_iload_n hx hb dX13_suffix_183 rfl (lv_at hl 2 rfl) ?_
  refine lv_if_ne (tgt := 191) hx hb dX13_suffix_184 (by decide) (fun c5 => ?_) (fun c5 => ?_)
  · have h := nd_neg h c5
    exact (db_X13_suffix_191 C K)  s0 _ _ _ h hP hD hS (lv_sub hl [1] rfl)
  · have h := nd_pos h c5
    refine lv_iload_n hx hb dX13_suffix_187 rfl (lv_at hl 0 rfl) ?_
    refine lv_if_eq (tgt := 211) hx hb dX13_suffix_188 (by decide) (fun c8 => ?_) (fun c8 => ?_)
    · have h := nd_pos h c8
      exact (db_X13_suffix_211 C K)  s0 _ _ _ h hP hD hS (lv_sub hl [] rfl)
    · have h := nd_neg h c8
      exact (db_X13_suffix_191 C K)  s0 _ _ _ h hP hD hS (lv_sub hl [1] rfl)
set_option maxHeartbeats 40000000 in
set_option maxRecDepth 100000 in
theorem db_X13_suffix_181 {p : Program} {l : Launch} {e : Env} {s : State} {m : MethodId} {args : Array Value} {below : List Frame} {meth : Method} {c : Code} {Q : State → Prop} {A : Nat → Prop} {dC : Nat → ClassId} {dI : Nat → Nat → Nat} {a : Nat → Nat} {ac : Nat → ClassId} {n : Nat} {r : Int32 × (St)} (C : nd_C p l s m args c A (dC, dI) cX13_suffix 4 RX13 ow_dm_X13_suffix (dk_X13 ac)) (K : nd_Ki p l e (headSpec ow_dm_X13_suffix ({ frames := 0, cells := 0, slots := 0, locals := 0 })).room s m args below meth c Q A (dC, dI) cX13_suffix .int (St) (dw_X13 a ac) r) : dj_X13_suffix_181 p l e s m args below meth c Q A dC dI a ac (df_X13_suffix_181 n) r := by
  obtain ⟨hlt, hx, hb, hml, hown, hts, hN, hA, hK⟩ := id C
  intro x2 s0 H locs ls h hP hD hS hl
  unfold df_X13_suffix_181 at h
  refine lv_iconst (v := 0) hx hb dX13_suffix_181 (by decide) ?_
  exact (db_X13_suffix_182 C K) (x2) (0) s0 _ _ _ h hP hD hS (lv_sub hl [0, 1] rfl)
set_option maxHeartbeats 40000000 in
set_option maxRecDepth 100000 in
theorem db_X13_suffix_139 {p : Program} {l : Launch} {e : Env} {s : State} {m : MethodId} {args : Array Value} {below : List Frame} {meth : Method} {c : Code} {Q : State → Prop} {A : Nat → Prop} {dC : Nat → ClassId} {dI : Nat → Nat → Nat} {a : Nat → Nat} {ac : Nat → ClassId} {n : Nat} {r : Int32 × (St)} (C : nd_C p l s m args c A (dC, dI) cX13_suffix 4 RX13 ow_dm_X13_suffix (dk_X13 ac)) (K : nd_Ki p l e (headSpec ow_dm_X13_suffix ({ frames := 0, cells := 0, slots := 0, locals := 0 })).room s m args below meth c Q A (dC, dI) cX13_suffix .int (St) (dw_X13 a ac) r) : dj_X13_suffix_139 p l e s m args below meth c Q A dC dI a ac (df_X13_suffix_139 n) r := by
  obtain ⟨hlt, hx, hb, hml, hown, hts, hN, hA, hK⟩ := id C
  intro x1 y0 s0 H locs ls h hP hD hS hl
  unfold df_X13_suffix_139 at h
  refine lv_istore_n (lv' := [(2, .int y0), (0, .ref (a 0)), (1, .int x1)]) hx hb dX13_suffix_139 rfl hl (by decide) rfl (fun ls hl => ?_)
  refine lv_iload_n hx hb dX13_suffix_140 rfl (lv_at hl 2 rfl) ?_
  refine lv_iconst (v := 3) hx hb dX13_suffix_141 (by decide) ?_
  refine lv_icmp_le (tgt := 181) hx hb dX13_suffix_142 (by decide) (fun c4 => ?_) (fun c4 => ?_)
  · have h := nd_pos h c4
    exact (db_X13_suffix_181 C K) (y0) s0 _ _ _ h hP hD hS (lv_sub hl [1, 0] rfl)
  · have h := nd_neg h c4
    refine lv_aload_n hx hb dX13_suffix_145 rfl (lv_at hl 1 rfl) ?_
    refine va_get (D := (dC, dI)) (ci := 14) (v := .ref (a 4)) (C := RX13) (T := TX13) (N := 37) hx hb hts hi_dm_X13_suffix_X13 hown hK hP 0 rfl rfl 3 (by decide) (hts (.fieldLink RX13 324 "TimeMachineModel$Assembler" "text" "[C") (List.mem_of_getElem? (i := 3) rfl)) (fun _ h9 => h9) rfl dX13_suffix_146 ?_
    refine lv_aload_n hx hb dX13_suffix_149 rfl (lv_at hl 1 rfl) ?_
    refine va_get (D := (dC, dI)) (ci := 14) (v := .int (sI s0 10)) (C := RX13) (T := TX13) (N := 37) hx hb hts hi_dm_X13_suffix_X13 hown hK hP 0 rfl rfl 19 (by decide) (hts (.fieldLink RX13 371 "TimeMachineModel$Assembler" "to" "I") (List.mem_of_getElem? (i := 1) rfl)) (fun _ h9 => h9) rfl dX13_suffix_150 ?_
    refine lv_iconst (v := 2) hx hb dX13_suffix_153 (by decide) ?_
    refine lv_isub hx hb dX13_suffix_154 ?_
    obtain ⟨i9, h⟩ := nd_ck_e h
    refine va_cald (i := ((sI s0 10) - 2)) hx hb hK hP 4 3 rfl rfl i9 dX13_suffix_155 ?_
    refine lv_bipush (v := 114) hx hb dX13_suffix_156 (by decide) ?_
    refine lv_icmp_ne (tgt := 181) hx hb dX13_suffix_158 (by decide) (fun c10 => ?_) (fun c10 => ?_)
    · have h := nd_neg h c10
      exact (db_X13_suffix_181 C K) (y0) s0 _ _ _ h hP hD hS (lv_sub hl [1, 0] rfl)
    · have h := nd_pos h c10
      refine lv_aload_n hx hb dX13_suffix_161 rfl (lv_at hl 1 rfl) ?_
      refine va_get (D := (dC, dI)) (ci := 14) (v := .ref (a 4)) (C := RX13) (T := TX13) (N := 37) hx hb hts hi_dm_X13_suffix_X13 hown hK hP 0 rfl rfl 3 (by decide) (hts (.fieldLink RX13 324 "TimeMachineModel$Assembler" "text" "[C") (List.mem_of_getElem? (i := 3) rfl)) (fun _ h9 => h9) rfl dX13_suffix_162 ?_
      refine lv_aload_n hx hb dX13_suffix_165 rfl (lv_at hl 1 rfl) ?_
      refine va_get (D := (dC, dI)) (ci := 14) (v := .int (sI s0 10)) (C := RX13) (T := TX13) (N := 37) hx hb hts hi_dm_X13_suffix_X13 hown hK hP 0 rfl rfl 19 (by decide) (hts (.fieldLink RX13 371 "TimeMachineModel$Assembler" "to" "I") (List.mem_of_getElem? (i := 1) rfl)) (fun _ h9 => h9) rfl dX13_suffix_166 ?_
      refine lv_iconst (v := 1) hx hb dX13_suffix_169 (by decide) ?_
      refine lv_isub hx hb dX13_suffix_170 ?_
      obtain ⟨i11, h⟩ := nd_ck_e h
      refine va_cald (i := ((sI s0 10) - 1)) hx hb hK hP 4 3 rfl rfl i11 dX13_suffix_171 ?_
      refine lv_bipush (v := 108) hx hb dX13_suffix_172 (by decide) ?_
      refine lv_icmp_ne (tgt := 181) hx hb dX13_suffix_174 (by decide) (fun c12 => ?_) (fun c12 => ?_)
      · have h := nd_neg h c12
        exact (db_X13_suffix_181 C K) (y0) s0 _ _ _ h hP hD hS (lv_sub hl [1, 0] rfl)
      · have h := nd_pos h c12
        refine lv_iconst (v := 1) hx hb dX13_suffix_177 (by decide) ?_
        refine lv_goto (tgt := 182) hx hb dX13_suffix_178 (by decide) ?_
        exact (db_X13_suffix_182 C K) (y0) (1) s0 _ _ _ h hP hD hS (lv_sub hl [1, 0] rfl)
set_option maxHeartbeats 40000000 in
set_option maxRecDepth 100000 in
theorem db_X13_suffix_138 {p : Program} {l : Launch} {e : Env} {s : State} {m : MethodId} {args : Array Value} {below : List Frame} {meth : Method} {c : Code} {Q : State → Prop} {A : Nat → Prop} {dC : Nat → ClassId} {dI : Nat → Nat → Nat} {a : Nat → Nat} {ac : Nat → ClassId} {n : Nat} {r : Int32 × (St)} (C : nd_C p l s m args c A (dC, dI) cX13_suffix 4 RX13 ow_dm_X13_suffix (dk_X13 ac)) (K : nd_Ki p l e (headSpec ow_dm_X13_suffix ({ frames := 0, cells := 0, slots := 0, locals := 0 })).room s m args below meth c Q A (dC, dI) cX13_suffix .int (St) (dw_X13 a ac) r) : dj_X13_suffix_138 p l e s m args below meth c Q A dC dI a ac (df_X13_suffix_138 n) r := by
  obtain ⟨hlt, hx, hb, hml, hown, hts, hN, hA, hK⟩ := id C
  intro x1 s0 H locs ls h hP hD hS hl
  unfold df_X13_suffix_138 at h
  refine lv_iconst (v := 0) hx hb dX13_suffix_138 (by decide) ?_
  exact (db_X13_suffix_139 C K) (x1) (0) s0 _ _ _ h hP hD hS (lv_sub hl [0, 1] rfl)
set_option maxHeartbeats 40000000 in
set_option maxRecDepth 100000 in
theorem db_X13_suffix_97 {p : Program} {l : Launch} {e : Env} {s : State} {m : MethodId} {args : Array Value} {below : List Frame} {meth : Method} {c : Code} {Q : State → Prop} {A : Nat → Prop} {dC : Nat → ClassId} {dI : Nat → Nat → Nat} {a : Nat → Nat} {ac : Nat → ClassId} {n : Nat} {r : Int32 × (St)} (C : nd_C p l s m args c A (dC, dI) cX13_suffix 4 RX13 ow_dm_X13_suffix (dk_X13 ac)) (K : nd_Ki p l e (headSpec ow_dm_X13_suffix ({ frames := 0, cells := 0, slots := 0, locals := 0 })).room s m args below meth c Q A (dC, dI) cX13_suffix .int (St) (dw_X13 a ac) r) : dj_X13_suffix_97 p l e s m args below meth c Q A dC dI a ac (df_X13_suffix_97 n) r := by
  obtain ⟨hlt, hx, hb, hml, hown, hts, hN, hA, hK⟩ := id C
  intro x1 s0 H locs ls h hP hD hS hl
  unfold df_X13_suffix_97 at h
  refine lv_iload_n hx hb dX13_suffix_97 rfl (lv_at hl 1 rfl) ?_
  refine lv_iconst (v := 3) hx hb dX13_suffix_98 (by decide) ?_
  refine lv_icmp_le (tgt := 138) hx hb dX13_suffix_99 (by decide) (fun c3 => ?_) (fun c3 => ?_)
  · have h := nd_pos h c3
    exact (db_X13_suffix_138 C K) (x1) s0 _ _ _ h hP hD hS (lv_sub hl [0, 1] rfl)
  · have h := nd_neg h c3
    refine lv_aload_n hx hb dX13_suffix_102 rfl (lv_at hl 0 rfl) ?_
    refine va_get (D := (dC, dI)) (ci := 14) (v := .ref (a 4)) (C := RX13) (T := TX13) (N := 37) hx hb hts hi_dm_X13_suffix_X13 hown hK hP 0 rfl rfl 3 (by decide) (hts (.fieldLink RX13 324 "TimeMachineModel$Assembler" "text" "[C") (List.mem_of_getElem? (i := 3) rfl)) (fun _ h9 => h9) rfl dX13_suffix_103 ?_
    refine lv_aload_n hx hb dX13_suffix_106 rfl (lv_at hl 0 rfl) ?_
    refine va_get (D := (dC, dI)) (ci := 14) (v := .int (sI s0 10)) (C := RX13) (T := TX13) (N := 37) hx hb hts hi_dm_X13_suffix_X13 hown hK hP 0 rfl rfl 19 (by decide) (hts (.fieldLink RX13 371 "TimeMachineModel$Assembler" "to" "I") (List.mem_of_getElem? (i := 1) rfl)) (fun _ h9 => h9) rfl dX13_suffix_107 ?_
    refine lv_iconst (v := 2) hx hb dX13_suffix_110 (by decide) ?_
    refine lv_isub hx hb dX13_suffix_111 ?_
    obtain ⟨i13, h⟩ := nd_ck_e h
    refine va_cald (i := ((sI s0 10) - 2)) hx hb hK hP 4 3 rfl rfl i13 dX13_suffix_112 ?_
    refine lv_bipush (v := 97) hx hb dX13_suffix_113 (by decide) ?_
    refine lv_icmp_ne (tgt := 138) hx hb dX13_suffix_115 (by decide) (fun c14 => ?_) (fun c14 => ?_)
    · have h := nd_neg h c14
      exact (db_X13_suffix_138 C K) (x1) s0 _ _ _ h hP hD hS (lv_sub hl [0, 1] rfl)
    · have h := nd_pos h c14
      refine lv_aload_n hx hb dX13_suffix_118 rfl (lv_at hl 0 rfl) ?_
      refine va_get (D := (dC, dI)) (ci := 14) (v := .ref (a 4)) (C := RX13) (T := TX13) (N := 37) hx hb hts hi_dm_X13_suffix_X13 hown hK hP 0 rfl rfl 3 (by decide) (hts (.fieldLink RX13 324 "TimeMachineModel$Assembler" "text" "[C") (List.mem_of_getElem? (i := 3) rfl)) (fun _ h9 => h9) rfl dX13_suffix_119 ?_
      refine lv_aload_n hx hb dX13_suffix_122 rfl (lv_at hl 0 rfl) ?_
      refine va_get (D := (dC, dI)) (ci := 14) (v := .int (sI s0 10)) (C := RX13) (T := TX13) (N := 37) hx hb hts hi_dm_X13_suffix_X13 hown hK hP 0 rfl rfl 19 (by decide) (hts (.fieldLink RX13 371 "TimeMachineModel$Assembler" "to" "I") (List.mem_of_getElem? (i := 1) rfl)) (fun _ h9 => h9) rfl dX13_suffix_123 ?_
      refine lv_iconst (v := 1) hx hb dX13_suffix_126 (by decide) ?_
      refine lv_isub hx hb dX13_suffix_127 ?_
      obtain ⟨i15, h⟩ := nd_ck_e h
      refine va_cald (i := ((sI s0 10) - 1)) hx hb hK hP 4 3 rfl rfl i15 dX13_suffix_128 ?_
      refine lv_bipush (v := 113) hx hb dX13_suffix_129 (by decide) ?_
      refine lv_icmp_ne (tgt := 138) hx hb dX13_suffix_131 (by decide) (fun c16 => ?_) (fun c16 => ?_)
      · have h := nd_neg h c16
        exact (db_X13_suffix_138 C K) (x1) s0 _ _ _ h hP hD hS (lv_sub hl [0, 1] rfl)
      · have h := nd_pos h c16
        refine lv_iconst (v := 1) hx hb dX13_suffix_134 (by decide) ?_
        refine lv_goto (tgt := 139) hx hb dX13_suffix_135 (by decide) ?_
        exact (db_X13_suffix_139 C K) (x1) (1) s0 _ _ _ h hP hD hS (lv_sub hl [0, 1] rfl)
set_option maxHeartbeats 40000000 in
set_option maxRecDepth 100000 in
theorem db_X13_suffix_0 {p : Program} {l : Launch} {e : Env} {s : State} {m : MethodId} {args : Array Value} {below : List Frame} {meth : Method} {c : Code} {Q : State → Prop} {A : Nat → Prop} {dC : Nat → ClassId} {dI : Nat → Nat → Nat} {a : Nat → Nat} {ac : Nat → ClassId} {n : Nat} {r : Int32 × (St)} (C : nd_C p l s m args c A (dC, dI) cX13_suffix 4 RX13 ow_dm_X13_suffix (dk_X13 ac)) (K : nd_Ki p l e (headSpec ow_dm_X13_suffix ({ frames := 0, cells := 0, slots := 0, locals := 0 })).room s m args below meth c Q A (dC, dI) cX13_suffix .int (St) (dw_X13 a ac) r) : dj_X13_suffix_0 p l e s m args below meth c Q A dC dI a ac (df_X13_suffix_0 n) r := by
  obtain ⟨hlt, hx, hb, hml, hown, hts, hN, hA, hK⟩ := id C
  intro s0 H locs ls h hP hD hS hl
  unfold df_X13_suffix_0 at h
  refine lv_aload_n hx hb dX13_suffix_0 rfl (lv_at hl 0 rfl) ?_
  refine va_get (D := (dC, dI)) (ci := 14) (v := .int (sI s0 10)) (C := RX13) (T := TX13) (N := 37) hx hb hts hi_dm_X13_suffix_X13 hown hK hP 0 rfl rfl 19 (by decide) (hts (.fieldLink RX13 371 "TimeMachineModel$Assembler" "to" "I") (List.mem_of_getElem? (i := 1) rfl)) (fun _ h9 => h9) rfl dX13_suffix_1 ?_
  refine lv_aload_n hx hb dX13_suffix_4 rfl (lv_at hl 0 rfl) ?_
  refine va_get (D := (dC, dI)) (ci := 14) (v := .int (sI s0 9)) (C := RX13) (T := TX13) (N := 37) hx hb hts hi_dm_X13_suffix_X13 hown hK hP 0 rfl rfl 18 (by decide) (hts (.fieldLink RX13 368 "TimeMachineModel$Assembler" "from" "I") (List.mem_of_getElem? (i := 2) rfl)) (fun _ h9 => h9) rfl dX13_suffix_5 ?_
  refine lv_isub hx hb dX13_suffix_8 ?_
  refine lv_topi (fun z1 ez1 => ?_)
  have h := nd_at h ez1
  refine lv_istore_n (lv' := [(1, .int z1), (0, .ref (a 0))]) hx hb dX13_suffix_9 rfl hl (by decide) rfl (fun ls hl => ?_)
  refine lv_iload_n hx hb dX13_suffix_10 rfl (lv_at hl 0 rfl) ?_
  refine lv_iconst (v := 5) hx hb dX13_suffix_11 (by decide) ?_
  refine lv_icmp_le (tgt := 97) hx hb dX13_suffix_12 (by decide) (fun c2 => ?_) (fun c2 => ?_)
  · have h := nd_pos h c2
    exact (db_X13_suffix_97 C K) (z1) s0 _ _ _ h hP hD hS (lv_sub hl [1, 0] rfl)
  · have h := nd_neg h c2
    refine lv_aload_n hx hb dX13_suffix_15 rfl (lv_at hl 1 rfl) ?_
    refine va_get (D := (dC, dI)) (ci := 14) (v := .ref (a 4)) (C := RX13) (T := TX13) (N := 37) hx hb hts hi_dm_X13_suffix_X13 hown hK hP 0 rfl rfl 3 (by decide) (hts (.fieldLink RX13 324 "TimeMachineModel$Assembler" "text" "[C") (List.mem_of_getElem? (i := 3) rfl)) (fun _ h9 => h9) rfl dX13_suffix_16 ?_
    refine lv_aload_n hx hb dX13_suffix_19 rfl (lv_at hl 1 rfl) ?_
    refine va_get (D := (dC, dI)) (ci := 14) (v := .int (sI s0 10)) (C := RX13) (T := TX13) (N := 37) hx hb hts hi_dm_X13_suffix_X13 hown hK hP 0 rfl rfl 19 (by decide) (hts (.fieldLink RX13 371 "TimeMachineModel$Assembler" "to" "I") (List.mem_of_getElem? (i := 1) rfl)) (fun _ h9 => h9) rfl dX13_suffix_20 ?_
    refine lv_iconst (v := 5) hx hb dX13_suffix_23 (by decide) ?_
    refine lv_isub hx hb dX13_suffix_24 ?_
    obtain ⟨i17, h⟩ := nd_ck_e h
    refine va_cald (i := ((sI s0 10) - 5)) hx hb hK hP 4 3 rfl rfl i17 dX13_suffix_25 ?_
    refine lv_bipush (v := 46) hx hb dX13_suffix_26 (by decide) ?_
    refine lv_icmp_ne (tgt := 97) hx hb dX13_suffix_28 (by decide) (fun c18 => ?_) (fun c18 => ?_)
    · have h := nd_neg h c18
      exact (db_X13_suffix_97 C K) (z1) s0 _ _ _ h hP hD hS (lv_sub hl [1, 0] rfl)
    · have h := nd_pos h c18
      refine lv_aload_n hx hb dX13_suffix_31 rfl (lv_at hl 1 rfl) ?_
      refine va_get (D := (dC, dI)) (ci := 14) (v := .ref (a 4)) (C := RX13) (T := TX13) (N := 37) hx hb hts hi_dm_X13_suffix_X13 hown hK hP 0 rfl rfl 3 (by decide) (hts (.fieldLink RX13 324 "TimeMachineModel$Assembler" "text" "[C") (List.mem_of_getElem? (i := 3) rfl)) (fun _ h9 => h9) rfl dX13_suffix_32 ?_
      refine lv_aload_n hx hb dX13_suffix_35 rfl (lv_at hl 1 rfl) ?_
      refine va_get (D := (dC, dI)) (ci := 14) (v := .int (sI s0 10)) (C := RX13) (T := TX13) (N := 37) hx hb hts hi_dm_X13_suffix_X13 hown hK hP 0 rfl rfl 19 (by decide) (hts (.fieldLink RX13 371 "TimeMachineModel$Assembler" "to" "I") (List.mem_of_getElem? (i := 1) rfl)) (fun _ h9 => h9) rfl dX13_suffix_36 ?_
      refine lv_iconst (v := 4) hx hb dX13_suffix_39 (by decide) ?_
      refine lv_isub hx hb dX13_suffix_40 ?_
      obtain ⟨i19, h⟩ := nd_ck_e h
      refine va_cald (i := ((sI s0 10) - 4)) hx hb hK hP 4 3 rfl rfl i19 dX13_suffix_41 ?_
      refine lv_bipush (v := 97) hx hb dX13_suffix_42 (by decide) ?_
      refine lv_icmp_ne (tgt := 97) hx hb dX13_suffix_44 (by decide) (fun c20 => ?_) (fun c20 => ?_)
      · have h := nd_neg h c20
        exact (db_X13_suffix_97 C K) (z1) s0 _ _ _ h hP hD hS (lv_sub hl [1, 0] rfl)
      · have h := nd_pos h c20
        refine lv_aload_n hx hb dX13_suffix_47 rfl (lv_at hl 1 rfl) ?_
        refine va_get (D := (dC, dI)) (ci := 14) (v := .ref (a 4)) (C := RX13) (T := TX13) (N := 37) hx hb hts hi_dm_X13_suffix_X13 hown hK hP 0 rfl rfl 3 (by decide) (hts (.fieldLink RX13 324 "TimeMachineModel$Assembler" "text" "[C") (List.mem_of_getElem? (i := 3) rfl)) (fun _ h9 => h9) rfl dX13_suffix_48 ?_
        refine lv_aload_n hx hb dX13_suffix_51 rfl (lv_at hl 1 rfl) ?_
        refine va_get (D := (dC, dI)) (ci := 14) (v := .int (sI s0 10)) (C := RX13) (T := TX13) (N := 37) hx hb hts hi_dm_X13_suffix_X13 hown hK hP 0 rfl rfl 19 (by decide) (hts (.fieldLink RX13 371 "TimeMachineModel$Assembler" "to" "I") (List.mem_of_getElem? (i := 1) rfl)) (fun _ h9 => h9) rfl dX13_suffix_52 ?_
        refine lv_iconst (v := 3) hx hb dX13_suffix_55 (by decide) ?_
        refine lv_isub hx hb dX13_suffix_56 ?_
        obtain ⟨i21, h⟩ := nd_ck_e h
        refine va_cald (i := ((sI s0 10) - 3)) hx hb hK hP 4 3 rfl rfl i21 dX13_suffix_57 ?_
        refine lv_bipush (v := 113) hx hb dX13_suffix_58 (by decide) ?_
        refine lv_icmp_ne (tgt := 97) hx hb dX13_suffix_60 (by decide) (fun c22 => ?_) (fun c22 => ?_)
        · have h := nd_neg h c22
          exact (db_X13_suffix_97 C K) (z1) s0 _ _ _ h hP hD hS (lv_sub hl [1, 0] rfl)
        · have h := nd_pos h c22
          refine lv_aload_n hx hb dX13_suffix_63 rfl (lv_at hl 1 rfl) ?_
          refine va_get (D := (dC, dI)) (ci := 14) (v := .ref (a 4)) (C := RX13) (T := TX13) (N := 37) hx hb hts hi_dm_X13_suffix_X13 hown hK hP 0 rfl rfl 3 (by decide) (hts (.fieldLink RX13 324 "TimeMachineModel$Assembler" "text" "[C") (List.mem_of_getElem? (i := 3) rfl)) (fun _ h9 => h9) rfl dX13_suffix_64 ?_
          refine lv_aload_n hx hb dX13_suffix_67 rfl (lv_at hl 1 rfl) ?_
          refine va_get (D := (dC, dI)) (ci := 14) (v := .int (sI s0 10)) (C := RX13) (T := TX13) (N := 37) hx hb hts hi_dm_X13_suffix_X13 hown hK hP 0 rfl rfl 19 (by decide) (hts (.fieldLink RX13 371 "TimeMachineModel$Assembler" "to" "I") (List.mem_of_getElem? (i := 1) rfl)) (fun _ h9 => h9) rfl dX13_suffix_68 ?_
          refine lv_iconst (v := 2) hx hb dX13_suffix_71 (by decide) ?_
          refine lv_isub hx hb dX13_suffix_72 ?_
          obtain ⟨i23, h⟩ := nd_ck_e h
          refine va_cald (i := ((sI s0 10) - 2)) hx hb hK hP 4 3 rfl rfl i23 dX13_suffix_73 ?_
          refine lv_bipush (v := 114) hx hb dX13_suffix_74 (by decide) ?_
          refine lv_icmp_ne (tgt := 97) hx hb dX13_suffix_76 (by decide) (fun c24 => ?_) (fun c24 => ?_)
          · have h := nd_neg h c24
            exact (db_X13_suffix_97 C K) (z1) s0 _ _ _ h hP hD hS (lv_sub hl [1, 0] rfl)
          · have h := nd_pos h c24
            refine lv_aload_n hx hb dX13_suffix_79 rfl (lv_at hl 1 rfl) ?_
            refine va_get (D := (dC, dI)) (ci := 14) (v := .ref (a 4)) (C := RX13) (T := TX13) (N := 37) hx hb hts hi_dm_X13_suffix_X13 hown hK hP 0 rfl rfl 3 (by decide) (hts (.fieldLink RX13 324 "TimeMachineModel$Assembler" "text" "[C") (List.mem_of_getElem? (i := 3) rfl)) (fun _ h9 => h9) rfl dX13_suffix_80 ?_
            refine lv_aload_n hx hb dX13_suffix_83 rfl (lv_at hl 1 rfl) ?_
            refine va_get (D := (dC, dI)) (ci := 14) (v := .int (sI s0 10)) (C := RX13) (T := TX13) (N := 37) hx hb hts hi_dm_X13_suffix_X13 hown hK hP 0 rfl rfl 19 (by decide) (hts (.fieldLink RX13 371 "TimeMachineModel$Assembler" "to" "I") (List.mem_of_getElem? (i := 1) rfl)) (fun _ h9 => h9) rfl dX13_suffix_84 ?_
            refine lv_iconst (v := 1) hx hb dX13_suffix_87 (by decide) ?_
            refine lv_isub hx hb dX13_suffix_88 ?_
            obtain ⟨i25, h⟩ := nd_ck_e h
            refine va_cald (i := ((sI s0 10) - 1)) hx hb hK hP 4 3 rfl rfl i25 dX13_suffix_89 ?_
            refine lv_bipush (v := 108) hx hb dX13_suffix_90 (by decide) ?_
            refine lv_icmp_ne (tgt := 97) hx hb dX13_suffix_92 (by decide) (fun c26 => ?_) (fun c26 => ?_)
            · have h := nd_neg h c26
              exact (db_X13_suffix_97 C K) (z1) s0 _ _ _ h hP hD hS (lv_sub hl [1, 0] rfl)
            · have h := nd_pos h c26
              refine lv_iconst (v := 5) hx hb dX13_suffix_95 (by decide) ?_
              exact K _ _ _ _ _ _ dX13_suffix_96 rfl (Option.some.inj h).symm hP hD hS
set_option maxHeartbeats 40000000 in
set_option maxRecDepth 100000 in
theorem dm_X13_suffix (l : Launch) (hlt : l.stackTraces = false) (dC : Nat → ClassId) (dI : Nat → Nat → Nat) (a : Nat → Nat) (ac : Nat → ClassId) (n : Nat) (s0 : St) {r : Int32 × (St)} (h : df_X13_suffix n s0 = some r) (sz : Nat) : Met l yX13_suffix ow_dm_X13_suffix ({ frames := 0, cells := 0, slots := 0, locals := 0 }) (va_Pc [.ref (a 0)] (fun U => U.heap.size = sz ∧ va_P (dC, dI) vwCl (dw_X13 a ac s0) U.heap ∧ va_K (dC, dI) vwCl (dk_X13 ac) U ∧ va_D (fun _ => True) (dw_X13 a ac s0) ∧ nv_E dI (va_A (dw_X13 a ac s0) sz) U)) (va_Qi (fun x _ => x = r.1) (fun (_ : Unit) t => va_P (dC, dI) vwCl (dw_X13 a ac r.2) t.heap ∧ va_K (dC, dI) vwCl (dk_X13 ac) t ∧ va_D (va_A (dw_X13 a ac s0) sz) (dw_X13 a ac r.2)) (va_A (dw_X13 a ac s0) sz)) 0 0 (va_A (dw_X13 a ac s0) sz) := by
  refine Met.ofW (cc := cX13_suffix) (maxL := 4) (ret := (some .int)) (by decide) rfl ?_
  intro p e s m args below meth c s₁ B hml hv
  obtain ⟨rfl, hsz, hP, hK, hD0, hN⟩ := hv
  have hx := B.exec
  have hb := B.bytes
  have hr := B.returns
  have hts := atoms_spec (ws := ow_dm_X13_suffix) B.pre
  have hown : s.vm.findClass RX13 = some m.cls := findClass_of_methodNamed B.named
  have hlocks := B.notSynchronized
  subst hsz
  have hD := hD0.self (sz := s.heap.size)
  generalize hAe : va_A (dw_X13 a ac s0) s.heap.size = A at hD hN ⊢
  have hA : ∀ q : Nat, s.heap.size ≤ q → A q := fun q h => by rw [← hAe]; exact Or.inr h
  have hl := lv_entry ([.ref (a 0)]) (n := 4) (Nat.le_of_ble_eq_true rfl)
  rw [lg_entry_eq]
  generalize (lg_sl ([.ref (a 0)]) ++ List.replicate (4 - (lg_sl ([.ref (a 0)])).length) Slot.unset).toArray = ls at hl ⊢
  have hl : lv_has ls 4 [(0, .ref (a 0))] := hl
  exact db_X13_suffix_0 (dC := dC) (dI := dI) (a := a) (ac := ac) (n := n) (r := r) ⟨hlt, hx, hb, hml, hown, hts, hN, hA, hK⟩ (fun pc v τ H locs ls d z er hP hD hS => by subst er; exact W.zret (v := v) hx hb hr z (fun t ht hW => ⟨⟨v, (), rfl, rfl, by rw [ht]; exact hP, va_K.moved hW.alike hK, hD⟩, hS.F ht⟩) hS.2.2 d) s0 _ _ _ h hP hD va_S.rf (lv_sub hl [0] rfl)
def ow_dm_X13_statement : List Cond := Cond.code yX13_statement cX13_statement 8 none :: ([Cond.fieldLink RX13 522 "TimeMachineModel$Assembler" "mode" "I", Cond.fieldLink RX13 374 "TimeMachineModel$Assembler" "at" "I", Cond.fieldLink RX13 541 "TimeMachineModel$Assembler" "count" "I", Cond.methodLink RX13 416 yX13_scan, Cond.instanceMethod yX13_scan, Cond.selects RX13 yX13_scan yX13_scan, Cond.initialized RX13, Cond.methodLink RX13 645 yX13_suffix, Cond.instanceMethod yX13_suffix, Cond.selects RX13 yX13_suffix yX13_suffix, Cond.fieldLink RX13 368 "TimeMachineModel$Assembler" "from" "I", Cond.fieldLink RX13 371 "TimeMachineModel$Assembler" "to" "I", Cond.methodLink RX13 648 yX13_named, Cond.instanceMethod yX13_named, Cond.selects RX13 yX13_named yX13_named, Cond.fieldLink RX13 269 "TimeMachineModel$Assembler" "shapes" "[B", Cond.fieldLink RX13 319 "TimeMachineModel$Assembler" "patterns" "[I", Cond.methodLink RX13 658 yX13_jumps, Cond.instanceMethod yX13_jumps, Cond.selects RX13 yX13_jumps yX13_jumps, Cond.fieldLink RX13 410 "TimeMachineModel$Assembler" "fault" "I", Cond.methodLink RX13 506 yX13_needs, Cond.instanceMethod yX13_needs, Cond.selects RX13 yX13_needs yX13_needs, Cond.methodLink RX13 661 yX13_branches, Cond.instanceMethod yX13_branches, Cond.selects RX13 yX13_branches yX13_branches, Cond.methodLink RX13 664 yX13_longs, Cond.instanceMethod yX13_longs, Cond.selects RX13 yX13_longs yX13_longs, Cond.methodLink RX13 670 yX13_others, Cond.instanceMethod yX13_others, Cond.selects RX13 yX13_others yX13_others, Cond.methodLink RX13 667 yX13_shorts, Cond.instanceMethod yX13_shorts, Cond.selects RX13 yX13_shorts yX13_shorts, Cond.methodLink RX13 547 yX13_half, Cond.instanceMethod yX13_half, Cond.selects RX13 yX13_half yX13_half, Cond.methodLink RX13 570 yX13_word, Cond.instanceMethod yX13_word, Cond.selects RX13 yX13_word yX13_word, Cond.methodLink RX13 654 yX13_directive, Cond.instanceMethod yX13_directive, Cond.selects RX13 yX13_directive yX13_directive, Cond.methodLink RX13 419 yX13_blame, Cond.instanceMethod yX13_blame, Cond.selects RX13 yX13_blame yX13_blame, Cond.fieldLink RX13 324 "TimeMachineModel$Assembler" "text" "[C", Cond.constant RX13 653 (33554432), Cond.constant RX13 652 (67108864), Cond.constant RX13 651 (100663296)] ++ (u_ws RX13 TX13 37 ++ (ow_dm_X13_scan ++ (ow_dm_X13_suffix ++ (ow_dm_X13_named ++ (ow_dm_X13_jumps ++ (ow_dm_X13_needs ++ (ow_dm_X13_branches ++ (ow_dm_X13_longs ++ (ow_dm_X13_others ++ (ow_dm_X13_shorts ++ (ow_dm_X13_half ++ (ow_dm_X13_word ++ (ow_dm_X13_directive ++ (ow_dm_X13_blame ++ [])))))))))))))))
theorem gd_dm_X13_statement : ∀ w ∈ ow_dm_X13_statement, (w.onTables && w.keeps) = true ∨ ∃ ty, w = Cond.arrayClass ty := List.forall_mem_cons.mpr ⟨good_of_word rfl, List.forall_mem_append.mpr ⟨fun w h => good_of_word (List.all_eq_true.mp (by decide +kernel) w h), List.forall_mem_append.mpr ⟨gu_X13, List.forall_mem_append.mpr ⟨gd_dm_X13_scan, List.forall_mem_append.mpr ⟨gd_dm_X13_suffix, List.forall_mem_append.mpr ⟨gd_dm_X13_named, List.forall_mem_append.mpr ⟨gd_dm_X13_jumps, List.forall_mem_append.mpr ⟨gd_dm_X13_needs, List.forall_mem_append.mpr ⟨gd_dm_X13_branches, List.forall_mem_append.mpr ⟨gd_dm_X13_longs, List.forall_mem_append.mpr ⟨gd_dm_X13_others, List.forall_mem_append.mpr ⟨gd_dm_X13_shorts, List.forall_mem_append.mpr ⟨gd_dm_X13_half, List.forall_mem_append.mpr ⟨gd_dm_X13_word, List.forall_mem_append.mpr ⟨gd_dm_X13_directive, List.forall_mem_append.mpr ⟨gd_dm_X13_blame, fun _ h => nomatch h⟩⟩⟩⟩⟩⟩⟩⟩⟩⟩⟩⟩⟩⟩⟩⟩
theorem hi_dm_X13_statement_X13 : ∀ w ∈ u_ws RX13 TX13 37, w ∈ ow_dm_X13_statement := fun w h => List.mem_cons_of_mem _ (List.mem_append_right _ (List.mem_append_left _ h))
theorem gi_dm_X13_statement_0 : GoodIn ow_dm_X13_statement (wsV RX13 416 RX13 yX13_scan ow_dm_X13_scan) := goodIn_app (goodIn_of _ (by decide +kernel)) (fun w h => ⟨List.mem_cons_of_mem _ (List.mem_append_right _ (List.mem_append_right _ (List.mem_append_left _ h))), gd_dm_X13_scan w h⟩)
theorem gi_dm_X13_statement_1 : GoodIn ow_dm_X13_statement (wsV RX13 645 RX13 yX13_suffix ow_dm_X13_suffix) := goodIn_app (goodIn_of _ (by decide +kernel)) (fun w h => ⟨List.mem_cons_of_mem _ (List.mem_append_right _ (List.mem_append_right _ (List.mem_append_right _ (List.mem_append_left _ h)))), gd_dm_X13_suffix w h⟩)
theorem gi_dm_X13_statement_2 : GoodIn ow_dm_X13_statement (wsV RX13 648 RX13 yX13_named ow_dm_X13_named) := goodIn_app (goodIn_of _ (by decide +kernel)) (fun w h => ⟨List.mem_cons_of_mem _ (List.mem_append_right _ (List.mem_append_right _ (List.mem_append_right _ (List.mem_append_right _ (List.mem_append_left _ h))))), gd_dm_X13_named w h⟩)
theorem gi_dm_X13_statement_3 : GoodIn ow_dm_X13_statement (wsV RX13 658 RX13 yX13_jumps ow_dm_X13_jumps) := goodIn_app (goodIn_of _ (by decide +kernel)) (fun w h => ⟨List.mem_cons_of_mem _ (List.mem_append_right _ (List.mem_append_right _ (List.mem_append_right _ (List.mem_append_right _ (List.mem_append_right _ (List.mem_append_left _ h)))))), gd_dm_X13_jumps w h⟩)
theorem gi_dm_X13_statement_4 : GoodIn ow_dm_X13_statement (wsV RX13 506 RX13 yX13_needs ow_dm_X13_needs) := goodIn_app (goodIn_of _ (by decide +kernel)) (fun w h => ⟨List.mem_cons_of_mem _ (List.mem_append_right _ (List.mem_append_right _ (List.mem_append_right _ (List.mem_append_right _ (List.mem_append_right _ (List.mem_append_right _ (List.mem_append_left _ h))))))), gd_dm_X13_needs w h⟩)
theorem gi_dm_X13_statement_5 : GoodIn ow_dm_X13_statement (wsV RX13 661 RX13 yX13_branches ow_dm_X13_branches) := goodIn_app (goodIn_of _ (by decide +kernel)) (fun w h => ⟨List.mem_cons_of_mem _ (List.mem_append_right _ (List.mem_append_right _ (List.mem_append_right _ (List.mem_append_right _ (List.mem_append_right _ (List.mem_append_right _ (List.mem_append_right _ (List.mem_append_left _ h)))))))), gd_dm_X13_branches w h⟩)
theorem gi_dm_X13_statement_6 : GoodIn ow_dm_X13_statement (wsV RX13 664 RX13 yX13_longs ow_dm_X13_longs) := goodIn_app (goodIn_of _ (by decide +kernel)) (fun w h => ⟨List.mem_cons_of_mem _ (List.mem_append_right _ (List.mem_append_right _ (List.mem_append_right _ (List.mem_append_right _ (List.mem_append_right _ (List.mem_append_right _ (List.mem_append_right _ (List.mem_append_right _ (List.mem_append_left _ h))))))))), gd_dm_X13_longs w h⟩)
theorem gi_dm_X13_statement_7 : GoodIn ow_dm_X13_statement (wsV RX13 670 RX13 yX13_others ow_dm_X13_others) := goodIn_app (goodIn_of _ (by decide +kernel)) (fun w h => ⟨List.mem_cons_of_mem _ (List.mem_append_right _ (List.mem_append_right _ (List.mem_append_right _ (List.mem_append_right _ (List.mem_append_right _ (List.mem_append_right _ (List.mem_append_right _ (List.mem_append_right _ (List.mem_append_right _ (List.mem_append_left _ h)))))))))), gd_dm_X13_others w h⟩)
theorem gi_dm_X13_statement_8 : GoodIn ow_dm_X13_statement (wsV RX13 667 RX13 yX13_shorts ow_dm_X13_shorts) := goodIn_app (goodIn_of _ (by decide +kernel)) (fun w h => ⟨List.mem_cons_of_mem _ (List.mem_append_right _ (List.mem_append_right _ (List.mem_append_right _ (List.mem_append_right _ (List.mem_append_right _ (List.mem_append_right _ (List.mem_append_right _ (List.mem_append_right _ (List.mem_append_right _ (List.mem_append_right _ (List.mem_append_left _ h))))))))))), gd_dm_X13_shorts w h⟩)
theorem gi_dm_X13_statement_9 : GoodIn ow_dm_X13_statement (wsV RX13 547 RX13 yX13_half ow_dm_X13_half) := goodIn_app (goodIn_of _ (by decide +kernel)) (fun w h => ⟨List.mem_cons_of_mem _ (List.mem_append_right _ (List.mem_append_right _ (List.mem_append_right _ (List.mem_append_right _ (List.mem_append_right _ (List.mem_append_right _ (List.mem_append_right _ (List.mem_append_right _ (List.mem_append_right _ (List.mem_append_right _ (List.mem_append_right _ (List.mem_append_left _ h)))))))))))), gd_dm_X13_half w h⟩)
theorem gi_dm_X13_statement_10 : GoodIn ow_dm_X13_statement (wsV RX13 570 RX13 yX13_word ow_dm_X13_word) := goodIn_app (goodIn_of _ (by decide +kernel)) (fun w h => ⟨List.mem_cons_of_mem _ (List.mem_append_right _ (List.mem_append_right _ (List.mem_append_right _ (List.mem_append_right _ (List.mem_append_right _ (List.mem_append_right _ (List.mem_append_right _ (List.mem_append_right _ (List.mem_append_right _ (List.mem_append_right _ (List.mem_append_right _ (List.mem_append_right _ (List.mem_append_left _ h))))))))))))), gd_dm_X13_word w h⟩)
theorem gi_dm_X13_statement_11 : GoodIn ow_dm_X13_statement (wsV RX13 654 RX13 yX13_directive ow_dm_X13_directive) := goodIn_app (goodIn_of _ (by decide +kernel)) (fun w h => ⟨List.mem_cons_of_mem _ (List.mem_append_right _ (List.mem_append_right _ (List.mem_append_right _ (List.mem_append_right _ (List.mem_append_right _ (List.mem_append_right _ (List.mem_append_right _ (List.mem_append_right _ (List.mem_append_right _ (List.mem_append_right _ (List.mem_append_right _ (List.mem_append_right _ (List.mem_append_right _ (List.mem_append_left _ h)))))))))))))), gd_dm_X13_directive w h⟩)
theorem gi_dm_X13_statement_12 : GoodIn ow_dm_X13_statement (wsV RX13 419 RX13 yX13_blame ow_dm_X13_blame) := goodIn_app (goodIn_of _ (by decide +kernel)) (fun w h => ⟨List.mem_cons_of_mem _ (List.mem_append_right _ (List.mem_append_right _ (List.mem_append_right _ (List.mem_append_right _ (List.mem_append_right _ (List.mem_append_right _ (List.mem_append_right _ (List.mem_append_right _ (List.mem_append_right _ (List.mem_append_right _ (List.mem_append_right _ (List.mem_append_right _ (List.mem_append_right _ (List.mem_append_right _ (List.mem_append_left _ h))))))))))))))), gd_dm_X13_blame w h⟩)
def dj_X13_statement_346 (p : Program) (l : Launch) (e : Env) (s : State) (m : MethodId) (args : Array Value) (below : List Frame) (meth : Method) (c : Code) (Q : State → Prop) (A : Nat → Prop) (dC : Nat → ClassId) (dI : Nat → Nat → Nat) (a : Nat → Nat) (ac : Nat → ClassId) (g : (St) → Option (St)) (r : St) : Prop := ∀ (s0 : St) (H : Heap) (locs : List Loc) (ls : Array Slot), g s0 = some r → va_P (dC, dI) vwCl (dw_X13 a ac s0) H → va_D A (dw_X13 a ac s0) → va_S A s.heap H locs → lv_has ls 8 [] → W p l e (headSpec ow_dm_X13_statement ({ frames := 11, cells := 0, slots := 0, locals := 260 })).room s m args below meth c H locs 0 0 Q (F0 m 346 ls [])
def dj_X13_statement_326 (p : Program) (l : Launch) (e : Env) (s : State) (m : MethodId) (args : Array Value) (below : List Frame) (meth : Method) (c : Code) (Q : State → Prop) (A : Nat → Prop) (dC : Nat → ClassId) (dI : Nat → Nat → Nat) (a : Nat → Nat) (ac : Nat → ClassId) (g : (St) → Option (St)) (r : St) : Prop := ∀ (s0 : St) (H : Heap) (locs : List Loc) (ls : Array Slot), g s0 = some r → va_P (dC, dI) vwCl (dw_X13 a ac s0) H → va_D A (dw_X13 a ac s0) → va_S A s.heap H locs → lv_has ls 8 [(0, .ref (a 0))] → W p l e (headSpec ow_dm_X13_statement ({ frames := 11, cells := 0, slots := 0, locals := 260 })).room s m args below meth c H locs 0 0 Q (F0 m 326 ls [])
def dj_X13_statement_232 (p : Program) (l : Launch) (e : Env) (s : State) (m : MethodId) (args : Array Value) (below : List Frame) (meth : Method) (c : Code) (Q : State → Prop) (A : Nat → Prop) (dC : Nat → ClassId) (dI : Nat → Nat → Nat) (a : Nat → Nat) (ac : Nat → ClassId) (g : Int32 → Int32 → (St) → Option (St)) (r : St) : Prop := ∀ (x6 : Int32) (x7 : Int32) (s0 : St) (H : Heap) (locs : List Loc) (ls : Array Slot), g x6 x7 s0 = some r → va_P (dC, dI) vwCl (dw_X13 a ac s0) H → va_D A (dw_X13 a ac s0) → va_S A s.heap H locs → lv_has ls 8 [(0, .ref (a 0)), (6, .int x6), (7, .int x7)] → W p l e (headSpec ow_dm_X13_statement ({ frames := 11, cells := 0, slots := 0, locals := 260 })).room s m args below meth c H locs 0 0 Q (F0 m 232 ls [])
def dj_X13_statement_264 (p : Program) (l : Launch) (e : Env) (s : State) (m : MethodId) (args : Array Value) (below : List Frame) (meth : Method) (c : Code) (Q : State → Prop) (A : Nat → Prop) (dC : Nat → ClassId) (dI : Nat → Nat → Nat) (a : Nat → Nat) (ac : Nat → ClassId) (g : Int32 → Int32 → (St) → Option (St)) (r : St) : Prop := ∀ (x6 : Int32) (x7 : Int32) (s0 : St) (H : Heap) (locs : List Loc) (ls : Array Slot), g x6 x7 s0 = some r → va_P (dC, dI) vwCl (dw_X13 a ac s0) H → va_D A (dw_X13 a ac s0) → va_S A s.heap H locs → lv_has ls 8 [(0, .ref (a 0)), (6, .int x6), (7, .int x7)] → W p l e (headSpec ow_dm_X13_statement ({ frames := 11, cells := 0, slots := 0, locals := 260 })).room s m args below meth c H locs 0 0 Q (F0 m 264 ls [])
def dj_X13_statement_289 (p : Program) (l : Launch) (e : Env) (s : State) (m : MethodId) (args : Array Value) (below : List Frame) (meth : Method) (c : Code) (Q : State → Prop) (A : Nat → Prop) (dC : Nat → ClassId) (dI : Nat → Nat → Nat) (a : Nat → Nat) (ac : Nat → ClassId) (g : Int32 → Int32 → (St) → Option (St)) (r : St) : Prop := ∀ (x6 : Int32) (x7 : Int32) (s0 : St) (H : Heap) (locs : List Loc) (ls : Array Slot), g x6 x7 s0 = some r → va_P (dC, dI) vwCl (dw_X13 a ac s0) H → va_D A (dw_X13 a ac s0) → va_S A s.heap H locs → lv_has ls 8 [(0, .ref (a 0)), (6, .int x6), (7, .int x7)] → W p l e (headSpec ow_dm_X13_statement ({ frames := 11, cells := 0, slots := 0, locals := 260 })).room s m args below meth c H locs 0 0 Q (F0 m 289 ls [])
def dj_X13_statement_275 (p : Program) (l : Launch) (e : Env) (s : State) (m : MethodId) (args : Array Value) (below : List Frame) (meth : Method) (c : Code) (Q : State → Prop) (A : Nat → Prop) (dC : Nat → ClassId) (dI : Nat → Nat → Nat) (a : Nat → Nat) (ac : Nat → ClassId) (g : Int32 → Int32 → (St) → Option (St)) (r : St) : Prop := ∀ (x6 : Int32) (x7 : Int32) (s0 : St) (H : Heap) (locs : List Loc) (ls : Array Slot), g x6 x7 s0 = some r → va_P (dC, dI) vwCl (dw_X13 a ac s0) H → va_D A (dw_X13 a ac s0) → va_S A s.heap H locs → lv_has ls 8 [(0, .ref (a 0)), (6, .int x6), (7, .int x7)] → W p l e (headSpec ow_dm_X13_statement ({ frames := 11, cells := 0, slots := 0, locals := 260 })).room s m args below meth c H locs 0 0 Q (F0 m 275 ls [])
def dj_X13_statement_136 (p : Program) (l : Launch) (e : Env) (s : State) (m : MethodId) (args : Array Value) (below : List Frame) (meth : Method) (c : Code) (Q : State → Prop) (A : Nat → Prop) (dC : Nat → ClassId) (dI : Nat → Nat → Nat) (a : Nat → Nat) (ac : Nat → ClassId) (g : Int32 → Int32 → (St) → Option (St)) (r : St) : Prop := ∀ (x4 : Int32) (x5 : Int32) (s0 : St) (H : Heap) (locs : List Loc) (ls : Array Slot), g x4 x5 s0 = some r → va_P (dC, dI) vwCl (dw_X13 a ac s0) H → va_D A (dw_X13 a ac s0) → va_S A s.heap H locs → lv_has ls 8 [(0, .ref (a 0)), (4, .int x4), (5, .int x5)] → W p l e (headSpec ow_dm_X13_statement ({ frames := 11, cells := 0, slots := 0, locals := 260 })).room s m args below meth c H locs 0 0 Q (F0 m 136 ls [])
def dj_X13_statement_102 (p : Program) (l : Launch) (e : Env) (s : State) (m : MethodId) (args : Array Value) (below : List Frame) (meth : Method) (c : Code) (Q : State → Prop) (A : Nat → Prop) (dC : Nat → ClassId) (dI : Nat → Nat → Nat) (a : Nat → Nat) (ac : Nat → ClassId) (g : Int32 → Int32 → (St) → Option (St)) (r : St) : Prop := ∀ (x4 : Int32) (y0 : Int32) (s0 : St) (H : Heap) (locs : List Loc) (ls : Array Slot), g x4 y0 s0 = some r → va_P (dC, dI) vwCl (dw_X13 a ac s0) H → va_D A (dw_X13 a ac s0) → va_S A s.heap H locs → lv_has ls 8 [(0, .ref (a 0)), (4, .int x4)] → W p l e (headSpec ow_dm_X13_statement ({ frames := 11, cells := 0, slots := 0, locals := 260 })).room s m args below meth c H locs 0 0 Q (F0 m 102 ls [.int y0])
def dj_X13_statement_0 (p : Program) (l : Launch) (e : Env) (s : State) (m : MethodId) (args : Array Value) (below : List Frame) (meth : Method) (c : Code) (Q : State → Prop) (A : Nat → Prop) (dC : Nat → ClassId) (dI : Nat → Nat → Nat) (a : Nat → Nat) (ac : Nat → ClassId) (g : Int32 → Int32 → (St) → Option (St)) (r : St) : Prop := ∀ (v0 : Int32) (v1 : Int32) (s0 : St) (H : Heap) (locs : List Loc) (ls : Array Slot), g v0 v1 s0 = some r → va_P (dC, dI) vwCl (dw_X13 a ac s0) H → va_D A (dw_X13 a ac s0) → va_S A s.heap H locs → lv_has ls 8 [(0, .ref (a 0)), (1, .int v0), (2, .int v1)] → W p l e (headSpec ow_dm_X13_statement ({ frames := 11, cells := 0, slots := 0, locals := 260 })).room s m args below meth c H locs 0 0 Q (F0 m 0 ls [])
set_option maxHeartbeats 40000000 in
set_option maxRecDepth 100000 in
theorem db_X13_statement_346 {p : Program} {l : Launch} {e : Env} {s : State} {m : MethodId} {args : Array Value} {below : List Frame} {meth : Method} {c : Code} {Q : State → Prop} {A : Nat → Prop} {dC : Nat → ClassId} {dI : Nat → Nat → Nat} {a : Nat → Nat} {ac : Nat → ClassId} {n : Nat} {r : St} (C : nd_C p l s m args c A (dC, dI) cX13_statement 8 RX13 ow_dm_X13_statement (dk_X13 ac)) (K : nd_Kv p l e (headSpec ow_dm_X13_statement ({ frames := 11, cells := 0, slots := 0, locals := 260 })).room s m args below meth c Q A (dC, dI) cX13_statement (St) (dw_X13 a ac) r) : dj_X13_statement_346 p l e s m args below meth c Q A dC dI a ac (df_X13_statement_346 n) r := by
  obtain ⟨hlt, hx, hb, hml, hown, hts, hN, hA, hK⟩ := id C
  intro s0 H locs ls h hP hD hS hl
  unfold df_X13_statement_346 at h
  exact K _ _ _ _ _ dX13_statement_346 (Option.some.inj h).symm hP hD hS
set_option maxHeartbeats 40000000 in
set_option maxRecDepth 100000 in
theorem db_X13_statement_326 {p : Program} {l : Launch} {e : Env} {s : State} {m : MethodId} {args : Array Value} {below : List Frame} {meth : Method} {c : Code} {Q : State → Prop} {A : Nat → Prop} {dC : Nat → ClassId} {dI : Nat → Nat → Nat} {a : Nat → Nat} {ac : Nat → ClassId} {n : Nat} {r : St} (C : nd_C p l s m args c A (dC, dI) cX13_statement 8 RX13 ow_dm_X13_statement (dk_X13 ac)) (K : nd_Kv p l e (headSpec ow_dm_X13_statement ({ frames := 11, cells := 0, slots := 0, locals := 260 })).room s m args below meth c Q A (dC, dI) cX13_statement (St) (dw_X13 a ac) r) : dj_X13_statement_326 p l e s m args below meth c Q A dC dI a ac (df_X13_statement_326 n) r := by
  obtain ⟨hlt, hx, hb, hml, hown, hts, hN, hA, hK⟩ := id C
  intro s0 H locs ls h hP hD hS hl
  unfold df_X13_statement_326 at h
  refine lv_aload_n hx hb dX13_statement_326 rfl (lv_at hl 0 rfl) ?_
  refine va_get (D := (dC, dI)) (ci := 14) (v := .int (sI s0 15)) (C := RX13) (T := TX13) (N := 37) hx hb hts hi_dm_X13_statement_X13 hown hK hP 0 rfl rfl 24 (by decide) (hts (.fieldLink RX13 522 "TimeMachineModel$Assembler" "mode" "I") (List.mem_of_getElem? (i := 1) rfl)) (fun _ h9 => h9) rfl dX13_statement_327 ?_
  refine lv_if_ne (tgt := 346) hx hb dX13_statement_330 (by decide) (fun c26 => ?_) (fun c26 => ?_)
  · have h := nd_neg h c26
    exact (db_X13_statement_346 C K)  s0 _ _ _ h hP hD hS (lv_sub hl [] rfl)
  · have h := nd_pos h c26
    refine lv_aload_n hx hb dX13_statement_333 rfl (lv_at hl 0 rfl) ?_
    refine va_get (D := (dC, dI)) (ci := 14) (v := .int (sI s0 12)) (C := RX13) (T := TX13) (N := 37) hx hb hts hi_dm_X13_statement_X13 hown hK hP 0 rfl rfl 21 (by decide) (hts (.fieldLink RX13 410 "TimeMachineModel$Assembler" "fault" "I") (List.mem_of_getElem? (i := 21) rfl)) (fun _ h9 => h9) rfl dX13_statement_334 ?_
    refine lv_if_ne (tgt := 346) hx hb dX13_statement_337 (by decide) (fun c27 => ?_) (fun c27 => ?_)
    · have h := nd_neg h c27
      exact (db_X13_statement_346 C K)  s0 _ _ _ h hP hD hS (lv_sub hl [] rfl)
    · have h := nd_pos h c27
      refine lv_aload_n hx hb dX13_statement_340 rfl (lv_at hl 0 rfl) ?_
      refine lv_iconst (v := 0) hx hb dX13_statement_341 (by decide) ?_
      obtain ⟨q28, s29, hq, h⟩ := nd_b2_e h
      have hPc := hP
      have hDc := hD
      have hKc := hK
      have hFc := nd_rs hD hS hA
      refine nd_cVi (As := [.int 0]) (rest := []) (q := q28) (w' := dw_X13 a ac s29) ⟨hx, hb, hml, hown, hts⟩ (fun sz => dm_X13_needs l hlt dC dI a ac n (0) s0 hq sz) (cwV 1 hts gi_dm_X13_statement_4 rfl rfl rfl (by decide +kernel) ⟨Nat.le_of_ble_eq_true rfl, Nat.le_of_ble_eq_true rfl⟩) hPc hDc hKc hS hA hN (va_recv hKc hPc (ci := 14) (q0 := 0) rfl rfl) rfl hl.1 rfl (Nat.le_of_ble_eq_true rfl) dX13_statement_342 (fun H locs hP1 hD1 hk1 hS => ?_)
      have hP := hP1
      have hD := hD1.weaken (fun k q _ h => hFc q.1 h)
      refine lv_pop hx hb dX13_statement_345 rfl ?_
      exact (db_X13_statement_346 C K)  s29 _ _ _ h hP hD hS (lv_sub hl [] rfl)
set_option maxHeartbeats 40000000 in
set_option maxRecDepth 100000 in
theorem db_X13_statement_232 {p : Program} {l : Launch} {e : Env} {s : State} {m : MethodId} {args : Array Value} {below : List Frame} {meth : Method} {c : Code} {Q : State → Prop} {A : Nat → Prop} {dC : Nat → ClassId} {dI : Nat → Nat → Nat} {a : Nat → Nat} {ac : Nat → ClassId} {n : Nat} {r : St} (C : nd_C p l s m args c A (dC, dI) cX13_statement 8 RX13 ow_dm_X13_statement (dk_X13 ac)) (K : nd_Kv p l e (headSpec ow_dm_X13_statement ({ frames := 11, cells := 0, slots := 0, locals := 260 })).room s m args below meth c Q A (dC, dI) cX13_statement (St) (dw_X13 a ac) r) : dj_X13_statement_232 p l e s m args below meth c Q A dC dI a ac (df_X13_statement_232 n) r := by
  obtain ⟨hlt, hx, hb, hml, hown, hts, hN, hA, hK⟩ := id C
  intro x6 x7 s0 H locs ls h hP hD hS hl
  unfold df_X13_statement_232 at h
  refine lv_aload_n hx hb dX13_statement_232 rfl (lv_at hl 0 rfl) ?_
  refine lv_iload hx hb dX13_statement_233 (lv_at hl 1 rfl) ?_
  refine lv_iload hx hb dX13_statement_235 (lv_at hl 2 rfl) ?_
  obtain ⟨s24, hq, h⟩ := nd_b1_e h
  have hPc := hP
  have hDc := hD
  have hKc := hK
  have hFc := nd_rs hD hS hA
  refine nd_cVv (As := [.int x6, .int x7]) (rest := []) (w' := dw_X13 a ac s24) ⟨hx, hb, hml, hown, hts⟩ (fun sz => dm_X13_jumps l hlt dC dI a ac n (x6) (x7) s0 hq sz) (cwV 2 hts gi_dm_X13_statement_3 rfl rfl rfl (by decide +kernel) ⟨Nat.le_of_ble_eq_true rfl, Nat.le_of_ble_eq_true rfl⟩) hPc hDc hKc hS hA hN (va_recv hKc hPc (ci := 14) (q0 := 0) rfl rfl) rfl hl.1 rfl (Nat.le_of_ble_eq_true rfl) dX13_statement_237 (fun H locs hP1 hD1 hk1 hS => ?_)
  have hP := hP1
  have hD := hD1.weaken (fun k q _ h => hFc q.1 h)
  refine lv_goto (tgt := 326) hx hb dX13_statement_240 (by decide) ?_
  exact (db_X13_statement_326 C K)  s24 _ _ _ h hP hD hS (lv_sub hl [0] rfl)
set_option maxHeartbeats 40000000 in
set_option maxRecDepth 100000 in
theorem db_X13_statement_264 {p : Program} {l : Launch} {e : Env} {s : State} {m : MethodId} {args : Array Value} {below : List Frame} {meth : Method} {c : Code} {Q : State → Prop} {A : Nat → Prop} {dC : Nat → ClassId} {dI : Nat → Nat → Nat} {a : Nat → Nat} {ac : Nat → ClassId} {n : Nat} {r : St} (C : nd_C p l s m args c A (dC, dI) cX13_statement 8 RX13 ow_dm_X13_statement (dk_X13 ac)) (K : nd_Kv p l e (headSpec ow_dm_X13_statement ({ frames := 11, cells := 0, slots := 0, locals := 260 })).room s m args below meth c Q A (dC, dI) cX13_statement (St) (dw_X13 a ac) r) : dj_X13_statement_264 p l e s m args below meth c Q A dC dI a ac (df_X13_statement_264 n) r := by
  obtain ⟨hlt, hx, hb, hml, hown, hts, hN, hA, hK⟩ := id C
  intro x6 x7 s0 H locs ls h hP hD hS hl
  unfold df_X13_statement_264 at h
  refine lv_aload_n hx hb dX13_statement_264 rfl (lv_at hl 0 rfl) ?_
  refine lv_iload hx hb dX13_statement_265 (lv_at hl 1 rfl) ?_
  refine lv_iload hx hb dX13_statement_267 (lv_at hl 2 rfl) ?_
  obtain ⟨s34, hq, h⟩ := nd_b1_e h
  have hPc := hP
  have hDc := hD
  have hKc := hK
  have hFc := nd_rs hD hS hA
  refine nd_cVv (As := [.int x6, .int x7]) (rest := []) (w' := dw_X13 a ac s34) ⟨hx, hb, hml, hown, hts⟩ (fun sz => dm_X13_branches l hlt dC dI a ac n (x6) (x7) s0 hq sz) (cwV 2 hts gi_dm_X13_statement_5 rfl rfl rfl (by decide +kernel) ⟨Nat.le_of_ble_eq_true rfl, Nat.le_of_ble_eq_true rfl⟩) hPc hDc hKc hS hA hN (va_recv hKc hPc (ci := 14) (q0 := 0) rfl rfl) rfl hl.1 rfl (Nat.le_of_ble_eq_true rfl) dX13_statement_269 (fun H locs hP1 hD1 hk1 hS => ?_)
  have hP := hP1
  have hD := hD1.weaken (fun k q _ h => hFc q.1 h)
  refine lv_goto (tgt := 326) hx hb dX13_statement_272 (by decide) ?_
  exact (db_X13_statement_326 C K)  s34 _ _ _ h hP hD hS (lv_sub hl [0] rfl)
set_option maxHeartbeats 40000000 in
set_option maxRecDepth 100000 in
theorem db_X13_statement_289 {p : Program} {l : Launch} {e : Env} {s : State} {m : MethodId} {args : Array Value} {below : List Frame} {meth : Method} {c : Code} {Q : State → Prop} {A : Nat → Prop} {dC : Nat → ClassId} {dI : Nat → Nat → Nat} {a : Nat → Nat} {ac : Nat → ClassId} {n : Nat} {r : St} (C : nd_C p l s m args c A (dC, dI) cX13_statement 8 RX13 ow_dm_X13_statement (dk_X13 ac)) (K : nd_Kv p l e (headSpec ow_dm_X13_statement ({ frames := 11, cells := 0, slots := 0, locals := 260 })).room s m args below meth c Q A (dC, dI) cX13_statement (St) (dw_X13 a ac) r) : dj_X13_statement_289 p l e s m args below meth c Q A dC dI a ac (df_X13_statement_289 n) r := by
  obtain ⟨hlt, hx, hb, hml, hown, hts, hN, hA, hK⟩ := id C
  intro x6 x7 s0 H locs ls h hP hD hS hl
  unfold df_X13_statement_289 at h
  refine lv_aload_n hx hb dX13_statement_289 rfl (lv_at hl 0 rfl) ?_
  refine lv_iload hx hb dX13_statement_290 (lv_at hl 1 rfl) ?_
  refine lv_iload hx hb dX13_statement_292 (lv_at hl 2 rfl) ?_
  obtain ⟨s39, hq, h⟩ := nd_b1_e h
  have hPc := hP
  have hDc := hD
  have hKc := hK
  have hFc := nd_rs hD hS hA
  refine nd_cVv (As := [.int x6, .int x7]) (rest := []) (w' := dw_X13 a ac s39) ⟨hx, hb, hml, hown, hts⟩ (fun sz => dm_X13_longs l hlt dC dI a ac n (x6) (x7) s0 hq sz) (cwV 2 hts gi_dm_X13_statement_6 rfl rfl rfl (by decide +kernel) ⟨Nat.le_of_ble_eq_true rfl, Nat.le_of_ble_eq_true rfl⟩) hPc hDc hKc hS hA hN (va_recv hKc hPc (ci := 14) (q0 := 0) rfl rfl) rfl hl.1 rfl (Nat.le_of_ble_eq_true rfl) dX13_statement_294 (fun H locs hP1 hD1 hk1 hS => ?_)
  have hP := hP1
  have hD := hD1.weaken (fun k q _ h => hFc q.1 h)
  refine lv_goto (tgt := 326) hx hb dX13_statement_297 (by decide) ?_
  exact (db_X13_statement_326 C K)  s39 _ _ _ h hP hD hS (lv_sub hl [0] rfl)
set_option maxHeartbeats 40000000 in
set_option maxRecDepth 100000 in
theorem db_X13_statement_275 {p : Program} {l : Launch} {e : Env} {s : State} {m : MethodId} {args : Array Value} {below : List Frame} {meth : Method} {c : Code} {Q : State → Prop} {A : Nat → Prop} {dC : Nat → ClassId} {dI : Nat → Nat → Nat} {a : Nat → Nat} {ac : Nat → ClassId} {n : Nat} {r : St} (C : nd_C p l s m args c A (dC, dI) cX13_statement 8 RX13 ow_dm_X13_statement (dk_X13 ac)) (K : nd_Kv p l e (headSpec ow_dm_X13_statement ({ frames := 11, cells := 0, slots := 0, locals := 260 })).room s m args below meth c Q A (dC, dI) cX13_statement (St) (dw_X13 a ac) r) : dj_X13_statement_275 p l e s m args below meth c Q A dC dI a ac (df_X13_statement_275 n) r := by
  obtain ⟨hlt, hx, hb, hml, hown, hts, hN, hA, hK⟩ := id C
  intro x6 x7 s0 H locs ls h hP hD hS hl
  unfold df_X13_statement_275 at h
  refine lv_iload hx hb dX13_statement_275 (lv_at hl 1 rfl) ?_
  refine lv_bipush (v := 12) hx hb dX13_statement_277 (by decide) ?_
  refine lv_icmp_lt (tgt := 289) hx hb dX13_statement_279 (by decide) (fun c37 => ?_) (fun c37 => ?_)
  · have h := nd_pos h c37
    exact (db_X13_statement_289 C K) (x6) (x7) s0 _ _ _ h hP hD hS (lv_sub hl [0, 1, 2] rfl)
  · have h := nd_neg h c37
    refine lv_iload hx hb dX13_statement_282 (lv_at hl 1 rfl) ?_
    refine lv_bipush (v := 30) hx hb dX13_statement_284 (by decide) ?_
    refine lv_icmp_ne (tgt := 300) hx hb dX13_statement_286 (by decide) (fun c41 => ?_) (fun c41 => ?_)
    · have h := nd_neg h c41
      refine lv_iload hx hb dX13_statement_300 (lv_at hl 1 rfl) ?_
      refine lv_bipush (v := 30) hx hb dX13_statement_302 (by decide) ?_
      refine lv_icmp_ge (tgt := 318) hx hb dX13_statement_304 (by decide) (fun c42 => ?_) (fun c42 => ?_)
      · have h := nd_pos h c42
        refine lv_aload_n hx hb dX13_statement_318 rfl (lv_at hl 0 rfl) ?_
        refine lv_iload hx hb dX13_statement_319 (lv_at hl 1 rfl) ?_
        refine lv_iload hx hb dX13_statement_321 (lv_at hl 2 rfl) ?_
        obtain ⟨s44, hq, h⟩ := nd_b1_e h
        have hPc := hP
        have hDc := hD
        have hKc := hK
        have hFc := nd_rs hD hS hA
        refine nd_cVv (As := [.int x6, .int x7]) (rest := []) (w' := dw_X13 a ac s44) ⟨hx, hb, hml, hown, hts⟩ (fun sz => dm_X13_others l hlt dC dI a ac n (x6) (x7) s0 hq sz) (cwV 2 hts gi_dm_X13_statement_7 rfl rfl rfl (by decide +kernel) ⟨Nat.le_of_ble_eq_true rfl, Nat.le_of_ble_eq_true rfl⟩) hPc hDc hKc hS hA hN (va_recv hKc hPc (ci := 14) (q0 := 0) rfl rfl) rfl hl.1 rfl (Nat.le_of_ble_eq_true rfl) dX13_statement_323 (fun H locs hP1 hD1 hk1 hS => ?_)
        have hP := hP1
        have hD := hD1.weaken (fun k q _ h => hFc q.1 h)
        exact (db_X13_statement_326 C K)  s44 _ _ _ h hP hD hS (lv_sub hl [0] rfl)
      · have h := nd_neg h c42
        refine lv_aload_n hx hb dX13_statement_307 rfl (lv_at hl 0 rfl) ?_
        refine lv_iload hx hb dX13_statement_308 (lv_at hl 1 rfl) ?_
        refine lv_iload hx hb dX13_statement_310 (lv_at hl 2 rfl) ?_
        obtain ⟨s47, hq, h⟩ := nd_b1_e h
        have hPc := hP
        have hDc := hD
        have hKc := hK
        have hFc := nd_rs hD hS hA
        refine nd_cVv (As := [.int x6, .int x7]) (rest := []) (w' := dw_X13 a ac s47) ⟨hx, hb, hml, hown, hts⟩ (fun sz => dm_X13_shorts l hlt dC dI a ac n (x6) (x7) s0 hq sz) (cwV 2 hts gi_dm_X13_statement_8 rfl rfl rfl (by decide +kernel) ⟨Nat.le_of_ble_eq_true rfl, Nat.le_of_ble_eq_true rfl⟩) hPc hDc hKc hS hA hN (va_recv hKc hPc (ci := 14) (q0 := 0) rfl rfl) rfl hl.1 rfl (Nat.le_of_ble_eq_true rfl) dX13_statement_312 (fun H locs hP1 hD1 hk1 hS => ?_)
        have hP := hP1
        have hD := hD1.weaken (fun k q _ h => hFc q.1 h)
        refine lv_goto (tgt := 326) hx hb dX13_statement_315 (by decide) ?_
        exact (db_X13_statement_326 C K)  s47 _ _ _ h hP hD hS (lv_sub hl [0] rfl)
    · have h := nd_pos h c41
      exact (db_X13_statement_289 C K) (x6) (x7) s0 _ _ _ h hP hD hS (lv_sub hl [0, 1, 2] rfl)
set_option maxHeartbeats 40000000 in
set_option maxRecDepth 100000 in
theorem db_X13_statement_136 {p : Program} {l : Launch} {e : Env} {s : State} {m : MethodId} {args : Array Value} {below : List Frame} {meth : Method} {c : Code} {Q : State → Prop} {A : Nat → Prop} {dC : Nat → ClassId} {dI : Nat → Nat → Nat} {a : Nat → Nat} {ac : Nat → ClassId} {n : Nat} {r : St} (C : nd_C p l s m args c A (dC, dI) cX13_statement 8 RX13 ow_dm_X13_statement (dk_X13 ac)) (K : nd_Kv p l e (headSpec ow_dm_X13_statement ({ frames := 11, cells := 0, slots := 0, locals := 260 })).room s m args below meth c Q A (dC, dI) cX13_statement (St) (dw_X13 a ac) r) : dj_X13_statement_136 p l e s m args below meth c Q A dC dI a ac (df_X13_statement_136 n) r := by
  obtain ⟨hlt, hx, hb, hml, hown, hts, hN, hA, hK⟩ := id C
  intro x4 x5 s0 H locs ls h hP hD hS hl
  unfold df_X13_statement_136 at h
  refine lv_iload hx hb dX13_statement_136 (lv_at hl 1 rfl) ?_
  refine lv_if_ge (tgt := 147) hx hb dX13_statement_138 (by decide) (fun c14 => ?_) (fun c14 => ?_)
  · have h := nd_pos h c14
    refine lv_aload_n hx hb dX13_statement_147 rfl (lv_at hl 0 rfl) ?_
    refine va_get (D := (dC, dI)) (ci := 14) (v := .ref (a 2)) (C := RX13) (T := TX13) (N := 37) hx hb hts hi_dm_X13_statement_X13 hown hK hP 0 rfl rfl 1 (by decide) (hts (.fieldLink RX13 269 "TimeMachineModel$Assembler" "shapes" "[B") (List.mem_of_getElem? (i := 16) rfl)) (fun _ h9 => h9) rfl dX13_statement_148 ?_
    refine lv_iload hx hb dX13_statement_151 (lv_at hl 1 rfl) ?_
    obtain ⟨i15, h⟩ := nd_ck_e h
    refine va_bald (i := x4) hx hb hK hP 2 1 rfl rfl i15 dX13_statement_153 ?_
    refine lv_topi (fun z16 ez16 => ?_)
    have h := nd_at h ez16
    refine lv_istore (lv' := [(6, .int z16), (0, .ref (a 0)), (4, .int x4), (5, .int x5)]) hx hb dX13_statement_154 hl (by decide) rfl (fun ls hl => ?_)
    refine lv_aload_n hx hb dX13_statement_156 rfl (lv_at hl 1 rfl) ?_
    refine va_get (D := (dC, dI)) (ci := 14) (v := .ref (a 3)) (C := RX13) (T := TX13) (N := 37) hx hb hts hi_dm_X13_statement_X13 hown hK hP 0 rfl rfl 2 (by decide) (hts (.fieldLink RX13 319 "TimeMachineModel$Assembler" "patterns" "[I") (List.mem_of_getElem? (i := 17) rfl)) (fun _ h9 => h9) rfl dX13_statement_157 ?_
    refine lv_iload hx hb dX13_statement_160 (lv_at hl 2 rfl) ?_
    obtain ⟨i17, h⟩ := nd_ck_e h
    refine va_iald (i := x4) hx hb hK hP 3 2 rfl rfl i17 dX13_statement_162 ?_
    refine lv_iload hx hb dX13_statement_163 (lv_at hl 3 rfl) ?_
    refine lv_ior hx hb dX13_statement_165 ?_
    refine lv_topi (fun z18 ez18 => ?_)
    have h := nd_at h ez18
    refine lv_istore (lv' := [(7, .int z18), (6, .int z16), (0, .ref (a 0)), (4, .int x4), (5, .int x5)]) hx hb dX13_statement_166 hl (by decide) rfl (fun ls hl => ?_)
    refine lv_iload hx hb dX13_statement_168 (lv_at hl 1 rfl) ?_
    refine lv_bipush (v := 39) hx hb dX13_statement_170 (by decide) ?_
    refine lv_icmp_le (tgt := 186) hx hb dX13_statement_172 (by decide) (fun c19 => ?_) (fun c19 => ?_)
    · have h := nd_pos h c19
      refine lv_iload hx hb dX13_statement_186 (lv_at hl 1 rfl) ?_
      refine lv_bipush (v := 12) hx hb dX13_statement_188 (by decide) ?_
      refine lv_icmp_ne (tgt := 202) hx hb dX13_statement_190 (by decide) (fun c20 => ?_) (fun c20 => ?_)
      · have h := nd_neg h c20
        refine lv_iload hx hb dX13_statement_202 (lv_at hl 1 rfl) ?_
        refine lv_bipush (v := 16) hx hb dX13_statement_204 (by decide) ?_
        refine lv_icmp_ne (tgt := 218) hx hb dX13_statement_206 (by decide) (fun c21 => ?_) (fun c21 => ?_)
        · have h := nd_neg h c21
          refine lv_iload hx hb dX13_statement_218 (lv_at hl 1 rfl) ?_
          refine lv_bipush (v := 8) hx hb dX13_statement_220 (by decide) ?_
          refine lv_icmp_eq (tgt := 232) hx hb dX13_statement_222 (by decide) (fun c22 => ?_) (fun c22 => ?_)
          · have h := nd_pos h c22
            exact (db_X13_statement_232 C K) (z16) (z18) s0 _ _ _ h hP hD hS (lv_sub hl [2, 1, 0] rfl)
          · have h := nd_neg h c22
            refine lv_iload hx hb dX13_statement_225 (lv_at hl 1 rfl) ?_
            refine lv_bipush (v := 34) hx hb dX13_statement_227 (by decide) ?_
            refine lv_icmp_ne (tgt := 243) hx hb dX13_statement_229 (by decide) (fun c31 => ?_) (fun c31 => ?_)
            · have h := nd_neg h c31
              refine lv_iload hx hb dX13_statement_243 (lv_at hl 1 rfl) ?_
              refine lv_bipush (v := 7) hx hb dX13_statement_245 (by decide) ?_
              refine lv_icmp_eq (tgt := 264) hx hb dX13_statement_247 (by decide) (fun c32 => ?_) (fun c32 => ?_)
              · have h := nd_pos h c32
                exact (db_X13_statement_264 C K) (z16) (z18) s0 _ _ _ h hP hD hS (lv_sub hl [2, 1, 0] rfl)
              · have h := nd_neg h c32
                refine lv_iload hx hb dX13_statement_250 (lv_at hl 1 rfl) ?_
                refine lv_bipush (v := 34) hx hb dX13_statement_252 (by decide) ?_
                refine lv_icmp_le (tgt := 275) hx hb dX13_statement_254 (by decide) (fun c36 => ?_) (fun c36 => ?_)
                · have h := nd_pos h c36
                  exact (db_X13_statement_275 C K) (z16) (z18) s0 _ _ _ h hP hD hS (lv_sub hl [2, 1, 0] rfl)
                · have h := nd_neg h c36
                  refine lv_iload hx hb dX13_statement_257 (lv_at hl 1 rfl) ?_
                  refine lv_bipush (v := 38) hx hb dX13_statement_259 (by decide) ?_
                  refine lv_icmp_ge (tgt := 275) hx hb dX13_statement_261 (by decide) (fun c49 => ?_) (fun c49 => ?_)
                  · have h := nd_pos h c49
                    exact (db_X13_statement_275 C K) (z16) (z18) s0 _ _ _ h hP hD hS (lv_sub hl [2, 1, 0] rfl)
                  · have h := nd_neg h c49
                    exact (db_X13_statement_264 C K) (z16) (z18) s0 _ _ _ h hP hD hS (lv_sub hl [2, 1, 0] rfl)
            · have h := nd_pos h c31
              exact (db_X13_statement_232 C K) (z16) (z18) s0 _ _ _ h hP hD hS (lv_sub hl [2, 1, 0] rfl)
        · have h := nd_pos h c21
          refine lv_aload_n hx hb dX13_statement_209 rfl (lv_at hl 2 rfl) ?_
          refine lv_iload hx hb dX13_statement_210 (lv_at hl 0 rfl) ?_
          obtain ⟨s51, hq, h⟩ := nd_b1_e h
          have hPc := hP
          have hDc := hD
          have hKc := hK
          have hFc := nd_rs hD hS hA
          refine nd_cVv (As := [.int z18]) (rest := []) (w' := dw_X13 a ac s51) ⟨hx, hb, hml, hown, hts⟩ (fun sz => dm_X13_half l hlt dC dI a ac n (z18) s0 hq sz) (cwV 1 hts gi_dm_X13_statement_9 rfl rfl rfl (by decide +kernel) ⟨Nat.le_of_ble_eq_true rfl, Nat.le_of_ble_eq_true rfl⟩) hPc hDc hKc hS hA hN (va_recv hKc hPc (ci := 14) (q0 := 0) rfl rfl) rfl hl.1 rfl (Nat.le_of_ble_eq_true rfl) dX13_statement_212 (fun H locs hP1 hD1 hk1 hS => ?_)
          have hP := hP1
          have hD := hD1.weaken (fun k q _ h => hFc q.1 h)
          refine lv_goto (tgt := 326) hx hb dX13_statement_215 (by decide) ?_
          exact (db_X13_statement_326 C K)  s51 _ _ _ h hP hD hS (lv_sub hl [2] rfl)
      · have h := nd_pos h c20
        refine lv_aload_n hx hb dX13_statement_193 rfl (lv_at hl 2 rfl) ?_
        refine lv_iload hx hb dX13_statement_194 (lv_at hl 0 rfl) ?_
        obtain ⟨s54, hq, h⟩ := nd_b1_e h
        have hPc := hP
        have hDc := hD
        have hKc := hK
        have hFc := nd_rs hD hS hA
        refine nd_cVv (As := [.int z18]) (rest := []) (w' := dw_X13 a ac s54) ⟨hx, hb, hml, hown, hts⟩ (fun sz => dm_X13_word l hlt dC dI a ac n (z18) s0 hq sz) (cwV 1 hts gi_dm_X13_statement_10 rfl rfl rfl (by decide +kernel) ⟨Nat.le_of_ble_eq_true rfl, Nat.le_of_ble_eq_true rfl⟩) hPc hDc hKc hS hA hN (va_recv hKc hPc (ci := 14) (q0 := 0) rfl rfl) rfl hl.1 rfl (Nat.le_of_ble_eq_true rfl) dX13_statement_196 (fun H locs hP1 hD1 hk1 hS => ?_)
        have hP := hP1
        have hD := hD1.weaken (fun k q _ h => hFc q.1 h)
        refine lv_goto (tgt := 326) hx hb dX13_statement_199 (by decide) ?_
        exact (db_X13_statement_326 C K)  s54 _ _ _ h hP hD hS (lv_sub hl [2] rfl)
    · have h := nd_neg h c19
      refine lv_aload_n hx hb dX13_statement_175 rfl (lv_at hl 2 rfl) ?_
      refine lv_iload hx hb dX13_statement_176 (lv_at hl 1 rfl) ?_
      refine lv_iload hx hb dX13_statement_178 (lv_at hl 0 rfl) ?_
      obtain ⟨s57, hq, h⟩ := nd_b1_e h
      have hPc := hP
      have hDc := hD
      have hKc := hK
      have hFc := nd_rs hD hS hA
      refine nd_cVv (As := [.int z16, .int z18]) (rest := []) (w' := dw_X13 a ac s57) ⟨hx, hb, hml, hown, hts⟩ (fun sz => dm_X13_directive l hlt dC dI a ac n (z16) (z18) s0 hq sz) (cwV 2 hts gi_dm_X13_statement_11 rfl rfl rfl (by decide +kernel) ⟨Nat.le_of_ble_eq_true rfl, Nat.le_of_ble_eq_true rfl⟩) hPc hDc hKc hS hA hN (va_recv hKc hPc (ci := 14) (q0 := 0) rfl rfl) rfl hl.1 rfl (Nat.le_of_ble_eq_true rfl) dX13_statement_180 (fun H locs hP1 hD1 hk1 hS => ?_)
      have hP := hP1
      have hD := hD1.weaken (fun k q _ h => hFc q.1 h)
      refine lv_goto (tgt := 326) hx hb dX13_statement_183 (by decide) ?_
      exact (db_X13_statement_326 C K)  s57 _ _ _ h hP hD hS (lv_sub hl [2] rfl)
  · have h := nd_neg h c14
    refine lv_aload_n hx hb dX13_statement_141 rfl (lv_at hl 0 rfl) ?_
    refine lv_iconst (v := 2) hx hb dX13_statement_142 (by decide) ?_
    obtain ⟨s60, hq, h⟩ := nd_b1_e h
    have hPc := hP
    have hDc := hD
    have hKc := hK
    have hFc := nd_rs hD hS hA
    refine nd_cVv (As := [.int 2]) (rest := []) (w' := dw_X13 a ac s60) ⟨hx, hb, hml, hown, hts⟩ (fun sz => dm_X13_blame l hlt dC dI a ac n (2) s0 hq sz) (cwV 1 hts gi_dm_X13_statement_12 rfl rfl rfl (by decide +kernel) ⟨Nat.le_of_ble_eq_true rfl, Nat.le_of_ble_eq_true rfl⟩) hPc hDc hKc hS hA hN (va_recv hKc hPc (ci := 14) (q0 := 0) rfl rfl) rfl hl.1 rfl (Nat.le_of_ble_eq_true rfl) dX13_statement_143 (fun H locs hP1 hD1 hk1 hS => ?_)
    have hP := hP1
    have hD := hD1.weaken (fun k q _ h => hFc q.1 h)
    exact K _ _ _ _ _ dX13_statement_146 (Option.some.inj h).symm hP hD hS
set_option maxHeartbeats 40000000 in
set_option maxRecDepth 100000 in
theorem db_X13_statement_102 {p : Program} {l : Launch} {e : Env} {s : State} {m : MethodId} {args : Array Value} {below : List Frame} {meth : Method} {c : Code} {Q : State → Prop} {A : Nat → Prop} {dC : Nat → ClassId} {dI : Nat → Nat → Nat} {a : Nat → Nat} {ac : Nat → ClassId} {n : Nat} {r : St} (C : nd_C p l s m args c A (dC, dI) cX13_statement 8 RX13 ow_dm_X13_statement (dk_X13 ac)) (K : nd_Kv p l e (headSpec ow_dm_X13_statement ({ frames := 11, cells := 0, slots := 0, locals := 260 })).room s m args below meth c Q A (dC, dI) cX13_statement (St) (dw_X13 a ac) r) : dj_X13_statement_102 p l e s m args below meth c Q A dC dI a ac (df_X13_statement_102 n) r := by
  obtain ⟨hlt, hx, hb, hml, hown, hts, hN, hA, hK⟩ := id C
  intro x4 y0 s0 H locs ls h hP hD hS hl
  unfold df_X13_statement_102 at h
  refine lv_istore (lv' := [(5, .int y0), (0, .ref (a 0)), (4, .int x4)]) hx hb dX13_statement_102 hl (by decide) rfl (fun ls hl => ?_)
  refine lv_iload hx hb dX13_statement_104 (lv_at hl 2 rfl) ?_
  refine lv_if_lt (tgt := 136) hx hb dX13_statement_106 (by decide) (fun c69 => ?_) (fun c69 => ?_)
  · have h := nd_pos h c69
    exact (db_X13_statement_136 C K) (x4) (y0) s0 _ _ _ h hP hD hS (lv_sub hl [1, 2, 0] rfl)
  · have h := nd_neg h c69
    refine lv_aload_n hx hb dX13_statement_109 rfl (lv_at hl 1 rfl) ?_
    refine va_get (D := (dC, dI)) (ci := 14) (v := .ref (a 2)) (C := RX13) (T := TX13) (N := 37) hx hb hts hi_dm_X13_statement_X13 hown hK hP 0 rfl rfl 1 (by decide) (hts (.fieldLink RX13 269 "TimeMachineModel$Assembler" "shapes" "[B") (List.mem_of_getElem? (i := 16) rfl)) (fun _ h9 => h9) rfl dX13_statement_110 ?_
    refine lv_iload hx hb dX13_statement_113 (lv_at hl 2 rfl) ?_
    obtain ⟨i70, h⟩ := nd_ck_e h
    refine va_bald (i := x4) hx hb hK hP 2 1 rfl rfl i70 dX13_statement_115 ?_
    refine lv_bipush (v := 9) hx hb dX13_statement_116 (by decide) ?_
    refine lv_icmp_eq (tgt := 136) hx hb dX13_statement_118 (by decide) (fun c71 => ?_) (fun c71 => ?_)
    · have h := nd_pos h c71
      exact (db_X13_statement_136 C K) (x4) (y0) s0 _ _ _ h hP hD hS (lv_sub hl [1, 2, 0] rfl)
    · have h := nd_neg h c71
      refine lv_aload_n hx hb dX13_statement_121 rfl (lv_at hl 1 rfl) ?_
      refine va_get (D := (dC, dI)) (ci := 14) (v := .ref (a 2)) (C := RX13) (T := TX13) (N := 37) hx hb hts hi_dm_X13_statement_X13 hown hK hP 0 rfl rfl 1 (by decide) (hts (.fieldLink RX13 269 "TimeMachineModel$Assembler" "shapes" "[B") (List.mem_of_getElem? (i := 16) rfl)) (fun _ h9 => h9) rfl dX13_statement_122 ?_
      refine lv_iload hx hb dX13_statement_125 (lv_at hl 2 rfl) ?_
      obtain ⟨i72, h⟩ := nd_ck_e h
      refine va_bald (i := x4) hx hb hK hP 2 1 rfl rfl i72 dX13_statement_127 ?_
      refine lv_bipush (v := 10) hx hb dX13_statement_128 (by decide) ?_
      refine lv_icmp_eq (tgt := 136) hx hb dX13_statement_130 (by decide) (fun c73 => ?_) (fun c73 => ?_)
      · have h := nd_pos h c73
        exact (db_X13_statement_136 C K) (x4) (y0) s0 _ _ _ h hP hD hS (lv_sub hl [1, 2, 0] rfl)
      · have h := nd_neg h c73
        refine lv_iconst (v := (-1)) hx hb dX13_statement_133 (by decide) ?_
        refine lv_istore (lv' := [(4, .int (-1)), (5, .int y0), (0, .ref (a 0))]) hx hb dX13_statement_134 hl (by decide) rfl (fun ls hl => ?_)
        exact (db_X13_statement_136 C K) ((-1)) (y0) s0 _ _ _ h hP hD hS (lv_sub hl [2, 0, 1] rfl)
set_option maxHeartbeats 40000000 in
set_option maxRecDepth 100000 in
theorem db_X13_statement_0 {p : Program} {l : Launch} {e : Env} {s : State} {m : MethodId} {args : Array Value} {below : List Frame} {meth : Method} {c : Code} {Q : State → Prop} {A : Nat → Prop} {dC : Nat → ClassId} {dI : Nat → Nat → Nat} {a : Nat → Nat} {ac : Nat → ClassId} {n : Nat} {r : St} (C : nd_C p l s m args c A (dC, dI) cX13_statement 8 RX13 ow_dm_X13_statement (dk_X13 ac)) (K : nd_Kv p l e (headSpec ow_dm_X13_statement ({ frames := 11, cells := 0, slots := 0, locals := 260 })).room s m args below meth c Q A (dC, dI) cX13_statement (St) (dw_X13 a ac) r) : dj_X13_statement_0 p l e s m args below meth c Q A dC dI a ac (df_X13_statement_0 n) r := by
  obtain ⟨hlt, hx, hb, hml, hown, hts, hN, hA, hK⟩ := id C
  intro v0 v1 s0 H locs ls h hP hD hS hl
  unfold df_X13_statement_0 at h
  refine lv_aload_n hx hb dX13_statement_0 rfl (lv_at hl 0 rfl) ?_
  refine lv_iload_n hx hb dX13_statement_1 rfl (lv_at hl 2 rfl) ?_
  refine va_put (D := (dC, dI)) (ci := 14) (v := .int v1) (ty := .int) (C := RX13) (T := TX13) (N := 37) hx hb hts hi_dm_X13_statement_X13 tyX13 tyX13_ok nmX13 hown hK hP hD hS 0 rfl rfl 24 (by decide) (hts (.fieldLink RX13 522 "TimeMachineModel$Assembler" "mode" "I") (List.mem_of_getElem? (i := 1) rfl)) (fun _ h9 => h9) rfl (by decide +kernel) rfl rfl (Nat.le_of_ble_eq_true rfl) dX13_statement_2 (fun H locs hP hD hS => ?_)
  obtain ⟨s1, es1, h⟩ := nd_let_e h
  have hP : va_P (dC, dI) vwCl (dw_X13 a ac s1) H := by rw [es1]; exact hP
  have hD : va_D A (dw_X13 a ac s1) := by rw [es1]; exact hD
  refine lv_aload_n hx hb dX13_statement_5 rfl (lv_at hl 0 rfl) ?_
  refine lv_iload_n hx hb dX13_statement_6 rfl (lv_at hl 1 rfl) ?_
  refine va_put (D := (dC, dI)) (ci := 14) (v := .int v0) (ty := .int) (C := RX13) (T := TX13) (N := 37) hx hb hts hi_dm_X13_statement_X13 tyX13 tyX13_ok nmX13 hown hK hP hD hS 0 rfl rfl 16 (by decide) (hts (.fieldLink RX13 374 "TimeMachineModel$Assembler" "at" "I") (List.mem_of_getElem? (i := 2) rfl)) (fun _ h9 => h9) rfl (by decide +kernel) rfl rfl (Nat.le_of_ble_eq_true rfl) dX13_statement_7 (fun H locs hP hD hS => ?_)
  obtain ⟨s2, es2, h⟩ := nd_let_e h
  have hP : va_P (dC, dI) vwCl (dw_X13 a ac s2) H := by rw [es2]; exact hP
  have hD : va_D A (dw_X13 a ac s2) := by rw [es2]; exact hD
  refine lv_aload_n hx hb dX13_statement_10 rfl (lv_at hl 0 rfl) ?_
  refine lv_iconst (v := 0) hx hb dX13_statement_11 (by decide) ?_
  refine va_put (D := (dC, dI)) (ci := 14) (v := .int 0) (ty := .int) (C := RX13) (T := TX13) (N := 37) hx hb hts hi_dm_X13_statement_X13 tyX13 tyX13_ok nmX13 hown hK hP hD hS 0 rfl rfl 27 (by decide) (hts (.fieldLink RX13 541 "TimeMachineModel$Assembler" "count" "I") (List.mem_of_getElem? (i := 3) rfl)) (fun _ h9 => h9) rfl (by decide +kernel) rfl rfl (Nat.le_of_ble_eq_true rfl) dX13_statement_12 (fun H locs hP hD hS => ?_)
  obtain ⟨s3, es3, h⟩ := nd_let_e h
  have hP : va_P (dC, dI) vwCl (dw_X13 a ac s3) H := by rw [es3]; exact hP
  have hD : va_D A (dw_X13 a ac s3) := by rw [es3]; exact hD
  refine lv_aload_n hx hb dX13_statement_15 rfl (lv_at hl 0 rfl) ?_
  obtain ⟨s5, hq, h⟩ := nd_b1_e h
  have hPc := hP
  have hDc := hD
  have hKc := hK
  have hFc := nd_rs hD hS hA
  refine nd_cVv (As := []) (rest := []) (w' := dw_X13 a ac s5) ⟨hx, hb, hml, hown, hts⟩ (fun sz => dm_X13_scan l hlt dC dI a ac n  s3 hq sz) (cwV 0 hts gi_dm_X13_statement_0 rfl rfl rfl (by decide +kernel) ⟨Nat.le_of_ble_eq_true rfl, Nat.le_of_ble_eq_true rfl⟩) hPc hDc hKc hS hA hN (va_recv hKc hPc (ci := 14) (q0 := 0) rfl rfl) rfl hl.1 rfl (Nat.le_of_ble_eq_true rfl) dX13_statement_16 (fun H locs hP1 hD1 hk1 hS => ?_)
  have hP := hP1
  have hD := hD1.weaken (fun k q _ h => hFc q.1 h)
  refine lv_aload_n hx hb dX13_statement_19 rfl (lv_at hl 0 rfl) ?_
  obtain ⟨q7, s8, hq, h⟩ := nd_b2_e h
  have hPc := hP
  have hDc := hD
  have hKc := hK
  have hFc := nd_rs hD hS hA
  refine nd_cVi (As := []) (rest := []) (q := q7) (w' := dw_X13 a ac s8) ⟨hx, hb, hml, hown, hts⟩ (fun sz => dm_X13_suffix l hlt dC dI a ac n  s5 hq sz) (cwV 0 hts gi_dm_X13_statement_1 rfl rfl rfl (by decide +kernel) ⟨Nat.le_of_ble_eq_true rfl, Nat.le_of_ble_eq_true rfl⟩) hPc hDc hKc hS hA hN (va_recv hKc hPc (ci := 14) (q0 := 0) rfl rfl) rfl hl.1 rfl (Nat.le_of_ble_eq_true rfl) dX13_statement_20 (fun H locs hP1 hD1 hk1 hS => ?_)
  have hP := hP1
  have hD := hD1.weaken (fun k q _ h => hFc q.1 h)
  refine lv_istore_n (lv' := [(3, .int q7), (0, .ref (a 0)), (1, .int v0), (2, .int v1)]) hx hb dX13_statement_23 rfl hl (by decide) rfl (fun ls hl => ?_)
  refine lv_aload_n hx hb dX13_statement_24 rfl (lv_at hl 1 rfl) ?_
  refine lv_aload_n hx hb dX13_statement_25 rfl (lv_at hl 1 rfl) ?_
  refine va_get (D := (dC, dI)) (ci := 14) (v := .int (sI s8 9)) (C := RX13) (T := TX13) (N := 37) hx hb hts hi_dm_X13_statement_X13 hown hK hP 0 rfl rfl 18 (by decide) (hts (.fieldLink RX13 368 "TimeMachineModel$Assembler" "from" "I") (List.mem_of_getElem? (i := 11) rfl)) (fun _ h9 => h9) rfl dX13_statement_26 ?_
  refine lv_aload_n hx hb dX13_statement_29 rfl (lv_at hl 1 rfl) ?_
  refine va_get (D := (dC, dI)) (ci := 14) (v := .int (sI s8 10)) (C := RX13) (T := TX13) (N := 37) hx hb hts hi_dm_X13_statement_X13 hown hK hP 0 rfl rfl 19 (by decide) (hts (.fieldLink RX13 371 "TimeMachineModel$Assembler" "to" "I") (List.mem_of_getElem? (i := 12) rfl)) (fun _ h9 => h9) rfl dX13_statement_30 ?_
  obtain ⟨q10, s11, hq, h⟩ := nd_b2_e h
  have hPc := hP
  have hDc := hD
  have hKc := hK
  have hFc := nd_rs hD hS hA
  refine nd_cVi (As := [.int (sI s8 9), .int (sI s8 10)]) (rest := []) (q := q10) (w' := dw_X13 a ac s11) ⟨hx, hb, hml, hown, hts⟩ (fun sz => dm_X13_named l hlt dC dI a ac n ((sI s8 9)) ((sI s8 10)) s8 hq sz) (cwV 2 hts gi_dm_X13_statement_2 rfl rfl rfl (by decide +kernel) ⟨Nat.le_of_ble_eq_true rfl, Nat.le_of_ble_eq_true rfl⟩) hPc hDc hKc hS hA hN (va_recv hKc hPc (ci := 14) (q0 := 0) rfl rfl) rfl hl.1 rfl (Nat.le_of_ble_eq_true rfl) dX13_statement_33 (fun H locs hP1 hD1 hk1 hS => ?_)
  have hP := hP1
  have hD := hD1.weaken (fun k q _ h => hFc q.1 h)
  refine lv_istore (lv' := [(4, .int q10), (3, .int q7), (0, .ref (a 0)), (1, .int v0), (2, .int v1)]) hx hb dX13_statement_36 hl (by decide) rfl (fun ls hl => ?_)
  refine lv_iconst (v := 0) hx hb dX13_statement_38 (by decide) ?_
  refine lv_istore (lv' := [(5, .int 0), (4, .int q10), (3, .int q7), (0, .ref (a 0)), (1, .int v0), (2, .int v1)]) hx hb dX13_statement_39 hl (by decide) rfl (fun ls hl => ?_)
  refine lv_iload hx hb dX13_statement_41 (lv_at hl 1 rfl) ?_
  refine lv_if_ge (tgt := 136) hx hb dX13_statement_43 (by decide) (fun c13 => ?_) (fun c13 => ?_)
  · have h := nd_pos h c13
    exact (db_X13_statement_136 C K) (q10) (0) s11 _ _ _ h hP hD hS (lv_sub hl [3, 1, 0] rfl)
  · have h := nd_neg h c13
    refine lv_iload_n hx hb dX13_statement_46 rfl (lv_at hl 2 rfl) ?_
    refine lv_if_le (tgt := 136) hx hb dX13_statement_47 (by decide) (fun c62 => ?_) (fun c62 => ?_)
    · have h := nd_pos h c62
      exact (db_X13_statement_136 C K) (q10) (0) s11 _ _ _ h hP hD hS (lv_sub hl [3, 1, 0] rfl)
    · have h := nd_neg h c62
      refine lv_aload_n hx hb dX13_statement_50 rfl (lv_at hl 3 rfl) ?_
      refine lv_aload_n hx hb dX13_statement_51 rfl (lv_at hl 3 rfl) ?_
      refine va_get (D := (dC, dI)) (ci := 14) (v := .int (sI s11 9)) (C := RX13) (T := TX13) (N := 37) hx hb hts hi_dm_X13_statement_X13 hown hK hP 0 rfl rfl 18 (by decide) (hts (.fieldLink RX13 368 "TimeMachineModel$Assembler" "from" "I") (List.mem_of_getElem? (i := 11) rfl)) (fun _ h9 => h9) rfl dX13_statement_52 ?_
      refine lv_aload_n hx hb dX13_statement_55 rfl (lv_at hl 3 rfl) ?_
      refine va_get (D := (dC, dI)) (ci := 14) (v := .int (sI s11 10)) (C := RX13) (T := TX13) (N := 37) hx hb hts hi_dm_X13_statement_X13 hown hK hP 0 rfl rfl 19 (by decide) (hts (.fieldLink RX13 371 "TimeMachineModel$Assembler" "to" "I") (List.mem_of_getElem? (i := 12) rfl)) (fun _ h9 => h9) rfl dX13_statement_56 ?_
      refine lv_iload_n hx hb dX13_statement_59 rfl (lv_at hl 2 rfl) ?_
      refine lv_isub hx hb dX13_statement_60 ?_
      obtain ⟨q63, s64, hq, h⟩ := nd_b2_e h
      have hPc := hP
      have hDc := hD
      have hKc := hK
      have hFc := nd_rs hD hS hA
      refine nd_cVi (As := [.int (sI s11 9), .int ((sI s11 10) - q7)]) (rest := []) (q := q63) (w' := dw_X13 a ac s64) ⟨hx, hb, hml, hown, hts⟩ (fun sz => dm_X13_named l hlt dC dI a ac n ((sI s11 9)) (((sI s11 10) - q7)) s11 hq sz) (cwV 2 hts gi_dm_X13_statement_2 rfl rfl rfl (by decide +kernel) ⟨Nat.le_of_ble_eq_true rfl, Nat.le_of_ble_eq_true rfl⟩) hPc hDc hKc hS hA hN (va_recv hKc hPc (ci := 14) (q0 := 0) rfl rfl) rfl hl.1 rfl (Nat.le_of_ble_eq_true rfl) dX13_statement_61 (fun H locs hP1 hD1 hk1 hS => ?_)
      have hP := hP1
      have hD := hD1.weaken (fun k q _ h => hFc q.1 h)
      refine lv_istore (lv' := [(4, .int q63), (5, .int 0), (3, .int q7), (0, .ref (a 0)), (1, .int v0), (2, .int v1)]) hx hb dX13_statement_64 hl (by decide) rfl (fun ls hl => ?_)
      refine lv_iload_n hx hb dX13_statement_66 rfl (lv_at hl 2 rfl) ?_
      refine lv_iconst (v := 5) hx hb dX13_statement_67 (by decide) ?_
      refine lv_icmp_ne (tgt := 77) hx hb dX13_statement_68 (by decide) (fun c66 => ?_) (fun c66 => ?_)
      · have h := nd_neg h c66
        refine lv_aload_n hx hb dX13_statement_77 rfl (lv_at hl 3 rfl) ?_
        refine va_get (D := (dC, dI)) (ci := 14) (v := .ref (a 4)) (C := RX13) (T := TX13) (N := 37) hx hb hts hi_dm_X13_statement_X13 hown hK hP 0 rfl rfl 3 (by decide) (hts (.fieldLink RX13 324 "TimeMachineModel$Assembler" "text" "[C") (List.mem_of_getElem? (i := 49) rfl)) (fun _ h9 => h9) rfl dX13_statement_78 ?_
        refine lv_aload_n hx hb dX13_statement_81 rfl (lv_at hl 3 rfl) ?_
        refine va_get (D := (dC, dI)) (ci := 14) (v := .int (sI s64 10)) (C := RX13) (T := TX13) (N := 37) hx hb hts hi_dm_X13_statement_X13 hown hK hP 0 rfl rfl 19 (by decide) (hts (.fieldLink RX13 371 "TimeMachineModel$Assembler" "to" "I") (List.mem_of_getElem? (i := 12) rfl)) (fun _ h9 => h9) rfl dX13_statement_82 ?_
        refine lv_iconst (v := 1) hx hb dX13_statement_85 (by decide) ?_
        refine lv_isub hx hb dX13_statement_86 ?_
        obtain ⟨i67, h⟩ := nd_ck_e h
        refine va_cald (i := ((sI s64 10) - 1)) hx hb hK hP 4 3 rfl rfl i67 dX13_statement_87 ?_
        refine lv_bipush (v := 113) hx hb dX13_statement_88 (by decide) ?_
        refine lv_icmp_ne (tgt := 99) hx hb dX13_statement_90 (by decide) (fun c68 => ?_) (fun c68 => ?_)
        · have h := nd_neg h c68
          refine lv_ldcw hx hb hown (hts (.constant RX13 653 (33554432)) (List.mem_of_getElem? (i := 50) rfl)) dX13_statement_99 ?_
          exact (db_X13_statement_102 C K) (q63) (33554432) s64 _ _ _ h hP hD hS (lv_sub hl [3, 0] rfl)
        · have h := nd_pos h c68
          refine lv_ldcw hx hb hown (hts (.constant RX13 652 (67108864)) (List.mem_of_getElem? (i := 51) rfl)) dX13_statement_93 ?_
          refine lv_goto (tgt := 102) hx hb dX13_statement_96 (by decide) ?_
          exact (db_X13_statement_102 C K) (q63) (67108864) s64 _ _ _ h hP hD hS (lv_sub hl [3, 0] rfl)
      · have h := nd_pos h c66
        refine lv_ldcw hx hb hown (hts (.constant RX13 651 (100663296)) (List.mem_of_getElem? (i := 52) rfl)) dX13_statement_71 ?_
        refine lv_goto (tgt := 102) hx hb dX13_statement_74 (by decide) ?_
        exact (db_X13_statement_102 C K) (q63) (100663296) s64 _ _ _ h hP hD hS (lv_sub hl [3, 0] rfl)
set_option maxHeartbeats 40000000 in
set_option maxRecDepth 100000 in
theorem dm_X13_statement (l : Launch) (hlt : l.stackTraces = false) (dC : Nat → ClassId) (dI : Nat → Nat → Nat) (a : Nat → Nat) (ac : Nat → ClassId) (n : Nat) (v0 : Int32) (v1 : Int32) (s0 : St) {r : St} (h : df_X13_statement n v0 v1 s0 = some r) (sz : Nat) : Met l yX13_statement ow_dm_X13_statement ({ frames := 11, cells := 0, slots := 0, locals := 260 }) (va_Pc [.ref (a 0), .int v0, .int v1] (fun U => U.heap.size = sz ∧ va_P (dC, dI) vwCl (dw_X13 a ac s0) U.heap ∧ va_K (dC, dI) vwCl (dk_X13 ac) U ∧ va_D (fun _ => True) (dw_X13 a ac s0) ∧ nv_E dI (va_A (dw_X13 a ac s0) sz) U)) (va_Qv (fun _ => True) (fun (_ : Unit) t => va_P (dC, dI) vwCl (dw_X13 a ac r) t.heap ∧ va_K (dC, dI) vwCl (dk_X13 ac) t ∧ va_D (va_A (dw_X13 a ac s0) sz) (dw_X13 a ac r)) (va_A (dw_X13 a ac s0) sz)) 0 0 (va_A (dw_X13 a ac s0) sz) := by
  refine Met.ofW (cc := cX13_statement) (maxL := 8) (ret := none) (by decide) rfl ?_
  intro p e s m args below meth c s₁ B hml hv
  obtain ⟨rfl, hsz, hP, hK, hD0, hN⟩ := hv
  have hx := B.exec
  have hb := B.bytes
  have hr := B.returns
  have hts := atoms_spec (ws := ow_dm_X13_statement) B.pre
  have hown : s.vm.findClass RX13 = some m.cls := findClass_of_methodNamed B.named
  have hlocks := B.notSynchronized
  subst hsz
  have hD := hD0.self (sz := s.heap.size)
  generalize hAe : va_A (dw_X13 a ac s0) s.heap.size = A at hD hN ⊢
  have hA : ∀ q : Nat, s.heap.size ≤ q → A q := fun q h => by rw [← hAe]; exact Or.inr h
  have hl := lv_entry ([.ref (a 0), .int v0, .int v1]) (n := 8) (Nat.le_of_ble_eq_true rfl)
  rw [lg_entry_eq]
  generalize (lg_sl ([.ref (a 0), .int v0, .int v1]) ++ List.replicate (8 - (lg_sl ([.ref (a 0), .int v0, .int v1])).length) Slot.unset).toArray = ls at hl ⊢
  have hl : lv_has ls 8 [(0, .ref (a 0)), (1, .int v0), (2, .int v1)] := hl
  exact db_X13_statement_0 (dC := dC) (dI := dI) (a := a) (ac := ac) (n := n) (r := r) ⟨hlt, hx, hb, hml, hown, hts, hN, hA, hK⟩ (fun pc τ H locs ls d er hP hD hS => by subst er; exact W.vret hx hb hr (fun t ht hW => ⟨⟨(), rfl, trivial, by rw [ht]; exact hP, va_K.moved hW.alike hK, hD⟩, hS.F ht⟩) hS.2.2 d) v0 v1 s0 _ _ _ h hP hD va_S.rf (lv_sub hl [0, 1, 2] rfl)
def ow_dm_X13_labelled : List Cond := Cond.code yX13_labelled cX13_labelled 5 (some .boolean) :: ([Cond.fieldLink RX13 410 "TimeMachineModel$Assembler" "fault" "I", Cond.methodLink RX13 416 yX13_scan, Cond.instanceMethod yX13_scan, Cond.selects RX13 yX13_scan yX13_scan, Cond.initialized RX13, Cond.fieldLink RX13 368 "TimeMachineModel$Assembler" "from" "I", Cond.fieldLink RX13 371 "TimeMachineModel$Assembler" "to" "I", Cond.fieldLink RX13 365 "TimeMachineModel$Assembler" "token" "I", Cond.fieldLink RX13 634 "TimeMachineModel$Assembler" "section" "I", Cond.methodLink RX13 631 yX13_define, Cond.instanceMethod yX13_define, Cond.selects RX13 yX13_define yX13_define, Cond.methodLink RX13 477 yX13_register, Cond.instanceMethod yX13_register, Cond.selects RX13 yX13_register yX13_register, Cond.methodLink RX13 419 yX13_blame, Cond.instanceMethod yX13_blame, Cond.selects RX13 yX13_blame yX13_blame, Cond.methodLink RX13 480 yX13_find, Cond.instanceMethod yX13_find, Cond.selects RX13 yX13_find yX13_find, Cond.fieldLink RX13 374 "TimeMachineModel$Assembler" "at" "I"] ++ (u_ws RX13 TX13 37 ++ (ow_dm_X13_scan ++ (ow_dm_X13_define ++ (ow_dm_X13_register ++ (ow_dm_X13_blame ++ (ow_dm_X13_find ++ [])))))))
theorem gd_dm_X13_labelled : ∀ w ∈ ow_dm_X13_labelled, (w.onTables && w.keeps) = true ∨ ∃ ty, w = Cond.arrayClass ty := List.forall_mem_cons.mpr ⟨good_of_word rfl, List.forall_mem_append.mpr ⟨fun w h => good_of_word (List.all_eq_true.mp (by decide +kernel) w h), List.forall_mem_append.mpr ⟨gu_X13, List.forall_mem_append.mpr ⟨gd_dm_X13_scan, List.forall_mem_append.mpr ⟨gd_dm_X13_define, List.forall_mem_append.mpr ⟨gd_dm_X13_register, List.forall_mem_append.mpr ⟨gd_dm_X13_blame, List.forall_mem_append.mpr ⟨gd_dm_X13_find, fun _ h => nomatch h⟩⟩⟩⟩⟩⟩⟩⟩
theorem hi_dm_X13_labelled_X13 : ∀ w ∈ u_ws RX13 TX13 37, w ∈ ow_dm_X13_labelled := fun w h => List.mem_cons_of_mem _ (List.mem_append_right _ (List.mem_append_left _ h))
theorem gi_dm_X13_labelled_0 : GoodIn ow_dm_X13_labelled (wsV RX13 416 RX13 yX13_scan ow_dm_X13_scan) := goodIn_app (goodIn_of _ (by decide +kernel)) (fun w h => ⟨List.mem_cons_of_mem _ (List.mem_append_right _ (List.mem_append_right _ (List.mem_append_left _ h))), gd_dm_X13_scan w h⟩)
theorem gi_dm_X13_labelled_1 : GoodIn ow_dm_X13_labelled (wsV RX13 631 RX13 yX13_define ow_dm_X13_define) := goodIn_app (goodIn_of _ (by decide +kernel)) (fun w h => ⟨List.mem_cons_of_mem _ (List.mem_append_right _ (List.mem_append_right _ (List.mem_append_right _ (List.mem_append_left _ h)))), gd_dm_X13_define w h⟩)
theorem gi_dm_X13_labelled_2 : GoodIn ow_dm_X13_labelled (wsV RX13 477 RX13 yX13_register ow_dm_X13_register) := goodIn_app (goodIn_of _ (by decide +kernel)) (fun w h => ⟨List.mem_cons_of_mem _ (List.mem_append_right _ (List.mem_append_right _ (List.mem_append_right _ (List.mem_append_right _ (List.mem_append_left _ h))))), gd_dm_X13_register w h⟩)
theorem gi_dm_X13_labelled_3 : GoodIn ow_dm_X13_labelled (wsV RX13 419 RX13 yX13_blame ow_dm_X13_blame) := goodIn_app (goodIn_of _ (by decide +kernel)) (fun w h => ⟨List.mem_cons_of_mem _ (List.mem_append_right _ (List.mem_append_right _ (List.mem_append_right _ (List.mem_append_right _ (List.mem_append_right _ (List.mem_append_left _ h)))))), gd_dm_X13_blame w h⟩)
theorem gi_dm_X13_labelled_4 : GoodIn ow_dm_X13_labelled (wsV RX13 480 RX13 yX13_find ow_dm_X13_find) := goodIn_app (goodIn_of _ (by decide +kernel)) (fun w h => ⟨List.mem_cons_of_mem _ (List.mem_append_right _ (List.mem_append_right _ (List.mem_append_right _ (List.mem_append_right _ (List.mem_append_right _ (List.mem_append_right _ (List.mem_append_left _ h))))))), gd_dm_X13_find w h⟩)
def dj_X13_labelled_166 (p : Program) (l : Launch) (e : Env) (s : State) (m : MethodId) (args : Array Value) (below : List Frame) (meth : Method) (c : Code) (Q : State → Prop) (A : Nat → Prop) (dC : Nat → ClassId) (dI : Nat → Nat → Nat) (a : Nat → Nat) (ac : Nat → ClassId) (g : (St) → Option (Int32 × (St))) (r : Int32 × (St)) : Prop := ∀ (s0 : St) (H : Heap) (locs : List Loc) (ls : Array Slot), g s0 = some r → va_P (dC, dI) vwCl (dw_X13 a ac s0) H → va_D A (dw_X13 a ac s0) → va_S A s.heap H locs → lv_has ls 5 [(0, .ref (a 0))] → W p l e (headSpec ow_dm_X13_labelled ({ frames := 5, cells := 0, slots := 0, locals := 114 })).room s m args below meth c H locs 0 0 Q (F0 m 166 ls [])
def dj_X13_labelled_161 (p : Program) (l : Launch) (e : Env) (s : State) (m : MethodId) (args : Array Value) (below : List Frame) (meth : Method) (c : Code) (Q : State → Prop) (A : Nat → Prop) (dC : Nat → ClassId) (dI : Nat → Nat → Nat) (a : Nat → Nat) (ac : Nat → ClassId) (g : Int32 → Int32 → Int32 → Int32 → (St) → Option (Int32 × (St))) (r : Int32 × (St)) : Prop := ∀ (y1 : Int32) (y2 : Int32) (y3 : Int32) (y4 : Int32) (s0 : St) (H : Heap) (locs : List Loc) (ls : Array Slot), g y1 y2 y3 y4 s0 = some r → va_P (dC, dI) vwCl (dw_X13 a ac s0) H → va_D A (dw_X13 a ac s0) → va_S A s.heap H locs → lv_has ls 5 [(0, .ref (a 0))] → W p l e (headSpec ow_dm_X13_labelled ({ frames := 5, cells := 0, slots := 0, locals := 114 })).room s m args below meth c H locs 0 0 Q (F0 m 161 ls [.int y4, .int y3, .int y2, .int y1, .ref (a 0)])
def dj_X13_labelled_137 (p : Program) (l : Launch) (e : Env) (s : State) (m : MethodId) (args : Array Value) (below : List Frame) (meth : Method) (c : Code) (Q : State → Prop) (A : Nat → Prop) (dC : Nat → ClassId) (dI : Nat → Nat → Nat) (a : Nat → Nat) (ac : Nat → ClassId) (g : Int32 → Int32 → Int32 → (St) → Option (Int32 × (St))) (r : Int32 × (St)) : Prop := ∀ (x1 : Int32) (x2 : Int32) (x4 : Int32) (s0 : St) (H : Heap) (locs : List Loc) (ls : Array Slot), g x1 x2 x4 s0 = some r → va_P (dC, dI) vwCl (dw_X13 a ac s0) H → va_D A (dw_X13 a ac s0) → va_S A s.heap H locs → lv_has ls 5 [(0, .ref (a 0)), (1, .int x1), (2, .int x2), (4, .int x4)] → W p l e (headSpec ow_dm_X13_labelled ({ frames := 5, cells := 0, slots := 0, locals := 114 })).room s m args below meth c H locs 0 0 Q (F0 m 137 ls [])
def dj_X13_labelled_132 (p : Program) (l : Launch) (e : Env) (s : State) (m : MethodId) (args : Array Value) (below : List Frame) (meth : Method) (c : Code) (Q : State → Prop) (A : Nat → Prop) (dC : Nat → ClassId) (dI : Nat → Nat → Nat) (a : Nat → Nat) (ac : Nat → ClassId) (g : Int32 → Int32 → Int32 → (St) → Option (Int32 × (St))) (r : Int32 × (St)) : Prop := ∀ (x1 : Int32) (x2 : Int32) (x4 : Int32) (s0 : St) (H : Heap) (locs : List Loc) (ls : Array Slot), g x1 x2 x4 s0 = some r → va_P (dC, dI) vwCl (dw_X13 a ac s0) H → va_D A (dw_X13 a ac s0) → va_S A s.heap H locs → lv_has ls 5 [(0, .ref (a 0)), (1, .int x1), (2, .int x2), (4, .int x4)] → W p l e (headSpec ow_dm_X13_labelled ({ frames := 5, cells := 0, slots := 0, locals := 114 })).room s m args below meth c H locs 0 0 Q (F0 m 132 ls [])
def dj_X13_labelled_108 (p : Program) (l : Launch) (e : Env) (s : State) (m : MethodId) (args : Array Value) (below : List Frame) (meth : Method) (c : Code) (Q : State → Prop) (A : Nat → Prop) (dC : Nat → ClassId) (dI : Nat → Nat → Nat) (a : Nat → Nat) (ac : Nat → ClassId) (g : Int32 → (St) → Option (Int32 × (St))) (r : Int32 × (St)) : Prop := ∀ (y0 : Int32) (s0 : St) (H : Heap) (locs : List Loc) (ls : Array Slot), g y0 s0 = some r → va_P (dC, dI) vwCl (dw_X13 a ac s0) H → va_D A (dw_X13 a ac s0) → va_S A s.heap H locs → lv_has ls 5 [] → W p l e (headSpec ow_dm_X13_labelled ({ frames := 5, cells := 0, slots := 0, locals := 114 })).room s m args below meth c H locs 0 0 Q (F0 m 108 ls [.int y0])
def dj_X13_labelled_91 (p : Program) (l : Launch) (e : Env) (s : State) (m : MethodId) (args : Array Value) (below : List Frame) (meth : Method) (c : Code) (Q : State → Prop) (A : Nat → Prop) (dC : Nat → ClassId) (dI : Nat → Nat → Nat) (a : Nat → Nat) (ac : Nat → ClassId) (g : Int32 → (St) → Option (Int32 × (St))) (r : Int32 × (St)) : Prop := ∀ (x1 : Int32) (s0 : St) (H : Heap) (locs : List Loc) (ls : Array Slot), g x1 s0 = some r → va_P (dC, dI) vwCl (dw_X13 a ac s0) H → va_D A (dw_X13 a ac s0) → va_S A s.heap H locs → lv_has ls 5 [(0, .ref (a 0)), (1, .int x1)] → W p l e (headSpec ow_dm_X13_labelled ({ frames := 5, cells := 0, slots := 0, locals := 114 })).room s m args below meth c H locs 0 0 Q (F0 m 91 ls [])
def dj_X13_labelled_68 (p : Program) (l : Launch) (e : Env) (s : State) (m : MethodId) (args : Array Value) (below : List Frame) (meth : Method) (c : Code) (Q : State → Prop) (A : Nat → Prop) (dC : Nat → ClassId) (dI : Nat → Nat → Nat) (a : Nat → Nat) (ac : Nat → ClassId) (g : Int32 → Int32 → Int32 → (St) → Option (Int32 × (St))) (r : Int32 × (St)) : Prop := ∀ (x1 : Int32) (x2 : Int32) (x4 : Int32) (s0 : St) (H : Heap) (locs : List Loc) (ls : Array Slot), g x1 x2 x4 s0 = some r → va_P (dC, dI) vwCl (dw_X13 a ac s0) H → va_D A (dw_X13 a ac s0) → va_S A s.heap H locs → lv_has ls 5 [(0, .ref (a 0)), (1, .int x1), (2, .int x2), (4, .int x4)] → W p l e (headSpec ow_dm_X13_labelled ({ frames := 5, cells := 0, slots := 0, locals := 114 })).room s m args below meth c H locs 0 0 Q (F0 m 68 ls [])
def dj_X13_labelled_43 (p : Program) (l : Launch) (e : Env) (s : State) (m : MethodId) (args : Array Value) (below : List Frame) (meth : Method) (c : Code) (Q : State → Prop) (A : Nat → Prop) (dC : Nat → ClassId) (dI : Nat → Nat → Nat) (a : Nat → Nat) (ac : Nat → ClassId) (g : Int32 → Int32 → Int32 → Int32 → (St) → Option (Int32 × (St))) (r : Int32 × (St)) : Prop := ∀ (x1 : Int32) (x2 : Int32) (x3 : Int32) (y0 : Int32) (s0 : St) (H : Heap) (locs : List Loc) (ls : Array Slot), g x1 x2 x3 y0 s0 = some r → va_P (dC, dI) vwCl (dw_X13 a ac s0) H → va_D A (dw_X13 a ac s0) → va_S A s.heap H locs → lv_has ls 5 [(0, .ref (a 0)), (1, .int x1), (2, .int x2), (3, .int x3)] → W p l e (headSpec ow_dm_X13_labelled ({ frames := 5, cells := 0, slots := 0, locals := 114 })).room s m args below meth c H locs 0 0 Q (F0 m 43 ls [.int y0])
def dj_X13_labelled_42 (p : Program) (l : Launch) (e : Env) (s : State) (m : MethodId) (args : Array Value) (below : List Frame) (meth : Method) (c : Code) (Q : State → Prop) (A : Nat → Prop) (dC : Nat → ClassId) (dI : Nat → Nat → Nat) (a : Nat → Nat) (ac : Nat → ClassId) (g : Int32 → Int32 → Int32 → (St) → Option (Int32 × (St))) (r : Int32 × (St)) : Prop := ∀ (x1 : Int32) (x2 : Int32) (x3 : Int32) (s0 : St) (H : Heap) (locs : List Loc) (ls : Array Slot), g x1 x2 x3 s0 = some r → va_P (dC, dI) vwCl (dw_X13 a ac s0) H → va_D A (dw_X13 a ac s0) → va_S A s.heap H locs → lv_has ls 5 [(0, .ref (a 0)), (1, .int x1), (2, .int x2), (3, .int x3)] → W p l e (headSpec ow_dm_X13_labelled ({ frames := 5, cells := 0, slots := 0, locals := 114 })).room s m args below meth c H locs 0 0 Q (F0 m 42 ls [])
def dj_X13_labelled_0 (p : Program) (l : Launch) (e : Env) (s : State) (m : MethodId) (args : Array Value) (below : List Frame) (meth : Method) (c : Code) (Q : State → Prop) (A : Nat → Prop) (dC : Nat → ClassId) (dI : Nat → Nat → Nat) (a : Nat → Nat) (ac : Nat → ClassId) (g : (St) → Option (Int32 × (St))) (r : Int32 × (St)) : Prop := ∀ (s0 : St) (H : Heap) (locs : List Loc) (ls : Array Slot), g s0 = some r → va_P (dC, dI) vwCl (dw_X13 a ac s0) H → va_D A (dw_X13 a ac s0) → va_S A s.heap H locs → lv_has ls 5 [(0, .ref (a 0))] → W p l e (headSpec ow_dm_X13_labelled ({ frames := 5, cells := 0, slots := 0, locals := 114 })).room s m args below meth c H locs 0 0 Q (F0 m 0 ls [])
set_option maxHeartbeats 40000000 in
set_option maxRecDepth 100000 in
theorem db_X13_labelled_166 {p : Program} {l : Launch} {e : Env} {s : State} {m : MethodId} {args : Array Value} {below : List Frame} {meth : Method} {c : Code} {Q : State → Prop} {A : Nat → Prop} {dC : Nat → ClassId} {dI : Nat → Nat → Nat} {a : Nat → Nat} {ac : Nat → ClassId} {n : Nat} {r : Int32 × (St)} (C : nd_C p l s m args c A (dC, dI) cX13_labelled 5 RX13 ow_dm_X13_labelled (dk_X13 ac)) (K : nd_Ki p l e (headSpec ow_dm_X13_labelled ({ frames := 5, cells := 0, slots := 0, locals := 114 })).room s m args below meth c Q A (dC, dI) cX13_labelled .boolean (St) (dw_X13 a ac) r) {g0 : (St) → Option (Int32 × (St))} (J0 : dj_X13_labelled_0 p l e s m args below meth c Q A dC dI a ac g0 r) : dj_X13_labelled_166 p l e s m args below meth c Q A dC dI a ac (df_X13_labelled_166 n g0) r := by
  obtain ⟨hlt, hx, hb, hml, hown, hts, hN, hA, hK⟩ := id C
  intro s0 H locs ls h hP hD hS hl
  unfold df_X13_labelled_166 at h
  refine lv_goto (tgt := 0) hx hb dX13_labelled_166 (by decide) ?_
  exact (J0)  s0 _ _ _ h hP hD hS (lv_sub hl [0] rfl)
set_option maxHeartbeats 40000000 in
set_option maxRecDepth 100000 in
theorem db_X13_labelled_161 {p : Program} {l : Launch} {e : Env} {s : State} {m : MethodId} {args : Array Value} {below : List Frame} {meth : Method} {c : Code} {Q : State → Prop} {A : Nat → Prop} {dC : Nat → ClassId} {dI : Nat → Nat → Nat} {a : Nat → Nat} {ac : Nat → ClassId} {n : Nat} {r : Int32 × (St)} (C : nd_C p l s m args c A (dC, dI) cX13_labelled 5 RX13 ow_dm_X13_labelled (dk_X13 ac)) (K : nd_Ki p l e (headSpec ow_dm_X13_labelled ({ frames := 5, cells := 0, slots := 0, locals := 114 })).room s m args below meth c Q A (dC, dI) cX13_labelled .boolean (St) (dw_X13 a ac) r) {g0 : (St) → Option (Int32 × (St))} (J0 : dj_X13_labelled_0 p l e s m args below meth c Q A dC dI a ac g0 r) : dj_X13_labelled_161 p l e s m args below meth c Q A dC dI a ac (df_X13_labelled_161 n g0) r := by
  obtain ⟨hlt, hx, hb, hml, hown, hts, hN, hA, hK⟩ := id C
  intro y1 y2 y3 y4 s0 H locs ls h hP hD hS hl
  unfold df_X13_labelled_161 at h
  refine lv_iadd hx hb dX13_labelled_161 ?_
  refine lv_iconst (v := 0) hx hb dX13_labelled_162 (by decide) ?_
  obtain ⟨s19, hq, h⟩ := nd_b1_e h
  have hPc := hP
  have hDc := hD
  have hKc := hK
  have hFc := nd_rs hD hS hA
  refine nd_cVv (As := [.int y1, .int y2, .int (y3 + y4), .int 0]) (rest := []) (w' := dw_X13 a ac s19) ⟨hx, hb, hml, hown, hts⟩ (fun sz => dm_X13_define l hlt dC dI a ac n (y1) (y2) ((y3 + y4)) (0) s0 hq sz) (cwV 4 hts gi_dm_X13_labelled_1 rfl rfl rfl (by decide +kernel) ⟨Nat.le_of_ble_eq_true rfl, Nat.le_of_ble_eq_true rfl⟩) hPc hDc hKc hS hA hN (va_recv hKc hPc (ci := 14) (q0 := 0) rfl rfl) rfl hl.1 rfl (Nat.le_of_ble_eq_true rfl) dX13_labelled_163 (fun H locs hP1 hD1 hk1 hS => ?_)
  have hP := hP1
  have hD := hD1.weaken (fun k q _ h => hFc q.1 h)
  exact (db_X13_labelled_166 C K J0)  s19 _ _ _ h hP hD hS (lv_sub hl [0] rfl)
set_option maxHeartbeats 40000000 in
set_option maxRecDepth 100000 in
theorem db_X13_labelled_137 {p : Program} {l : Launch} {e : Env} {s : State} {m : MethodId} {args : Array Value} {below : List Frame} {meth : Method} {c : Code} {Q : State → Prop} {A : Nat → Prop} {dC : Nat → ClassId} {dI : Nat → Nat → Nat} {a : Nat → Nat} {ac : Nat → ClassId} {n : Nat} {r : Int32 × (St)} (C : nd_C p l s m args c A (dC, dI) cX13_labelled 5 RX13 ow_dm_X13_labelled (dk_X13 ac)) (K : nd_Ki p l e (headSpec ow_dm_X13_labelled ({ frames := 5, cells := 0, slots := 0, locals := 114 })).room s m args below meth c Q A (dC, dI) cX13_labelled .boolean (St) (dw_X13 a ac) r) {g0 : (St) → Option (Int32 × (St))} (J0 : dj_X13_labelled_0 p l e s m args below meth c Q A dC dI a ac g0 r) : dj_X13_labelled_137 p l e s m args below meth c Q A dC dI a ac (df_X13_labelled_137 n g0) r := by
  obtain ⟨hlt, hx, hb, hml, hown, hts, hN, hA, hK⟩ := id C
  intro x1 x2 x4 s0 H locs ls h hP hD hS hl
  unfold df_X13_labelled_137 at h
  refine lv_aload_n hx hb dX13_labelled_137 rfl (lv_at hl 0 rfl) ?_
  refine va_get (D := (dC, dI)) (ci := 14) (v := .int (sI s0 12)) (C := RX13) (T := TX13) (N := 37) hx hb hts hi_dm_X13_labelled_X13 hown hK hP 0 rfl rfl 21 (by decide) (hts (.fieldLink RX13 410 "TimeMachineModel$Assembler" "fault" "I") (List.mem_of_getElem? (i := 1) rfl)) (fun _ h9 => h9) rfl dX13_labelled_138 ?_
  refine lv_if_ne (tgt := 166) hx hb dX13_labelled_141 (by decide) (fun c16 => ?_) (fun c16 => ?_)
  · have h := nd_neg h c16
    exact (db_X13_labelled_166 C K J0)  s0 _ _ _ h hP hD hS (lv_sub hl [0] rfl)
  · have h := nd_pos h c16
    refine lv_aload_n hx hb dX13_labelled_144 rfl (lv_at hl 0 rfl) ?_
    refine lv_iload_n hx hb dX13_labelled_145 rfl (lv_at hl 1 rfl) ?_
    refine lv_iload_n hx hb dX13_labelled_146 rfl (lv_at hl 2 rfl) ?_
    refine lv_aload_n hx hb dX13_labelled_147 rfl (lv_at hl 0 rfl) ?_
    refine va_get (D := (dC, dI)) (ci := 14) (v := .int (sI s0 14)) (C := RX13) (T := TX13) (N := 37) hx hb hts hi_dm_X13_labelled_X13 hown hK hP 0 rfl rfl 23 (by decide) (hts (.fieldLink RX13 634 "TimeMachineModel$Assembler" "section" "I") (List.mem_of_getElem? (i := 9) rfl)) (fun _ h9 => h9) rfl dX13_labelled_148 ?_
    refine lv_iload hx hb dX13_labelled_151 (lv_at hl 3 rfl) ?_
    refine lv_if_eq (tgt := 160) hx hb dX13_labelled_153 (by decide) (fun c17 => ?_) (fun c17 => ?_)
    · have h := nd_pos h c17
      refine lv_iconst (v := 0) hx hb dX13_labelled_160 (by decide) ?_
      exact (db_X13_labelled_161 C K J0) (x1) (x2) ((sI s0 14)) (0) s0 _ _ _ h hP hD hS (lv_sub hl [0] rfl)
    · have h := nd_neg h c17
      refine lv_iconst (v := 3) hx hb dX13_labelled_156 (by decide) ?_
      refine lv_goto (tgt := 161) hx hb dX13_labelled_157 (by decide) ?_
      exact (db_X13_labelled_161 C K J0) (x1) (x2) ((sI s0 14)) (3) s0 _ _ _ h hP hD hS (lv_sub hl [0] rfl)
set_option maxHeartbeats 40000000 in
set_option maxRecDepth 100000 in
theorem db_X13_labelled_132 {p : Program} {l : Launch} {e : Env} {s : State} {m : MethodId} {args : Array Value} {below : List Frame} {meth : Method} {c : Code} {Q : State → Prop} {A : Nat → Prop} {dC : Nat → ClassId} {dI : Nat → Nat → Nat} {a : Nat → Nat} {ac : Nat → ClassId} {n : Nat} {r : Int32 × (St)} (C : nd_C p l s m args c A (dC, dI) cX13_labelled 5 RX13 ow_dm_X13_labelled (dk_X13 ac)) (K : nd_Ki p l e (headSpec ow_dm_X13_labelled ({ frames := 5, cells := 0, slots := 0, locals := 114 })).room s m args below meth c Q A (dC, dI) cX13_labelled .boolean (St) (dw_X13 a ac) r) {g0 : (St) → Option (Int32 × (St))} (J0 : dj_X13_labelled_0 p l e s m args below meth c Q A dC dI a ac g0 r) : dj_X13_labelled_132 p l e s m args below meth c Q A dC dI a ac (df_X13_labelled_132 n g0) r := by
  obtain ⟨hlt, hx, hb, hml, hown, hts, hN, hA, hK⟩ := id C
  intro x1 x2 x4 s0 H locs ls h hP hD hS hl
  unfold df_X13_labelled_132 at h
  refine lv_aload_n hx hb dX13_labelled_132 rfl (lv_at hl 0 rfl) ?_
  refine lv_iconst (v := 4) hx hb dX13_labelled_133 (by decide) ?_
  obtain ⟨s26, hq, h⟩ := nd_b1_e h
  have hPc := hP
  have hDc := hD
  have hKc := hK
  have hFc := nd_rs hD hS hA
  refine nd_cVv (As := [.int 4]) (rest := []) (w' := dw_X13 a ac s26) ⟨hx, hb, hml, hown, hts⟩ (fun sz => dm_X13_blame l hlt dC dI a ac n (4) s0 hq sz) (cwV 1 hts gi_dm_X13_labelled_3 rfl rfl rfl (by decide +kernel) ⟨Nat.le_of_ble_eq_true rfl, Nat.le_of_ble_eq_true rfl⟩) hPc hDc hKc hS hA hN (va_recv hKc hPc (ci := 14) (q0 := 0) rfl rfl) rfl hl.1 rfl (Nat.le_of_ble_eq_true rfl) dX13_labelled_134 (fun H locs hP1 hD1 hk1 hS => ?_)
  have hP := hP1
  have hD := hD1.weaken (fun k q _ h => hFc q.1 h)
  exact (db_X13_labelled_137 C K J0) (x1) (x2) (x4) s26 _ _ _ h hP hD hS (lv_sub hl [0, 1, 2, 3] rfl)
set_option maxHeartbeats 40000000 in
set_option maxRecDepth 100000 in
theorem db_X13_labelled_108 {p : Program} {l : Launch} {e : Env} {s : State} {m : MethodId} {args : Array Value} {below : List Frame} {meth : Method} {c : Code} {Q : State → Prop} {A : Nat → Prop} {dC : Nat → ClassId} {dI : Nat → Nat → Nat} {a : Nat → Nat} {ac : Nat → ClassId} {n : Nat} {r : Int32 × (St)} (C : nd_C p l s m args c A (dC, dI) cX13_labelled 5 RX13 ow_dm_X13_labelled (dk_X13 ac)) (K : nd_Ki p l e (headSpec ow_dm_X13_labelled ({ frames := 5, cells := 0, slots := 0, locals := 114 })).room s m args below meth c Q A (dC, dI) cX13_labelled .boolean (St) (dw_X13 a ac) r) : dj_X13_labelled_108 p l e s m args below meth c Q A dC dI a ac (df_X13_labelled_108 n) r := by
  obtain ⟨hlt, hx, hb, hml, hown, hts, hN, hA, hK⟩ := id C
  intro y0 s0 H locs ls h hP hD hS hl
  unfold df_X13_labelled_108 at h
  obtain ⟨n35, h⟩ := nd_z_e ⟨_, rfl⟩ h
  exact K _ _ _ _ _ _ dX13_labelled_108 n35 (Option.some.inj h).symm hP hD hS
set_option maxHeartbeats 40000000 in
set_option maxRecDepth 100000 in
theorem db_X13_labelled_91 {p : Program} {l : Launch} {e : Env} {s : State} {m : MethodId} {args : Array Value} {below : List Frame} {meth : Method} {c : Code} {Q : State → Prop} {A : Nat → Prop} {dC : Nat → ClassId} {dI : Nat → Nat → Nat} {a : Nat → Nat} {ac : Nat → ClassId} {n : Nat} {r : Int32 × (St)} (C : nd_C p l s m args c A (dC, dI) cX13_labelled 5 RX13 ow_dm_X13_labelled (dk_X13 ac)) (K : nd_Ki p l e (headSpec ow_dm_X13_labelled ({ frames := 5, cells := 0, slots := 0, locals := 114 })).room s m args below meth c Q A (dC, dI) cX13_labelled .boolean (St) (dw_X13 a ac) r) : dj_X13_labelled_91 p l e s m args below meth c Q A dC dI a ac (df_X13_labelled_91 n) r := by
  obtain ⟨hlt, hx, hb, hml, hown, hts, hN, hA, hK⟩ := id C
  intro x1 s0 H locs ls h hP hD hS hl
  unfold df_X13_labelled_91 at h
  refine lv_aload_n hx hb dX13_labelled_91 rfl (lv_at hl 0 rfl) ?_
  refine lv_iload_n hx hb dX13_labelled_92 rfl (lv_at hl 1 rfl) ?_
  refine va_put (D := (dC, dI)) (ci := 14) (v := .int x1) (ty := .int) (C := RX13) (T := TX13) (N := 37) hx hb hts hi_dm_X13_labelled_X13 tyX13 tyX13_ok nmX13 hown hK hP hD hS 0 rfl rfl 16 (by decide) (hts (.fieldLink RX13 374 "TimeMachineModel$Assembler" "at" "I") (List.mem_of_getElem? (i := 22) rfl)) (fun _ h9 => h9) rfl (by decide +kernel) rfl rfl (Nat.le_of_ble_eq_true rfl) dX13_labelled_93 (fun H locs hP hD hS => ?_)
  obtain ⟨s33, es33, h⟩ := nd_let_e h
  have hP : va_P (dC, dI) vwCl (dw_X13 a ac s33) H := by rw [es33]; exact hP
  have hD : va_D A (dw_X13 a ac s33) := by rw [es33]; exact hD
  refine lv_aload_n hx hb dX13_labelled_96 rfl (lv_at hl 0 rfl) ?_
  refine va_get (D := (dC, dI)) (ci := 14) (v := .int (sI s33 12)) (C := RX13) (T := TX13) (N := 37) hx hb hts hi_dm_X13_labelled_X13 hown hK hP 0 rfl rfl 21 (by decide) (hts (.fieldLink RX13 410 "TimeMachineModel$Assembler" "fault" "I") (List.mem_of_getElem? (i := 1) rfl)) (fun _ h9 => h9) rfl dX13_labelled_97 ?_
  refine lv_if_ne (tgt := 107) hx hb dX13_labelled_100 (by decide) (fun c34 => ?_) (fun c34 => ?_)
  · have h := nd_neg h c34
    refine lv_iconst (v := 0) hx hb dX13_labelled_107 (by decide) ?_
    exact (db_X13_labelled_108 C K) (0) s33 _ _ _ h hP hD hS (lv_sub hl [] rfl)
  · have h := nd_pos h c34
    refine lv_iconst (v := 1) hx hb dX13_labelled_103 (by decide) ?_
    refine lv_goto (tgt := 108) hx hb dX13_labelled_104 (by decide) ?_
    exact (db_X13_labelled_108 C K) (1) s33 _ _ _ h hP hD hS (lv_sub hl [] rfl)
set_option maxHeartbeats 40000000 in
set_option maxRecDepth 100000 in
theorem db_X13_labelled_68 {p : Program} {l : Launch} {e : Env} {s : State} {m : MethodId} {args : Array Value} {below : List Frame} {meth : Method} {c : Code} {Q : State → Prop} {A : Nat → Prop} {dC : Nat → ClassId} {dI : Nat → Nat → Nat} {a : Nat → Nat} {ac : Nat → ClassId} {n : Nat} {r : Int32 × (St)} (C : nd_C p l s m args c A (dC, dI) cX13_labelled 5 RX13 ow_dm_X13_labelled (dk_X13 ac)) (K : nd_Ki p l e (headSpec ow_dm_X13_labelled ({ frames := 5, cells := 0, slots := 0, locals := 114 })).room s m args below meth c Q A (dC, dI) cX13_labelled .boolean (St) (dw_X13 a ac) r) {g0 : (St) → Option (Int32 × (St))} (J0 : dj_X13_labelled_0 p l e s m args below meth c Q A dC dI a ac g0 r) : dj_X13_labelled_68 p l e s m args below meth c Q A dC dI a ac (df_X13_labelled_68 n g0) r := by
  obtain ⟨hlt, hx, hb, hml, hown, hts, hN, hA, hK⟩ := id C
  intro x1 x2 x4 s0 H locs ls h hP hD hS hl
  unfold df_X13_labelled_68 at h
  refine lv_aload_n hx hb dX13_labelled_68 rfl (lv_at hl 0 rfl) ?_
  obtain ⟨s12, hq, h⟩ := nd_b1_e h
  have hPc := hP
  have hDc := hD
  have hKc := hK
  have hFc := nd_rs hD hS hA
  refine nd_cVv (As := []) (rest := []) (w' := dw_X13 a ac s12) ⟨hx, hb, hml, hown, hts⟩ (fun sz => dm_X13_scan l hlt dC dI a ac n  s0 hq sz) (cwV 0 hts gi_dm_X13_labelled_0 rfl rfl rfl (by decide +kernel) ⟨Nat.le_of_ble_eq_true rfl, Nat.le_of_ble_eq_true rfl⟩) hPc hDc hKc hS hA hN (va_recv hKc hPc (ci := 14) (q0 := 0) rfl rfl) rfl hl.1 rfl (Nat.le_of_ble_eq_true rfl) dX13_labelled_69 (fun H locs hP1 hD1 hk1 hS => ?_)
  have hP := hP1
  have hD := hD1.weaken (fun k q _ h => hFc q.1 h)
  refine lv_aload_n hx hb dX13_labelled_72 rfl (lv_at hl 0 rfl) ?_
  refine va_get (D := (dC, dI)) (ci := 14) (v := .int (sI s12 8)) (C := RX13) (T := TX13) (N := 37) hx hb hts hi_dm_X13_labelled_X13 hown hK hP 0 rfl rfl 17 (by decide) (hts (.fieldLink RX13 365 "TimeMachineModel$Assembler" "token" "I") (List.mem_of_getElem? (i := 8) rfl)) (fun _ h9 => h9) rfl dX13_labelled_73 ?_
  refine lv_bipush (v := 58) hx hb dX13_labelled_76 (by decide) ?_
  refine lv_icmp_eq (tgt := 109) hx hb dX13_labelled_78 (by decide) (fun c14 => ?_) (fun c14 => ?_)
  · have h := nd_pos h c14
    refine lv_iload hx hb dX13_labelled_109 (lv_at hl 3 rfl) ?_
    refine lv_if_ne (tgt := 137) hx hb dX13_labelled_111 (by decide) (fun c15 => ?_) (fun c15 => ?_)
    · have h := nd_neg h c15
      exact (db_X13_labelled_137 C K J0) (x1) (x2) (x4) s12 _ _ _ h hP hD hS (lv_sub hl [0, 1, 2, 3] rfl)
    · have h := nd_pos h c15
      refine lv_aload_n hx hb dX13_labelled_114 rfl (lv_at hl 0 rfl) ?_
      refine lv_iload_n hx hb dX13_labelled_115 rfl (lv_at hl 1 rfl) ?_
      refine lv_iload_n hx hb dX13_labelled_116 rfl (lv_at hl 2 rfl) ?_
      obtain ⟨q21, s22, hq, h⟩ := nd_b2_e h
      have hPc := hP
      have hDc := hD
      have hKc := hK
      have hFc := nd_rs hD hS hA
      refine nd_cVi (As := [.int x1, .int x2]) (rest := []) (q := q21) (w' := dw_X13 a ac s22) ⟨hx, hb, hml, hown, hts⟩ (fun sz => dm_X13_register l hlt dC dI a ac n (x1) (x2) s12 hq sz) (cwV 2 hts gi_dm_X13_labelled_2 rfl rfl rfl (by decide +kernel) ⟨Nat.le_of_ble_eq_true rfl, Nat.le_of_ble_eq_true rfl⟩) hPc hDc hKc hS hA hN (va_recv hKc hPc (ci := 14) (q0 := 0) rfl rfl) rfl hl.1 rfl (Nat.le_of_ble_eq_true rfl) dX13_labelled_117 (fun H locs hP1 hD1 hk1 hS => ?_)
      have hP := hP1
      have hD := hD1.weaken (fun k q _ h => hFc q.1 h)
      refine lv_if_ge (tgt := 132) hx hb dX13_labelled_120 (by decide) (fun c24 => ?_) (fun c24 => ?_)
      · have h := nd_pos h c24
        exact (db_X13_labelled_132 C K J0) (x1) (x2) (x4) s22 _ _ _ h hP hD hS (lv_sub hl [0, 1, 2, 3] rfl)
      · have h := nd_neg h c24
        refine lv_aload_n hx hb dX13_labelled_123 rfl (lv_at hl 0 rfl) ?_
        refine lv_iload_n hx hb dX13_labelled_124 rfl (lv_at hl 1 rfl) ?_
        refine lv_iload_n hx hb dX13_labelled_125 rfl (lv_at hl 2 rfl) ?_
        obtain ⟨q28, s29, hq, h⟩ := nd_b2_e h
        have hPc := hP
        have hDc := hD
        have hKc := hK
        have hFc := nd_rs hD hS hA
        refine nd_cVi (As := [.int x1, .int x2]) (rest := []) (q := q28) (w' := dw_X13 a ac s29) ⟨hx, hb, hml, hown, hts⟩ (fun sz => dm_X13_find l hlt dC dI a ac n (x1) (x2) s22 hq sz) (cwV 2 hts gi_dm_X13_labelled_4 rfl rfl rfl (by decide +kernel) ⟨Nat.le_of_ble_eq_true rfl, Nat.le_of_ble_eq_true rfl⟩) hPc hDc hKc hS hA hN (va_recv hKc hPc (ci := 14) (q0 := 0) rfl rfl) rfl hl.1 rfl (Nat.le_of_ble_eq_true rfl) dX13_labelled_126 (fun H locs hP1 hD1 hk1 hS => ?_)
        have hP := hP1
        have hD := hD1.weaken (fun k q _ h => hFc q.1 h)
        refine lv_if_lt (tgt := 137) hx hb dX13_labelled_129 (by decide) (fun c31 => ?_) (fun c31 => ?_)
        · have h := nd_pos h c31
          exact (db_X13_labelled_137 C K J0) (x1) (x2) (x4) s29 _ _ _ h hP hD hS (lv_sub hl [0, 1, 2, 3] rfl)
        · have h := nd_neg h c31
          exact (db_X13_labelled_132 C K J0) (x1) (x2) (x4) s29 _ _ _ h hP hD hS (lv_sub hl [0, 1, 2, 3] rfl)
  · have h := nd_neg h c14
    refine lv_iload hx hb dX13_labelled_81 (lv_at hl 3 rfl) ?_
    refine lv_if_eq (tgt := 91) hx hb dX13_labelled_83 (by decide) (fun c32 => ?_) (fun c32 => ?_)
    · have h := nd_pos h c32
      exact (db_X13_labelled_91 C K) (x1) s12 _ _ _ h hP hD hS (lv_sub hl [0, 1] rfl)
    · have h := nd_neg h c32
      refine lv_aload_n hx hb dX13_labelled_86 rfl (lv_at hl 0 rfl) ?_
      refine lv_iconst (v := 1) hx hb dX13_labelled_87 (by decide) ?_
      obtain ⟨s37, hq, h⟩ := nd_b1_e h
      have hPc := hP
      have hDc := hD
      have hKc := hK
      have hFc := nd_rs hD hS hA
      refine nd_cVv (As := [.int 1]) (rest := []) (w' := dw_X13 a ac s37) ⟨hx, hb, hml, hown, hts⟩ (fun sz => dm_X13_blame l hlt dC dI a ac n (1) s12 hq sz) (cwV 1 hts gi_dm_X13_labelled_3 rfl rfl rfl (by decide +kernel) ⟨Nat.le_of_ble_eq_true rfl, Nat.le_of_ble_eq_true rfl⟩) hPc hDc hKc hS hA hN (va_recv hKc hPc (ci := 14) (q0 := 0) rfl rfl) rfl hl.1 rfl (Nat.le_of_ble_eq_true rfl) dX13_labelled_88 (fun H locs hP1 hD1 hk1 hS => ?_)
      have hP := hP1
      have hD := hD1.weaken (fun k q _ h => hFc q.1 h)
      exact (db_X13_labelled_91 C K) (x1) s37 _ _ _ h hP hD hS (lv_sub hl [0, 1] rfl)
set_option maxHeartbeats 40000000 in
set_option maxRecDepth 100000 in
theorem db_X13_labelled_43 {p : Program} {l : Launch} {e : Env} {s : State} {m : MethodId} {args : Array Value} {below : List Frame} {meth : Method} {c : Code} {Q : State → Prop} {A : Nat → Prop} {dC : Nat → ClassId} {dI : Nat → Nat → Nat} {a : Nat → Nat} {ac : Nat → ClassId} {n : Nat} {r : Int32 × (St)} (C : nd_C p l s m args c A (dC, dI) cX13_labelled 5 RX13 ow_dm_X13_labelled (dk_X13 ac)) (K : nd_Ki p l e (headSpec ow_dm_X13_labelled ({ frames := 5, cells := 0, slots := 0, locals := 114 })).room s m args below meth c Q A (dC, dI) cX13_labelled .boolean (St) (dw_X13 a ac) r) {g0 : (St) → Option (Int32 × (St))} (J0 : dj_X13_labelled_0 p l e s m args below meth c Q A dC dI a ac g0 r) : dj_X13_labelled_43 p l e s m args below meth c Q A dC dI a ac (df_X13_labelled_43 n g0) r := by
  obtain ⟨hlt, hx, hb, hml, hown, hts, hN, hA, hK⟩ := id C
  intro x1 x2 x3 y0 s0 H locs ls h hP hD hS hl
  unfold df_X13_labelled_43 at h
  refine lv_istore (lv' := [(4, .int y0), (0, .ref (a 0)), (1, .int x1), (2, .int x2), (3, .int x3)]) hx hb dX13_labelled_43 hl (by decide) rfl (fun ls hl => ?_)
  refine lv_iload_n hx hb dX13_labelled_45 rfl (lv_at hl 4 rfl) ?_
  refine lv_if_ne (tgt := 51) hx hb dX13_labelled_46 (by decide) (fun c9 => ?_) (fun c9 => ?_)
  · have h := nd_neg h c9
    refine lv_iload_n hx hb dX13_labelled_51 rfl (lv_at hl 4 rfl) ?_
    refine lv_iconst (v := 1) hx hb dX13_labelled_52 (by decide) ?_
    refine lv_icmp_eq (tgt := 68) hx hb dX13_labelled_53 (by decide) (fun c10 => ?_) (fun c10 => ?_)
    · have h := nd_pos h c10
      exact (db_X13_labelled_68 C K J0) (x1) (x2) (y0) s0 _ _ _ h hP hD hS (lv_sub hl [1, 2, 3, 0] rfl)
    · have h := nd_neg h c10
      refine lv_iload hx hb dX13_labelled_56 (lv_at hl 0 rfl) ?_
      refine lv_if_ne (tgt := 68) hx hb dX13_labelled_58 (by decide) (fun c39 => ?_) (fun c39 => ?_)
      · have h := nd_neg h c39
        exact (db_X13_labelled_68 C K J0) (x1) (x2) (y0) s0 _ _ _ h hP hD hS (lv_sub hl [1, 2, 3, 0] rfl)
      · have h := nd_pos h c39
        refine lv_aload_n hx hb dX13_labelled_61 rfl (lv_at hl 1 rfl) ?_
        refine lv_iconst (v := 1) hx hb dX13_labelled_62 (by decide) ?_
        obtain ⟨s41, hq, h⟩ := nd_b1_e h
        have hPc := hP
        have hDc := hD
        have hKc := hK
        have hFc := nd_rs hD hS hA
        refine nd_cVv (As := [.int 1]) (rest := []) (w' := dw_X13 a ac s41) ⟨hx, hb, hml, hown, hts⟩ (fun sz => dm_X13_blame l hlt dC dI a ac n (1) s0 hq sz) (cwV 1 hts gi_dm_X13_labelled_3 rfl rfl rfl (by decide +kernel) ⟨Nat.le_of_ble_eq_true rfl, Nat.le_of_ble_eq_true rfl⟩) hPc hDc hKc hS hA hN (va_recv hKc hPc (ci := 14) (q0 := 0) rfl rfl) rfl hl.1 rfl (Nat.le_of_ble_eq_true rfl) dX13_labelled_63 (fun H locs hP1 hD1 hk1 hS => ?_)
        have hP := hP1
        have hD := hD1.weaken (fun k q _ h => hFc q.1 h)
        refine lv_iconst (v := 0) hx hb dX13_labelled_66 (by decide) ?_
        exact K _ _ _ _ _ _ dX13_labelled_67 (by first | rfl | decide) (Option.some.inj h).symm hP hD hS
  · have h := nd_pos h c9
    refine lv_iconst (v := 0) hx hb dX13_labelled_49 (by decide) ?_
    exact K _ _ _ _ _ _ dX13_labelled_50 (by first | rfl | decide) (Option.some.inj h).symm hP hD hS
set_option maxHeartbeats 40000000 in
set_option maxRecDepth 100000 in
theorem db_X13_labelled_42 {p : Program} {l : Launch} {e : Env} {s : State} {m : MethodId} {args : Array Value} {below : List Frame} {meth : Method} {c : Code} {Q : State → Prop} {A : Nat → Prop} {dC : Nat → ClassId} {dI : Nat → Nat → Nat} {a : Nat → Nat} {ac : Nat → ClassId} {n : Nat} {r : Int32 × (St)} (C : nd_C p l s m args c A (dC, dI) cX13_labelled 5 RX13 ow_dm_X13_labelled (dk_X13 ac)) (K : nd_Ki p l e (headSpec ow_dm_X13_labelled ({ frames := 5, cells := 0, slots := 0, locals := 114 })).room s m args below meth c Q A (dC, dI) cX13_labelled .boolean (St) (dw_X13 a ac) r) {g0 : (St) → Option (Int32 × (St))} (J0 : dj_X13_labelled_0 p l e s m args below meth c Q A dC dI a ac g0 r) : dj_X13_labelled_42 p l e s m args below meth c Q A dC dI a ac (df_X13_labelled_42 n g0) r := by
  obtain ⟨hlt, hx, hb, hml, hown, hts, hN, hA, hK⟩ := id C
  intro x1 x2 x3 s0 H locs ls h hP hD hS hl
  unfold df_X13_labelled_42 at h
  refine lv_iconst (v := 0) hx hb dX13_labelled_42 (by decide) ?_
  exact (db_X13_labelled_43 C K J0) (x1) (x2) (x3) (0) s0 _ _ _ h hP hD hS (lv_sub hl [0, 1, 2, 3] rfl)
set_option maxHeartbeats 40000000 in
set_option maxRecDepth 100000 in
theorem dB_X13_labelled_0 {p : Program} {l : Launch} {e : Env} {s : State} {m : MethodId} {args : Array Value} {below : List Frame} {meth : Method} {c : Code} {Q : State → Prop} {A : Nat → Prop} {dC : Nat → ClassId} {dI : Nat → Nat → Nat} {a : Nat → Nat} {ac : Nat → ClassId} {n : Nat} {r : Int32 × (St)} (C : nd_C p l s m args c A (dC, dI) cX13_labelled 5 RX13 ow_dm_X13_labelled (dk_X13 ac)) (K : nd_Ki p l e (headSpec ow_dm_X13_labelled ({ frames := 5, cells := 0, slots := 0, locals := 114 })).room s m args below meth c Q A (dC, dI) cX13_labelled .boolean (St) (dw_X13 a ac) r) {g0 : (St) → Option (Int32 × (St))} (J0 : dj_X13_labelled_0 p l e s m args below meth c Q A dC dI a ac g0 r) : dj_X13_labelled_0 p l e s m args below meth c Q A dC dI a ac (dF_X13_labelled_0 n g0) r := by
  obtain ⟨hlt, hx, hb, hml, hown, hts, hN, hA, hK⟩ := id C
  intro s0 H locs ls h hP hD hS hl
  unfold dF_X13_labelled_0 at h
  refine lv_aload_n hx hb dX13_labelled_0 rfl (lv_at hl 0 rfl) ?_
  refine va_get (D := (dC, dI)) (ci := 14) (v := .int (sI s0 12)) (C := RX13) (T := TX13) (N := 37) hx hb hts hi_dm_X13_labelled_X13 hown hK hP 0 rfl rfl 21 (by decide) (hts (.fieldLink RX13 410 "TimeMachineModel$Assembler" "fault" "I") (List.mem_of_getElem? (i := 1) rfl)) (fun _ h9 => h9) rfl dX13_labelled_1 ?_
  refine lv_if_ne (tgt := 169) hx hb dX13_labelled_4 (by decide) (fun c1 => ?_) (fun c1 => ?_)
  · have h := nd_neg h c1
    refine lv_iconst (v := 0) hx hb dX13_labelled_169 (by decide) ?_
    exact K _ _ _ _ _ _ dX13_labelled_170 (by first | rfl | decide) (Option.some.inj h).symm hP hD hS
  · have h := nd_pos h c1
    refine lv_aload_n hx hb dX13_labelled_7 rfl (lv_at hl 0 rfl) ?_
    obtain ⟨s3, hq, h⟩ := nd_b1_e h
    have hPc := hP
    have hDc := hD
    have hKc := hK
    have hFc := nd_rs hD hS hA
    refine nd_cVv (As := []) (rest := []) (w' := dw_X13 a ac s3) ⟨hx, hb, hml, hown, hts⟩ (fun sz => dm_X13_scan l hlt dC dI a ac n  s0 hq sz) (cwV 0 hts gi_dm_X13_labelled_0 rfl rfl rfl (by decide +kernel) ⟨Nat.le_of_ble_eq_true rfl, Nat.le_of_ble_eq_true rfl⟩) hPc hDc hKc hS hA hN (va_recv hKc hPc (ci := 14) (q0 := 0) rfl rfl) rfl hl.1 rfl (Nat.le_of_ble_eq_true rfl) dX13_labelled_8 (fun H locs hP1 hD1 hk1 hS => ?_)
    have hP := hP1
    have hD := hD1.weaken (fun k q _ h => hFc q.1 h)
    refine lv_aload_n hx hb dX13_labelled_11 rfl (lv_at hl 0 rfl) ?_
    refine va_get (D := (dC, dI)) (ci := 14) (v := .int (sI s3 9)) (C := RX13) (T := TX13) (N := 37) hx hb hts hi_dm_X13_labelled_X13 hown hK hP 0 rfl rfl 18 (by decide) (hts (.fieldLink RX13 368 "TimeMachineModel$Assembler" "from" "I") (List.mem_of_getElem? (i := 6) rfl)) (fun _ h9 => h9) rfl dX13_labelled_12 ?_
    refine lv_topi (fun z5 ez5 => ?_)
    have h := nd_at h ez5
    refine lv_istore_n (lv' := [(1, .int z5), (0, .ref (a 0))]) hx hb dX13_labelled_15 rfl hl (by decide) rfl (fun ls hl => ?_)
    refine lv_aload_n hx hb dX13_labelled_16 rfl (lv_at hl 1 rfl) ?_
    refine va_get (D := (dC, dI)) (ci := 14) (v := .int (sI s3 10)) (C := RX13) (T := TX13) (N := 37) hx hb hts hi_dm_X13_labelled_X13 hown hK hP 0 rfl rfl 19 (by decide) (hts (.fieldLink RX13 371 "TimeMachineModel$Assembler" "to" "I") (List.mem_of_getElem? (i := 7) rfl)) (fun _ h9 => h9) rfl dX13_labelled_17 ?_
    refine lv_topi (fun z6 ez6 => ?_)
    have h := nd_at h ez6
    refine lv_istore_n (lv' := [(2, .int z6), (1, .int z5), (0, .ref (a 0))]) hx hb dX13_labelled_20 rfl hl (by decide) rfl (fun ls hl => ?_)
    refine lv_aload_n hx hb dX13_labelled_21 rfl (lv_at hl 2 rfl) ?_
    refine va_get (D := (dC, dI)) (ci := 14) (v := .int (sI s3 8)) (C := RX13) (T := TX13) (N := 37) hx hb hts hi_dm_X13_labelled_X13 hown hK hP 0 rfl rfl 17 (by decide) (hts (.fieldLink RX13 365 "TimeMachineModel$Assembler" "token" "I") (List.mem_of_getElem? (i := 8) rfl)) (fun _ h9 => h9) rfl dX13_labelled_22 ?_
    refine lv_topi (fun z7 ez7 => ?_)
    have h := nd_at h ez7
    refine lv_istore_n (lv' := [(3, .int z7), (2, .int z6), (1, .int z5), (0, .ref (a 0))]) hx hb dX13_labelled_25 rfl hl (by decide) rfl (fun ls hl => ?_)
    refine lv_iload_n hx hb dX13_labelled_26 rfl (lv_at hl 0 rfl) ?_
    refine lv_iconst (v := 2) hx hb dX13_labelled_27 (by decide) ?_
    refine lv_icmp_ne (tgt := 42) hx hb dX13_labelled_28 (by decide) (fun c8 => ?_) (fun c8 => ?_)
    · have h := nd_neg h c8
      exact (db_X13_labelled_42 C K J0) (z5) (z6) (z7) s3 _ _ _ h hP hD hS (lv_sub hl [3, 2, 1, 0] rfl)
    · have h := nd_pos h c8
      refine lv_iload_n hx hb dX13_labelled_31 rfl (lv_at hl 1 rfl) ?_
      refine lv_iload_n hx hb dX13_labelled_32 rfl (lv_at hl 2 rfl) ?_
      refine lv_isub hx hb dX13_labelled_33 ?_
      refine lv_iconst (v := 1) hx hb dX13_labelled_34 (by decide) ?_
      refine lv_icmp_ne (tgt := 42) hx hb dX13_labelled_35 (by decide) (fun c43 => ?_) (fun c43 => ?_)
      · have h := nd_neg h c43
        exact (db_X13_labelled_42 C K J0) (z5) (z6) (z7) s3 _ _ _ h hP hD hS (lv_sub hl [3, 2, 1, 0] rfl)
      · have h := nd_pos h c43
        refine lv_iconst (v := 1) hx hb dX13_labelled_38 (by decide) ?_
        refine lv_goto (tgt := 43) hx hb dX13_labelled_39 (by decide) ?_
        exact (db_X13_labelled_43 C K J0) (z5) (z6) (z7) (1) s3 _ _ _ h hP hD hS (lv_sub hl [3, 2, 1, 0] rfl)
set_option maxHeartbeats 40000000 in
set_option maxRecDepth 100000 in
theorem db_X13_labelled_0 {p : Program} {l : Launch} {e : Env} {s : State} {m : MethodId} {args : Array Value} {below : List Frame} {meth : Method} {c : Code} {Q : State → Prop} {A : Nat → Prop} {dC : Nat → ClassId} {dI : Nat → Nat → Nat} {a : Nat → Nat} {ac : Nat → ClassId} {n : Nat} {r : Int32 × (St)} (C : nd_C p l s m args c A (dC, dI) cX13_labelled 5 RX13 ow_dm_X13_labelled (dk_X13 ac)) (K : nd_Ki p l e (headSpec ow_dm_X13_labelled ({ frames := 5, cells := 0, slots := 0, locals := 114 })).room s m args below meth c Q A (dC, dI) cX13_labelled .boolean (St) (dw_X13 a ac) r) (k : Nat) : dj_X13_labelled_0 p l e s m args below meth c Q A dC dI a ac (df_X13_labelled_0 n k) r := by
  induction k with
  | zero => intro s0 H locs ls h; exact nomatch (show (none : Option (Int32 × (St))) = some r from h)
  | succ k ih => exact dB_X13_labelled_0 C K ih
set_option maxHeartbeats 40000000 in
set_option maxRecDepth 100000 in
theorem dm_X13_labelled (l : Launch) (hlt : l.stackTraces = false) (dC : Nat → ClassId) (dI : Nat → Nat → Nat) (a : Nat → Nat) (ac : Nat → ClassId) (n : Nat) (s0 : St) {r : Int32 × (St)} (h : df_X13_labelled n s0 = some r) (sz : Nat) : Met l yX13_labelled ow_dm_X13_labelled ({ frames := 5, cells := 0, slots := 0, locals := 114 }) (va_Pc [.ref (a 0)] (fun U => U.heap.size = sz ∧ va_P (dC, dI) vwCl (dw_X13 a ac s0) U.heap ∧ va_K (dC, dI) vwCl (dk_X13 ac) U ∧ va_D (fun _ => True) (dw_X13 a ac s0) ∧ nv_E dI (va_A (dw_X13 a ac s0) sz) U)) (va_Qi (fun x _ => x = r.1) (fun (_ : Unit) t => va_P (dC, dI) vwCl (dw_X13 a ac r.2) t.heap ∧ va_K (dC, dI) vwCl (dk_X13 ac) t ∧ va_D (va_A (dw_X13 a ac s0) sz) (dw_X13 a ac r.2)) (va_A (dw_X13 a ac s0) sz)) 0 0 (va_A (dw_X13 a ac s0) sz) := by
  refine Met.ofW (cc := cX13_labelled) (maxL := 5) (ret := (some .boolean)) (by decide) rfl ?_
  intro p e s m args below meth c s₁ B hml hv
  obtain ⟨rfl, hsz, hP, hK, hD0, hN⟩ := hv
  have hx := B.exec
  have hb := B.bytes
  have hr := B.returns
  have hts := atoms_spec (ws := ow_dm_X13_labelled) B.pre
  have hown : s.vm.findClass RX13 = some m.cls := findClass_of_methodNamed B.named
  have hlocks := B.notSynchronized
  subst hsz
  have hD := hD0.self (sz := s.heap.size)
  generalize hAe : va_A (dw_X13 a ac s0) s.heap.size = A at hD hN ⊢
  have hA : ∀ q : Nat, s.heap.size ≤ q → A q := fun q h => by rw [← hAe]; exact Or.inr h
  have hl := lv_entry ([.ref (a 0)]) (n := 5) (Nat.le_of_ble_eq_true rfl)
  rw [lg_entry_eq]
  generalize (lg_sl ([.ref (a 0)]) ++ List.replicate (5 - (lg_sl ([.ref (a 0)])).length) Slot.unset).toArray = ls at hl ⊢
  have hl : lv_has ls 5 [(0, .ref (a 0))] := hl
  exact db_X13_labelled_0 (dC := dC) (dI := dI) (a := a) (ac := ac) (n := n) (r := r) ⟨hlt, hx, hb, hml, hown, hts, hN, hA, hK⟩ (fun pc v τ H locs ls d z er hP hD hS => by subst er; exact W.zret (v := v) hx hb hr z (fun t ht hW => ⟨⟨v, (), rfl, rfl, by rw [ht]; exact hP, va_K.moved hW.alike hK, hD⟩, hS.F ht⟩) hS.2.2 d) n s0 _ _ _ h hP hD va_S.rf (lv_sub hl [0] rfl)
def ow_dm_X13_readAll : List Cond := Cond.code yX13_readAll cX13_readAll 4 none :: ([Cond.fieldLink RX13 374 "TimeMachineModel$Assembler" "at" "I", Cond.fieldLink RX13 413 "TimeMachineModel$Assembler" "line" "I", Cond.fieldLink RX13 634 "TimeMachineModel$Assembler" "section" "I", Cond.fieldLink RX13 673 "TimeMachineModel$Assembler" "statements" "I", Cond.fieldLink RX13 439 "TimeMachineModel$Assembler" "labels" "I", Cond.fieldLink RX13 410 "TimeMachineModel$Assembler" "fault" "I", Cond.fieldLink RX13 347 "TimeMachineModel$Assembler" "size" "I", Cond.methodLink RX13 676 yX13_labelled, Cond.instanceMethod yX13_labelled, Cond.selects RX13 yX13_labelled yX13_labelled, Cond.initialized RX13, Cond.methodLink RX13 358 yX13_charAt, Cond.instanceMethod yX13_charAt, Cond.selects RX13 yX13_charAt yX13_charAt, Cond.fieldLink RX13 454 "TimeMachineModel$Assembler" "current" "I", Cond.fieldLink RX13 328 "TimeMachineModel$Assembler" "place" "[I", Cond.fieldLink RX13 334 "TimeMachineModel$Assembler" "bytes" "[I", Cond.methodLink RX13 679 yX13_statement, Cond.instanceMethod yX13_statement, Cond.selects RX13 yX13_statement yX13_statement, Cond.fieldLink RX13 541 "TimeMachineModel$Assembler" "count" "I"] ++ (u_ws RX13 TX13 37 ++ (ow_dm_X13_labelled ++ (ow_dm_X13_charAt ++ (ow_dm_X13_statement ++ [])))))
theorem gd_dm_X13_readAll : ∀ w ∈ ow_dm_X13_readAll, (w.onTables && w.keeps) = true ∨ ∃ ty, w = Cond.arrayClass ty := List.forall_mem_cons.mpr ⟨good_of_word rfl, List.forall_mem_append.mpr ⟨fun w h => good_of_word (List.all_eq_true.mp (by decide +kernel) w h), List.forall_mem_append.mpr ⟨gu_X13, List.forall_mem_append.mpr ⟨gd_dm_X13_labelled, List.forall_mem_append.mpr ⟨gd_dm_X13_charAt, List.forall_mem_append.mpr ⟨gd_dm_X13_statement, fun _ h => nomatch h⟩⟩⟩⟩⟩⟩
theorem hi_dm_X13_readAll_X13 : ∀ w ∈ u_ws RX13 TX13 37, w ∈ ow_dm_X13_readAll := fun w h => List.mem_cons_of_mem _ (List.mem_append_right _ (List.mem_append_left _ h))
theorem gi_dm_X13_readAll_0 : GoodIn ow_dm_X13_readAll (wsV RX13 676 RX13 yX13_labelled ow_dm_X13_labelled) := goodIn_app (goodIn_of _ (by decide +kernel)) (fun w h => ⟨List.mem_cons_of_mem _ (List.mem_append_right _ (List.mem_append_right _ (List.mem_append_left _ h))), gd_dm_X13_labelled w h⟩)
theorem gi_dm_X13_readAll_1 : GoodIn ow_dm_X13_readAll (wsV RX13 358 RX13 yX13_charAt ow_dm_X13_charAt) := goodIn_app (goodIn_of _ (by decide +kernel)) (fun w h => ⟨List.mem_cons_of_mem _ (List.mem_append_right _ (List.mem_append_right _ (List.mem_append_right _ (List.mem_append_left _ h)))), gd_dm_X13_charAt w h⟩)
theorem gi_dm_X13_readAll_2 : GoodIn ow_dm_X13_readAll (wsV RX13 679 RX13 yX13_statement ow_dm_X13_statement) := goodIn_app (goodIn_of _ (by decide +kernel)) (fun w h => ⟨List.mem_cons_of_mem _ (List.mem_append_right _ (List.mem_append_right _ (List.mem_append_right _ (List.mem_append_right _ (List.mem_append_left _ h))))), gd_dm_X13_statement w h⟩)
def dj_X13_readAll_201 (p : Program) (l : Launch) (e : Env) (s : State) (m : MethodId) (args : Array Value) (below : List Frame) (meth : Method) (c : Code) (Q : State → Prop) (A : Nat → Prop) (dC : Nat → ClassId) (dI : Nat → Nat → Nat) (a : Nat → Nat) (ac : Nat → ClassId) (g : (St) → Option (St)) (r : St) : Prop := ∀ (s0 : St) (H : Heap) (locs : List Loc) (ls : Array Slot), g s0 = some r → va_P (dC, dI) vwCl (dw_X13 a ac s0) H → va_D A (dw_X13 a ac s0) → va_S A s.heap H locs → lv_has ls 4 [] → W p l e (headSpec ow_dm_X13_readAll ({ frames := 12, cells := 0, slots := 0, locals := 287 })).room s m args below meth c H locs 0 0 Q (F0 m 201 ls [])
def dj_X13_readAll_152 (p : Program) (l : Launch) (e : Env) (s : State) (m : MethodId) (args : Array Value) (below : List Frame) (meth : Method) (c : Code) (Q : State → Prop) (A : Nat → Prop) (dC : Nat → ClassId) (dI : Nat → Nat → Nat) (a : Nat → Nat) (ac : Nat → ClassId) (g : (St) → Option (St)) (r : St) : Prop := ∀ (s0 : St) (H : Heap) (locs : List Loc) (ls : Array Slot), g s0 = some r → va_P (dC, dI) vwCl (dw_X13 a ac s0) H → va_D A (dw_X13 a ac s0) → va_S A s.heap H locs → lv_has ls 4 [(0, .ref (a 0))] → W p l e (headSpec ow_dm_X13_readAll ({ frames := 12, cells := 0, slots := 0, locals := 287 })).room s m args below meth c H locs 0 0 Q (F0 m 152 ls [])
def dj_X13_readAll_118 (p : Program) (l : Launch) (e : Env) (s : State) (m : MethodId) (args : Array Value) (below : List Frame) (meth : Method) (c : Code) (Q : State → Prop) (A : Nat → Prop) (dC : Nat → ClassId) (dI : Nat → Nat → Nat) (a : Nat → Nat) (ac : Nat → ClassId) (g : Int32 → (St) → Option (St)) (r : St) : Prop := ∀ (y0 : Int32) (s0 : St) (H : Heap) (locs : List Loc) (ls : Array Slot), g y0 s0 = some r → va_P (dC, dI) vwCl (dw_X13 a ac s0) H → va_D A (dw_X13 a ac s0) → va_S A s.heap H locs → lv_has ls 4 [(0, .ref (a 0))] → W p l e (headSpec ow_dm_X13_readAll ({ frames := 12, cells := 0, slots := 0, locals := 287 })).room s m args below meth c H locs 0 0 Q (F0 m 118 ls [.int y0])
def dj_X13_readAll_25 (p : Program) (l : Launch) (e : Env) (s : State) (m : MethodId) (args : Array Value) (below : List Frame) (meth : Method) (c : Code) (Q : State → Prop) (A : Nat → Prop) (dC : Nat → ClassId) (dI : Nat → Nat → Nat) (a : Nat → Nat) (ac : Nat → ClassId) (g : (St) → Option (St)) (r : St) : Prop := ∀ (s0 : St) (H : Heap) (locs : List Loc) (ls : Array Slot), g s0 = some r → va_P (dC, dI) vwCl (dw_X13 a ac s0) H → va_D A (dw_X13 a ac s0) → va_S A s.heap H locs → lv_has ls 4 [(0, .ref (a 0))] → W p l e (headSpec ow_dm_X13_readAll ({ frames := 12, cells := 0, slots := 0, locals := 287 })).room s m args below meth c H locs 0 0 Q (F0 m 25 ls [])
def dj_X13_readAll_0 (p : Program) (l : Launch) (e : Env) (s : State) (m : MethodId) (args : Array Value) (below : List Frame) (meth : Method) (c : Code) (Q : State → Prop) (A : Nat → Prop) (dC : Nat → ClassId) (dI : Nat → Nat → Nat) (a : Nat → Nat) (ac : Nat → ClassId) (g : (St) → Option (St)) (r : St) : Prop := ∀ (s0 : St) (H : Heap) (locs : List Loc) (ls : Array Slot), g s0 = some r → va_P (dC, dI) vwCl (dw_X13 a ac s0) H → va_D A (dw_X13 a ac s0) → va_S A s.heap H locs → lv_has ls 4 [(0, .ref (a 0))] → W p l e (headSpec ow_dm_X13_readAll ({ frames := 12, cells := 0, slots := 0, locals := 287 })).room s m args below meth c H locs 0 0 Q (F0 m 0 ls [])
set_option maxHeartbeats 40000000 in
set_option maxRecDepth 100000 in
theorem db_X13_readAll_201 {p : Program} {l : Launch} {e : Env} {s : State} {m : MethodId} {args : Array Value} {below : List Frame} {meth : Method} {c : Code} {Q : State → Prop} {A : Nat → Prop} {dC : Nat → ClassId} {dI : Nat → Nat → Nat} {a : Nat → Nat} {ac : Nat → ClassId} {n : Nat} {r : St} (C : nd_C p l s m args c A (dC, dI) cX13_readAll 4 RX13 ow_dm_X13_readAll (dk_X13 ac)) (K : nd_Kv p l e (headSpec ow_dm_X13_readAll ({ frames := 12, cells := 0, slots := 0, locals := 287 })).room s m args below meth c Q A (dC, dI) cX13_readAll (St) (dw_X13 a ac) r) : dj_X13_readAll_201 p l e s m args below meth c Q A dC dI a ac (df_X13_readAll_201 n) r := by
  obtain ⟨hlt, hx, hb, hml, hown, hts, hN, hA, hK⟩ := id C
  intro s0 H locs ls h hP hD hS hl
  unfold df_X13_readAll_201 at h
  exact K _ _ _ _ _ dX13_readAll_201 (Option.some.inj h).symm hP hD hS
set_option maxHeartbeats 40000000 in
set_option maxRecDepth 100000 in
theorem dB_X13_readAll_152 {p : Program} {l : Launch} {e : Env} {s : State} {m : MethodId} {args : Array Value} {below : List Frame} {meth : Method} {c : Code} {Q : State → Prop} {A : Nat → Prop} {dC : Nat → ClassId} {dI : Nat → Nat → Nat} {a : Nat → Nat} {ac : Nat → ClassId} {n : Nat} {r : St} (C : nd_C p l s m args c A (dC, dI) cX13_readAll 4 RX13 ow_dm_X13_readAll (dk_X13 ac)) (K : nd_Kv p l e (headSpec ow_dm_X13_readAll ({ frames := 12, cells := 0, slots := 0, locals := 287 })).room s m args below meth c Q A (dC, dI) cX13_readAll (St) (dw_X13 a ac) r) {g25 : (St) → Option (St)} (J25 : dj_X13_readAll_25 p l e s m args below meth c Q A dC dI a ac g25 r) {g152 : (St) → Option (St)} (J152 : dj_X13_readAll_152 p l e s m args below meth c Q A dC dI a ac g152 r) : dj_X13_readAll_152 p l e s m args below meth c Q A dC dI a ac (dF_X13_readAll_152 n g25 g152) r := by
  obtain ⟨hlt, hx, hb, hml, hown, hts, hN, hA, hK⟩ := id C
  intro s0 H locs ls h hP hD hS hl
  unfold dF_X13_readAll_152 at h
  refine lv_aload_n hx hb dX13_readAll_152 rfl (lv_at hl 0 rfl) ?_
  refine lv_aload_n hx hb dX13_readAll_153 rfl (lv_at hl 0 rfl) ?_
  refine va_get (D := (dC, dI)) (ci := 14) (v := .int (sI s0 7)) (C := RX13) (T := TX13) (N := 37) hx hb hts hi_dm_X13_readAll_X13 hown hK hP 0 rfl rfl 16 (by decide) (hts (.fieldLink RX13 374 "TimeMachineModel$Assembler" "at" "I") (List.mem_of_getElem? (i := 1) rfl)) (fun _ h9 => h9) rfl dX13_readAll_154 ?_
  obtain ⟨q12, s13, hq, h⟩ := nd_b2_e h
  have hPc := hP
  have hDc := hD
  have hKc := hK
  have hFc := nd_rs hD hS hA
  refine nd_cVi (As := [.int (sI s0 7)]) (rest := []) (q := q12) (w' := dw_X13 a ac s13) ⟨hx, hb, hml, hown, hts⟩ (fun sz => dm_X13_charAt l hlt dC dI a ac n ((sI s0 7)) s0 hq sz) (cwV 1 hts gi_dm_X13_readAll_1 rfl rfl rfl (by decide +kernel) ⟨Nat.le_of_ble_eq_true rfl, Nat.le_of_ble_eq_true rfl⟩) hPc hDc hKc hS hA hN (va_recv hKc hPc (ci := 14) (q0 := 0) rfl rfl) rfl hl.1 rfl (Nat.le_of_ble_eq_true rfl) dX13_readAll_157 (fun H locs hP1 hD1 hk1 hS => ?_)
  have hP := hP1
  have hD := hD1.weaken (fun k q _ h => hFc q.1 h)
  refine lv_bipush (v := 10) hx hb dX13_readAll_160 (by decide) ?_
  refine lv_icmp_eq (tgt := 178) hx hb dX13_readAll_162 (by decide) (fun c15 => ?_) (fun c15 => ?_)
  · have h := nd_pos h c15
    refine lv_aload_n hx hb dX13_readAll_178 rfl (lv_at hl 0 rfl) ?_
    refine lv_dup hx hb dX13_readAll_179 rfl ?_
    refine va_get (D := (dC, dI)) (ci := 14) (v := .int (sI s13 7)) (C := RX13) (T := TX13) (N := 37) hx hb hts hi_dm_X13_readAll_X13 hown hK hP 0 rfl rfl 16 (by decide) (hts (.fieldLink RX13 374 "TimeMachineModel$Assembler" "at" "I") (List.mem_of_getElem? (i := 1) rfl)) (fun _ h9 => h9) rfl dX13_readAll_180 ?_
    refine lv_iconst (v := 1) hx hb dX13_readAll_183 (by decide) ?_
    refine lv_iadd hx hb dX13_readAll_184 ?_
    refine va_put (D := (dC, dI)) (ci := 14) (v := .int ((sI s13 7) + 1)) (ty := .int) (C := RX13) (T := TX13) (N := 37) hx hb hts hi_dm_X13_readAll_X13 tyX13 tyX13_ok nmX13 hown hK hP hD hS 0 rfl rfl 16 (by decide) (hts (.fieldLink RX13 374 "TimeMachineModel$Assembler" "at" "I") (List.mem_of_getElem? (i := 1) rfl)) (fun _ h9 => h9) rfl (by decide +kernel) rfl rfl (Nat.le_of_ble_eq_true rfl) dX13_readAll_185 (fun H locs hP hD hS => ?_)
    obtain ⟨s16, es16, h⟩ := nd_let_e h
    have hP : va_P (dC, dI) vwCl (dw_X13 a ac s16) H := by rw [es16]; exact hP
    have hD : va_D A (dw_X13 a ac s16) := by rw [es16]; exact hD
    refine lv_aload_n hx hb dX13_readAll_188 rfl (lv_at hl 0 rfl) ?_
    refine lv_dup hx hb dX13_readAll_189 rfl ?_
    refine va_get (D := (dC, dI)) (ci := 14) (v := .int (sI s16 13)) (C := RX13) (T := TX13) (N := 37) hx hb hts hi_dm_X13_readAll_X13 hown hK hP 0 rfl rfl 22 (by decide) (hts (.fieldLink RX13 413 "TimeMachineModel$Assembler" "line" "I") (List.mem_of_getElem? (i := 2) rfl)) (fun _ h9 => h9) rfl dX13_readAll_190 ?_
    refine lv_iconst (v := 1) hx hb dX13_readAll_193 (by decide) ?_
    refine lv_iadd hx hb dX13_readAll_194 ?_
    refine va_put (D := (dC, dI)) (ci := 14) (v := .int ((sI s16 13) + 1)) (ty := .int) (C := RX13) (T := TX13) (N := 37) hx hb hts hi_dm_X13_readAll_X13 tyX13 tyX13_ok nmX13 hown hK hP hD hS 0 rfl rfl 22 (by decide) (hts (.fieldLink RX13 413 "TimeMachineModel$Assembler" "line" "I") (List.mem_of_getElem? (i := 2) rfl)) (fun _ h9 => h9) rfl (by decide +kernel) rfl rfl (Nat.le_of_ble_eq_true rfl) dX13_readAll_195 (fun H locs hP hD hS => ?_)
    obtain ⟨s17, es17, h⟩ := nd_let_e h
    have hP : va_P (dC, dI) vwCl (dw_X13 a ac s17) H := by rw [es17]; exact hP
    have hD : va_D A (dw_X13 a ac s17) := by rw [es17]; exact hD
    refine lv_goto (tgt := 25) hx hb dX13_readAll_198 (by decide) ?_
    exact (J25)  s17 _ _ _ h hP hD hS (lv_sub hl [0] rfl)
  · have h := nd_neg h c15
    refine lv_aload_n hx hb dX13_readAll_165 rfl (lv_at hl 0 rfl) ?_
    refine lv_dup hx hb dX13_readAll_166 rfl ?_
    refine va_get (D := (dC, dI)) (ci := 14) (v := .int (sI s13 7)) (C := RX13) (T := TX13) (N := 37) hx hb hts hi_dm_X13_readAll_X13 hown hK hP 0 rfl rfl 16 (by decide) (hts (.fieldLink RX13 374 "TimeMachineModel$Assembler" "at" "I") (List.mem_of_getElem? (i := 1) rfl)) (fun _ h9 => h9) rfl dX13_readAll_167 ?_
    refine lv_iconst (v := 1) hx hb dX13_readAll_170 (by decide) ?_
    refine lv_iadd hx hb dX13_readAll_171 ?_
    refine va_put (D := (dC, dI)) (ci := 14) (v := .int ((sI s13 7) + 1)) (ty := .int) (C := RX13) (T := TX13) (N := 37) hx hb hts hi_dm_X13_readAll_X13 tyX13 tyX13_ok nmX13 hown hK hP hD hS 0 rfl rfl 16 (by decide) (hts (.fieldLink RX13 374 "TimeMachineModel$Assembler" "at" "I") (List.mem_of_getElem? (i := 1) rfl)) (fun _ h9 => h9) rfl (by decide +kernel) rfl rfl (Nat.le_of_ble_eq_true rfl) dX13_readAll_172 (fun H locs hP hD hS => ?_)
    obtain ⟨s18, es18, h⟩ := nd_let_e h
    have hP : va_P (dC, dI) vwCl (dw_X13 a ac s18) H := by rw [es18]; exact hP
    have hD : va_D A (dw_X13 a ac s18) := by rw [es18]; exact hD
    refine lv_goto (tgt := 152) hx hb dX13_readAll_175 (by decide) ?_
    exact (J152)  s18 _ _ _ h hP hD hS (lv_sub hl [0] rfl)
set_option maxHeartbeats 40000000 in
set_option maxRecDepth 100000 in
theorem db_X13_readAll_152 {p : Program} {l : Launch} {e : Env} {s : State} {m : MethodId} {args : Array Value} {below : List Frame} {meth : Method} {c : Code} {Q : State → Prop} {A : Nat → Prop} {dC : Nat → ClassId} {dI : Nat → Nat → Nat} {a : Nat → Nat} {ac : Nat → ClassId} {n : Nat} {r : St} (C : nd_C p l s m args c A (dC, dI) cX13_readAll 4 RX13 ow_dm_X13_readAll (dk_X13 ac)) (K : nd_Kv p l e (headSpec ow_dm_X13_readAll ({ frames := 12, cells := 0, slots := 0, locals := 287 })).room s m args below meth c Q A (dC, dI) cX13_readAll (St) (dw_X13 a ac) r) {g25 : (St) → Option (St)} (J25 : dj_X13_readAll_25 p l e s m args below meth c Q A dC dI a ac g25 r) (k : Nat) : dj_X13_readAll_152 p l e s m args below meth c Q A dC dI a ac (df_X13_readAll_152 n g25 k) r := by
  induction k with
  | zero => intro s0 H locs ls h; exact nomatch (show (none : Option (St)) = some r from h)
  | succ k ih => exact dB_X13_readAll_152 C K J25 ih
set_option maxHeartbeats 40000000 in
set_option maxRecDepth 100000 in
theorem db_X13_readAll_118 {p : Program} {l : Launch} {e : Env} {s : State} {m : MethodId} {args : Array Value} {below : List Frame} {meth : Method} {c : Code} {Q : State → Prop} {A : Nat → Prop} {dC : Nat → ClassId} {dI : Nat → Nat → Nat} {a : Nat → Nat} {ac : Nat → ClassId} {n : Nat} {r : St} (C : nd_C p l s m args c A (dC, dI) cX13_readAll 4 RX13 ow_dm_X13_readAll (dk_X13 ac)) (K : nd_Kv p l e (headSpec ow_dm_X13_readAll ({ frames := 12, cells := 0, slots := 0, locals := 287 })).room s m args below meth c Q A (dC, dI) cX13_readAll (St) (dw_X13 a ac) r) {g25 : (St) → Option (St)} (J25 : dj_X13_readAll_25 p l e s m args below meth c Q A dC dI a ac g25 r) : dj_X13_readAll_118 p l e s m args below meth c Q A dC dI a ac (df_X13_readAll_118 n g25) r := by
  obtain ⟨hlt, hx, hb, hml, hown, hts, hN, hA, hK⟩ := id C
  intro y0 s0 H locs ls h hP hD hS hl
  unfold df_X13_readAll_118 at h
  refine lv_istore_n (lv' := [(3, .int y0), (0, .ref (a 0))]) hx hb dX13_readAll_118 rfl hl (by decide) rfl (fun ls hl => ?_)
  refine lv_iload_n hx hb dX13_readAll_119 rfl (lv_at hl 0 rfl) ?_
  refine lv_if_lt (tgt := 152) hx hb dX13_readAll_120 (by decide) (fun c30 => ?_) (fun c30 => ?_)
  · have h := nd_pos h c30
    exact (db_X13_readAll_152 C K J25 n)  s0 _ _ _ h hP hD hS (lv_sub hl [1] rfl)
  · have h := nd_neg h c30
    refine lv_aload_n hx hb dX13_readAll_123 rfl (lv_at hl 1 rfl) ?_
    refine lv_dup hx hb dX13_readAll_124 rfl ?_
    refine va_get (D := (dC, dI)) (ci := 14) (v := .int (sI s0 2)) (C := RX13) (T := TX13) (N := 37) hx hb hts hi_dm_X13_readAll_X13 hown hK hP 0 rfl rfl 6 (by decide) (hts (.fieldLink RX13 673 "TimeMachineModel$Assembler" "statements" "I") (List.mem_of_getElem? (i := 4) rfl)) (fun _ h9 => h9) rfl dX13_readAll_125 ?_
    refine lv_iconst (v := 1) hx hb dX13_readAll_128 (by decide) ?_
    refine lv_iadd hx hb dX13_readAll_129 ?_
    refine va_put (D := (dC, dI)) (ci := 14) (v := .int ((sI s0 2) + 1)) (ty := .int) (C := RX13) (T := TX13) (N := 37) hx hb hts hi_dm_X13_readAll_X13 tyX13 tyX13_ok nmX13 hown hK hP hD hS 0 rfl rfl 6 (by decide) (hts (.fieldLink RX13 673 "TimeMachineModel$Assembler" "statements" "I") (List.mem_of_getElem? (i := 4) rfl)) (fun _ h9 => h9) rfl (by decide +kernel) rfl rfl (Nat.le_of_ble_eq_true rfl) dX13_readAll_130 (fun H locs hP hD hS => ?_)
    obtain ⟨s31, es31, h⟩ := nd_let_e h
    have hP : va_P (dC, dI) vwCl (dw_X13 a ac s31) H := by rw [es31]; exact hP
    have hD : va_D A (dw_X13 a ac s31) := by rw [es31]; exact hD
    refine lv_aload_n hx hb dX13_readAll_133 rfl (lv_at hl 1 rfl) ?_
    refine va_get (D := (dC, dI)) (ci := 14) (v := .ref (a 7)) (C := RX13) (T := TX13) (N := 37) hx hb hts hi_dm_X13_readAll_X13 hown hK hP 0 rfl rfl 9 (by decide) (hts (.fieldLink RX13 334 "TimeMachineModel$Assembler" "bytes" "[I") (List.mem_of_getElem? (i := 17) rfl)) (fun _ h9 => h9) rfl dX13_readAll_134 ?_
    refine lv_iload_n hx hb dX13_readAll_137 rfl (lv_at hl 0 rfl) ?_
    obtain ⟨i32, h⟩ := nd_ck_e h
    refine va_iald (i := y0) hx hb hK hP 7 6 rfl rfl i32 dX13_readAll_138 ?_
    refine lv_if_ne (tgt := 152) hx hb dX13_readAll_139 (by decide) (fun c33 => ?_) (fun c33 => ?_)
    · have h := nd_neg h c33
      exact (db_X13_readAll_152 C K J25 n)  s31 _ _ _ h hP hD hS (lv_sub hl [1] rfl)
    · have h := nd_pos h c33
      refine lv_aload_n hx hb dX13_readAll_142 rfl (lv_at hl 1 rfl) ?_
      refine va_get (D := (dC, dI)) (ci := 14) (v := .ref (a 7)) (C := RX13) (T := TX13) (N := 37) hx hb hts hi_dm_X13_readAll_X13 hown hK hP 0 rfl rfl 9 (by decide) (hts (.fieldLink RX13 334 "TimeMachineModel$Assembler" "bytes" "[I") (List.mem_of_getElem? (i := 17) rfl)) (fun _ h9 => h9) rfl dX13_readAll_143 ?_
      refine lv_iload_n hx hb dX13_readAll_146 rfl (lv_at hl 0 rfl) ?_
      refine lv_aload_n hx hb dX13_readAll_147 rfl (lv_at hl 1 rfl) ?_
      refine va_get (D := (dC, dI)) (ci := 14) (v := .int (sI s31 18)) (C := RX13) (T := TX13) (N := 37) hx hb hts hi_dm_X13_readAll_X13 hown hK hP 0 rfl rfl 27 (by decide) (hts (.fieldLink RX13 541 "TimeMachineModel$Assembler" "count" "I") (List.mem_of_getElem? (i := 21) rfl)) (fun _ h9 => h9) rfl dX13_readAll_148 ?_
      obtain ⟨i34, h⟩ := nd_ck_e h
      refine va_iast (i := y0) (x := (sI s31 18)) hx hb hK hP hD hS 7 6 rfl rfl i34 dX13_readAll_151 (fun H locs hP hD hS => ?_)
      obtain ⟨s35, es35, h⟩ := nd_let_e h
      have hP : va_P (dC, dI) vwCl (dw_X13 a ac s35) H := by rw [es35]; exact hP
      have hD : va_D A (dw_X13 a ac s35) := by rw [es35]; exact hD
      exact (db_X13_readAll_152 C K J25 n)  s35 _ _ _ h hP hD hS (lv_sub hl [1] rfl)
set_option maxHeartbeats 40000000 in
set_option maxRecDepth 100000 in
theorem dB_X13_readAll_25 {p : Program} {l : Launch} {e : Env} {s : State} {m : MethodId} {args : Array Value} {below : List Frame} {meth : Method} {c : Code} {Q : State → Prop} {A : Nat → Prop} {dC : Nat → ClassId} {dI : Nat → Nat → Nat} {a : Nat → Nat} {ac : Nat → ClassId} {n : Nat} {r : St} (C : nd_C p l s m args c A (dC, dI) cX13_readAll 4 RX13 ow_dm_X13_readAll (dk_X13 ac)) (K : nd_Kv p l e (headSpec ow_dm_X13_readAll ({ frames := 12, cells := 0, slots := 0, locals := 287 })).room s m args below meth c Q A (dC, dI) cX13_readAll (St) (dw_X13 a ac) r) {g25 : (St) → Option (St)} (J25 : dj_X13_readAll_25 p l e s m args below meth c Q A dC dI a ac g25 r) : dj_X13_readAll_25 p l e s m args below meth c Q A dC dI a ac (dF_X13_readAll_25 n g25) r := by
  obtain ⟨hlt, hx, hb, hml, hown, hts, hN, hA, hK⟩ := id C
  intro s0 H locs ls h hP hD hS hl
  unfold dF_X13_readAll_25 at h
  refine lv_aload_n hx hb dX13_readAll_25 rfl (lv_at hl 0 rfl) ?_
  refine va_get (D := (dC, dI)) (ci := 14) (v := .int (sI s0 12)) (C := RX13) (T := TX13) (N := 37) hx hb hts hi_dm_X13_readAll_X13 hown hK hP 0 rfl rfl 21 (by decide) (hts (.fieldLink RX13 410 "TimeMachineModel$Assembler" "fault" "I") (List.mem_of_getElem? (i := 6) rfl)) (fun _ h9 => h9) rfl dX13_readAll_26 ?_
  refine lv_if_ne (tgt := 201) hx hb dX13_readAll_29 (by decide) (fun c6 => ?_) (fun c6 => ?_)
  · have h := nd_neg h c6
    exact (db_X13_readAll_201 C K)  s0 _ _ _ h hP hD hS (lv_sub hl [] rfl)
  · have h := nd_pos h c6
    refine lv_aload_n hx hb dX13_readAll_32 rfl (lv_at hl 0 rfl) ?_
    refine va_get (D := (dC, dI)) (ci := 14) (v := .int (sI s0 7)) (C := RX13) (T := TX13) (N := 37) hx hb hts hi_dm_X13_readAll_X13 hown hK hP 0 rfl rfl 16 (by decide) (hts (.fieldLink RX13 374 "TimeMachineModel$Assembler" "at" "I") (List.mem_of_getElem? (i := 1) rfl)) (fun _ h9 => h9) rfl dX13_readAll_33 ?_
    refine lv_aload_n hx hb dX13_readAll_36 rfl (lv_at hl 0 rfl) ?_
    refine va_get (D := (dC, dI)) (ci := 14) (v := .int (sI s0 0)) (C := RX13) (T := TX13) (N := 37) hx hb hts hi_dm_X13_readAll_X13 hown hK hP 0 rfl rfl 4 (by decide) (hts (.fieldLink RX13 347 "TimeMachineModel$Assembler" "size" "I") (List.mem_of_getElem? (i := 7) rfl)) (fun _ h9 => h9) rfl dX13_readAll_37 ?_
    refine lv_icmp_ge (tgt := 201) hx hb dX13_readAll_40 (by decide) (fun c7 => ?_) (fun c7 => ?_)
    · have h := nd_pos h c7
      exact (db_X13_readAll_201 C K)  s0 _ _ _ h hP hD hS (lv_sub hl [] rfl)
    · have h := nd_neg h c7
      refine lv_aload_n hx hb dX13_readAll_43 rfl (lv_at hl 0 rfl) ?_
      obtain ⟨q8, s9, hq, h⟩ := nd_b2_e h
      have hPc := hP
      have hDc := hD
      have hKc := hK
      have hFc := nd_rs hD hS hA
      refine nd_cVi (As := []) (rest := []) (q := q8) (w' := dw_X13 a ac s9) ⟨hx, hb, hml, hown, hts⟩ (fun sz => dm_X13_labelled l hlt dC dI a ac n  s0 hq sz) (cwV 0 hts gi_dm_X13_readAll_0 rfl rfl rfl (by decide +kernel) ⟨Nat.le_of_ble_eq_true rfl, Nat.le_of_ble_eq_true rfl⟩) hPc hDc hKc hS hA hN (va_recv hKc hPc (ci := 14) (q0 := 0) rfl rfl) rfl hl.1 rfl (Nat.le_of_ble_eq_true rfl) dX13_readAll_44 (fun H locs hP1 hD1 hk1 hS => ?_)
      have hP := hP1
      have hD := hD1.weaken (fun k q _ h => hFc q.1 h)
      refine lv_if_eq (tgt := 152) hx hb dX13_readAll_47 (by decide) (fun c11 => ?_) (fun c11 => ?_)
      · have h := nd_pos h c11
        exact (db_X13_readAll_152 C K J25 n)  s9 _ _ _ h hP hD hS (lv_sub hl [0] rfl)
      · have h := nd_neg h c11
        refine lv_aload_n hx hb dX13_readAll_50 rfl (lv_at hl 0 rfl) ?_
        refine lv_aload_n hx hb dX13_readAll_51 rfl (lv_at hl 0 rfl) ?_
        refine va_get (D := (dC, dI)) (ci := 14) (v := .int (sI s9 2)) (C := RX13) (T := TX13) (N := 37) hx hb hts hi_dm_X13_readAll_X13 hown hK hP 0 rfl rfl 6 (by decide) (hts (.fieldLink RX13 673 "TimeMachineModel$Assembler" "statements" "I") (List.mem_of_getElem? (i := 4) rfl)) (fun _ h9 => h9) rfl dX13_readAll_52 ?_
        refine va_put (D := (dC, dI)) (ci := 14) (v := .int (sI s9 2)) (ty := .int) (C := RX13) (T := TX13) (N := 37) hx hb hts hi_dm_X13_readAll_X13 tyX13 tyX13_ok nmX13 hown hK hP hD hS 0 rfl rfl 25 (by decide) (hts (.fieldLink RX13 454 "TimeMachineModel$Assembler" "current" "I") (List.mem_of_getElem? (i := 15) rfl)) (fun _ h9 => h9) rfl (by decide +kernel) rfl rfl (Nat.le_of_ble_eq_true rfl) dX13_readAll_55 (fun H locs hP hD hS => ?_)
        obtain ⟨s19, es19, h⟩ := nd_let_e h
        have hP : va_P (dC, dI) vwCl (dw_X13 a ac s19) H := by rw [es19]; exact hP
        have hD : va_D A (dw_X13 a ac s19) := by rw [es19]; exact hD
        refine lv_aload_n hx hb dX13_readAll_58 rfl (lv_at hl 0 rfl) ?_
        refine va_get (D := (dC, dI)) (ci := 14) (v := .int (sI s19 7)) (C := RX13) (T := TX13) (N := 37) hx hb hts hi_dm_X13_readAll_X13 hown hK hP 0 rfl rfl 16 (by decide) (hts (.fieldLink RX13 374 "TimeMachineModel$Assembler" "at" "I") (List.mem_of_getElem? (i := 1) rfl)) (fun _ h9 => h9) rfl dX13_readAll_59 ?_
        refine lv_topi (fun z20 ez20 => ?_)
        have h := nd_at h ez20
        refine lv_istore_n (lv' := [(1, .int z20), (0, .ref (a 0))]) hx hb dX13_readAll_62 rfl hl (by decide) rfl (fun ls hl => ?_)
        refine lv_aload_n hx hb dX13_readAll_63 rfl (lv_at hl 1 rfl) ?_
        refine va_get (D := (dC, dI)) (ci := 14) (v := .ref (a 5)) (C := RX13) (T := TX13) (N := 37) hx hb hts hi_dm_X13_readAll_X13 hown hK hP 0 rfl rfl 7 (by decide) (hts (.fieldLink RX13 328 "TimeMachineModel$Assembler" "place" "[I") (List.mem_of_getElem? (i := 16) rfl)) (fun _ h9 => h9) rfl dX13_readAll_64 ?_
        refine lv_aload_n hx hb dX13_readAll_67 rfl (lv_at hl 1 rfl) ?_
        refine va_get (D := (dC, dI)) (ci := 14) (v := .int (sI s19 16)) (C := RX13) (T := TX13) (N := 37) hx hb hts hi_dm_X13_readAll_X13 hown hK hP 0 rfl rfl 25 (by decide) (hts (.fieldLink RX13 454 "TimeMachineModel$Assembler" "current" "I") (List.mem_of_getElem? (i := 15) rfl)) (fun _ h9 => h9) rfl dX13_readAll_68 ?_
        refine lv_iload_n hx hb dX13_readAll_71 rfl (lv_at hl 0 rfl) ?_
        refine lv_aload_n hx hb dX13_readAll_72 rfl (lv_at hl 1 rfl) ?_
        refine va_get (D := (dC, dI)) (ci := 14) (v := .int (sI s19 14)) (C := RX13) (T := TX13) (N := 37) hx hb hts hi_dm_X13_readAll_X13 hown hK hP 0 rfl rfl 23 (by decide) (hts (.fieldLink RX13 634 "TimeMachineModel$Assembler" "section" "I") (List.mem_of_getElem? (i := 3) rfl)) (fun _ h9 => h9) rfl dX13_readAll_73 ?_
        refine lv_bipush (v := 19) hx hb dX13_readAll_76 (by decide) ?_
        refine lv_ishl hx hb dX13_readAll_78 ?_
        refine lv_ior hx hb dX13_readAll_79 ?_
        obtain ⟨i21, h⟩ := nd_ck_e h
        refine va_iast (i := (sI s19 16)) (x := (z20 ||| (((sI s19 14) : Int32) <<< ((19 : Int32) &&& 31)))) hx hb hK hP hD hS 5 4 rfl rfl i21 dX13_readAll_80 (fun H locs hP hD hS => ?_)
        obtain ⟨s22, es22, h⟩ := nd_let_e h
        have hP : va_P (dC, dI) vwCl (dw_X13 a ac s22) H := by rw [es22]; exact hP
        have hD : va_D A (dw_X13 a ac s22) := by rw [es22]; exact hD
        refine lv_aload_n hx hb dX13_readAll_81 rfl (lv_at hl 1 rfl) ?_
        refine va_get (D := (dC, dI)) (ci := 14) (v := .ref (a 7)) (C := RX13) (T := TX13) (N := 37) hx hb hts hi_dm_X13_readAll_X13 hown hK hP 0 rfl rfl 9 (by decide) (hts (.fieldLink RX13 334 "TimeMachineModel$Assembler" "bytes" "[I") (List.mem_of_getElem? (i := 17) rfl)) (fun _ h9 => h9) rfl dX13_readAll_82 ?_
        refine lv_aload_n hx hb dX13_readAll_85 rfl (lv_at hl 1 rfl) ?_
        refine va_get (D := (dC, dI)) (ci := 14) (v := .int (sI s22 16)) (C := RX13) (T := TX13) (N := 37) hx hb hts hi_dm_X13_readAll_X13 hown hK hP 0 rfl rfl 25 (by decide) (hts (.fieldLink RX13 454 "TimeMachineModel$Assembler" "current" "I") (List.mem_of_getElem? (i := 15) rfl)) (fun _ h9 => h9) rfl dX13_readAll_86 ?_
        refine lv_iconst (v := 0) hx hb dX13_readAll_89 (by decide) ?_
        obtain ⟨i23, h⟩ := nd_ck_e h
        refine va_iast (i := (sI s22 16)) (x := 0) hx hb hK hP hD hS 7 6 rfl rfl i23 dX13_readAll_90 (fun H locs hP hD hS => ?_)
        obtain ⟨s24, es24, h⟩ := nd_let_e h
        have hP : va_P (dC, dI) vwCl (dw_X13 a ac s24) H := by rw [es24]; exact hP
        have hD : va_D A (dw_X13 a ac s24) := by rw [es24]; exact hD
        refine lv_aload_n hx hb dX13_readAll_91 rfl (lv_at hl 1 rfl) ?_
        refine va_get (D := (dC, dI)) (ci := 14) (v := .int (sI s24 14)) (C := RX13) (T := TX13) (N := 37) hx hb hts hi_dm_X13_readAll_X13 hown hK hP 0 rfl rfl 23 (by decide) (hts (.fieldLink RX13 634 "TimeMachineModel$Assembler" "section" "I") (List.mem_of_getElem? (i := 3) rfl)) (fun _ h9 => h9) rfl dX13_readAll_92 ?_
        refine lv_topi (fun z25 ez25 => ?_)
        have h := nd_at h ez25
        refine lv_istore_n (lv' := [(2, .int z25), (1, .int z20), (0, .ref (a 0))]) hx hb dX13_readAll_95 rfl hl (by decide) rfl (fun ls hl => ?_)
        refine lv_aload_n hx hb dX13_readAll_96 rfl (lv_at hl 2 rfl) ?_
        refine lv_iload_n hx hb dX13_readAll_97 rfl (lv_at hl 1 rfl) ?_
        refine lv_iconst (v := 0) hx hb dX13_readAll_98 (by decide) ?_
        obtain ⟨s27, hq, h⟩ := nd_b1_e h
        have hPc := hP
        have hDc := hD
        have hKc := hK
        have hFc := nd_rs hD hS hA
        refine nd_cVv (As := [.int z20, .int 0]) (rest := []) (w' := dw_X13 a ac s27) ⟨hx, hb, hml, hown, hts⟩ (fun sz => dm_X13_statement l hlt dC dI a ac n (z20) (0) s24 hq sz) (cwV 2 hts gi_dm_X13_readAll_2 rfl rfl rfl (by decide +kernel) ⟨Nat.le_of_ble_eq_true rfl, Nat.le_of_ble_eq_true rfl⟩) hPc hDc hKc hS hA hN (va_recv hKc hPc (ci := 14) (q0 := 0) rfl rfl) rfl hl.1 rfl (Nat.le_of_ble_eq_true rfl) dX13_readAll_99 (fun H locs hP1 hD1 hk1 hS => ?_)
        have hP := hP1
        have hD := hD1.weaken (fun k q _ h => hFc q.1 h)
        refine lv_iload_n hx hb dX13_readAll_102 rfl (lv_at hl 0 rfl) ?_
        refine lv_aload_n hx hb dX13_readAll_103 rfl (lv_at hl 2 rfl) ?_
        refine va_get (D := (dC, dI)) (ci := 14) (v := .int (sI s27 14)) (C := RX13) (T := TX13) (N := 37) hx hb hts hi_dm_X13_readAll_X13 hown hK hP 0 rfl rfl 23 (by decide) (hts (.fieldLink RX13 634 "TimeMachineModel$Assembler" "section" "I") (List.mem_of_getElem? (i := 3) rfl)) (fun _ h9 => h9) rfl dX13_readAll_104 ?_
        refine lv_icmp_ne (tgt := 117) hx hb dX13_readAll_107 (by decide) (fun c29 => ?_) (fun c29 => ?_)
        · have h := nd_neg h c29
          refine lv_iconst (v := (-1)) hx hb dX13_readAll_117 (by decide) ?_
          exact (db_X13_readAll_118 C K J25) ((-1)) s27 _ _ _ h hP hD hS (lv_sub hl [2] rfl)
        · have h := nd_pos h c29
          refine lv_aload_n hx hb dX13_readAll_110 rfl (lv_at hl 2 rfl) ?_
          refine va_get (D := (dC, dI)) (ci := 14) (v := .int (sI s27 16)) (C := RX13) (T := TX13) (N := 37) hx hb hts hi_dm_X13_readAll_X13 hown hK hP 0 rfl rfl 25 (by decide) (hts (.fieldLink RX13 454 "TimeMachineModel$Assembler" "current" "I") (List.mem_of_getElem? (i := 15) rfl)) (fun _ h9 => h9) rfl dX13_readAll_111 ?_
          refine lv_goto (tgt := 118) hx hb dX13_readAll_114 (by decide) ?_
          exact (db_X13_readAll_118 C K J25) ((sI s27 16)) s27 _ _ _ h hP hD hS (lv_sub hl [2] rfl)
set_option maxHeartbeats 40000000 in
set_option maxRecDepth 100000 in
theorem db_X13_readAll_25 {p : Program} {l : Launch} {e : Env} {s : State} {m : MethodId} {args : Array Value} {below : List Frame} {meth : Method} {c : Code} {Q : State → Prop} {A : Nat → Prop} {dC : Nat → ClassId} {dI : Nat → Nat → Nat} {a : Nat → Nat} {ac : Nat → ClassId} {n : Nat} {r : St} (C : nd_C p l s m args c A (dC, dI) cX13_readAll 4 RX13 ow_dm_X13_readAll (dk_X13 ac)) (K : nd_Kv p l e (headSpec ow_dm_X13_readAll ({ frames := 12, cells := 0, slots := 0, locals := 287 })).room s m args below meth c Q A (dC, dI) cX13_readAll (St) (dw_X13 a ac) r) (k : Nat) : dj_X13_readAll_25 p l e s m args below meth c Q A dC dI a ac (df_X13_readAll_25 n k) r := by
  induction k with
  | zero => intro s0 H locs ls h; exact nomatch (show (none : Option (St)) = some r from h)
  | succ k ih => exact dB_X13_readAll_25 C K ih
set_option maxHeartbeats 40000000 in
set_option maxRecDepth 100000 in
theorem db_X13_readAll_0 {p : Program} {l : Launch} {e : Env} {s : State} {m : MethodId} {args : Array Value} {below : List Frame} {meth : Method} {c : Code} {Q : State → Prop} {A : Nat → Prop} {dC : Nat → ClassId} {dI : Nat → Nat → Nat} {a : Nat → Nat} {ac : Nat → ClassId} {n : Nat} {r : St} (C : nd_C p l s m args c A (dC, dI) cX13_readAll 4 RX13 ow_dm_X13_readAll (dk_X13 ac)) (K : nd_Kv p l e (headSpec ow_dm_X13_readAll ({ frames := 12, cells := 0, slots := 0, locals := 287 })).room s m args below meth c Q A (dC, dI) cX13_readAll (St) (dw_X13 a ac) r) : dj_X13_readAll_0 p l e s m args below meth c Q A dC dI a ac (df_X13_readAll_0 n) r := by
  obtain ⟨hlt, hx, hb, hml, hown, hts, hN, hA, hK⟩ := id C
  intro s0 H locs ls h hP hD hS hl
  unfold df_X13_readAll_0 at h
  refine lv_aload_n hx hb dX13_readAll_0 rfl (lv_at hl 0 rfl) ?_
  refine lv_iconst (v := 0) hx hb dX13_readAll_1 (by decide) ?_
  refine va_put (D := (dC, dI)) (ci := 14) (v := .int 0) (ty := .int) (C := RX13) (T := TX13) (N := 37) hx hb hts hi_dm_X13_readAll_X13 tyX13 tyX13_ok nmX13 hown hK hP hD hS 0 rfl rfl 16 (by decide) (hts (.fieldLink RX13 374 "TimeMachineModel$Assembler" "at" "I") (List.mem_of_getElem? (i := 1) rfl)) (fun _ h9 => h9) rfl (by decide +kernel) rfl rfl (Nat.le_of_ble_eq_true rfl) dX13_readAll_2 (fun H locs hP hD hS => ?_)
  obtain ⟨s1, es1, h⟩ := nd_let_e h
  have hP : va_P (dC, dI) vwCl (dw_X13 a ac s1) H := by rw [es1]; exact hP
  have hD : va_D A (dw_X13 a ac s1) := by rw [es1]; exact hD
  refine lv_aload_n hx hb dX13_readAll_5 rfl (lv_at hl 0 rfl) ?_
  refine lv_iconst (v := 1) hx hb dX13_readAll_6 (by decide) ?_
  refine va_put (D := (dC, dI)) (ci := 14) (v := .int 1) (ty := .int) (C := RX13) (T := TX13) (N := 37) hx hb hts hi_dm_X13_readAll_X13 tyX13 tyX13_ok nmX13 hown hK hP hD hS 0 rfl rfl 22 (by decide) (hts (.fieldLink RX13 413 "TimeMachineModel$Assembler" "line" "I") (List.mem_of_getElem? (i := 2) rfl)) (fun _ h9 => h9) rfl (by decide +kernel) rfl rfl (Nat.le_of_ble_eq_true rfl) dX13_readAll_7 (fun H locs hP hD hS => ?_)
  obtain ⟨s2, es2, h⟩ := nd_let_e h
  have hP : va_P (dC, dI) vwCl (dw_X13 a ac s2) H := by rw [es2]; exact hP
  have hD : va_D A (dw_X13 a ac s2) := by rw [es2]; exact hD
  refine lv_aload_n hx hb dX13_readAll_10 rfl (lv_at hl 0 rfl) ?_
  refine lv_iconst (v := 0) hx hb dX13_readAll_11 (by decide) ?_
  refine va_put (D := (dC, dI)) (ci := 14) (v := .int 0) (ty := .int) (C := RX13) (T := TX13) (N := 37) hx hb hts hi_dm_X13_readAll_X13 tyX13 tyX13_ok nmX13 hown hK hP hD hS 0 rfl rfl 23 (by decide) (hts (.fieldLink RX13 634 "TimeMachineModel$Assembler" "section" "I") (List.mem_of_getElem? (i := 3) rfl)) (fun _ h9 => h9) rfl (by decide +kernel) rfl rfl (Nat.le_of_ble_eq_true rfl) dX13_readAll_12 (fun H locs hP hD hS => ?_)
  obtain ⟨s3, es3, h⟩ := nd_let_e h
  have hP : va_P (dC, dI) vwCl (dw_X13 a ac s3) H := by rw [es3]; exact hP
  have hD : va_D A (dw_X13 a ac s3) := by rw [es3]; exact hD
  refine lv_aload_n hx hb dX13_readAll_15 rfl (lv_at hl 0 rfl) ?_
  refine lv_iconst (v := 0) hx hb dX13_readAll_16 (by decide) ?_
  refine va_put (D := (dC, dI)) (ci := 14) (v := .int 0) (ty := .int) (C := RX13) (T := TX13) (N := 37) hx hb hts hi_dm_X13_readAll_X13 tyX13 tyX13_ok nmX13 hown hK hP hD hS 0 rfl rfl 6 (by decide) (hts (.fieldLink RX13 673 "TimeMachineModel$Assembler" "statements" "I") (List.mem_of_getElem? (i := 4) rfl)) (fun _ h9 => h9) rfl (by decide +kernel) rfl rfl (Nat.le_of_ble_eq_true rfl) dX13_readAll_17 (fun H locs hP hD hS => ?_)
  obtain ⟨s4, es4, h⟩ := nd_let_e h
  have hP : va_P (dC, dI) vwCl (dw_X13 a ac s4) H := by rw [es4]; exact hP
  have hD : va_D A (dw_X13 a ac s4) := by rw [es4]; exact hD
  refine lv_aload_n hx hb dX13_readAll_20 rfl (lv_at hl 0 rfl) ?_
  refine lv_iconst (v := 0) hx hb dX13_readAll_21 (by decide) ?_
  refine va_put (D := (dC, dI)) (ci := 14) (v := .int 0) (ty := .int) (C := RX13) (T := TX13) (N := 37) hx hb hts hi_dm_X13_readAll_X13 tyX13 tyX13_ok nmX13 hown hK hP hD hS 0 rfl rfl 10 (by decide) (hts (.fieldLink RX13 439 "TimeMachineModel$Assembler" "labels" "I") (List.mem_of_getElem? (i := 5) rfl)) (fun _ h9 => h9) rfl (by decide +kernel) rfl rfl (Nat.le_of_ble_eq_true rfl) dX13_readAll_22 (fun H locs hP hD hS => ?_)
  obtain ⟨s5, es5, h⟩ := nd_let_e h
  have hP : va_P (dC, dI) vwCl (dw_X13 a ac s5) H := by rw [es5]; exact hP
  have hD : va_D A (dw_X13 a ac s5) := by rw [es5]; exact hD
  exact (db_X13_readAll_25 C K n)  s5 _ _ _ h hP hD hS (lv_sub hl [0] rfl)
set_option maxHeartbeats 40000000 in
set_option maxRecDepth 100000 in
theorem dm_X13_readAll (l : Launch) (hlt : l.stackTraces = false) (dC : Nat → ClassId) (dI : Nat → Nat → Nat) (a : Nat → Nat) (ac : Nat → ClassId) (n : Nat) (s0 : St) {r : St} (h : df_X13_readAll n s0 = some r) (sz : Nat) : Met l yX13_readAll ow_dm_X13_readAll ({ frames := 12, cells := 0, slots := 0, locals := 287 }) (va_Pc [.ref (a 0)] (fun U => U.heap.size = sz ∧ va_P (dC, dI) vwCl (dw_X13 a ac s0) U.heap ∧ va_K (dC, dI) vwCl (dk_X13 ac) U ∧ va_D (fun _ => True) (dw_X13 a ac s0) ∧ nv_E dI (va_A (dw_X13 a ac s0) sz) U)) (va_Qv (fun _ => True) (fun (_ : Unit) t => va_P (dC, dI) vwCl (dw_X13 a ac r) t.heap ∧ va_K (dC, dI) vwCl (dk_X13 ac) t ∧ va_D (va_A (dw_X13 a ac s0) sz) (dw_X13 a ac r)) (va_A (dw_X13 a ac s0) sz)) 0 0 (va_A (dw_X13 a ac s0) sz) := by
  refine Met.ofW (cc := cX13_readAll) (maxL := 4) (ret := none) (by decide) rfl ?_
  intro p e s m args below meth c s₁ B hml hv
  obtain ⟨rfl, hsz, hP, hK, hD0, hN⟩ := hv
  have hx := B.exec
  have hb := B.bytes
  have hr := B.returns
  have hts := atoms_spec (ws := ow_dm_X13_readAll) B.pre
  have hown : s.vm.findClass RX13 = some m.cls := findClass_of_methodNamed B.named
  have hlocks := B.notSynchronized
  subst hsz
  have hD := hD0.self (sz := s.heap.size)
  generalize hAe : va_A (dw_X13 a ac s0) s.heap.size = A at hD hN ⊢
  have hA : ∀ q : Nat, s.heap.size ≤ q → A q := fun q h => by rw [← hAe]; exact Or.inr h
  have hl := lv_entry ([.ref (a 0)]) (n := 4) (Nat.le_of_ble_eq_true rfl)
  rw [lg_entry_eq]
  generalize (lg_sl ([.ref (a 0)]) ++ List.replicate (4 - (lg_sl ([.ref (a 0)])).length) Slot.unset).toArray = ls at hl ⊢
  have hl : lv_has ls 4 [(0, .ref (a 0))] := hl
  exact db_X13_readAll_0 (dC := dC) (dI := dI) (a := a) (ac := ac) (n := n) (r := r) ⟨hlt, hx, hb, hml, hown, hts, hN, hA, hK⟩ (fun pc τ H locs ls d er hP hD hS => by subst er; exact W.vret hx hb hr (fun t ht hW => ⟨⟨(), rfl, trivial, by rw [ht]; exact hP, va_K.moved hW.alike hK, hD⟩, hS.F ht⟩) hS.2.2 d) s0 _ _ _ h hP hD va_S.rf (lv_sub hl [0] rfl)
def ow_dm_X13_sizeAt : List Cond := Cond.code yX13_sizeAt cX13_sizeAt 3 (some .int) :: ([Cond.fieldLink RX13 334 "TimeMachineModel$Assembler" "bytes" "[I", Cond.fieldLink RX13 328 "TimeMachineModel$Assembler" "place" "[I"] ++ (u_ws RX13 TX13 37 ++ []))
theorem gd_dm_X13_sizeAt : ∀ w ∈ ow_dm_X13_sizeAt, (w.onTables && w.keeps) = true ∨ ∃ ty, w = Cond.arrayClass ty := List.forall_mem_cons.mpr ⟨good_of_word rfl, List.forall_mem_append.mpr ⟨fun w h => good_of_word (List.all_eq_true.mp (by decide +kernel) w h), List.forall_mem_append.mpr ⟨gu_X13, fun _ h => nomatch h⟩⟩⟩
theorem hi_dm_X13_sizeAt_X13 : ∀ w ∈ u_ws RX13 TX13 37, w ∈ ow_dm_X13_sizeAt := fun w h => List.mem_cons_of_mem _ (List.mem_append_right _ (List.mem_append_left _ h))
def dj_X13_sizeAt_59 (p : Program) (l : Launch) (e : Env) (s : State) (m : MethodId) (args : Array Value) (below : List Frame) (meth : Method) (c : Code) (Q : State → Prop) (A : Nat → Prop) (dC : Nat → ClassId) (dI : Nat → Nat → Nat) (a : Nat → Nat) (ac : Nat → ClassId) (g : Int32 → (St) → Option (Int32 × (St))) (r : Int32 × (St)) : Prop := ∀ (y0 : Int32) (s0 : St) (H : Heap) (locs : List Loc) (ls : Array Slot), g y0 s0 = some r → va_P (dC, dI) vwCl (dw_X13 a ac s0) H → va_D A (dw_X13 a ac s0) → va_S A s.heap H locs → lv_has ls 3 [] → W p l e (headSpec ow_dm_X13_sizeAt ({ frames := 0, cells := 0, slots := 0, locals := 0 })).room s m args below meth c H locs 0 0 Q (F0 m 59 ls [.int y0])
def dj_X13_sizeAt_0 (p : Program) (l : Launch) (e : Env) (s : State) (m : MethodId) (args : Array Value) (below : List Frame) (meth : Method) (c : Code) (Q : State → Prop) (A : Nat → Prop) (dC : Nat → ClassId) (dI : Nat → Nat → Nat) (a : Nat → Nat) (ac : Nat → ClassId) (g : Int32 → Int32 → (St) → Option (Int32 × (St))) (r : Int32 × (St)) : Prop := ∀ (v0 : Int32) (v1 : Int32) (s0 : St) (H : Heap) (locs : List Loc) (ls : Array Slot), g v0 v1 s0 = some r → va_P (dC, dI) vwCl (dw_X13 a ac s0) H → va_D A (dw_X13 a ac s0) → va_S A s.heap H locs → lv_has ls 3 [(0, .ref (a 0)), (1, .int v0), (2, .int v1)] → W p l e (headSpec ow_dm_X13_sizeAt ({ frames := 0, cells := 0, slots := 0, locals := 0 })).room s m args below meth c H locs 0 0 Q (F0 m 0 ls [])
set_option maxHeartbeats 40000000 in
set_option maxRecDepth 100000 in
theorem db_X13_sizeAt_59 {p : Program} {l : Launch} {e : Env} {s : State} {m : MethodId} {args : Array Value} {below : List Frame} {meth : Method} {c : Code} {Q : State → Prop} {A : Nat → Prop} {dC : Nat → ClassId} {dI : Nat → Nat → Nat} {a : Nat → Nat} {ac : Nat → ClassId} {n : Nat} {r : Int32 × (St)} (C : nd_C p l s m args c A (dC, dI) cX13_sizeAt 3 RX13 ow_dm_X13_sizeAt (dk_X13 ac)) (K : nd_Ki p l e (headSpec ow_dm_X13_sizeAt ({ frames := 0, cells := 0, slots := 0, locals := 0 })).room s m args below meth c Q A (dC, dI) cX13_sizeAt .int (St) (dw_X13 a ac) r) : dj_X13_sizeAt_59 p l e s m args below meth c Q A dC dI a ac (df_X13_sizeAt_59 n) r := by
  obtain ⟨hlt, hx, hb, hml, hown, hts, hN, hA, hK⟩ := id C
  intro y0 s0 H locs ls h hP hD hS hl
  unfold df_X13_sizeAt_59 at h
  exact K _ _ _ _ _ _ dX13_sizeAt_59 rfl (Option.some.inj h).symm hP hD hS
set_option maxHeartbeats 40000000 in
set_option maxRecDepth 100000 in
theorem db_X13_sizeAt_0 {p : Program} {l : Launch} {e : Env} {s : State} {m : MethodId} {args : Array Value} {below : List Frame} {meth : Method} {c : Code} {Q : State → Prop} {A : Nat → Prop} {dC : Nat → ClassId} {dI : Nat → Nat → Nat} {a : Nat → Nat} {ac : Nat → ClassId} {n : Nat} {r : Int32 × (St)} (C : nd_C p l s m args c A (dC, dI) cX13_sizeAt 3 RX13 ow_dm_X13_sizeAt (dk_X13 ac)) (K : nd_Ki p l e (headSpec ow_dm_X13_sizeAt ({ frames := 0, cells := 0, slots := 0, locals := 0 })).room s m args below meth c Q A (dC, dI) cX13_sizeAt .int (St) (dw_X13 a ac) r) : dj_X13_sizeAt_0 p l e s m args below meth c Q A dC dI a ac (df_X13_sizeAt_0 n) r := by
  obtain ⟨hlt, hx, hb, hml, hown, hts, hN, hA, hK⟩ := id C
  intro v0 v1 s0 H locs ls h hP hD hS hl
  unfold df_X13_sizeAt_0 at h
  refine lv_aload_n hx hb dX13_sizeAt_0 rfl (lv_at hl 0 rfl) ?_
  refine va_get (D := (dC, dI)) (ci := 14) (v := .ref (a 7)) (C := RX13) (T := TX13) (N := 37) hx hb hts hi_dm_X13_sizeAt_X13 hown hK hP 0 rfl rfl 9 (by decide) (hts (.fieldLink RX13 334 "TimeMachineModel$Assembler" "bytes" "[I") (List.mem_of_getElem? (i := 1) rfl)) (fun _ h9 => h9) rfl dX13_sizeAt_1 ?_
  refine lv_iload_n hx hb dX13_sizeAt_4 rfl (lv_at hl 1 rfl) ?_
  obtain ⟨i1, h⟩ := nd_ck_e h
  refine va_iald (i := v0) hx hb hK hP 7 6 rfl rfl i1 dX13_sizeAt_5 ?_
  refine lv_if_ge (tgt := 25) hx hb dX13_sizeAt_6 (by decide) (fun c2 => ?_) (fun c2 => ?_)
  · have h := nd_pos h c2
    refine lv_aload_n hx hb dX13_sizeAt_25 rfl (lv_at hl 0 rfl) ?_
    refine va_get (D := (dC, dI)) (ci := 14) (v := .ref (a 5)) (C := RX13) (T := TX13) (N := 37) hx hb hts hi_dm_X13_sizeAt_X13 hown hK hP 0 rfl rfl 7 (by decide) (hts (.fieldLink RX13 328 "TimeMachineModel$Assembler" "place" "[I") (List.mem_of_getElem? (i := 2) rfl)) (fun _ h9 => h9) rfl dX13_sizeAt_26 ?_
    refine lv_iload_n hx hb dX13_sizeAt_29 rfl (lv_at hl 1 rfl) ?_
    obtain ⟨i3, h⟩ := nd_ck_e h
    refine va_iald (i := v0) hx hb hK hP 5 4 rfl rfl i3 dX13_sizeAt_30 ?_
    refine lv_bipush (v := 20) hx hb dX13_sizeAt_31 (by decide) ?_
    refine lv_ishr hx hb dX13_sizeAt_33 ?_
    refine lv_if_le (tgt := 53) hx hb dX13_sizeAt_34 (by decide) (fun c4 => ?_) (fun c4 => ?_)
    · have h := nd_pos h c4
      refine lv_aload_n hx hb dX13_sizeAt_53 rfl (lv_at hl 0 rfl) ?_
      refine va_get (D := (dC, dI)) (ci := 14) (v := .ref (a 7)) (C := RX13) (T := TX13) (N := 37) hx hb hts hi_dm_X13_sizeAt_X13 hown hK hP 0 rfl rfl 9 (by decide) (hts (.fieldLink RX13 334 "TimeMachineModel$Assembler" "bytes" "[I") (List.mem_of_getElem? (i := 1) rfl)) (fun _ h9 => h9) rfl dX13_sizeAt_54 ?_
      refine lv_iload_n hx hb dX13_sizeAt_57 rfl (lv_at hl 1 rfl) ?_
      obtain ⟨i5, h⟩ := nd_ck_e h
      refine va_iald (i := v0) hx hb hK hP 7 6 rfl rfl i5 dX13_sizeAt_58 ?_
      exact (db_X13_sizeAt_59 C K) ((sR s0 5 (Int32.toNatClampNeg v0))) s0 _ _ _ h hP hD hS (lv_sub hl [] rfl)
    · have h := nd_neg h c4
      refine lv_iconst (v := 2) hx hb dX13_sizeAt_37 (by decide) ?_
      refine lv_aload_n hx hb dX13_sizeAt_38 rfl (lv_at hl 0 rfl) ?_
      refine va_get (D := (dC, dI)) (ci := 14) (v := .ref (a 5)) (C := RX13) (T := TX13) (N := 37) hx hb hts hi_dm_X13_sizeAt_X13 hown hK hP 0 rfl rfl 7 (by decide) (hts (.fieldLink RX13 328 "TimeMachineModel$Assembler" "place" "[I") (List.mem_of_getElem? (i := 2) rfl)) (fun _ h9 => h9) rfl dX13_sizeAt_39 ?_
      refine lv_iload_n hx hb dX13_sizeAt_42 rfl (lv_at hl 1 rfl) ?_
      obtain ⟨i6, h⟩ := nd_ck_e h
      refine va_iald (i := v0) hx hb hK hP 5 4 rfl rfl i6 dX13_sizeAt_43 ?_
      refine lv_bipush (v := 17) hx hb dX13_sizeAt_44 (by decide) ?_
      refine lv_ishr hx hb dX13_sizeAt_46 ?_
      refine lv_iconst (v := 3) hx hb dX13_sizeAt_47 (by decide) ?_
      refine lv_iand hx hb dX13_sizeAt_48 ?_
      refine lv_ishl hx hb dX13_sizeAt_49 ?_
      refine lv_goto (tgt := 59) hx hb dX13_sizeAt_50 (by decide) ?_
      exact (db_X13_sizeAt_59 C K) (((2 : Int32) <<< ((((((sR s0 3 (Int32.toNatClampNeg v0)) : Int32) >>> ((17 : Int32) &&& 31)) &&& 3) : Int32) &&& 31))) s0 _ _ _ h hP hD hS (lv_sub hl [] rfl)
  · have h := nd_neg h c2
    refine lv_iload_n hx hb dX13_sizeAt_9 rfl (lv_at hl 2 rfl) ?_
    refine lv_ineg hx hb dX13_sizeAt_10 ?_
    refine lv_iconst (v := 1) hx hb dX13_sizeAt_11 (by decide) ?_
    refine lv_iconst (v := (-1)) hx hb dX13_sizeAt_12 (by decide) ?_
    refine lv_aload_n hx hb dX13_sizeAt_13 rfl (lv_at hl 0 rfl) ?_
    refine va_get (D := (dC, dI)) (ci := 14) (v := .ref (a 7)) (C := RX13) (T := TX13) (N := 37) hx hb hts hi_dm_X13_sizeAt_X13 hown hK hP 0 rfl rfl 9 (by decide) (hts (.fieldLink RX13 334 "TimeMachineModel$Assembler" "bytes" "[I") (List.mem_of_getElem? (i := 1) rfl)) (fun _ h9 => h9) rfl dX13_sizeAt_14 ?_
    refine lv_iload_n hx hb dX13_sizeAt_17 rfl (lv_at hl 1 rfl) ?_
    obtain ⟨i7, h⟩ := nd_ck_e h
    refine va_iald (i := v0) hx hb hK hP 7 6 rfl rfl i7 dX13_sizeAt_18 ?_
    refine lv_isub hx hb dX13_sizeAt_19 ?_
    refine lv_ishl hx hb dX13_sizeAt_20 ?_
    refine lv_iconst (v := 1) hx hb dX13_sizeAt_21 (by decide) ?_
    refine lv_isub hx hb dX13_sizeAt_22 ?_
    refine lv_iand hx hb dX13_sizeAt_23 ?_
    exact K _ _ _ _ _ _ dX13_sizeAt_24 rfl (Option.some.inj h).symm hP hD hS
set_option maxHeartbeats 40000000 in
set_option maxRecDepth 100000 in
theorem dm_X13_sizeAt (l : Launch) (hlt : l.stackTraces = false) (dC : Nat → ClassId) (dI : Nat → Nat → Nat) (a : Nat → Nat) (ac : Nat → ClassId) (n : Nat) (v0 : Int32) (v1 : Int32) (s0 : St) {r : Int32 × (St)} (h : df_X13_sizeAt n v0 v1 s0 = some r) (sz : Nat) : Met l yX13_sizeAt ow_dm_X13_sizeAt ({ frames := 0, cells := 0, slots := 0, locals := 0 }) (va_Pc [.ref (a 0), .int v0, .int v1] (fun U => U.heap.size = sz ∧ va_P (dC, dI) vwCl (dw_X13 a ac s0) U.heap ∧ va_K (dC, dI) vwCl (dk_X13 ac) U ∧ va_D (fun _ => True) (dw_X13 a ac s0) ∧ nv_E dI (va_A (dw_X13 a ac s0) sz) U)) (va_Qi (fun x _ => x = r.1) (fun (_ : Unit) t => va_P (dC, dI) vwCl (dw_X13 a ac r.2) t.heap ∧ va_K (dC, dI) vwCl (dk_X13 ac) t ∧ va_D (va_A (dw_X13 a ac s0) sz) (dw_X13 a ac r.2)) (va_A (dw_X13 a ac s0) sz)) 0 0 (va_A (dw_X13 a ac s0) sz) := by
  refine Met.ofW (cc := cX13_sizeAt) (maxL := 3) (ret := (some .int)) (by decide) rfl ?_
  intro p e s m args below meth c s₁ B hml hv
  obtain ⟨rfl, hsz, hP, hK, hD0, hN⟩ := hv
  have hx := B.exec
  have hb := B.bytes
  have hr := B.returns
  have hts := atoms_spec (ws := ow_dm_X13_sizeAt) B.pre
  have hown : s.vm.findClass RX13 = some m.cls := findClass_of_methodNamed B.named
  have hlocks := B.notSynchronized
  subst hsz
  have hD := hD0.self (sz := s.heap.size)
  generalize hAe : va_A (dw_X13 a ac s0) s.heap.size = A at hD hN ⊢
  have hA : ∀ q : Nat, s.heap.size ≤ q → A q := fun q h => by rw [← hAe]; exact Or.inr h
  have hl := lv_entry ([.ref (a 0), .int v0, .int v1]) (n := 3) (Nat.le_of_ble_eq_true rfl)
  rw [lg_entry_eq]
  generalize (lg_sl ([.ref (a 0), .int v0, .int v1]) ++ List.replicate (3 - (lg_sl ([.ref (a 0), .int v0, .int v1])).length) Slot.unset).toArray = ls at hl ⊢
  have hl : lv_has ls 3 [(0, .ref (a 0)), (1, .int v0), (2, .int v1)] := hl
  exact db_X13_sizeAt_0 (dC := dC) (dI := dI) (a := a) (ac := ac) (n := n) (r := r) ⟨hlt, hx, hb, hml, hown, hts, hN, hA, hK⟩ (fun pc v τ H locs ls d z er hP hD hS => by subst er; exact W.zret (v := v) hx hb hr z (fun t ht hW => ⟨⟨v, (), rfl, rfl, by rw [ht]; exact hP, va_K.moved hW.alike hK, hD⟩, hS.F ht⟩) hS.2.2 d) v0 v1 s0 _ _ _ h hP hD va_S.rf (lv_sub hl [0, 1, 2] rfl)
def ow_dm_X13_sectionOf : List Cond := Cond.code yX13_sectionOf cX13_sectionOf 2 (some .int) :: ([Cond.fieldLink RX13 328 "TimeMachineModel$Assembler" "place" "[I"] ++ (u_ws RX13 TX13 37 ++ []))
theorem gd_dm_X13_sectionOf : ∀ w ∈ ow_dm_X13_sectionOf, (w.onTables && w.keeps) = true ∨ ∃ ty, w = Cond.arrayClass ty := List.forall_mem_cons.mpr ⟨good_of_word rfl, List.forall_mem_append.mpr ⟨fun w h => good_of_word (List.all_eq_true.mp (by decide +kernel) w h), List.forall_mem_append.mpr ⟨gu_X13, fun _ h => nomatch h⟩⟩⟩
theorem hi_dm_X13_sectionOf_X13 : ∀ w ∈ u_ws RX13 TX13 37, w ∈ ow_dm_X13_sectionOf := fun w h => List.mem_cons_of_mem _ (List.mem_append_right _ (List.mem_append_left _ h))
def dj_X13_sectionOf_0 (p : Program) (l : Launch) (e : Env) (s : State) (m : MethodId) (args : Array Value) (below : List Frame) (meth : Method) (c : Code) (Q : State → Prop) (A : Nat → Prop) (dC : Nat → ClassId) (dI : Nat → Nat → Nat) (a : Nat → Nat) (ac : Nat → ClassId) (g : Int32 → (St) → Option (Int32 × (St))) (r : Int32 × (St)) : Prop := ∀ (v0 : Int32) (s0 : St) (H : Heap) (locs : List Loc) (ls : Array Slot), g v0 s0 = some r → va_P (dC, dI) vwCl (dw_X13 a ac s0) H → va_D A (dw_X13 a ac s0) → va_S A s.heap H locs → lv_has ls 2 [(0, .ref (a 0)), (1, .int v0)] → W p l e (headSpec ow_dm_X13_sectionOf ({ frames := 0, cells := 0, slots := 0, locals := 0 })).room s m args below meth c H locs 0 0 Q (F0 m 0 ls [])
set_option maxHeartbeats 40000000 in
set_option maxRecDepth 100000 in
theorem db_X13_sectionOf_0 {p : Program} {l : Launch} {e : Env} {s : State} {m : MethodId} {args : Array Value} {below : List Frame} {meth : Method} {c : Code} {Q : State → Prop} {A : Nat → Prop} {dC : Nat → ClassId} {dI : Nat → Nat → Nat} {a : Nat → Nat} {ac : Nat → ClassId} {n : Nat} {r : Int32 × (St)} (C : nd_C p l s m args c A (dC, dI) cX13_sectionOf 2 RX13 ow_dm_X13_sectionOf (dk_X13 ac)) (K : nd_Ki p l e (headSpec ow_dm_X13_sectionOf ({ frames := 0, cells := 0, slots := 0, locals := 0 })).room s m args below meth c Q A (dC, dI) cX13_sectionOf .int (St) (dw_X13 a ac) r) : dj_X13_sectionOf_0 p l e s m args below meth c Q A dC dI a ac (df_X13_sectionOf_0 n) r := by
  obtain ⟨hlt, hx, hb, hml, hown, hts, hN, hA, hK⟩ := id C
  intro v0 s0 H locs ls h hP hD hS hl
  unfold df_X13_sectionOf_0 at h
  refine lv_aload_n hx hb dX13_sectionOf_0 rfl (lv_at hl 0 rfl) ?_
  refine va_get (D := (dC, dI)) (ci := 14) (v := .ref (a 5)) (C := RX13) (T := TX13) (N := 37) hx hb hts hi_dm_X13_sectionOf_X13 hown hK hP 0 rfl rfl 7 (by decide) (hts (.fieldLink RX13 328 "TimeMachineModel$Assembler" "place" "[I") (List.mem_of_getElem? (i := 1) rfl)) (fun _ h9 => h9) rfl dX13_sectionOf_1 ?_
  refine lv_iload_n hx hb dX13_sectionOf_4 rfl (lv_at hl 1 rfl) ?_
  obtain ⟨i1, h⟩ := nd_ck_e h
  refine va_iald (i := v0) hx hb hK hP 5 4 rfl rfl i1 dX13_sectionOf_5 ?_
  refine lv_bipush (v := 19) hx hb dX13_sectionOf_6 (by decide) ?_
  refine lv_ishr hx hb dX13_sectionOf_8 ?_
  refine lv_iconst (v := 1) hx hb dX13_sectionOf_9 (by decide) ?_
  refine lv_iand hx hb dX13_sectionOf_10 ?_
  exact K _ _ _ _ _ _ dX13_sectionOf_11 rfl (Option.some.inj h).symm hP hD hS
set_option maxHeartbeats 40000000 in
set_option maxRecDepth 100000 in
theorem dm_X13_sectionOf (l : Launch) (hlt : l.stackTraces = false) (dC : Nat → ClassId) (dI : Nat → Nat → Nat) (a : Nat → Nat) (ac : Nat → ClassId) (n : Nat) (v0 : Int32) (s0 : St) {r : Int32 × (St)} (h : df_X13_sectionOf n v0 s0 = some r) (sz : Nat) : Met l yX13_sectionOf ow_dm_X13_sectionOf ({ frames := 0, cells := 0, slots := 0, locals := 0 }) (va_Pc [.ref (a 0), .int v0] (fun U => U.heap.size = sz ∧ va_P (dC, dI) vwCl (dw_X13 a ac s0) U.heap ∧ va_K (dC, dI) vwCl (dk_X13 ac) U ∧ va_D (fun _ => True) (dw_X13 a ac s0) ∧ nv_E dI (va_A (dw_X13 a ac s0) sz) U)) (va_Qi (fun x _ => x = r.1) (fun (_ : Unit) t => va_P (dC, dI) vwCl (dw_X13 a ac r.2) t.heap ∧ va_K (dC, dI) vwCl (dk_X13 ac) t ∧ va_D (va_A (dw_X13 a ac s0) sz) (dw_X13 a ac r.2)) (va_A (dw_X13 a ac s0) sz)) 0 0 (va_A (dw_X13 a ac s0) sz) := by
  refine Met.ofW (cc := cX13_sectionOf) (maxL := 2) (ret := (some .int)) (by decide) rfl ?_
  intro p e s m args below meth c s₁ B hml hv
  obtain ⟨rfl, hsz, hP, hK, hD0, hN⟩ := hv
  have hx := B.exec
  have hb := B.bytes
  have hr := B.returns
  have hts := atoms_spec (ws := ow_dm_X13_sectionOf) B.pre
  have hown : s.vm.findClass RX13 = some m.cls := findClass_of_methodNamed B.named
  have hlocks := B.notSynchronized
  subst hsz
  have hD := hD0.self (sz := s.heap.size)
  generalize hAe : va_A (dw_X13 a ac s0) s.heap.size = A at hD hN ⊢
  have hA : ∀ q : Nat, s.heap.size ≤ q → A q := fun q h => by rw [← hAe]; exact Or.inr h
  have hl := lv_entry ([.ref (a 0), .int v0]) (n := 2) (Nat.le_of_ble_eq_true rfl)
  rw [lg_entry_eq]
  generalize (lg_sl ([.ref (a 0), .int v0]) ++ List.replicate (2 - (lg_sl ([.ref (a 0), .int v0])).length) Slot.unset).toArray = ls at hl ⊢
  have hl : lv_has ls 2 [(0, .ref (a 0)), (1, .int v0)] := hl
  exact db_X13_sectionOf_0 (dC := dC) (dI := dI) (a := a) (ac := ac) (n := n) (r := r) ⟨hlt, hx, hb, hml, hown, hts, hN, hA, hK⟩ (fun pc v τ H locs ls d z er hP hD hS => by subst er; exact W.zret (v := v) hx hb hr z (fun t ht hW => ⟨⟨v, (), rfl, rfl, by rw [ht]; exact hP, va_K.moved hW.alike hK, hD⟩, hS.F ht⟩) hS.2.2 d) v0 s0 _ _ _ h hP hD va_S.rf (lv_sub hl [0, 1] rfl)
def ow_dm_X13_layout : List Cond := Cond.code yX13_layout cX13_layout 5 none :: ([Cond.fieldLink RX13 447 "TimeMachineModel$Assembler" "textSize" "I", Cond.fieldLink RX13 682 "TimeMachineModel$Assembler" "dataSize" "I", Cond.fieldLink RX13 673 "TimeMachineModel$Assembler" "statements" "I", Cond.constant RX13 442 (131071), Cond.fieldLink RX13 439 "TimeMachineModel$Assembler" "labels" "I", Cond.fieldLink RX13 331 "TimeMachineModel$Assembler" "offset" "[I", Cond.methodLink RX13 685 yX13_sectionOf, Cond.instanceMethod yX13_sectionOf, Cond.selects RX13 yX13_sectionOf yX13_sectionOf, Cond.initialized RX13, Cond.methodLink RX13 688 yX13_sizeAt, Cond.instanceMethod yX13_sizeAt, Cond.selects RX13 yX13_sizeAt yX13_sizeAt, Cond.fieldLink RX13 337 "TimeMachineModel$Assembler" "label" "[I", Cond.fieldLink RX13 340 "TimeMachineModel$Assembler" "where" "[I", Cond.fieldLink RX13 328 "TimeMachineModel$Assembler" "place" "[I"] ++ (u_ws RX13 TX13 37 ++ (ow_dm_X13_sectionOf ++ (ow_dm_X13_sizeAt ++ []))))
theorem gd_dm_X13_layout : ∀ w ∈ ow_dm_X13_layout, (w.onTables && w.keeps) = true ∨ ∃ ty, w = Cond.arrayClass ty := List.forall_mem_cons.mpr ⟨good_of_word rfl, List.forall_mem_append.mpr ⟨fun w h => good_of_word (List.all_eq_true.mp (by decide +kernel) w h), List.forall_mem_append.mpr ⟨gu_X13, List.forall_mem_append.mpr ⟨gd_dm_X13_sectionOf, List.forall_mem_append.mpr ⟨gd_dm_X13_sizeAt, fun _ h => nomatch h⟩⟩⟩⟩⟩
theorem hi_dm_X13_layout_X13 : ∀ w ∈ u_ws RX13 TX13 37, w ∈ ow_dm_X13_layout := fun w h => List.mem_cons_of_mem _ (List.mem_append_right _ (List.mem_append_left _ h))
theorem gi_dm_X13_layout_0 : GoodIn ow_dm_X13_layout (wsV RX13 685 RX13 yX13_sectionOf ow_dm_X13_sectionOf) := goodIn_app (goodIn_of _ (by decide +kernel)) (fun w h => ⟨List.mem_cons_of_mem _ (List.mem_append_right _ (List.mem_append_right _ (List.mem_append_left _ h))), gd_dm_X13_sectionOf w h⟩)
theorem gi_dm_X13_layout_1 : GoodIn ow_dm_X13_layout (wsV RX13 688 RX13 yX13_sizeAt ow_dm_X13_sizeAt) := goodIn_app (goodIn_of _ (by decide +kernel)) (fun w h => ⟨List.mem_cons_of_mem _ (List.mem_append_right _ (List.mem_append_right _ (List.mem_append_right _ (List.mem_append_left _ h)))), gd_dm_X13_sizeAt w h⟩)
def dj_X13_layout_213 (p : Program) (l : Launch) (e : Env) (s : State) (m : MethodId) (args : Array Value) (below : List Frame) (meth : Method) (c : Code) (Q : State → Prop) (A : Nat → Prop) (dC : Nat → ClassId) (dI : Nat → Nat → Nat) (a : Nat → Nat) (ac : Nat → ClassId) (g : Int32 → Int32 → Int32 → Int32 → (St) → Option (St)) (r : St) : Prop := ∀ (x1 : Int32) (x2 : Int32) (y1 : Int32) (y2 : Int32) (s0 : St) (H : Heap) (locs : List Loc) (ls : Array Slot), g x1 x2 y1 y2 s0 = some r → va_P (dC, dI) vwCl (dw_X13 a ac s0) H → va_D A (dw_X13 a ac s0) → va_S A s.heap H locs → lv_has ls 5 [(0, .ref (a 0)), (1, .int x1), (2, .int x2)] → W p l e (headSpec ow_dm_X13_layout ({ frames := 1, cells := 0, slots := 0, locals := 22 })).room s m args below meth c H locs 0 0 Q (F0 m 213 ls [.int y2, .int y1, .ref (a 0)])
def dj_X13_layout_189 (p : Program) (l : Launch) (e : Env) (s : State) (m : MethodId) (args : Array Value) (below : List Frame) (meth : Method) (c : Code) (Q : State → Prop) (A : Nat → Prop) (dC : Nat → ClassId) (dI : Nat → Nat → Nat) (a : Nat → Nat) (ac : Nat → ClassId) (g : Int32 → Int32 → Int32 → Int32 → Int32 → (St) → Option (St)) (r : St) : Prop := ∀ (x1 : Int32) (x2 : Int32) (x4 : Int32) (y1 : Int32) (y2 : Int32) (s0 : St) (H : Heap) (locs : List Loc) (ls : Array Slot), g x1 x2 x4 y1 y2 s0 = some r → va_P (dC, dI) vwCl (dw_X13 a ac s0) H → va_D A (dw_X13 a ac s0) → va_S A s.heap H locs → lv_has ls 5 [(0, .ref (a 0)), (1, .int x1), (2, .int x2), (4, .int x4)] → W p l e (headSpec ow_dm_X13_layout ({ frames := 1, cells := 0, slots := 0, locals := 22 })).room s m args below meth c H locs 0 0 Q (F0 m 189 ls [.int y2, .int y1, .ref (a 0)])
def dj_X13_layout_155 (p : Program) (l : Launch) (e : Env) (s : State) (m : MethodId) (args : Array Value) (below : List Frame) (meth : Method) (c : Code) (Q : State → Prop) (A : Nat → Prop) (dC : Nat → ClassId) (dI : Nat → Nat → Nat) (a : Nat → Nat) (ac : Nat → ClassId) (g : Int32 → Int32 → Int32 → Int32 → (St) → Option (St)) (r : St) : Prop := ∀ (x1 : Int32) (x2 : Int32) (y1 : Int32) (y2 : Int32) (s0 : St) (H : Heap) (locs : List Loc) (ls : Array Slot), g x1 x2 y1 y2 s0 = some r → va_P (dC, dI) vwCl (dw_X13 a ac s0) H → va_D A (dw_X13 a ac s0) → va_S A s.heap H locs → lv_has ls 5 [(0, .ref (a 0)), (1, .int x1), (2, .int x2)] → W p l e (headSpec ow_dm_X13_layout ({ frames := 1, cells := 0, slots := 0, locals := 22 })).room s m args below meth c H locs 0 0 Q (F0 m 155 ls [.int y2, .int y1, .ref (a 6)])
def dj_X13_layout_121 (p : Program) (l : Launch) (e : Env) (s : State) (m : MethodId) (args : Array Value) (below : List Frame) (meth : Method) (c : Code) (Q : State → Prop) (A : Nat → Prop) (dC : Nat → ClassId) (dI : Nat → Nat → Nat) (a : Nat → Nat) (ac : Nat → ClassId) (g : Int32 → Int32 → (St) → Option (St)) (r : St) : Prop := ∀ (x1 : Int32) (x2 : Int32) (s0 : St) (H : Heap) (locs : List Loc) (ls : Array Slot), g x1 x2 s0 = some r → va_P (dC, dI) vwCl (dw_X13 a ac s0) H → va_D A (dw_X13 a ac s0) → va_S A s.heap H locs → lv_has ls 5 [(0, .ref (a 0)), (1, .int x1), (2, .int x2)] → W p l e (headSpec ow_dm_X13_layout ({ frames := 1, cells := 0, slots := 0, locals := 22 })).room s m args below meth c H locs 0 0 Q (F0 m 121 ls [])
def dj_X13_layout_115 (p : Program) (l : Launch) (e : Env) (s : State) (m : MethodId) (args : Array Value) (below : List Frame) (meth : Method) (c : Code) (Q : State → Prop) (A : Nat → Prop) (dC : Nat → ClassId) (dI : Nat → Nat → Nat) (a : Nat → Nat) (ac : Nat → ClassId) (g : Int32 → Int32 → Int32 → (St) → Option (St)) (r : St) : Prop := ∀ (x1 : Int32) (x2 : Int32) (x3 : Int32) (s0 : St) (H : Heap) (locs : List Loc) (ls : Array Slot), g x1 x2 x3 s0 = some r → va_P (dC, dI) vwCl (dw_X13 a ac s0) H → va_D A (dw_X13 a ac s0) → va_S A s.heap H locs → lv_has ls 5 [(0, .ref (a 0)), (1, .int x1), (2, .int x2), (3, .int x3)] → W p l e (headSpec ow_dm_X13_layout ({ frames := 1, cells := 0, slots := 0, locals := 22 })).room s m args below meth c H locs 0 0 Q (F0 m 115 ls [])
def dj_X13_layout_114 (p : Program) (l : Launch) (e : Env) (s : State) (m : MethodId) (args : Array Value) (below : List Frame) (meth : Method) (c : Code) (Q : State → Prop) (A : Nat → Prop) (dC : Nat → ClassId) (dI : Nat → Nat → Nat) (a : Nat → Nat) (ac : Nat → ClassId) (g : Int32 → Int32 → Int32 → Int32 → Int32 → (St) → Option (St)) (r : St) : Prop := ∀ (x1 : Int32) (x2 : Int32) (x3 : Int32) (y1 : Int32) (y2 : Int32) (s0 : St) (H : Heap) (locs : List Loc) (ls : Array Slot), g x1 x2 x3 y1 y2 s0 = some r → va_P (dC, dI) vwCl (dw_X13 a ac s0) H → va_D A (dw_X13 a ac s0) → va_S A s.heap H locs → lv_has ls 5 [(0, .ref (a 0)), (1, .int x1), (2, .int x2), (3, .int x3)] → W p l e (headSpec ow_dm_X13_layout ({ frames := 1, cells := 0, slots := 0, locals := 22 })).room s m args below meth c H locs 0 0 Q (F0 m 114 ls [.int y2, .int y1, .ref (a 9)])
def dj_X13_layout_103 (p : Program) (l : Launch) (e : Env) (s : State) (m : MethodId) (args : Array Value) (below : List Frame) (meth : Method) (c : Code) (Q : State → Prop) (A : Nat → Prop) (dC : Nat → ClassId) (dI : Nat → Nat → Nat) (a : Nat → Nat) (ac : Nat → ClassId) (g : Int32 → Int32 → Int32 → Int32 → (St) → Option (St)) (r : St) : Prop := ∀ (x1 : Int32) (x2 : Int32) (x3 : Int32) (y1 : Int32) (s0 : St) (H : Heap) (locs : List Loc) (ls : Array Slot), g x1 x2 x3 y1 s0 = some r → va_P (dC, dI) vwCl (dw_X13 a ac s0) H → va_D A (dw_X13 a ac s0) → va_S A s.heap H locs → lv_has ls 5 [(0, .ref (a 0)), (1, .int x1), (2, .int x2), (3, .int x3)] → W p l e (headSpec ow_dm_X13_layout ({ frames := 1, cells := 0, slots := 0, locals := 22 })).room s m args below meth c H locs 0 0 Q (F0 m 103 ls [.int y1, .ref (a 9)])
def dj_X13_layout_47 (p : Program) (l : Launch) (e : Env) (s : State) (m : MethodId) (args : Array Value) (below : List Frame) (meth : Method) (c : Code) (Q : State → Prop) (A : Nat → Prop) (dC : Nat → ClassId) (dI : Nat → Nat → Nat) (a : Nat → Nat) (ac : Nat → ClassId) (g : Int32 → Int32 → Int32 → (St) → Option (St)) (r : St) : Prop := ∀ (x1 : Int32) (x2 : Int32) (x3 : Int32) (s0 : St) (H : Heap) (locs : List Loc) (ls : Array Slot), g x1 x2 x3 s0 = some r → va_P (dC, dI) vwCl (dw_X13 a ac s0) H → va_D A (dw_X13 a ac s0) → va_S A s.heap H locs → lv_has ls 5 [(0, .ref (a 0)), (1, .int x1), (2, .int x2), (3, .int x3)] → W p l e (headSpec ow_dm_X13_layout ({ frames := 1, cells := 0, slots := 0, locals := 22 })).room s m args below meth c H locs 0 0 Q (F0 m 47 ls [])
def dj_X13_layout_46 (p : Program) (l : Launch) (e : Env) (s : State) (m : MethodId) (args : Array Value) (below : List Frame) (meth : Method) (c : Code) (Q : State → Prop) (A : Nat → Prop) (dC : Nat → ClassId) (dI : Nat → Nat → Nat) (a : Nat → Nat) (ac : Nat → ClassId) (g : Int32 → Int32 → Int32 → (St) → Option (St)) (r : St) : Prop := ∀ (x1 : Int32) (x2 : Int32) (y0 : Int32) (s0 : St) (H : Heap) (locs : List Loc) (ls : Array Slot), g x1 x2 y0 s0 = some r → va_P (dC, dI) vwCl (dw_X13 a ac s0) H → va_D A (dw_X13 a ac s0) → va_S A s.heap H locs → lv_has ls 5 [(0, .ref (a 0)), (1, .int x1), (2, .int x2)] → W p l e (headSpec ow_dm_X13_layout ({ frames := 1, cells := 0, slots := 0, locals := 22 })).room s m args below meth c H locs 0 0 Q (F0 m 46 ls [.int y0])
def dj_X13_layout_14 (p : Program) (l : Launch) (e : Env) (s : State) (m : MethodId) (args : Array Value) (below : List Frame) (meth : Method) (c : Code) (Q : State → Prop) (A : Nat → Prop) (dC : Nat → ClassId) (dI : Nat → Nat → Nat) (a : Nat → Nat) (ac : Nat → ClassId) (g : Int32 → Int32 → (St) → Option (St)) (r : St) : Prop := ∀ (x1 : Int32) (x2 : Int32) (s0 : St) (H : Heap) (locs : List Loc) (ls : Array Slot), g x1 x2 s0 = some r → va_P (dC, dI) vwCl (dw_X13 a ac s0) H → va_D A (dw_X13 a ac s0) → va_S A s.heap H locs → lv_has ls 5 [(0, .ref (a 0)), (1, .int x1), (2, .int x2)] → W p l e (headSpec ow_dm_X13_layout ({ frames := 1, cells := 0, slots := 0, locals := 22 })).room s m args below meth c H locs 0 0 Q (F0 m 14 ls [])
def dj_X13_layout_0 (p : Program) (l : Launch) (e : Env) (s : State) (m : MethodId) (args : Array Value) (below : List Frame) (meth : Method) (c : Code) (Q : State → Prop) (A : Nat → Prop) (dC : Nat → ClassId) (dI : Nat → Nat → Nat) (a : Nat → Nat) (ac : Nat → ClassId) (g : (St) → Option (St)) (r : St) : Prop := ∀ (s0 : St) (H : Heap) (locs : List Loc) (ls : Array Slot), g s0 = some r → va_P (dC, dI) vwCl (dw_X13 a ac s0) H → va_D A (dw_X13 a ac s0) → va_S A s.heap H locs → lv_has ls 5 [(0, .ref (a 0))] → W p l e (headSpec ow_dm_X13_layout ({ frames := 1, cells := 0, slots := 0, locals := 22 })).room s m args below meth c H locs 0 0 Q (F0 m 0 ls [])
set_option maxHeartbeats 40000000 in
set_option maxRecDepth 100000 in
theorem db_X13_layout_213 {p : Program} {l : Launch} {e : Env} {s : State} {m : MethodId} {args : Array Value} {below : List Frame} {meth : Method} {c : Code} {Q : State → Prop} {A : Nat → Prop} {dC : Nat → ClassId} {dI : Nat → Nat → Nat} {a : Nat → Nat} {ac : Nat → ClassId} {n : Nat} {r : St} (C : nd_C p l s m args c A (dC, dI) cX13_layout 5 RX13 ow_dm_X13_layout (dk_X13 ac)) (K : nd_Kv p l e (headSpec ow_dm_X13_layout ({ frames := 1, cells := 0, slots := 0, locals := 22 })).room s m args below meth c Q A (dC, dI) cX13_layout (St) (dw_X13 a ac) r) {g14 : Int32 → Int32 → (St) → Option (St)} (J14 : dj_X13_layout_14 p l e s m args below meth c Q A dC dI a ac g14 r) : dj_X13_layout_213 p l e s m args below meth c Q A dC dI a ac (df_X13_layout_213 n g14) r := by
  obtain ⟨hlt, hx, hb, hml, hown, hts, hN, hA, hK⟩ := id C
  intro x1 x2 y1 y2 s0 H locs ls h hP hD hS hl
  unfold df_X13_layout_213 at h
  refine lv_iadd hx hb dX13_layout_213 ?_
  refine va_put (D := (dC, dI)) (ci := 14) (v := .int (y1 + y2)) (ty := .int) (C := RX13) (T := TX13) (N := 37) hx hb hts hi_dm_X13_layout_X13 tyX13 tyX13_ok nmX13 hown hK hP hD hS 0 rfl rfl 13 (by decide) (hts (.fieldLink RX13 447 "TimeMachineModel$Assembler" "textSize" "I") (List.mem_of_getElem? (i := 1) rfl)) (fun _ h9 => h9) rfl (by decide +kernel) rfl rfl (Nat.le_of_ble_eq_true rfl) dX13_layout_214 (fun H locs hP hD hS => ?_)
  obtain ⟨s26, es26, h⟩ := nd_let_e h
  have hP : va_P (dC, dI) vwCl (dw_X13 a ac s26) H := by rw [es26]; exact hP
  have hD : va_D A (dw_X13 a ac s26) := by rw [es26]; exact hD
  obtain ⟨z27, ez27, h⟩ := nd_let_e h
  refine lv_iinc (v := z27) (lv' := [(2, .int z27), (0, .ref (a 0)), (1, .int x1)]) hx hb dX13_layout_217 hl (k := 2) rfl (by rw [ez27]) (by decide) rfl (fun ls hl => ?_)
  refine lv_goto (tgt := 14) hx hb dX13_layout_220 (by decide) ?_
  exact (J14) (x1) (z27) s26 _ _ _ h hP hD hS (lv_sub hl [1, 2, 0] rfl)
set_option maxHeartbeats 40000000 in
set_option maxRecDepth 100000 in
theorem db_X13_layout_189 {p : Program} {l : Launch} {e : Env} {s : State} {m : MethodId} {args : Array Value} {below : List Frame} {meth : Method} {c : Code} {Q : State → Prop} {A : Nat → Prop} {dC : Nat → ClassId} {dI : Nat → Nat → Nat} {a : Nat → Nat} {ac : Nat → ClassId} {n : Nat} {r : St} (C : nd_C p l s m args c A (dC, dI) cX13_layout 5 RX13 ow_dm_X13_layout (dk_X13 ac)) (K : nd_Kv p l e (headSpec ow_dm_X13_layout ({ frames := 1, cells := 0, slots := 0, locals := 22 })).room s m args below meth c Q A (dC, dI) cX13_layout (St) (dw_X13 a ac) r) {g14 : Int32 → Int32 → (St) → Option (St)} (J14 : dj_X13_layout_14 p l e s m args below meth c Q A dC dI a ac g14 r) : dj_X13_layout_189 p l e s m args below meth c Q A dC dI a ac (df_X13_layout_189 n g14) r := by
  obtain ⟨hlt, hx, hb, hml, hown, hts, hN, hA, hK⟩ := id C
  intro x1 x2 x4 y1 y2 s0 H locs ls h hP hD hS hl
  unfold df_X13_layout_189 at h
  refine lv_iadd hx hb dX13_layout_189 ?_
  refine va_put (D := (dC, dI)) (ci := 14) (v := .int (y1 + y2)) (ty := .int) (C := RX13) (T := TX13) (N := 37) hx hb hts hi_dm_X13_layout_X13 tyX13 tyX13_ok nmX13 hown hK hP hD hS 0 rfl rfl 14 (by decide) (hts (.fieldLink RX13 682 "TimeMachineModel$Assembler" "dataSize" "I") (List.mem_of_getElem? (i := 2) rfl)) (fun _ h9 => h9) rfl (by decide +kernel) rfl rfl (Nat.le_of_ble_eq_true rfl) dX13_layout_190 (fun H locs hP hD hS => ?_)
  obtain ⟨s21, es21, h⟩ := nd_let_e h
  have hP : va_P (dC, dI) vwCl (dw_X13 a ac s21) H := by rw [es21]; exact hP
  have hD : va_D A (dw_X13 a ac s21) := by rw [es21]; exact hD
  refine lv_aload_n hx hb dX13_layout_193 rfl (lv_at hl 0 rfl) ?_
  refine lv_dup hx hb dX13_layout_194 rfl ?_
  refine va_get (D := (dC, dI)) (ci := 14) (v := .int (sI s21 4)) (C := RX13) (T := TX13) (N := 37) hx hb hts hi_dm_X13_layout_X13 hown hK hP 0 rfl rfl 13 (by decide) (hts (.fieldLink RX13 447 "TimeMachineModel$Assembler" "textSize" "I") (List.mem_of_getElem? (i := 1) rfl)) (fun _ h9 => h9) rfl dX13_layout_195 ?_
  refine lv_aload_n hx hb dX13_layout_198 rfl (lv_at hl 0 rfl) ?_
  refine lv_iload_n hx hb dX13_layout_199 rfl (lv_at hl 2 rfl) ?_
  obtain ⟨q22, s23, hq, h⟩ := nd_b2_e h
  have hPc := hP
  have hDc := hD
  have hKc := hK
  have hFc := nd_rs hD hS hA
  refine nd_cVi (As := [.int x2]) (rest := [.int (sI s21 4), .ref (a 0)]) (q := q22) (w' := dw_X13 a ac s23) ⟨hx, hb, hml, hown, hts⟩ (fun sz => dm_X13_sectionOf l hlt dC dI a ac n (x2) s21 hq sz) (cwV 1 hts gi_dm_X13_layout_0 rfl rfl rfl (by decide +kernel) ⟨Nat.le_of_ble_eq_true rfl, Nat.le_of_ble_eq_true rfl⟩) hPc hDc hKc hS hA hN (va_recv hKc hPc (ci := 14) (q0 := 0) rfl rfl) rfl hl.1 rfl (Nat.le_of_ble_eq_true rfl) dX13_layout_200 (fun H locs hP1 hD1 hk1 hS => ?_)
  have hP := hP1
  have hD := hD1.weaken (fun k q _ h => hFc q.1 h)
  refine lv_iconst (v := 1) hx hb dX13_layout_203 (by decide) ?_
  refine lv_icmp_ne (tgt := 211) hx hb dX13_layout_204 (by decide) (fun c25 => ?_) (fun c25 => ?_)
  · have h := nd_neg h c25
    refine lv_iload hx hb dX13_layout_211 (lv_at hl 3 rfl) ?_
    exact (db_X13_layout_213 C K J14) (x1) (x2) ((sI s21 4)) (x4) s23 _ _ _ h hP hD hS (lv_sub hl [0, 1, 2] rfl)
  · have h := nd_pos h c25
    refine lv_iconst (v := 0) hx hb dX13_layout_207 (by decide) ?_
    refine lv_goto (tgt := 213) hx hb dX13_layout_208 (by decide) ?_
    exact (db_X13_layout_213 C K J14) (x1) (x2) ((sI s21 4)) (0) s23 _ _ _ h hP hD hS (lv_sub hl [0, 1, 2] rfl)
set_option maxHeartbeats 40000000 in
set_option maxRecDepth 100000 in
theorem db_X13_layout_155 {p : Program} {l : Launch} {e : Env} {s : State} {m : MethodId} {args : Array Value} {below : List Frame} {meth : Method} {c : Code} {Q : State → Prop} {A : Nat → Prop} {dC : Nat → ClassId} {dI : Nat → Nat → Nat} {a : Nat → Nat} {ac : Nat → ClassId} {n : Nat} {r : St} (C : nd_C p l s m args c A (dC, dI) cX13_layout 5 RX13 ow_dm_X13_layout (dk_X13 ac)) (K : nd_Kv p l e (headSpec ow_dm_X13_layout ({ frames := 1, cells := 0, slots := 0, locals := 22 })).room s m args below meth c Q A (dC, dI) cX13_layout (St) (dw_X13 a ac) r) {g14 : Int32 → Int32 → (St) → Option (St)} (J14 : dj_X13_layout_14 p l e s m args below meth c Q A dC dI a ac g14 r) : dj_X13_layout_155 p l e s m args below meth c Q A dC dI a ac (df_X13_layout_155 n g14) r := by
  obtain ⟨hlt, hx, hb, hml, hown, hts, hN, hA, hK⟩ := id C
  intro x1 x2 y1 y2 s0 H locs ls h hP hD hS hl
  unfold df_X13_layout_155 at h
  obtain ⟨i11, h⟩ := nd_ck_e h
  refine va_iast (i := y1) (x := y2) hx hb hK hP hD hS 6 5 rfl rfl i11 dX13_layout_155 (fun H locs hP hD hS => ?_)
  obtain ⟨s12, es12, h⟩ := nd_let_e h
  have hP : va_P (dC, dI) vwCl (dw_X13 a ac s12) H := by rw [es12]; exact hP
  have hD : va_D A (dw_X13 a ac s12) := by rw [es12]; exact hD
  refine lv_aload_n hx hb dX13_layout_156 rfl (lv_at hl 0 rfl) ?_
  refine lv_iload_n hx hb dX13_layout_157 rfl (lv_at hl 2 rfl) ?_
  refine lv_aload_n hx hb dX13_layout_158 rfl (lv_at hl 0 rfl) ?_
  refine va_get (D := (dC, dI)) (ci := 14) (v := .ref (a 6)) (C := RX13) (T := TX13) (N := 37) hx hb hts hi_dm_X13_layout_X13 hown hK hP 0 rfl rfl 8 (by decide) (hts (.fieldLink RX13 331 "TimeMachineModel$Assembler" "offset" "[I") (List.mem_of_getElem? (i := 6) rfl)) (fun _ h9 => h9) rfl dX13_layout_159 ?_
  refine lv_iload_n hx hb dX13_layout_162 rfl (lv_at hl 2 rfl) ?_
  obtain ⟨i13, h⟩ := nd_ck_e h
  refine va_iald (i := x2) hx hb hK hP 6 5 rfl rfl i13 dX13_layout_163 ?_
  obtain ⟨q14, s15, hq, h⟩ := nd_b2_e h
  have hPc := hP
  have hDc := hD
  have hKc := hK
  have hFc := nd_rs hD hS hA
  refine nd_cVi (As := [.int x2, .int (sR s12 4 (Int32.toNatClampNeg x2))]) (rest := []) (q := q14) (w' := dw_X13 a ac s15) ⟨hx, hb, hml, hown, hts⟩ (fun sz => dm_X13_sizeAt l hlt dC dI a ac n (x2) ((sR s12 4 (Int32.toNatClampNeg x2))) s12 hq sz) (cwV 2 hts gi_dm_X13_layout_1 rfl rfl rfl (by decide +kernel) ⟨Nat.le_of_ble_eq_true rfl, Nat.le_of_ble_eq_true rfl⟩) hPc hDc hKc hS hA hN (va_recv hKc hPc (ci := 14) (q0 := 0) rfl rfl) rfl hl.1 rfl (Nat.le_of_ble_eq_true rfl) dX13_layout_164 (fun H locs hP1 hD1 hk1 hS => ?_)
  have hP := hP1
  have hD := hD1.weaken (fun k q _ h => hFc q.1 h)
  refine lv_istore (lv' := [(4, .int q14), (0, .ref (a 0)), (1, .int x1), (2, .int x2)]) hx hb dX13_layout_167 hl (by decide) rfl (fun ls hl => ?_)
  refine lv_aload_n hx hb dX13_layout_169 rfl (lv_at hl 1 rfl) ?_
  refine lv_dup hx hb dX13_layout_170 rfl ?_
  refine va_get (D := (dC, dI)) (ci := 14) (v := .int (sI s15 5)) (C := RX13) (T := TX13) (N := 37) hx hb hts hi_dm_X13_layout_X13 hown hK hP 0 rfl rfl 14 (by decide) (hts (.fieldLink RX13 682 "TimeMachineModel$Assembler" "dataSize" "I") (List.mem_of_getElem? (i := 2) rfl)) (fun _ h9 => h9) rfl dX13_layout_171 ?_
  refine lv_aload_n hx hb dX13_layout_174 rfl (lv_at hl 1 rfl) ?_
  refine lv_iload_n hx hb dX13_layout_175 rfl (lv_at hl 3 rfl) ?_
  obtain ⟨q17, s18, hq, h⟩ := nd_b2_e h
  have hPc := hP
  have hDc := hD
  have hKc := hK
  have hFc := nd_rs hD hS hA
  refine nd_cVi (As := [.int x2]) (rest := [.int (sI s15 5), .ref (a 0)]) (q := q17) (w' := dw_X13 a ac s18) ⟨hx, hb, hml, hown, hts⟩ (fun sz => dm_X13_sectionOf l hlt dC dI a ac n (x2) s15 hq sz) (cwV 1 hts gi_dm_X13_layout_0 rfl rfl rfl (by decide +kernel) ⟨Nat.le_of_ble_eq_true rfl, Nat.le_of_ble_eq_true rfl⟩) hPc hDc hKc hS hA hN (va_recv hKc hPc (ci := 14) (q0 := 0) rfl rfl) rfl hl.1 rfl (Nat.le_of_ble_eq_true rfl) dX13_layout_176 (fun H locs hP1 hD1 hk1 hS => ?_)
  have hP := hP1
  have hD := hD1.weaken (fun k q _ h => hFc q.1 h)
  refine lv_iconst (v := 1) hx hb dX13_layout_179 (by decide) ?_
  refine lv_icmp_ne (tgt := 188) hx hb dX13_layout_180 (by decide) (fun c20 => ?_) (fun c20 => ?_)
  · have h := nd_neg h c20
    refine lv_iconst (v := 0) hx hb dX13_layout_188 (by decide) ?_
    exact (db_X13_layout_189 C K J14) (x1) (x2) (q14) ((sI s15 5)) (0) s18 _ _ _ h hP hD hS (lv_sub hl [1, 2, 3, 0] rfl)
  · have h := nd_pos h c20
    refine lv_iload hx hb dX13_layout_183 (lv_at hl 0 rfl) ?_
    refine lv_goto (tgt := 189) hx hb dX13_layout_185 (by decide) ?_
    exact (db_X13_layout_189 C K J14) (x1) (x2) (q14) ((sI s15 5)) (q14) s18 _ _ _ h hP hD hS (lv_sub hl [1, 2, 3, 0] rfl)
set_option maxHeartbeats 40000000 in
set_option maxRecDepth 100000 in
theorem db_X13_layout_121 {p : Program} {l : Launch} {e : Env} {s : State} {m : MethodId} {args : Array Value} {below : List Frame} {meth : Method} {c : Code} {Q : State → Prop} {A : Nat → Prop} {dC : Nat → ClassId} {dI : Nat → Nat → Nat} {a : Nat → Nat} {ac : Nat → ClassId} {n : Nat} {r : St} (C : nd_C p l s m args c A (dC, dI) cX13_layout 5 RX13 ow_dm_X13_layout (dk_X13 ac)) (K : nd_Kv p l e (headSpec ow_dm_X13_layout ({ frames := 1, cells := 0, slots := 0, locals := 22 })).room s m args below meth c Q A (dC, dI) cX13_layout (St) (dw_X13 a ac) r) {g14 : Int32 → Int32 → (St) → Option (St)} (J14 : dj_X13_layout_14 p l e s m args below meth c Q A dC dI a ac g14 r) : dj_X13_layout_121 p l e s m args below meth c Q A dC dI a ac (df_X13_layout_121 n g14) r := by
  obtain ⟨hlt, hx, hb, hml, hown, hts, hN, hA, hK⟩ := id C
  intro x1 x2 s0 H locs ls h hP hD hS hl
  unfold df_X13_layout_121 at h
  refine lv_iload_n hx hb dX13_layout_121 rfl (lv_at hl 2 rfl) ?_
  refine lv_aload_n hx hb dX13_layout_122 rfl (lv_at hl 0 rfl) ?_
  refine va_get (D := (dC, dI)) (ci := 14) (v := .int (sI s0 2)) (C := RX13) (T := TX13) (N := 37) hx hb hts hi_dm_X13_layout_X13 hown hK hP 0 rfl rfl 6 (by decide) (hts (.fieldLink RX13 673 "TimeMachineModel$Assembler" "statements" "I") (List.mem_of_getElem? (i := 3) rfl)) (fun _ h9 => h9) rfl dX13_layout_123 ?_
  refine lv_icmp_ne (tgt := 130) hx hb dX13_layout_126 (by decide) (fun c6 => ?_) (fun c6 => ?_)
  · have h := nd_neg h c6
    refine lv_aload_n hx hb dX13_layout_130 rfl (lv_at hl 0 rfl) ?_
    refine va_get (D := (dC, dI)) (ci := 14) (v := .ref (a 6)) (C := RX13) (T := TX13) (N := 37) hx hb hts hi_dm_X13_layout_X13 hown hK hP 0 rfl rfl 8 (by decide) (hts (.fieldLink RX13 331 "TimeMachineModel$Assembler" "offset" "[I") (List.mem_of_getElem? (i := 6) rfl)) (fun _ h9 => h9) rfl dX13_layout_131 ?_
    refine lv_iload_n hx hb dX13_layout_134 rfl (lv_at hl 2 rfl) ?_
    refine lv_aload_n hx hb dX13_layout_135 rfl (lv_at hl 0 rfl) ?_
    refine lv_iload_n hx hb dX13_layout_136 rfl (lv_at hl 2 rfl) ?_
    obtain ⟨q7, s8, hq, h⟩ := nd_b2_e h
    have hPc := hP
    have hDc := hD
    have hKc := hK
    have hFc := nd_rs hD hS hA
    refine nd_cVi (As := [.int x2]) (rest := [.int x2, .ref (a 6)]) (q := q7) (w' := dw_X13 a ac s8) ⟨hx, hb, hml, hown, hts⟩ (fun sz => dm_X13_sectionOf l hlt dC dI a ac n (x2) s0 hq sz) (cwV 1 hts gi_dm_X13_layout_0 rfl rfl rfl (by decide +kernel) ⟨Nat.le_of_ble_eq_true rfl, Nat.le_of_ble_eq_true rfl⟩) hPc hDc hKc hS hA hN (va_recv hKc hPc (ci := 14) (q0 := 0) rfl rfl) rfl hl.1 rfl (Nat.le_of_ble_eq_true rfl) dX13_layout_137 (fun H locs hP1 hD1 hk1 hS => ?_)
    have hP := hP1
    have hD := hD1.weaken (fun k q _ h => hFc q.1 h)
    refine lv_iconst (v := 1) hx hb dX13_layout_140 (by decide) ?_
    refine lv_icmp_ne (tgt := 151) hx hb dX13_layout_141 (by decide) (fun c10 => ?_) (fun c10 => ?_)
    · have h := nd_neg h c10
      refine lv_aload_n hx hb dX13_layout_151 rfl (lv_at hl 0 rfl) ?_
      refine va_get (D := (dC, dI)) (ci := 14) (v := .int (sI s8 4)) (C := RX13) (T := TX13) (N := 37) hx hb hts hi_dm_X13_layout_X13 hown hK hP 0 rfl rfl 13 (by decide) (hts (.fieldLink RX13 447 "TimeMachineModel$Assembler" "textSize" "I") (List.mem_of_getElem? (i := 1) rfl)) (fun _ h9 => h9) rfl dX13_layout_152 ?_
      exact (db_X13_layout_155 C K J14) (x1) (x2) (x2) ((sI s8 4)) s8 _ _ _ h hP hD hS (lv_sub hl [0, 1, 2] rfl)
    · have h := nd_pos h c10
      refine lv_aload_n hx hb dX13_layout_144 rfl (lv_at hl 0 rfl) ?_
      refine va_get (D := (dC, dI)) (ci := 14) (v := .int (sI s8 5)) (C := RX13) (T := TX13) (N := 37) hx hb hts hi_dm_X13_layout_X13 hown hK hP 0 rfl rfl 14 (by decide) (hts (.fieldLink RX13 682 "TimeMachineModel$Assembler" "dataSize" "I") (List.mem_of_getElem? (i := 2) rfl)) (fun _ h9 => h9) rfl dX13_layout_145 ?_
      refine lv_goto (tgt := 155) hx hb dX13_layout_148 (by decide) ?_
      exact (db_X13_layout_155 C K J14) (x1) (x2) (x2) ((sI s8 5)) s8 _ _ _ h hP hD hS (lv_sub hl [0, 1, 2] rfl)
  · have h := nd_pos h c6
    exact K _ _ _ _ _ dX13_layout_129 (Option.some.inj h).symm hP hD hS
set_option maxHeartbeats 40000000 in
set_option maxRecDepth 100000 in
theorem db_X13_layout_115 {p : Program} {l : Launch} {e : Env} {s : State} {m : MethodId} {args : Array Value} {below : List Frame} {meth : Method} {c : Code} {Q : State → Prop} {A : Nat → Prop} {dC : Nat → ClassId} {dI : Nat → Nat → Nat} {a : Nat → Nat} {ac : Nat → ClassId} {n : Nat} {r : St} (C : nd_C p l s m args c A (dC, dI) cX13_layout 5 RX13 ow_dm_X13_layout (dk_X13 ac)) (K : nd_Kv p l e (headSpec ow_dm_X13_layout ({ frames := 1, cells := 0, slots := 0, locals := 22 })).room s m args below meth c Q A (dC, dI) cX13_layout (St) (dw_X13 a ac) r) {g14 : Int32 → Int32 → (St) → Option (St)} {g47 : Int32 → Int32 → Int32 → (St) → Option (St)} (J14 : dj_X13_layout_14 p l e s m args below meth c Q A dC dI a ac g14 r) (J47 : dj_X13_layout_47 p l e s m args below meth c Q A dC dI a ac g47 r) : dj_X13_layout_115 p l e s m args below meth c Q A dC dI a ac (df_X13_layout_115 n g14 g47) r := by
  obtain ⟨hlt, hx, hb, hml, hown, hts, hN, hA, hK⟩ := id C
  intro x1 x2 x3 s0 H locs ls h hP hD hS hl
  unfold df_X13_layout_115 at h
  obtain ⟨z33, ez33, h⟩ := nd_let_e h
  refine lv_iinc (v := z33) (lv' := [(1, .int z33), (0, .ref (a 0)), (2, .int x2), (3, .int x3)]) hx hb dX13_layout_115 hl (k := 1) rfl (by rw [ez33]) (by decide) rfl (fun ls hl => ?_)
  refine lv_goto (tgt := 47) hx hb dX13_layout_118 (by decide) ?_
  exact (J47) (z33) (x2) (x3) s0 _ _ _ h hP hD hS (lv_sub hl [1, 0, 2, 3] rfl)
set_option maxHeartbeats 40000000 in
set_option maxRecDepth 100000 in
theorem db_X13_layout_114 {p : Program} {l : Launch} {e : Env} {s : State} {m : MethodId} {args : Array Value} {below : List Frame} {meth : Method} {c : Code} {Q : State → Prop} {A : Nat → Prop} {dC : Nat → ClassId} {dI : Nat → Nat → Nat} {a : Nat → Nat} {ac : Nat → ClassId} {n : Nat} {r : St} (C : nd_C p l s m args c A (dC, dI) cX13_layout 5 RX13 ow_dm_X13_layout (dk_X13 ac)) (K : nd_Kv p l e (headSpec ow_dm_X13_layout ({ frames := 1, cells := 0, slots := 0, locals := 22 })).room s m args below meth c Q A (dC, dI) cX13_layout (St) (dw_X13 a ac) r) {g14 : Int32 → Int32 → (St) → Option (St)} {g47 : Int32 → Int32 → Int32 → (St) → Option (St)} (J14 : dj_X13_layout_14 p l e s m args below meth c Q A dC dI a ac g14 r) (J47 : dj_X13_layout_47 p l e s m args below meth c Q A dC dI a ac g47 r) : dj_X13_layout_114 p l e s m args below meth c Q A dC dI a ac (df_X13_layout_114 n g14 g47) r := by
  obtain ⟨hlt, hx, hb, hml, hown, hts, hN, hA, hK⟩ := id C
  intro x1 x2 x3 y1 y2 s0 H locs ls h hP hD hS hl
  unfold df_X13_layout_114 at h
  obtain ⟨i35, h⟩ := nd_ck_e h
  refine va_iast (i := y1) (x := y2) hx hb hK hP hD hS 9 8 rfl rfl i35 dX13_layout_114 (fun H locs hP hD hS => ?_)
  obtain ⟨s36, es36, h⟩ := nd_let_e h
  have hP : va_P (dC, dI) vwCl (dw_X13 a ac s36) H := by rw [es36]; exact hP
  have hD : va_D A (dw_X13 a ac s36) := by rw [es36]; exact hD
  exact (db_X13_layout_115 C K J14 J47) (x1) (x2) (x3) s36 _ _ _ h hP hD hS (lv_sub hl [0, 1, 2, 3] rfl)
set_option maxHeartbeats 40000000 in
set_option maxRecDepth 100000 in
theorem db_X13_layout_103 {p : Program} {l : Launch} {e : Env} {s : State} {m : MethodId} {args : Array Value} {below : List Frame} {meth : Method} {c : Code} {Q : State → Prop} {A : Nat → Prop} {dC : Nat → ClassId} {dI : Nat → Nat → Nat} {a : Nat → Nat} {ac : Nat → ClassId} {n : Nat} {r : St} (C : nd_C p l s m args c A (dC, dI) cX13_layout 5 RX13 ow_dm_X13_layout (dk_X13 ac)) (K : nd_Kv p l e (headSpec ow_dm_X13_layout ({ frames := 1, cells := 0, slots := 0, locals := 22 })).room s m args below meth c Q A (dC, dI) cX13_layout (St) (dw_X13 a ac) r) {g14 : Int32 → Int32 → (St) → Option (St)} {g47 : Int32 → Int32 → Int32 → (St) → Option (St)} (J14 : dj_X13_layout_14 p l e s m args below meth c Q A dC dI a ac g14 r) (J47 : dj_X13_layout_47 p l e s m args below meth c Q A dC dI a ac g47 r) : dj_X13_layout_103 p l e s m args below meth c Q A dC dI a ac (df_X13_layout_103 n g14 g47) r := by
  obtain ⟨hlt, hx, hb, hml, hown, hts, hN, hA, hK⟩ := id C
  intro x1 x2 x3 y1 s0 H locs ls h hP hD hS hl
  unfold df_X13_layout_103 at h
  refine lv_aload_n hx hb dX13_layout_103 rfl (lv_at hl 0 rfl) ?_
  refine va_get (D := (dC, dI)) (ci := 14) (v := .int (sI s0 5)) (C := RX13) (T := TX13) (N := 37) hx hb hts hi_dm_X13_layout_X13 hown hK hP 0 rfl rfl 14 (by decide) (hts (.fieldLink RX13 682 "TimeMachineModel$Assembler" "dataSize" "I") (List.mem_of_getElem? (i := 2) rfl)) (fun _ h9 => h9) rfl dX13_layout_104 ?_
  refine lv_goto (tgt := 114) hx hb dX13_layout_107 (by decide) ?_
  exact (db_X13_layout_114 C K J14 J47) (x1) (x2) (x3) (y1) ((sI s0 5)) s0 _ _ _ h hP hD hS (lv_sub hl [0, 1, 2, 3] rfl)
set_option maxHeartbeats 40000000 in
set_option maxRecDepth 100000 in
theorem dB_X13_layout_47 {p : Program} {l : Launch} {e : Env} {s : State} {m : MethodId} {args : Array Value} {below : List Frame} {meth : Method} {c : Code} {Q : State → Prop} {A : Nat → Prop} {dC : Nat → ClassId} {dI : Nat → Nat → Nat} {a : Nat → Nat} {ac : Nat → ClassId} {n : Nat} {r : St} (C : nd_C p l s m args c A (dC, dI) cX13_layout 5 RX13 ow_dm_X13_layout (dk_X13 ac)) (K : nd_Kv p l e (headSpec ow_dm_X13_layout ({ frames := 1, cells := 0, slots := 0, locals := 22 })).room s m args below meth c Q A (dC, dI) cX13_layout (St) (dw_X13 a ac) r) {g14 : Int32 → Int32 → (St) → Option (St)} (J14 : dj_X13_layout_14 p l e s m args below meth c Q A dC dI a ac g14 r) {g47 : Int32 → Int32 → Int32 → (St) → Option (St)} (J47 : dj_X13_layout_47 p l e s m args below meth c Q A dC dI a ac g47 r) : dj_X13_layout_47 p l e s m args below meth c Q A dC dI a ac (dF_X13_layout_47 n g14 g47) r := by
  obtain ⟨hlt, hx, hb, hml, hown, hts, hN, hA, hK⟩ := id C
  intro x1 x2 x3 s0 H locs ls h hP hD hS hl
  unfold dF_X13_layout_47 at h
  refine lv_iload_n hx hb dX13_layout_47 rfl (lv_at hl 1 rfl) ?_
  refine lv_aload_n hx hb dX13_layout_48 rfl (lv_at hl 0 rfl) ?_
  refine va_get (D := (dC, dI)) (ci := 14) (v := .int (sI s0 3)) (C := RX13) (T := TX13) (N := 37) hx hb hts hi_dm_X13_layout_X13 hown hK hP 0 rfl rfl 10 (by decide) (hts (.fieldLink RX13 439 "TimeMachineModel$Assembler" "labels" "I") (List.mem_of_getElem? (i := 5) rfl)) (fun _ h9 => h9) rfl dX13_layout_49 ?_
  refine lv_icmp_ge (tgt := 121) hx hb dX13_layout_52 (by decide) (fun c5 => ?_) (fun c5 => ?_)
  · have h := nd_pos h c5
    exact (db_X13_layout_121 C K J14) (x1) (x2) s0 _ _ _ h hP hD hS (lv_sub hl [0, 1, 2] rfl)
  · have h := nd_neg h c5
    refine lv_aload_n hx hb dX13_layout_55 rfl (lv_at hl 0 rfl) ?_
    refine va_get (D := (dC, dI)) (ci := 14) (v := .ref (a 8)) (C := RX13) (T := TX13) (N := 37) hx hb hts hi_dm_X13_layout_X13 hown hK hP 0 rfl rfl 11 (by decide) (hts (.fieldLink RX13 337 "TimeMachineModel$Assembler" "label" "[I") (List.mem_of_getElem? (i := 14) rfl)) (fun _ h9 => h9) rfl dX13_layout_56 ?_
    refine lv_iload_n hx hb dX13_layout_59 rfl (lv_at hl 1 rfl) ?_
    obtain ⟨i28, h⟩ := nd_ck_e h
    refine va_iald (i := x1) hx hb hK hP 8 7 rfl rfl i28 dX13_layout_60 ?_
    refine lv_ldcw hx hb hown (hts (.constant RX13 442 (131071)) (List.mem_of_getElem? (i := 4) rfl)) dX13_layout_61 ?_
    refine lv_iand hx hb dX13_layout_64 ?_
    refine lv_iload_n hx hb dX13_layout_65 rfl (lv_at hl 3 rfl) ?_
    refine lv_icmp_ge (tgt := 121) hx hb dX13_layout_66 (by decide) (fun c29 => ?_) (fun c29 => ?_)
    · have h := nd_pos h c29
      exact (db_X13_layout_121 C K J14) (x1) (x2) s0 _ _ _ h hP hD hS (lv_sub hl [0, 1, 2] rfl)
    · have h := nd_neg h c29
      refine lv_aload_n hx hb dX13_layout_69 rfl (lv_at hl 0 rfl) ?_
      refine va_get (D := (dC, dI)) (ci := 14) (v := .ref (a 8)) (C := RX13) (T := TX13) (N := 37) hx hb hts hi_dm_X13_layout_X13 hown hK hP 0 rfl rfl 11 (by decide) (hts (.fieldLink RX13 337 "TimeMachineModel$Assembler" "label" "[I") (List.mem_of_getElem? (i := 14) rfl)) (fun _ h9 => h9) rfl dX13_layout_70 ?_
      refine lv_iload_n hx hb dX13_layout_73 rfl (lv_at hl 1 rfl) ?_
      obtain ⟨i30, h⟩ := nd_ck_e h
      refine va_iald (i := x1) hx hb hK hP 8 7 rfl rfl i30 dX13_layout_74 ?_
      refine lv_bipush (v := 17) hx hb dX13_layout_75 (by decide) ?_
      refine lv_ishr hx hb dX13_layout_77 ?_
      refine lv_topi (fun z31 ez31 => ?_)
      have h := nd_at h ez31
      refine lv_istore (lv' := [(4, .int z31), (0, .ref (a 0)), (1, .int x1), (2, .int x2), (3, .int x3)]) hx hb dX13_layout_78 hl (by decide) rfl (fun ls hl => ?_)
      refine lv_iload hx hb dX13_layout_80 (lv_at hl 0 rfl) ?_
      refine lv_iconst (v := 2) hx hb dX13_layout_82 (by decide) ?_
      refine lv_icmp_eq (tgt := 115) hx hb dX13_layout_83 (by decide) (fun c32 => ?_) (fun c32 => ?_)
      · have h := nd_pos h c32
        exact (db_X13_layout_115 C K J14 J47) (x1) (x2) (x3) s0 _ _ _ h hP hD hS (lv_sub hl [1, 2, 3, 4] rfl)
      · have h := nd_neg h c32
        refine lv_aload_n hx hb dX13_layout_86 rfl (lv_at hl 1 rfl) ?_
        refine va_get (D := (dC, dI)) (ci := 14) (v := .ref (a 9)) (C := RX13) (T := TX13) (N := 37) hx hb hts hi_dm_X13_layout_X13 hown hK hP 0 rfl rfl 12 (by decide) (hts (.fieldLink RX13 340 "TimeMachineModel$Assembler" "where" "[I") (List.mem_of_getElem? (i := 15) rfl)) (fun _ h9 => h9) rfl dX13_layout_87 ?_
        refine lv_iload_n hx hb dX13_layout_90 rfl (lv_at hl 2 rfl) ?_
        refine lv_iload hx hb dX13_layout_91 (lv_at hl 0 rfl) ?_
        refine lv_iconst (v := 1) hx hb dX13_layout_93 (by decide) ?_
        refine lv_icmp_eq (tgt := 103) hx hb dX13_layout_94 (by decide) (fun c34 => ?_) (fun c34 => ?_)
        · have h := nd_pos h c34
          exact (db_X13_layout_103 C K J14 J47) (x1) (x2) (x3) (x1) s0 _ _ _ h hP hD hS (lv_sub hl [1, 2, 3, 4] rfl)
        · have h := nd_neg h c34
          refine lv_iload hx hb dX13_layout_97 (lv_at hl 0 rfl) ?_
          refine lv_iconst (v := 4) hx hb dX13_layout_99 (by decide) ?_
          refine lv_icmp_ne (tgt := 110) hx hb dX13_layout_100 (by decide) (fun c37 => ?_) (fun c37 => ?_)
          · have h := nd_neg h c37
            refine lv_aload_n hx hb dX13_layout_110 rfl (lv_at hl 1 rfl) ?_
            refine va_get (D := (dC, dI)) (ci := 14) (v := .int (sI s0 4)) (C := RX13) (T := TX13) (N := 37) hx hb hts hi_dm_X13_layout_X13 hown hK hP 0 rfl rfl 13 (by decide) (hts (.fieldLink RX13 447 "TimeMachineModel$Assembler" "textSize" "I") (List.mem_of_getElem? (i := 1) rfl)) (fun _ h9 => h9) rfl dX13_layout_111 ?_
            exact (db_X13_layout_114 C K J14 J47) (x1) (x2) (x3) (x1) ((sI s0 4)) s0 _ _ _ h hP hD hS (lv_sub hl [1, 2, 3, 4] rfl)
          · have h := nd_pos h c37
            exact (db_X13_layout_103 C K J14 J47) (x1) (x2) (x3) (x1) s0 _ _ _ h hP hD hS (lv_sub hl [1, 2, 3, 4] rfl)
set_option maxHeartbeats 40000000 in
set_option maxRecDepth 100000 in
theorem db_X13_layout_47 {p : Program} {l : Launch} {e : Env} {s : State} {m : MethodId} {args : Array Value} {below : List Frame} {meth : Method} {c : Code} {Q : State → Prop} {A : Nat → Prop} {dC : Nat → ClassId} {dI : Nat → Nat → Nat} {a : Nat → Nat} {ac : Nat → ClassId} {n : Nat} {r : St} (C : nd_C p l s m args c A (dC, dI) cX13_layout 5 RX13 ow_dm_X13_layout (dk_X13 ac)) (K : nd_Kv p l e (headSpec ow_dm_X13_layout ({ frames := 1, cells := 0, slots := 0, locals := 22 })).room s m args below meth c Q A (dC, dI) cX13_layout (St) (dw_X13 a ac) r) {g14 : Int32 → Int32 → (St) → Option (St)} (J14 : dj_X13_layout_14 p l e s m args below meth c Q A dC dI a ac g14 r) (k : Nat) : dj_X13_layout_47 p l e s m args below meth c Q A dC dI a ac (df_X13_layout_47 n g14 k) r := by
  induction k with
  | zero => intro x1 x2 x3 s0 H locs ls h; exact nomatch (show (none : Option (St)) = some r from h)
  | succ k ih => exact dB_X13_layout_47 C K J14 ih
set_option maxHeartbeats 40000000 in
set_option maxRecDepth 100000 in
theorem db_X13_layout_46 {p : Program} {l : Launch} {e : Env} {s : State} {m : MethodId} {args : Array Value} {below : List Frame} {meth : Method} {c : Code} {Q : State → Prop} {A : Nat → Prop} {dC : Nat → ClassId} {dI : Nat → Nat → Nat} {a : Nat → Nat} {ac : Nat → ClassId} {n : Nat} {r : St} (C : nd_C p l s m args c A (dC, dI) cX13_layout 5 RX13 ow_dm_X13_layout (dk_X13 ac)) (K : nd_Kv p l e (headSpec ow_dm_X13_layout ({ frames := 1, cells := 0, slots := 0, locals := 22 })).room s m args below meth c Q A (dC, dI) cX13_layout (St) (dw_X13 a ac) r) {g14 : Int32 → Int32 → (St) → Option (St)} (J14 : dj_X13_layout_14 p l e s m args below meth c Q A dC dI a ac g14 r) : dj_X13_layout_46 p l e s m args below meth c Q A dC dI a ac (df_X13_layout_46 n g14) r := by
  obtain ⟨hlt, hx, hb, hml, hown, hts, hN, hA, hK⟩ := id C
  intro x1 x2 y0 s0 H locs ls h hP hD hS hl
  unfold df_X13_layout_46 at h
  refine lv_istore_n (lv' := [(3, .int y0), (0, .ref (a 0)), (1, .int x1), (2, .int x2)]) hx hb dX13_layout_46 rfl hl (by decide) rfl (fun ls hl => ?_)
  exact (db_X13_layout_47 C K J14 n) (x1) (x2) (y0) s0 _ _ _ h hP hD hS (lv_sub hl [1, 2, 3, 0] rfl)
set_option maxHeartbeats 40000000 in
set_option maxRecDepth 100000 in
theorem dB_X13_layout_14 {p : Program} {l : Launch} {e : Env} {s : State} {m : MethodId} {args : Array Value} {below : List Frame} {meth : Method} {c : Code} {Q : State → Prop} {A : Nat → Prop} {dC : Nat → ClassId} {dI : Nat → Nat → Nat} {a : Nat → Nat} {ac : Nat → ClassId} {n : Nat} {r : St} (C : nd_C p l s m args c A (dC, dI) cX13_layout 5 RX13 ow_dm_X13_layout (dk_X13 ac)) (K : nd_Kv p l e (headSpec ow_dm_X13_layout ({ frames := 1, cells := 0, slots := 0, locals := 22 })).room s m args below meth c Q A (dC, dI) cX13_layout (St) (dw_X13 a ac) r) {g14 : Int32 → Int32 → (St) → Option (St)} (J14 : dj_X13_layout_14 p l e s m args below meth c Q A dC dI a ac g14 r) : dj_X13_layout_14 p l e s m args below meth c Q A dC dI a ac (dF_X13_layout_14 n g14) r := by
  obtain ⟨hlt, hx, hb, hml, hown, hts, hN, hA, hK⟩ := id C
  intro x1 x2 s0 H locs ls h hP hD hS hl
  unfold dF_X13_layout_14 at h
  refine lv_iload_n hx hb dX13_layout_14 rfl (lv_at hl 2 rfl) ?_
  refine lv_aload_n hx hb dX13_layout_15 rfl (lv_at hl 0 rfl) ?_
  refine va_get (D := (dC, dI)) (ci := 14) (v := .int (sI s0 2)) (C := RX13) (T := TX13) (N := 37) hx hb hts hi_dm_X13_layout_X13 hown hK hP 0 rfl rfl 6 (by decide) (hts (.fieldLink RX13 673 "TimeMachineModel$Assembler" "statements" "I") (List.mem_of_getElem? (i := 3) rfl)) (fun _ h9 => h9) rfl dX13_layout_16 ?_
  refine lv_icmp_gt (tgt := 223) hx hb dX13_layout_19 (by decide) (fun c3 => ?_) (fun c3 => ?_)
  · have h := nd_pos h c3
    exact K _ _ _ _ _ dX13_layout_223 (Option.some.inj h).symm hP hD hS
  · have h := nd_neg h c3
    refine lv_iload_n hx hb dX13_layout_22 rfl (lv_at hl 2 rfl) ?_
    refine lv_aload_n hx hb dX13_layout_23 rfl (lv_at hl 0 rfl) ?_
    refine va_get (D := (dC, dI)) (ci := 14) (v := .int (sI s0 2)) (C := RX13) (T := TX13) (N := 37) hx hb hts hi_dm_X13_layout_X13 hown hK hP 0 rfl rfl 6 (by decide) (hts (.fieldLink RX13 673 "TimeMachineModel$Assembler" "statements" "I") (List.mem_of_getElem? (i := 3) rfl)) (fun _ h9 => h9) rfl dX13_layout_24 ?_
    refine lv_icmp_ge (tgt := 43) hx hb dX13_layout_27 (by decide) (fun c4 => ?_) (fun c4 => ?_)
    · have h := nd_pos h c4
      refine lv_ldcw hx hb hown (hts (.constant RX13 442 (131071)) (List.mem_of_getElem? (i := 4) rfl)) dX13_layout_43 ?_
      exact (db_X13_layout_46 C K J14) (x1) (x2) (131071) s0 _ _ _ h hP hD hS (lv_sub hl [0, 1, 2] rfl)
    · have h := nd_neg h c4
      refine lv_aload_n hx hb dX13_layout_30 rfl (lv_at hl 0 rfl) ?_
      refine va_get (D := (dC, dI)) (ci := 14) (v := .ref (a 5)) (C := RX13) (T := TX13) (N := 37) hx hb hts hi_dm_X13_layout_X13 hown hK hP 0 rfl rfl 7 (by decide) (hts (.fieldLink RX13 328 "TimeMachineModel$Assembler" "place" "[I") (List.mem_of_getElem? (i := 16) rfl)) (fun _ h9 => h9) rfl dX13_layout_31 ?_
      refine lv_iload_n hx hb dX13_layout_34 rfl (lv_at hl 2 rfl) ?_
      obtain ⟨i38, h⟩ := nd_ck_e h
      refine va_iald (i := x2) hx hb hK hP 5 4 rfl rfl i38 dX13_layout_35 ?_
      refine lv_ldcw hx hb hown (hts (.constant RX13 442 (131071)) (List.mem_of_getElem? (i := 4) rfl)) dX13_layout_36 ?_
      refine lv_iand hx hb dX13_layout_39 ?_
      refine lv_goto (tgt := 46) hx hb dX13_layout_40 (by decide) ?_
      exact (db_X13_layout_46 C K J14) (x1) (x2) (((sR s0 3 (Int32.toNatClampNeg x2)) &&& 131071)) s0 _ _ _ h hP hD hS (lv_sub hl [0, 1, 2] rfl)
set_option maxHeartbeats 40000000 in
set_option maxRecDepth 100000 in
theorem db_X13_layout_14 {p : Program} {l : Launch} {e : Env} {s : State} {m : MethodId} {args : Array Value} {below : List Frame} {meth : Method} {c : Code} {Q : State → Prop} {A : Nat → Prop} {dC : Nat → ClassId} {dI : Nat → Nat → Nat} {a : Nat → Nat} {ac : Nat → ClassId} {n : Nat} {r : St} (C : nd_C p l s m args c A (dC, dI) cX13_layout 5 RX13 ow_dm_X13_layout (dk_X13 ac)) (K : nd_Kv p l e (headSpec ow_dm_X13_layout ({ frames := 1, cells := 0, slots := 0, locals := 22 })).room s m args below meth c Q A (dC, dI) cX13_layout (St) (dw_X13 a ac) r) (k : Nat) : dj_X13_layout_14 p l e s m args below meth c Q A dC dI a ac (df_X13_layout_14 n k) r := by
  induction k with
  | zero => intro x1 x2 s0 H locs ls h; exact nomatch (show (none : Option (St)) = some r from h)
  | succ k ih => exact dB_X13_layout_14 C K ih
set_option maxHeartbeats 40000000 in
set_option maxRecDepth 100000 in
theorem db_X13_layout_0 {p : Program} {l : Launch} {e : Env} {s : State} {m : MethodId} {args : Array Value} {below : List Frame} {meth : Method} {c : Code} {Q : State → Prop} {A : Nat → Prop} {dC : Nat → ClassId} {dI : Nat → Nat → Nat} {a : Nat → Nat} {ac : Nat → ClassId} {n : Nat} {r : St} (C : nd_C p l s m args c A (dC, dI) cX13_layout 5 RX13 ow_dm_X13_layout (dk_X13 ac)) (K : nd_Kv p l e (headSpec ow_dm_X13_layout ({ frames := 1, cells := 0, slots := 0, locals := 22 })).room s m args below meth c Q A (dC, dI) cX13_layout (St) (dw_X13 a ac) r) : dj_X13_layout_0 p l e s m args below meth c Q A dC dI a ac (df_X13_layout_0 n) r := by
  obtain ⟨hlt, hx, hb, hml, hown, hts, hN, hA, hK⟩ := id C
  intro s0 H locs ls h hP hD hS hl
  unfold df_X13_layout_0 at h
  refine lv_aload_n hx hb dX13_layout_0 rfl (lv_at hl 0 rfl) ?_
  refine lv_iconst (v := 0) hx hb dX13_layout_1 (by decide) ?_
  refine va_put (D := (dC, dI)) (ci := 14) (v := .int 0) (ty := .int) (C := RX13) (T := TX13) (N := 37) hx hb hts hi_dm_X13_layout_X13 tyX13 tyX13_ok nmX13 hown hK hP hD hS 0 rfl rfl 13 (by decide) (hts (.fieldLink RX13 447 "TimeMachineModel$Assembler" "textSize" "I") (List.mem_of_getElem? (i := 1) rfl)) (fun _ h9 => h9) rfl (by decide +kernel) rfl rfl (Nat.le_of_ble_eq_true rfl) dX13_layout_2 (fun H locs hP hD hS => ?_)
  obtain ⟨s1, es1, h⟩ := nd_let_e h
  have hP : va_P (dC, dI) vwCl (dw_X13 a ac s1) H := by rw [es1]; exact hP
  have hD : va_D A (dw_X13 a ac s1) := by rw [es1]; exact hD
  refine lv_aload_n hx hb dX13_layout_5 rfl (lv_at hl 0 rfl) ?_
  refine lv_iconst (v := 0) hx hb dX13_layout_6 (by decide) ?_
  refine va_put (D := (dC, dI)) (ci := 14) (v := .int 0) (ty := .int) (C := RX13) (T := TX13) (N := 37) hx hb hts hi_dm_X13_layout_X13 tyX13 tyX13_ok nmX13 hown hK hP hD hS 0 rfl rfl 14 (by decide) (hts (.fieldLink RX13 682 "TimeMachineModel$Assembler" "dataSize" "I") (List.mem_of_getElem? (i := 2) rfl)) (fun _ h9 => h9) rfl (by decide +kernel) rfl rfl (Nat.le_of_ble_eq_true rfl) dX13_layout_7 (fun H locs hP hD hS => ?_)
  obtain ⟨s2, es2, h⟩ := nd_let_e h
  have hP : va_P (dC, dI) vwCl (dw_X13 a ac s2) H := by rw [es2]; exact hP
  have hD : va_D A (dw_X13 a ac s2) := by rw [es2]; exact hD
  refine lv_iconst (v := 0) hx hb dX13_layout_10 (by decide) ?_
  refine lv_istore_n (lv' := [(1, .int 0), (0, .ref (a 0))]) hx hb dX13_layout_11 rfl hl (by decide) rfl (fun ls hl => ?_)
  refine lv_iconst (v := 0) hx hb dX13_layout_12 (by decide) ?_
  refine lv_istore_n (lv' := [(2, .int 0), (1, .int 0), (0, .ref (a 0))]) hx hb dX13_layout_13 rfl hl (by decide) rfl (fun ls hl => ?_)
  exact (db_X13_layout_14 C K n) (0) (0) s2 _ _ _ h hP hD hS (lv_sub hl [2, 1, 0] rfl)
set_option maxHeartbeats 40000000 in
set_option maxRecDepth 100000 in
theorem dm_X13_layout (l : Launch) (hlt : l.stackTraces = false) (dC : Nat → ClassId) (dI : Nat → Nat → Nat) (a : Nat → Nat) (ac : Nat → ClassId) (n : Nat) (s0 : St) {r : St} (h : df_X13_layout n s0 = some r) (sz : Nat) : Met l yX13_layout ow_dm_X13_layout ({ frames := 1, cells := 0, slots := 0, locals := 22 }) (va_Pc [.ref (a 0)] (fun U => U.heap.size = sz ∧ va_P (dC, dI) vwCl (dw_X13 a ac s0) U.heap ∧ va_K (dC, dI) vwCl (dk_X13 ac) U ∧ va_D (fun _ => True) (dw_X13 a ac s0) ∧ nv_E dI (va_A (dw_X13 a ac s0) sz) U)) (va_Qv (fun _ => True) (fun (_ : Unit) t => va_P (dC, dI) vwCl (dw_X13 a ac r) t.heap ∧ va_K (dC, dI) vwCl (dk_X13 ac) t ∧ va_D (va_A (dw_X13 a ac s0) sz) (dw_X13 a ac r)) (va_A (dw_X13 a ac s0) sz)) 0 0 (va_A (dw_X13 a ac s0) sz) := by
  refine Met.ofW (cc := cX13_layout) (maxL := 5) (ret := none) (by decide) rfl ?_
  intro p e s m args below meth c s₁ B hml hv
  obtain ⟨rfl, hsz, hP, hK, hD0, hN⟩ := hv
  have hx := B.exec
  have hb := B.bytes
  have hr := B.returns
  have hts := atoms_spec (ws := ow_dm_X13_layout) B.pre
  have hown : s.vm.findClass RX13 = some m.cls := findClass_of_methodNamed B.named
  have hlocks := B.notSynchronized
  subst hsz
  have hD := hD0.self (sz := s.heap.size)
  generalize hAe : va_A (dw_X13 a ac s0) s.heap.size = A at hD hN ⊢
  have hA : ∀ q : Nat, s.heap.size ≤ q → A q := fun q h => by rw [← hAe]; exact Or.inr h
  have hl := lv_entry ([.ref (a 0)]) (n := 5) (Nat.le_of_ble_eq_true rfl)
  rw [lg_entry_eq]
  generalize (lg_sl ([.ref (a 0)]) ++ List.replicate (5 - (lg_sl ([.ref (a 0)])).length) Slot.unset).toArray = ls at hl ⊢
  have hl : lv_has ls 5 [(0, .ref (a 0))] := hl
  exact db_X13_layout_0 (dC := dC) (dI := dI) (a := a) (ac := ac) (n := n) (r := r) ⟨hlt, hx, hb, hml, hown, hts, hN, hA, hK⟩ (fun pc τ H locs ls d er hP hD hS => by subst er; exact W.vret hx hb hr (fun t ht hW => ⟨⟨(), rfl, trivial, by rw [ht]; exact hP, va_K.moved hW.alike hK, hD⟩, hS.F ht⟩) hS.2.2 d) s0 _ _ _ h hP hD va_S.rf (lv_sub hl [0] rfl)
def ow_dm_X13_addressOf : List Cond := Cond.code yX13_addressOf cX13_addressOf 2 (some .int) :: ([Cond.fieldLink RX13 331 "TimeMachineModel$Assembler" "offset" "[I", Cond.methodLink RX13 685 yX13_sectionOf, Cond.instanceMethod yX13_sectionOf, Cond.selects RX13 yX13_sectionOf yX13_sectionOf, Cond.initialized RX13, Cond.methodLink RX13 450 yX13_base, Cond.instanceMethod yX13_base, Cond.selects RX13 yX13_base yX13_base] ++ (u_ws RX13 TX13 37 ++ (ow_dm_X13_sectionOf ++ (ow_dm_X13_base ++ []))))
theorem gd_dm_X13_addressOf : ∀ w ∈ ow_dm_X13_addressOf, (w.onTables && w.keeps) = true ∨ ∃ ty, w = Cond.arrayClass ty := List.forall_mem_cons.mpr ⟨good_of_word rfl, List.forall_mem_append.mpr ⟨fun w h => good_of_word (List.all_eq_true.mp (by decide +kernel) w h), List.forall_mem_append.mpr ⟨gu_X13, List.forall_mem_append.mpr ⟨gd_dm_X13_sectionOf, List.forall_mem_append.mpr ⟨gd_dm_X13_base, fun _ h => nomatch h⟩⟩⟩⟩⟩
theorem hi_dm_X13_addressOf_X13 : ∀ w ∈ u_ws RX13 TX13 37, w ∈ ow_dm_X13_addressOf := fun w h => List.mem_cons_of_mem _ (List.mem_append_right _ (List.mem_append_left _ h))
theorem gi_dm_X13_addressOf_0 : GoodIn ow_dm_X13_addressOf (wsV RX13 685 RX13 yX13_sectionOf ow_dm_X13_sectionOf) := goodIn_app (goodIn_of _ (by decide +kernel)) (fun w h => ⟨List.mem_cons_of_mem _ (List.mem_append_right _ (List.mem_append_right _ (List.mem_append_left _ h))), gd_dm_X13_sectionOf w h⟩)
theorem gi_dm_X13_addressOf_1 : GoodIn ow_dm_X13_addressOf (wsV RX13 450 RX13 yX13_base ow_dm_X13_base) := goodIn_app (goodIn_of _ (by decide +kernel)) (fun w h => ⟨List.mem_cons_of_mem _ (List.mem_append_right _ (List.mem_append_right _ (List.mem_append_right _ (List.mem_append_left _ h)))), gd_dm_X13_base w h⟩)
def dj_X13_addressOf_23 (p : Program) (l : Launch) (e : Env) (s : State) (m : MethodId) (args : Array Value) (below : List Frame) (meth : Method) (c : Code) (Q : State → Prop) (A : Nat → Prop) (dC : Nat → ClassId) (dI : Nat → Nat → Nat) (a : Nat → Nat) (ac : Nat → ClassId) (g : Int32 → Int32 → (St) → Option (Int32 × (St))) (r : Int32 × (St)) : Prop := ∀ (y0 : Int32) (y1 : Int32) (s0 : St) (H : Heap) (locs : List Loc) (ls : Array Slot), g y0 y1 s0 = some r → va_P (dC, dI) vwCl (dw_X13 a ac s0) H → va_D A (dw_X13 a ac s0) → va_S A s.heap H locs → lv_has ls 2 [] → W p l e (headSpec ow_dm_X13_addressOf ({ frames := 1, cells := 0, slots := 0, locals := 21 })).room s m args below meth c H locs 0 0 Q (F0 m 23 ls [.int y1, .int y0])
def dj_X13_addressOf_0 (p : Program) (l : Launch) (e : Env) (s : State) (m : MethodId) (args : Array Value) (below : List Frame) (meth : Method) (c : Code) (Q : State → Prop) (A : Nat → Prop) (dC : Nat → ClassId) (dI : Nat → Nat → Nat) (a : Nat → Nat) (ac : Nat → ClassId) (g : Int32 → (St) → Option (Int32 × (St))) (r : Int32 × (St)) : Prop := ∀ (v0 : Int32) (s0 : St) (H : Heap) (locs : List Loc) (ls : Array Slot), g v0 s0 = some r → va_P (dC, dI) vwCl (dw_X13 a ac s0) H → va_D A (dw_X13 a ac s0) → va_S A s.heap H locs → lv_has ls 2 [(0, .ref (a 0)), (1, .int v0)] → W p l e (headSpec ow_dm_X13_addressOf ({ frames := 1, cells := 0, slots := 0, locals := 21 })).room s m args below meth c H locs 0 0 Q (F0 m 0 ls [])
set_option maxHeartbeats 40000000 in
set_option maxRecDepth 100000 in
theorem db_X13_addressOf_23 {p : Program} {l : Launch} {e : Env} {s : State} {m : MethodId} {args : Array Value} {below : List Frame} {meth : Method} {c : Code} {Q : State → Prop} {A : Nat → Prop} {dC : Nat → ClassId} {dI : Nat → Nat → Nat} {a : Nat → Nat} {ac : Nat → ClassId} {n : Nat} {r : Int32 × (St)} (C : nd_C p l s m args c A (dC, dI) cX13_addressOf 2 RX13 ow_dm_X13_addressOf (dk_X13 ac)) (K : nd_Ki p l e (headSpec ow_dm_X13_addressOf ({ frames := 1, cells := 0, slots := 0, locals := 21 })).room s m args below meth c Q A (dC, dI) cX13_addressOf .int (St) (dw_X13 a ac) r) : dj_X13_addressOf_23 p l e s m args below meth c Q A dC dI a ac (df_X13_addressOf_23 n) r := by
  obtain ⟨hlt, hx, hb, hml, hown, hts, hN, hA, hK⟩ := id C
  intro y0 y1 s0 H locs ls h hP hD hS hl
  unfold df_X13_addressOf_23 at h
  refine lv_iadd hx hb dX13_addressOf_23 ?_
  exact K _ _ _ _ _ _ dX13_addressOf_24 rfl (Option.some.inj h).symm hP hD hS
set_option maxHeartbeats 40000000 in
set_option maxRecDepth 100000 in
theorem db_X13_addressOf_0 {p : Program} {l : Launch} {e : Env} {s : State} {m : MethodId} {args : Array Value} {below : List Frame} {meth : Method} {c : Code} {Q : State → Prop} {A : Nat → Prop} {dC : Nat → ClassId} {dI : Nat → Nat → Nat} {a : Nat → Nat} {ac : Nat → ClassId} {n : Nat} {r : Int32 × (St)} (C : nd_C p l s m args c A (dC, dI) cX13_addressOf 2 RX13 ow_dm_X13_addressOf (dk_X13 ac)) (K : nd_Ki p l e (headSpec ow_dm_X13_addressOf ({ frames := 1, cells := 0, slots := 0, locals := 21 })).room s m args below meth c Q A (dC, dI) cX13_addressOf .int (St) (dw_X13 a ac) r) : dj_X13_addressOf_0 p l e s m args below meth c Q A dC dI a ac (df_X13_addressOf_0 n) r := by
  obtain ⟨hlt, hx, hb, hml, hown, hts, hN, hA, hK⟩ := id C
  intro v0 s0 H locs ls h hP hD hS hl
  unfold df_X13_addressOf_0 at h
  refine lv_aload_n hx hb dX13_addressOf_0 rfl (lv_at hl 0 rfl) ?_
  refine va_get (D := (dC, dI)) (ci := 14) (v := .ref (a 6)) (C := RX13) (T := TX13) (N := 37) hx hb hts hi_dm_X13_addressOf_X13 hown hK hP 0 rfl rfl 8 (by decide) (hts (.fieldLink RX13 331 "TimeMachineModel$Assembler" "offset" "[I") (List.mem_of_getElem? (i := 1) rfl)) (fun _ h9 => h9) rfl dX13_addressOf_1 ?_
  refine lv_iload_n hx hb dX13_addressOf_4 rfl (lv_at hl 1 rfl) ?_
  obtain ⟨i1, h⟩ := nd_ck_e h
  refine va_iald (i := v0) hx hb hK hP 6 5 rfl rfl i1 dX13_addressOf_5 ?_
  refine lv_aload_n hx hb dX13_addressOf_6 rfl (lv_at hl 0 rfl) ?_
  refine lv_iload_n hx hb dX13_addressOf_7 rfl (lv_at hl 1 rfl) ?_
  obtain ⟨q2, s3, hq, h⟩ := nd_b2_e h
  have hPc := hP
  have hDc := hD
  have hKc := hK
  have hFc := nd_rs hD hS hA
  refine nd_cVi (As := [.int v0]) (rest := [.int (sR s0 4 (Int32.toNatClampNeg v0))]) (q := q2) (w' := dw_X13 a ac s3) ⟨hx, hb, hml, hown, hts⟩ (fun sz => dm_X13_sectionOf l hlt dC dI a ac n (v0) s0 hq sz) (cwV 1 hts gi_dm_X13_addressOf_0 rfl rfl rfl (by decide +kernel) ⟨Nat.le_of_ble_eq_true rfl, Nat.le_of_ble_eq_true rfl⟩) hPc hDc hKc hS hA hN (va_recv hKc hPc (ci := 14) (q0 := 0) rfl rfl) rfl hl.1 rfl (Nat.le_of_ble_eq_true rfl) dX13_addressOf_8 (fun H locs hP1 hD1 hk1 hS => ?_)
  have hP := hP1
  have hD := hD1.weaken (fun k q _ h => hFc q.1 h)
  refine lv_iconst (v := 1) hx hb dX13_addressOf_11 (by decide) ?_
  refine lv_icmp_ne (tgt := 22) hx hb dX13_addressOf_12 (by decide) (fun c5 => ?_) (fun c5 => ?_)
  · have h := nd_neg h c5
    refine lv_iconst (v := 0) hx hb dX13_addressOf_22 (by decide) ?_
    exact (db_X13_addressOf_23 C K) ((sR s0 4 (Int32.toNatClampNeg v0))) (0) s3 _ _ _ h hP hD hS (lv_sub hl [] rfl)
  · have h := nd_pos h c5
    refine lv_aload_n hx hb dX13_addressOf_15 rfl (lv_at hl 0 rfl) ?_
    obtain ⟨q6, s7, hq, h⟩ := nd_b2_e h
    have hPc := hP
    have hDc := hD
    have hKc := hK
    have hFc := nd_rs hD hS hA
    refine nd_cVi (As := []) (rest := [.int (sR s0 4 (Int32.toNatClampNeg v0))]) (q := q6) (w' := dw_X13 a ac s7) ⟨hx, hb, hml, hown, hts⟩ (fun sz => dm_X13_base l hlt dC dI a ac n  s3 hq sz) (cwV 0 hts gi_dm_X13_addressOf_1 rfl rfl rfl (by decide +kernel) ⟨Nat.le_of_ble_eq_true rfl, Nat.le_of_ble_eq_true rfl⟩) hPc hDc hKc hS hA hN (va_recv hKc hPc (ci := 14) (q0 := 0) rfl rfl) rfl hl.1 rfl (Nat.le_of_ble_eq_true rfl) dX13_addressOf_16 (fun H locs hP1 hD1 hk1 hS => ?_)
    have hP := hP1
    have hD := hD1.weaken (fun k q _ h => hFc q.1 h)
    refine lv_goto (tgt := 23) hx hb dX13_addressOf_19 (by decide) ?_
    exact (db_X13_addressOf_23 C K) ((sR s0 4 (Int32.toNatClampNeg v0))) (q6) s7 _ _ _ h hP hD hS (lv_sub hl [] rfl)
set_option maxHeartbeats 40000000 in
set_option maxRecDepth 100000 in
theorem dm_X13_addressOf (l : Launch) (hlt : l.stackTraces = false) (dC : Nat → ClassId) (dI : Nat → Nat → Nat) (a : Nat → Nat) (ac : Nat → ClassId) (n : Nat) (v0 : Int32) (s0 : St) {r : Int32 × (St)} (h : df_X13_addressOf n v0 s0 = some r) (sz : Nat) : Met l yX13_addressOf ow_dm_X13_addressOf ({ frames := 1, cells := 0, slots := 0, locals := 21 }) (va_Pc [.ref (a 0), .int v0] (fun U => U.heap.size = sz ∧ va_P (dC, dI) vwCl (dw_X13 a ac s0) U.heap ∧ va_K (dC, dI) vwCl (dk_X13 ac) U ∧ va_D (fun _ => True) (dw_X13 a ac s0) ∧ nv_E dI (va_A (dw_X13 a ac s0) sz) U)) (va_Qi (fun x _ => x = r.1) (fun (_ : Unit) t => va_P (dC, dI) vwCl (dw_X13 a ac r.2) t.heap ∧ va_K (dC, dI) vwCl (dk_X13 ac) t ∧ va_D (va_A (dw_X13 a ac s0) sz) (dw_X13 a ac r.2)) (va_A (dw_X13 a ac s0) sz)) 0 0 (va_A (dw_X13 a ac s0) sz) := by
  refine Met.ofW (cc := cX13_addressOf) (maxL := 2) (ret := (some .int)) (by decide) rfl ?_
  intro p e s m args below meth c s₁ B hml hv
  obtain ⟨rfl, hsz, hP, hK, hD0, hN⟩ := hv
  have hx := B.exec
  have hb := B.bytes
  have hr := B.returns
  have hts := atoms_spec (ws := ow_dm_X13_addressOf) B.pre
  have hown : s.vm.findClass RX13 = some m.cls := findClass_of_methodNamed B.named
  have hlocks := B.notSynchronized
  subst hsz
  have hD := hD0.self (sz := s.heap.size)
  generalize hAe : va_A (dw_X13 a ac s0) s.heap.size = A at hD hN ⊢
  have hA : ∀ q : Nat, s.heap.size ≤ q → A q := fun q h => by rw [← hAe]; exact Or.inr h
  have hl := lv_entry ([.ref (a 0), .int v0]) (n := 2) (Nat.le_of_ble_eq_true rfl)
  rw [lg_entry_eq]
  generalize (lg_sl ([.ref (a 0), .int v0]) ++ List.replicate (2 - (lg_sl ([.ref (a 0), .int v0])).length) Slot.unset).toArray = ls at hl ⊢
  have hl : lv_has ls 2 [(0, .ref (a 0)), (1, .int v0)] := hl
  exact db_X13_addressOf_0 (dC := dC) (dI := dI) (a := a) (ac := ac) (n := n) (r := r) ⟨hlt, hx, hb, hml, hown, hts, hN, hA, hK⟩ (fun pc v τ H locs ls d z er hP hD hS => by subst er; exact W.zret (v := v) hx hb hr z (fun t ht hW => ⟨⟨v, (), rfl, rfl, by rw [ht]; exact hP, va_K.moved hW.alike hK, hD⟩, hS.F ht⟩) hS.2.2 d) v0 s0 _ _ _ h hP hD va_S.rf (lv_sub hl [0, 1] rfl)
def ow_dm_X13_again : List Cond := Cond.code yX13_again cX13_again 3 none :: ([Cond.fieldLink RX13 454 "TimeMachineModel$Assembler" "current" "I", Cond.methodLink RX13 691 yX13_addressOf, Cond.instanceMethod yX13_addressOf, Cond.selects RX13 yX13_addressOf yX13_addressOf, Cond.initialized RX13, Cond.fieldLink RX13 486 "TimeMachineModel$Assembler" "address" "I", Cond.methodLink RX13 685 yX13_sectionOf, Cond.instanceMethod yX13_sectionOf, Cond.selects RX13 yX13_sectionOf yX13_sectionOf, Cond.fieldLink RX13 634 "TimeMachineModel$Assembler" "section" "I", Cond.fieldLink RX13 328 "TimeMachineModel$Assembler" "place" "[I", Cond.constant RX13 442 (131071), Cond.methodLink RX13 679 yX13_statement, Cond.instanceMethod yX13_statement, Cond.selects RX13 yX13_statement yX13_statement] ++ (u_ws RX13 TX13 37 ++ (ow_dm_X13_addressOf ++ (ow_dm_X13_sectionOf ++ (ow_dm_X13_statement ++ [])))))
theorem gd_dm_X13_again : ∀ w ∈ ow_dm_X13_again, (w.onTables && w.keeps) = true ∨ ∃ ty, w = Cond.arrayClass ty := List.forall_mem_cons.mpr ⟨good_of_word rfl, List.forall_mem_append.mpr ⟨fun w h => good_of_word (List.all_eq_true.mp (by decide +kernel) w h), List.forall_mem_append.mpr ⟨gu_X13, List.forall_mem_append.mpr ⟨gd_dm_X13_addressOf, List.forall_mem_append.mpr ⟨gd_dm_X13_sectionOf, List.forall_mem_append.mpr ⟨gd_dm_X13_statement, fun _ h => nomatch h⟩⟩⟩⟩⟩⟩
theorem hi_dm_X13_again_X13 : ∀ w ∈ u_ws RX13 TX13 37, w ∈ ow_dm_X13_again := fun w h => List.mem_cons_of_mem _ (List.mem_append_right _ (List.mem_append_left _ h))
theorem gi_dm_X13_again_0 : GoodIn ow_dm_X13_again (wsV RX13 691 RX13 yX13_addressOf ow_dm_X13_addressOf) := goodIn_app (goodIn_of _ (by decide +kernel)) (fun w h => ⟨List.mem_cons_of_mem _ (List.mem_append_right _ (List.mem_append_right _ (List.mem_append_left _ h))), gd_dm_X13_addressOf w h⟩)
theorem gi_dm_X13_again_1 : GoodIn ow_dm_X13_again (wsV RX13 685 RX13 yX13_sectionOf ow_dm_X13_sectionOf) := goodIn_app (goodIn_of _ (by decide +kernel)) (fun w h => ⟨List.mem_cons_of_mem _ (List.mem_append_right _ (List.mem_append_right _ (List.mem_append_right _ (List.mem_append_left _ h)))), gd_dm_X13_sectionOf w h⟩)
theorem gi_dm_X13_again_2 : GoodIn ow_dm_X13_again (wsV RX13 679 RX13 yX13_statement ow_dm_X13_statement) := goodIn_app (goodIn_of _ (by decide +kernel)) (fun w h => ⟨List.mem_cons_of_mem _ (List.mem_append_right _ (List.mem_append_right _ (List.mem_append_right _ (List.mem_append_right _ (List.mem_append_left _ h))))), gd_dm_X13_statement w h⟩)
def dj_X13_again_0 (p : Program) (l : Launch) (e : Env) (s : State) (m : MethodId) (args : Array Value) (below : List Frame) (meth : Method) (c : Code) (Q : State → Prop) (A : Nat → Prop) (dC : Nat → ClassId) (dI : Nat → Nat → Nat) (a : Nat → Nat) (ac : Nat → ClassId) (g : Int32 → Int32 → (St) → Option (St)) (r : St) : Prop := ∀ (v0 : Int32) (v1 : Int32) (s0 : St) (H : Heap) (locs : List Loc) (ls : Array Slot), g v0 v1 s0 = some r → va_P (dC, dI) vwCl (dw_X13 a ac s0) H → va_D A (dw_X13 a ac s0) → va_S A s.heap H locs → lv_has ls 3 [(0, .ref (a 0)), (1, .int v0), (2, .int v1)] → W p l e (headSpec ow_dm_X13_again ({ frames := 12, cells := 0, slots := 0, locals := 287 })).room s m args below meth c H locs 0 0 Q (F0 m 0 ls [])
set_option maxHeartbeats 40000000 in
set_option maxRecDepth 100000 in
theorem db_X13_again_0 {p : Program} {l : Launch} {e : Env} {s : State} {m : MethodId} {args : Array Value} {below : List Frame} {meth : Method} {c : Code} {Q : State → Prop} {A : Nat → Prop} {dC : Nat → ClassId} {dI : Nat → Nat → Nat} {a : Nat → Nat} {ac : Nat → ClassId} {n : Nat} {r : St} (C : nd_C p l s m args c A (dC, dI) cX13_again 3 RX13 ow_dm_X13_again (dk_X13 ac)) (K : nd_Kv p l e (headSpec ow_dm_X13_again ({ frames := 12, cells := 0, slots := 0, locals := 287 })).room s m args below meth c Q A (dC, dI) cX13_again (St) (dw_X13 a ac) r) : dj_X13_again_0 p l e s m args below meth c Q A dC dI a ac (df_X13_again_0 n) r := by
  obtain ⟨hlt, hx, hb, hml, hown, hts, hN, hA, hK⟩ := id C
  intro v0 v1 s0 H locs ls h hP hD hS hl
  unfold df_X13_again_0 at h
  refine lv_aload_n hx hb dX13_again_0 rfl (lv_at hl 0 rfl) ?_
  refine lv_iload_n hx hb dX13_again_1 rfl (lv_at hl 1 rfl) ?_
  refine va_put (D := (dC, dI)) (ci := 14) (v := .int v0) (ty := .int) (C := RX13) (T := TX13) (N := 37) hx hb hts hi_dm_X13_again_X13 tyX13 tyX13_ok nmX13 hown hK hP hD hS 0 rfl rfl 25 (by decide) (hts (.fieldLink RX13 454 "TimeMachineModel$Assembler" "current" "I") (List.mem_of_getElem? (i := 1) rfl)) (fun _ h9 => h9) rfl (by decide +kernel) rfl rfl (Nat.le_of_ble_eq_true rfl) dX13_again_2 (fun H locs hP hD hS => ?_)
  obtain ⟨s1, es1, h⟩ := nd_let_e h
  have hP : va_P (dC, dI) vwCl (dw_X13 a ac s1) H := by rw [es1]; exact hP
  have hD : va_D A (dw_X13 a ac s1) := by rw [es1]; exact hD
  refine lv_aload_n hx hb dX13_again_5 rfl (lv_at hl 0 rfl) ?_
  refine lv_aload_n hx hb dX13_again_6 rfl (lv_at hl 0 rfl) ?_
  refine lv_iload_n hx hb dX13_again_7 rfl (lv_at hl 1 rfl) ?_
  obtain ⟨q2, s3, hq, h⟩ := nd_b2_e h
  have hPc := hP
  have hDc := hD
  have hKc := hK
  have hFc := nd_rs hD hS hA
  refine nd_cVi (As := [.int v0]) (rest := [.ref (a 0)]) (q := q2) (w' := dw_X13 a ac s3) ⟨hx, hb, hml, hown, hts⟩ (fun sz => dm_X13_addressOf l hlt dC dI a ac n (v0) s1 hq sz) (cwV 1 hts gi_dm_X13_again_0 rfl rfl rfl (by decide +kernel) ⟨Nat.le_of_ble_eq_true rfl, Nat.le_of_ble_eq_true rfl⟩) hPc hDc hKc hS hA hN (va_recv hKc hPc (ci := 14) (q0 := 0) rfl rfl) rfl hl.1 rfl (Nat.le_of_ble_eq_true rfl) dX13_again_8 (fun H locs hP1 hD1 hk1 hS => ?_)
  have hP := hP1
  have hD := hD1.weaken (fun k q _ h => hFc q.1 h)
  refine va_put (D := (dC, dI)) (ci := 14) (v := .int q2) (ty := .int) (C := RX13) (T := TX13) (N := 37) hx hb hts hi_dm_X13_again_X13 tyX13 tyX13_ok nmX13 hown hK hP hD hS 0 rfl rfl 26 (by decide) (hts (.fieldLink RX13 486 "TimeMachineModel$Assembler" "address" "I") (List.mem_of_getElem? (i := 6) rfl)) (fun _ h9 => h9) rfl (by decide +kernel) rfl rfl (Nat.le_of_ble_eq_true rfl) dX13_again_11 (fun H locs hP hD hS => ?_)
  obtain ⟨s5, es5, h⟩ := nd_let_e h
  have hP : va_P (dC, dI) vwCl (dw_X13 a ac s5) H := by rw [es5]; exact hP
  have hD : va_D A (dw_X13 a ac s5) := by rw [es5]; exact hD
  refine lv_aload_n hx hb dX13_again_14 rfl (lv_at hl 0 rfl) ?_
  refine lv_aload_n hx hb dX13_again_15 rfl (lv_at hl 0 rfl) ?_
  refine lv_iload_n hx hb dX13_again_16 rfl (lv_at hl 1 rfl) ?_
  obtain ⟨q6, s7, hq, h⟩ := nd_b2_e h
  have hPc := hP
  have hDc := hD
  have hKc := hK
  have hFc := nd_rs hD hS hA
  refine nd_cVi (As := [.int v0]) (rest := [.ref (a 0)]) (q := q6) (w' := dw_X13 a ac s7) ⟨hx, hb, hml, hown, hts⟩ (fun sz => dm_X13_sectionOf l hlt dC dI a ac n (v0) s5 hq sz) (cwV 1 hts gi_dm_X13_again_1 rfl rfl rfl (by decide +kernel) ⟨Nat.le_of_ble_eq_true rfl, Nat.le_of_ble_eq_true rfl⟩) hPc hDc hKc hS hA hN (va_recv hKc hPc (ci := 14) (q0 := 0) rfl rfl) rfl hl.1 rfl (Nat.le_of_ble_eq_true rfl) dX13_again_17 (fun H locs hP1 hD1 hk1 hS => ?_)
  have hP := hP1
  have hD := hD1.weaken (fun k q _ h => hFc q.1 h)
  refine va_put (D := (dC, dI)) (ci := 14) (v := .int q6) (ty := .int) (C := RX13) (T := TX13) (N := 37) hx hb hts hi_dm_X13_again_X13 tyX13 tyX13_ok nmX13 hown hK hP hD hS 0 rfl rfl 23 (by decide) (hts (.fieldLink RX13 634 "TimeMachineModel$Assembler" "section" "I") (List.mem_of_getElem? (i := 10) rfl)) (fun _ h9 => h9) rfl (by decide +kernel) rfl rfl (Nat.le_of_ble_eq_true rfl) dX13_again_20 (fun H locs hP hD hS => ?_)
  obtain ⟨s9, es9, h⟩ := nd_let_e h
  have hP : va_P (dC, dI) vwCl (dw_X13 a ac s9) H := by rw [es9]; exact hP
  have hD : va_D A (dw_X13 a ac s9) := by rw [es9]; exact hD
  refine lv_aload_n hx hb dX13_again_23 rfl (lv_at hl 0 rfl) ?_
  refine lv_aload_n hx hb dX13_again_24 rfl (lv_at hl 0 rfl) ?_
  refine va_get (D := (dC, dI)) (ci := 14) (v := .ref (a 5)) (C := RX13) (T := TX13) (N := 37) hx hb hts hi_dm_X13_again_X13 hown hK hP 0 rfl rfl 7 (by decide) (hts (.fieldLink RX13 328 "TimeMachineModel$Assembler" "place" "[I") (List.mem_of_getElem? (i := 11) rfl)) (fun _ h9 => h9) rfl dX13_again_25 ?_
  refine lv_iload_n hx hb dX13_again_28 rfl (lv_at hl 1 rfl) ?_
  obtain ⟨i10, h⟩ := nd_ck_e h
  refine va_iald (i := v0) hx hb hK hP 5 4 rfl rfl i10 dX13_again_29 ?_
  refine lv_ldcw hx hb hown (hts (.constant RX13 442 (131071)) (List.mem_of_getElem? (i := 12) rfl)) dX13_again_30 ?_
  refine lv_iand hx hb dX13_again_33 ?_
  refine lv_iload_n hx hb dX13_again_34 rfl (lv_at hl 2 rfl) ?_
  obtain ⟨s12, hq, h⟩ := nd_b1_e h
  have hPc := hP
  have hDc := hD
  have hKc := hK
  have hFc := nd_rs hD hS hA
  refine nd_cVv (As := [.int ((sR s9 3 (Int32.toNatClampNeg v0)) &&& 131071), .int v1]) (rest := []) (w' := dw_X13 a ac s12) ⟨hx, hb, hml, hown, hts⟩ (fun sz => dm_X13_statement l hlt dC dI a ac n (((sR s9 3 (Int32.toNatClampNeg v0)) &&& 131071)) (v1) s9 hq sz) (cwV 2 hts gi_dm_X13_again_2 rfl rfl rfl (by decide +kernel) ⟨Nat.le_of_ble_eq_true rfl, Nat.le_of_ble_eq_true rfl⟩) hPc hDc hKc hS hA hN (va_recv hKc hPc (ci := 14) (q0 := 0) rfl rfl) rfl hl.1 rfl (Nat.le_of_ble_eq_true rfl) dX13_again_35 (fun H locs hP1 hD1 hk1 hS => ?_)
  have hP := hP1
  have hD := hD1.weaken (fun k q _ h => hFc q.1 h)
  exact K _ _ _ _ _ dX13_again_38 (Option.some.inj h).symm hP hD hS
set_option maxHeartbeats 40000000 in
set_option maxRecDepth 100000 in
theorem dm_X13_again (l : Launch) (hlt : l.stackTraces = false) (dC : Nat → ClassId) (dI : Nat → Nat → Nat) (a : Nat → Nat) (ac : Nat → ClassId) (n : Nat) (v0 : Int32) (v1 : Int32) (s0 : St) {r : St} (h : df_X13_again n v0 v1 s0 = some r) (sz : Nat) : Met l yX13_again ow_dm_X13_again ({ frames := 12, cells := 0, slots := 0, locals := 287 }) (va_Pc [.ref (a 0), .int v0, .int v1] (fun U => U.heap.size = sz ∧ va_P (dC, dI) vwCl (dw_X13 a ac s0) U.heap ∧ va_K (dC, dI) vwCl (dk_X13 ac) U ∧ va_D (fun _ => True) (dw_X13 a ac s0) ∧ nv_E dI (va_A (dw_X13 a ac s0) sz) U)) (va_Qv (fun _ => True) (fun (_ : Unit) t => va_P (dC, dI) vwCl (dw_X13 a ac r) t.heap ∧ va_K (dC, dI) vwCl (dk_X13 ac) t ∧ va_D (va_A (dw_X13 a ac s0) sz) (dw_X13 a ac r)) (va_A (dw_X13 a ac s0) sz)) 0 0 (va_A (dw_X13 a ac s0) sz) := by
  refine Met.ofW (cc := cX13_again) (maxL := 3) (ret := none) (by decide) rfl ?_
  intro p e s m args below meth c s₁ B hml hv
  obtain ⟨rfl, hsz, hP, hK, hD0, hN⟩ := hv
  have hx := B.exec
  have hb := B.bytes
  have hr := B.returns
  have hts := atoms_spec (ws := ow_dm_X13_again) B.pre
  have hown : s.vm.findClass RX13 = some m.cls := findClass_of_methodNamed B.named
  have hlocks := B.notSynchronized
  subst hsz
  have hD := hD0.self (sz := s.heap.size)
  generalize hAe : va_A (dw_X13 a ac s0) s.heap.size = A at hD hN ⊢
  have hA : ∀ q : Nat, s.heap.size ≤ q → A q := fun q h => by rw [← hAe]; exact Or.inr h
  have hl := lv_entry ([.ref (a 0), .int v0, .int v1]) (n := 3) (Nat.le_of_ble_eq_true rfl)
  rw [lg_entry_eq]
  generalize (lg_sl ([.ref (a 0), .int v0, .int v1]) ++ List.replicate (3 - (lg_sl ([.ref (a 0), .int v0, .int v1])).length) Slot.unset).toArray = ls at hl ⊢
  have hl : lv_has ls 3 [(0, .ref (a 0)), (1, .int v0), (2, .int v1)] := hl
  exact db_X13_again_0 (dC := dC) (dI := dI) (a := a) (ac := ac) (n := n) (r := r) ⟨hlt, hx, hb, hml, hown, hts, hN, hA, hK⟩ (fun pc τ H locs ls d er hP hD hS => by subst er; exact W.vret hx hb hr (fun t ht hW => ⟨⟨(), rfl, trivial, by rw [ht]; exact hP, va_K.moved hW.alike hK, hD⟩, hS.F ht⟩) hS.2.2 d) v0 v1 s0 _ _ _ h hP hD va_S.rf (lv_sub hl [0, 1, 2] rfl)
def ow_dm_X13_stretch : List Cond := Cond.code yX13_stretch cX13_stretch 3 none :: ([Cond.fieldLink RX13 694 "TimeMachineModel$Assembler" "rounds" "I", Cond.methodLink RX13 697 yX13_layout, Cond.instanceMethod yX13_layout, Cond.selects RX13 yX13_layout yX13_layout, Cond.initialized RX13, Cond.fieldLink RX13 673 "TimeMachineModel$Assembler" "statements" "I", Cond.fieldLink RX13 328 "TimeMachineModel$Assembler" "place" "[I", Cond.fieldLink RX13 558 "TimeMachineModel$Assembler" "grows" "Z", Cond.methodLink RX13 700 yX13_again, Cond.instanceMethod yX13_again, Cond.selects RX13 yX13_again yX13_again, Cond.constant RX13 703 (131072)] ++ (u_ws RX13 TX13 37 ++ (ow_dm_X13_layout ++ (ow_dm_X13_again ++ []))))
theorem gd_dm_X13_stretch : ∀ w ∈ ow_dm_X13_stretch, (w.onTables && w.keeps) = true ∨ ∃ ty, w = Cond.arrayClass ty := List.forall_mem_cons.mpr ⟨good_of_word rfl, List.forall_mem_append.mpr ⟨fun w h => good_of_word (List.all_eq_true.mp (by decide +kernel) w h), List.forall_mem_append.mpr ⟨gu_X13, List.forall_mem_append.mpr ⟨gd_dm_X13_layout, List.forall_mem_append.mpr ⟨gd_dm_X13_again, fun _ h => nomatch h⟩⟩⟩⟩⟩
theorem hi_dm_X13_stretch_X13 : ∀ w ∈ u_ws RX13 TX13 37, w ∈ ow_dm_X13_stretch := fun w h => List.mem_cons_of_mem _ (List.mem_append_right _ (List.mem_append_left _ h))
theorem gi_dm_X13_stretch_0 : GoodIn ow_dm_X13_stretch (wsV RX13 697 RX13 yX13_layout ow_dm_X13_layout) := goodIn_app (goodIn_of _ (by decide +kernel)) (fun w h => ⟨List.mem_cons_of_mem _ (List.mem_append_right _ (List.mem_append_right _ (List.mem_append_left _ h))), gd_dm_X13_layout w h⟩)
theorem gi_dm_X13_stretch_1 : GoodIn ow_dm_X13_stretch (wsV RX13 700 RX13 yX13_again ow_dm_X13_again) := goodIn_app (goodIn_of _ (by decide +kernel)) (fun w h => ⟨List.mem_cons_of_mem _ (List.mem_append_right _ (List.mem_append_right _ (List.mem_append_right _ (List.mem_append_left _ h)))), gd_dm_X13_again w h⟩)
def dj_X13_stretch_113 (p : Program) (l : Launch) (e : Env) (s : State) (m : MethodId) (args : Array Value) (below : List Frame) (meth : Method) (c : Code) (Q : State → Prop) (A : Nat → Prop) (dC : Nat → ClassId) (dI : Nat → Nat → Nat) (a : Nat → Nat) (ac : Nat → ClassId) (g : Int32 → Int32 → (St) → Option (St)) (r : St) : Prop := ∀ (x1 : Int32) (y1 : Int32) (s0 : St) (H : Heap) (locs : List Loc) (ls : Array Slot), g x1 y1 s0 = some r → va_P (dC, dI) vwCl (dw_X13 a ac s0) H → va_D A (dw_X13 a ac s0) → va_S A s.heap H locs → lv_has ls 3 [(0, .ref (a 0)), (1, .int x1)] → W p l e (headSpec ow_dm_X13_stretch ({ frames := 13, cells := 0, slots := 0, locals := 309 })).room s m args below meth c H locs 0 0 Q (F0 m 113 ls [.int y1, .ref (a 0)])
def dj_X13_stretch_89 (p : Program) (l : Launch) (e : Env) (s : State) (m : MethodId) (args : Array Value) (below : List Frame) (meth : Method) (c : Code) (Q : State → Prop) (A : Nat → Prop) (dC : Nat → ClassId) (dI : Nat → Nat → Nat) (a : Nat → Nat) (ac : Nat → ClassId) (g : Int32 → Int32 → (St) → Option (St)) (r : St) : Prop := ∀ (x1 : Int32) (x2 : Int32) (s0 : St) (H : Heap) (locs : List Loc) (ls : Array Slot), g x1 x2 s0 = some r → va_P (dC, dI) vwCl (dw_X13 a ac s0) H → va_D A (dw_X13 a ac s0) → va_S A s.heap H locs → lv_has ls 3 [(0, .ref (a 0)), (1, .int x1), (2, .int x2)] → W p l e (headSpec ow_dm_X13_stretch ({ frames := 13, cells := 0, slots := 0, locals := 309 })).room s m args below meth c H locs 0 0 Q (F0 m 89 ls [])
def dj_X13_stretch_88 (p : Program) (l : Launch) (e : Env) (s : State) (m : MethodId) (args : Array Value) (below : List Frame) (meth : Method) (c : Code) (Q : State → Prop) (A : Nat → Prop) (dC : Nat → ClassId) (dI : Nat → Nat → Nat) (a : Nat → Nat) (ac : Nat → ClassId) (g : Int32 → Int32 → (St) → Option (St)) (r : St) : Prop := ∀ (x2 : Int32) (y0 : Int32) (s0 : St) (H : Heap) (locs : List Loc) (ls : Array Slot), g x2 y0 s0 = some r → va_P (dC, dI) vwCl (dw_X13 a ac s0) H → va_D A (dw_X13 a ac s0) → va_S A s.heap H locs → lv_has ls 3 [(0, .ref (a 0)), (2, .int x2)] → W p l e (headSpec ow_dm_X13_stretch ({ frames := 13, cells := 0, slots := 0, locals := 309 })).room s m args below meth c H locs 0 0 Q (F0 m 88 ls [.int y0])
def dj_X13_stretch_83 (p : Program) (l : Launch) (e : Env) (s : State) (m : MethodId) (args : Array Value) (below : List Frame) (meth : Method) (c : Code) (Q : State → Prop) (A : Nat → Prop) (dC : Nat → ClassId) (dI : Nat → Nat → Nat) (a : Nat → Nat) (ac : Nat → ClassId) (g : Int32 → (St) → Option (St)) (r : St) : Prop := ∀ (x2 : Int32) (s0 : St) (H : Heap) (locs : List Loc) (ls : Array Slot), g x2 s0 = some r → va_P (dC, dI) vwCl (dw_X13 a ac s0) H → va_D A (dw_X13 a ac s0) → va_S A s.heap H locs → lv_has ls 3 [(0, .ref (a 0)), (2, .int x2)] → W p l e (headSpec ow_dm_X13_stretch ({ frames := 13, cells := 0, slots := 0, locals := 309 })).room s m args below meth c H locs 0 0 Q (F0 m 83 ls [])
def dj_X13_stretch_72 (p : Program) (l : Launch) (e : Env) (s : State) (m : MethodId) (args : Array Value) (below : List Frame) (meth : Method) (c : Code) (Q : State → Prop) (A : Nat → Prop) (dC : Nat → ClassId) (dI : Nat → Nat → Nat) (a : Nat → Nat) (ac : Nat → ClassId) (g : Int32 → Int32 → (St) → Option (St)) (r : St) : Prop := ∀ (x1 : Int32) (x2 : Int32) (s0 : St) (H : Heap) (locs : List Loc) (ls : Array Slot), g x1 x2 s0 = some r → va_P (dC, dI) vwCl (dw_X13 a ac s0) H → va_D A (dw_X13 a ac s0) → va_S A s.heap H locs → lv_has ls 3 [(0, .ref (a 0)), (1, .int x1), (2, .int x2)] → W p l e (headSpec ow_dm_X13_stretch ({ frames := 13, cells := 0, slots := 0, locals := 309 })).room s m args below meth c H locs 0 0 Q (F0 m 72 ls [])
def dj_X13_stretch_19 (p : Program) (l : Launch) (e : Env) (s : State) (m : MethodId) (args : Array Value) (below : List Frame) (meth : Method) (c : Code) (Q : State → Prop) (A : Nat → Prop) (dC : Nat → ClassId) (dI : Nat → Nat → Nat) (a : Nat → Nat) (ac : Nat → ClassId) (g : Int32 → Int32 → (St) → Option (St)) (r : St) : Prop := ∀ (x1 : Int32) (x2 : Int32) (s0 : St) (H : Heap) (locs : List Loc) (ls : Array Slot), g x1 x2 s0 = some r → va_P (dC, dI) vwCl (dw_X13 a ac s0) H → va_D A (dw_X13 a ac s0) → va_S A s.heap H locs → lv_has ls 3 [(0, .ref (a 0)), (1, .int x1), (2, .int x2)] → W p l e (headSpec ow_dm_X13_stretch ({ frames := 13, cells := 0, slots := 0, locals := 309 })).room s m args below meth c H locs 0 0 Q (F0 m 19 ls [])
def dj_X13_stretch_7 (p : Program) (l : Launch) (e : Env) (s : State) (m : MethodId) (args : Array Value) (below : List Frame) (meth : Method) (c : Code) (Q : State → Prop) (A : Nat → Prop) (dC : Nat → ClassId) (dI : Nat → Nat → Nat) (a : Nat → Nat) (ac : Nat → ClassId) (g : Int32 → (St) → Option (St)) (r : St) : Prop := ∀ (x1 : Int32) (s0 : St) (H : Heap) (locs : List Loc) (ls : Array Slot), g x1 s0 = some r → va_P (dC, dI) vwCl (dw_X13 a ac s0) H → va_D A (dw_X13 a ac s0) → va_S A s.heap H locs → lv_has ls 3 [(0, .ref (a 0)), (1, .int x1)] → W p l e (headSpec ow_dm_X13_stretch ({ frames := 13, cells := 0, slots := 0, locals := 309 })).room s m args below meth c H locs 0 0 Q (F0 m 7 ls [])
def dj_X13_stretch_0 (p : Program) (l : Launch) (e : Env) (s : State) (m : MethodId) (args : Array Value) (below : List Frame) (meth : Method) (c : Code) (Q : State → Prop) (A : Nat → Prop) (dC : Nat → ClassId) (dI : Nat → Nat → Nat) (a : Nat → Nat) (ac : Nat → ClassId) (g : (St) → Option (St)) (r : St) : Prop := ∀ (s0 : St) (H : Heap) (locs : List Loc) (ls : Array Slot), g s0 = some r → va_P (dC, dI) vwCl (dw_X13 a ac s0) H → va_D A (dw_X13 a ac s0) → va_S A s.heap H locs → lv_has ls 3 [(0, .ref (a 0))] → W p l e (headSpec ow_dm_X13_stretch ({ frames := 13, cells := 0, slots := 0, locals := 309 })).room s m args below meth c H locs 0 0 Q (F0 m 0 ls [])
set_option maxHeartbeats 40000000 in
set_option maxRecDepth 100000 in
theorem db_X13_stretch_113 {p : Program} {l : Launch} {e : Env} {s : State} {m : MethodId} {args : Array Value} {below : List Frame} {meth : Method} {c : Code} {Q : State → Prop} {A : Nat → Prop} {dC : Nat → ClassId} {dI : Nat → Nat → Nat} {a : Nat → Nat} {ac : Nat → ClassId} {n : Nat} {r : St} (C : nd_C p l s m args c A (dC, dI) cX13_stretch 3 RX13 ow_dm_X13_stretch (dk_X13 ac)) (K : nd_Kv p l e (headSpec ow_dm_X13_stretch ({ frames := 13, cells := 0, slots := 0, locals := 309 })).room s m args below meth c Q A (dC, dI) cX13_stretch (St) (dw_X13 a ac) r) {g7 : Int32 → (St) → Option (St)} (J7 : dj_X13_stretch_7 p l e s m args below meth c Q A dC dI a ac g7 r) : dj_X13_stretch_113 p l e s m args below meth c Q A dC dI a ac (df_X13_stretch_113 n g7) r := by
  obtain ⟨hlt, hx, hb, hml, hown, hts, hN, hA, hK⟩ := id C
  intro x1 y1 s0 H locs ls h hP hD hS hl
  unfold df_X13_stretch_113 at h
  refine va_put (D := (dC, dI)) (ci := 14) (v := .int y1) (ty := .int) (C := RX13) (T := TX13) (N := 37) hx hb hts hi_dm_X13_stretch_X13 tyX13 tyX13_ok nmX13 hown hK hP hD hS 0 rfl rfl 15 (by decide) (hts (.fieldLink RX13 694 "TimeMachineModel$Assembler" "rounds" "I") (List.mem_of_getElem? (i := 1) rfl)) (fun _ h9 => h9) rfl (by decide +kernel) rfl rfl (Nat.le_of_ble_eq_true rfl) dX13_stretch_113 (fun H locs hP hD hS => ?_)
  obtain ⟨s8, es8, h⟩ := nd_let_e h
  have hP : va_P (dC, dI) vwCl (dw_X13 a ac s8) H := by rw [es8]; exact hP
  have hD : va_D A (dw_X13 a ac s8) := by rw [es8]; exact hD
  refine lv_goto (tgt := 7) hx hb dX13_stretch_116 (by decide) ?_
  exact (J7) (x1) s8 _ _ _ h hP hD hS (lv_sub hl [0, 1] rfl)

