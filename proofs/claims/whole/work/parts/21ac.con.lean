set_option maxHeartbeats 40000000 in
set_option maxRecDepth 100000 in
theorem db_X15_read_261 {p : Program} {l : Launch} {e : Env} {s : State} {m : MethodId} {args : Array Value} {below : List Frame} {meth : Method} {c : Code} {Q : State → Prop} {A : Nat → Prop} {dC : Nat → ClassId} {dI : Nat → Nat → Nat} {a : Nat → Nat} {ac : Nat → ClassId} {n : Nat} {r : Int32 × (St × (St × (St)))} (C : nd_C p l s m args c A (dC, dI) cX15_read 6 RX15 ow_dm_X15_read (dk_X15 ac)) (K : nd_Ki p l e (headSpec ow_dm_X15_read ({ frames := 3, cells := 0, slots := 0, locals := 73 })).room s m args below meth c Q A (dC, dI) cX15_read .int (St × (St × (St))) (dw_X15 a ac) r) {g24 : Int32 → Int32 → (St × (St × (St))) → Option (Int32 × (St × (St × (St))))} (J24 : dj_X15_read_24 p l e s m args below meth c Q A dC dI a ac g24 r) : dj_X15_read_261 p l e s m args below meth c Q A dC dI a ac (df_X15_read_261 n g24) r := by
  obtain ⟨hlt, hx, hb, hml, hown, hts, hN, hA, hK⟩ := id C
  intro x1 x2 x3 x5 s0 H locs ls h hP hD hS hl
  unfold df_X15_read_261 at h
  refine lv_iconst (v := 0) hx hb dX15_read_261 (by decide) ?_
  exact (db_X15_read_262 C K J24) (x1) (x2) (x3) (x5) (0) s0 _ _ _ h hP hD hS (lv_sub hl [0, 1, 2, 3, 4] rfl)
set_option maxHeartbeats 40000000 in
set_option maxRecDepth 100000 in
theorem db_X15_read_257 {p : Program} {l : Launch} {e : Env} {s : State} {m : MethodId} {args : Array Value} {below : List Frame} {meth : Method} {c : Code} {Q : State → Prop} {A : Nat → Prop} {dC : Nat → ClassId} {dI : Nat → Nat → Nat} {a : Nat → Nat} {ac : Nat → ClassId} {n : Nat} {r : Int32 × (St × (St × (St)))} (C : nd_C p l s m args c A (dC, dI) cX15_read 6 RX15 ow_dm_X15_read (dk_X15 ac)) (K : nd_Ki p l e (headSpec ow_dm_X15_read ({ frames := 3, cells := 0, slots := 0, locals := 73 })).room s m args below meth c Q A (dC, dI) cX15_read .int (St × (St × (St))) (dw_X15 a ac) r) {g24 : Int32 → Int32 → (St × (St × (St))) → Option (Int32 × (St × (St × (St))))} (J24 : dj_X15_read_24 p l e s m args below meth c Q A dC dI a ac g24 r) : dj_X15_read_257 p l e s m args below meth c Q A dC dI a ac (df_X15_read_257 n g24) r := by
  obtain ⟨hlt, hx, hb, hml, hown, hts, hN, hA, hK⟩ := id C
  intro x1 x2 x3 x5 s0 H locs ls h hP hD hS hl
  unfold df_X15_read_257 at h
  refine lv_iconst (v := 1) hx hb dX15_read_257 (by decide) ?_
  refine lv_goto (tgt := 262) hx hb dX15_read_258 (by decide) ?_
  exact (db_X15_read_262 C K J24) (x1) (x2) (x3) (x5) (1) s0 _ _ _ h hP hD hS (lv_sub hl [0, 1, 2, 3, 4] rfl)
set_option maxHeartbeats 40000000 in
set_option maxRecDepth 100000 in
theorem db_X15_read_250 {p : Program} {l : Launch} {e : Env} {s : State} {m : MethodId} {args : Array Value} {below : List Frame} {meth : Method} {c : Code} {Q : State → Prop} {A : Nat → Prop} {dC : Nat → ClassId} {dI : Nat → Nat → Nat} {a : Nat → Nat} {ac : Nat → ClassId} {n : Nat} {r : Int32 × (St × (St × (St)))} (C : nd_C p l s m args c A (dC, dI) cX15_read 6 RX15 ow_dm_X15_read (dk_X15 ac)) (K : nd_Ki p l e (headSpec ow_dm_X15_read ({ frames := 3, cells := 0, slots := 0, locals := 73 })).room s m args below meth c Q A (dC, dI) cX15_read .int (St × (St × (St))) (dw_X15 a ac) r) {g24 : Int32 → Int32 → (St × (St × (St))) → Option (Int32 × (St × (St × (St))))} (J24 : dj_X15_read_24 p l e s m args below meth c Q A dC dI a ac g24 r) : dj_X15_read_250 p l e s m args below meth c Q A dC dI a ac (df_X15_read_250 n g24) r := by
  obtain ⟨hlt, hx, hb, hml, hown, hts, hN, hA, hK⟩ := id C
  intro x1 x2 x3 x5 s0 H locs ls h hP hD hS hl
  unfold df_X15_read_250 at h
  refine lv_aload_n hx hb dX15_read_250 rfl (lv_at hl 0 rfl) ?_
  obtain ⟨q60, s61, hq, h⟩ := nd_b2_e h
  have hPc := hP
  have hDc := hD
  have hKc := hK
  have hFc := nd_rs hD hS hA
  refine nd_cVi (As := []) (rest := []) (q := q60) (w' := dw_X15 a ac s61) ⟨hx, hb, hml, hown, hts⟩ (fun sz => dm_X15_remembers l hlt dC dI a ac n  s0 hq sz) (cwV 0 hts gi_dm_X15_read_5 rfl rfl rfl (by decide +kernel) ⟨Nat.le_of_ble_eq_true rfl, Nat.le_of_ble_eq_true rfl⟩) hPc hDc hKc hS hA hN (va_recv hKc hPc (ci := 16) (q0 := 0) rfl rfl) rfl hl.1 rfl (Nat.le_of_ble_eq_true rfl) dX15_read_251 (fun H locs hP1 hD1 hk1 hS => ?_)
  have hP := hP1
  have hD := hD1.weaken (fun k q _ h => hFc q.1 h)
  refine lv_if_ne (tgt := 261) hx hb dX15_read_254 (by decide) (fun c63 => ?_) (fun c63 => ?_)
  · have h := nd_neg h c63
    exact (db_X15_read_261 C K J24) (x1) (x2) (x3) (x5) s61 _ _ _ h hP hD hS (lv_sub hl [0, 1, 2, 3, 4] rfl)
  · have h := nd_pos h c63
    exact (db_X15_read_257 C K J24) (x1) (x2) (x3) (x5) s61 _ _ _ h hP hD hS (lv_sub hl [0, 1, 2, 3, 4] rfl)
set_option maxHeartbeats 40000000 in
set_option maxRecDepth 100000 in
theorem db_X15_read_225 {p : Program} {l : Launch} {e : Env} {s : State} {m : MethodId} {args : Array Value} {below : List Frame} {meth : Method} {c : Code} {Q : State → Prop} {A : Nat → Prop} {dC : Nat → ClassId} {dI : Nat → Nat → Nat} {a : Nat → Nat} {ac : Nat → ClassId} {n : Nat} {r : Int32 × (St × (St × (St)))} (C : nd_C p l s m args c A (dC, dI) cX15_read 6 RX15 ow_dm_X15_read (dk_X15 ac)) (K : nd_Ki p l e (headSpec ow_dm_X15_read ({ frames := 3, cells := 0, slots := 0, locals := 73 })).room s m args below meth c Q A (dC, dI) cX15_read .int (St × (St × (St))) (dw_X15 a ac) r) {g24 : Int32 → Int32 → (St × (St × (St))) → Option (Int32 × (St × (St × (St))))} (J24 : dj_X15_read_24 p l e s m args below meth c Q A dC dI a ac g24 r) : dj_X15_read_225 p l e s m args below meth c Q A dC dI a ac (df_X15_read_225 n g24) r := by
  obtain ⟨hlt, hx, hb, hml, hown, hts, hN, hA, hK⟩ := id C
  intro x1 x2 x3 x4 y0 s0 H locs ls h hP hD hS hl
  unfold df_X15_read_225 at h
  refine lv_istore (lv' := [(5, .int y0), (0, .ref (a 0)), (1, .int x1), (2, .int x2), (3, .int x3), (4, .int x4)]) hx hb dX15_read_225 hl (by decide) rfl (fun ls hl => ?_)
  refine lv_iload hx hb dX15_read_227 (lv_at hl 5 rfl) ?_
  refine lv_if_eq (tgt := 261) hx hb dX15_read_229 (by decide) (fun c22 => ?_) (fun c22 => ?_)
  · have h := nd_pos h c22
    exact (db_X15_read_261 C K J24) (x1) (x2) (x3) (y0) s0 _ _ _ h hP hD hS (lv_sub hl [1, 2, 3, 4, 0] rfl)
  · have h := nd_neg h c22
    refine lv_aload_n hx hb dX15_read_232 rfl (lv_at hl 1 rfl) ?_
    refine va_get (D := (dC, dI)) (ci := 16) (v := .int (sI s0.1 2)) (C := RX15) (T := TX15) (N := 28) hx hb hts hi_dm_X15_read_X15 hown hK hP 0 rfl rfl 10 (by decide) (hts (.fieldLink RX15 92 "TimeMachineModel$Conditions" "token" "I") (List.mem_of_getElem? (i := 16) rfl)) (fun _ h9 => h9) rfl dX15_read_233 ?_
    refine lv_bipush (v := 8) hx hb dX15_read_236 (by decide) ?_
    refine lv_icmp_eq (tgt := 250) hx hb dX15_read_238 (by decide) (fun c59 => ?_) (fun c59 => ?_)
    · have h := nd_pos h c59
      exact (db_X15_read_250 C K J24) (x1) (x2) (x3) (y0) s0 _ _ _ h hP hD hS (lv_sub hl [1, 2, 3, 4, 0] rfl)
    · have h := nd_neg h c59
      refine lv_aload_n hx hb dX15_read_241 rfl (lv_at hl 1 rfl) ?_
      refine va_get (D := (dC, dI)) (ci := 16) (v := .int (sI s0.1 2)) (C := RX15) (T := TX15) (N := 28) hx hb hts hi_dm_X15_read_X15 hown hK hP 0 rfl rfl 10 (by decide) (hts (.fieldLink RX15 92 "TimeMachineModel$Conditions" "token" "I") (List.mem_of_getElem? (i := 16) rfl)) (fun _ h9 => h9) rfl dX15_read_242 ?_
      refine lv_bipush (v := 9) hx hb dX15_read_245 (by decide) ?_
      refine lv_icmp_ne (tgt := 257) hx hb dX15_read_247 (by decide) (fun c64 => ?_) (fun c64 => ?_)
      · have h := nd_neg h c64
        exact (db_X15_read_257 C K J24) (x1) (x2) (x3) (y0) s0 _ _ _ h hP hD hS (lv_sub hl [1, 2, 3, 4, 0] rfl)
      · have h := nd_pos h c64
        exact (db_X15_read_250 C K J24) (x1) (x2) (x3) (y0) s0 _ _ _ h hP hD hS (lv_sub hl [1, 2, 3, 4, 0] rfl)
set_option maxHeartbeats 40000000 in
set_option maxRecDepth 100000 in
theorem db_X15_read_220 {p : Program} {l : Launch} {e : Env} {s : State} {m : MethodId} {args : Array Value} {below : List Frame} {meth : Method} {c : Code} {Q : State → Prop} {A : Nat → Prop} {dC : Nat → ClassId} {dI : Nat → Nat → Nat} {a : Nat → Nat} {ac : Nat → ClassId} {n : Nat} {r : Int32 × (St × (St × (St)))} (C : nd_C p l s m args c A (dC, dI) cX15_read 6 RX15 ow_dm_X15_read (dk_X15 ac)) (K : nd_Ki p l e (headSpec ow_dm_X15_read ({ frames := 3, cells := 0, slots := 0, locals := 73 })).room s m args below meth c Q A (dC, dI) cX15_read .int (St × (St × (St))) (dw_X15 a ac) r) {g24 : Int32 → Int32 → (St × (St × (St))) → Option (Int32 × (St × (St × (St))))} (J24 : dj_X15_read_24 p l e s m args below meth c Q A dC dI a ac g24 r) : dj_X15_read_220 p l e s m args below meth c Q A dC dI a ac (df_X15_read_220 n g24) r := by
  obtain ⟨hlt, hx, hb, hml, hown, hts, hN, hA, hK⟩ := id C
  intro x1 x2 x3 x4 s0 H locs ls h hP hD hS hl
  unfold df_X15_read_220 at h
  refine lv_iconst (v := 1) hx hb dX15_read_220 (by decide) ?_
  refine lv_goto (tgt := 225) hx hb dX15_read_221 (by decide) ?_
  exact (db_X15_read_225 C K J24) (x1) (x2) (x3) (x4) (1) s0 _ _ _ h hP hD hS (lv_sub hl [0, 1, 2, 3, 4] rfl)
set_option maxHeartbeats 40000000 in
set_option maxRecDepth 100000 in
theorem db_X15_read_200 {p : Program} {l : Launch} {e : Env} {s : State} {m : MethodId} {args : Array Value} {below : List Frame} {meth : Method} {c : Code} {Q : State → Prop} {A : Nat → Prop} {dC : Nat → ClassId} {dI : Nat → Nat → Nat} {a : Nat → Nat} {ac : Nat → ClassId} {n : Nat} {r : Int32 × (St × (St × (St)))} (C : nd_C p l s m args c A (dC, dI) cX15_read 6 RX15 ow_dm_X15_read (dk_X15 ac)) (K : nd_Ki p l e (headSpec ow_dm_X15_read ({ frames := 3, cells := 0, slots := 0, locals := 73 })).room s m args below meth c Q A (dC, dI) cX15_read .int (St × (St × (St))) (dw_X15 a ac) r) {g24 : Int32 → Int32 → (St × (St × (St))) → Option (Int32 × (St × (St × (St))))} (J24 : dj_X15_read_24 p l e s m args below meth c Q A dC dI a ac g24 r) : dj_X15_read_200 p l e s m args below meth c Q A dC dI a ac (df_X15_read_200 n g24) r := by
  obtain ⟨hlt, hx, hb, hml, hown, hts, hN, hA, hK⟩ := id C
  intro x1 x2 x3 y0 s0 H locs ls h hP hD hS hl
  unfold df_X15_read_200 at h
  refine lv_istore (lv' := [(4, .int y0), (0, .ref (a 0)), (1, .int x1), (2, .int x2), (3, .int x3)]) hx hb dX15_read_200 hl (by decide) rfl (fun ls hl => ?_)
  refine lv_aload_n hx hb dX15_read_202 rfl (lv_at hl 1 rfl) ?_
  refine va_get (D := (dC, dI)) (ci := 16) (v := .int (sI s0.1 2)) (C := RX15) (T := TX15) (N := 28) hx hb hts hi_dm_X15_read_X15 hown hK hP 0 rfl rfl 10 (by decide) (hts (.fieldLink RX15 92 "TimeMachineModel$Conditions" "token" "I") (List.mem_of_getElem? (i := 16) rfl)) (fun _ h9 => h9) rfl dX15_read_203 ?_
  refine lv_bipush (v := 30) hx hb dX15_read_206 (by decide) ?_
  refine lv_icmp_eq (tgt := 220) hx hb dX15_read_208 (by decide) (fun c21 => ?_) (fun c21 => ?_)
  · have h := nd_pos h c21
    exact (db_X15_read_220 C K J24) (x1) (x2) (x3) (y0) s0 _ _ _ h hP hD hS (lv_sub hl [1, 2, 3, 4, 0] rfl)
  · have h := nd_neg h c21
    refine lv_aload_n hx hb dX15_read_211 rfl (lv_at hl 1 rfl) ?_
    refine va_get (D := (dC, dI)) (ci := 16) (v := .int (sI s0.1 2)) (C := RX15) (T := TX15) (N := 28) hx hb hts hi_dm_X15_read_X15 hown hK hP 0 rfl rfl 10 (by decide) (hts (.fieldLink RX15 92 "TimeMachineModel$Conditions" "token" "I") (List.mem_of_getElem? (i := 16) rfl)) (fun _ h9 => h9) rfl dX15_read_212 ?_
    refine lv_bipush (v := 32) hx hb dX15_read_215 (by decide) ?_
    refine lv_icmp_ne (tgt := 224) hx hb dX15_read_217 (by decide) (fun c65 => ?_) (fun c65 => ?_)
    · have h := nd_neg h c65
      refine lv_iconst (v := 0) hx hb dX15_read_224 (by decide) ?_
      exact (db_X15_read_225 C K J24) (x1) (x2) (x3) (y0) (0) s0 _ _ _ h hP hD hS (lv_sub hl [1, 2, 3, 4, 0] rfl)
    · have h := nd_pos h c65
      exact (db_X15_read_220 C K J24) (x1) (x2) (x3) (y0) s0 _ _ _ h hP hD hS (lv_sub hl [1, 2, 3, 4, 0] rfl)
set_option maxHeartbeats 40000000 in
set_option maxRecDepth 100000 in
theorem db_X15_read_199 {p : Program} {l : Launch} {e : Env} {s : State} {m : MethodId} {args : Array Value} {below : List Frame} {meth : Method} {c : Code} {Q : State → Prop} {A : Nat → Prop} {dC : Nat → ClassId} {dI : Nat → Nat → Nat} {a : Nat → Nat} {ac : Nat → ClassId} {n : Nat} {r : Int32 × (St × (St × (St)))} (C : nd_C p l s m args c A (dC, dI) cX15_read 6 RX15 ow_dm_X15_read (dk_X15 ac)) (K : nd_Ki p l e (headSpec ow_dm_X15_read ({ frames := 3, cells := 0, slots := 0, locals := 73 })).room s m args below meth c Q A (dC, dI) cX15_read .int (St × (St × (St))) (dw_X15 a ac) r) {g24 : Int32 → Int32 → (St × (St × (St))) → Option (Int32 × (St × (St × (St))))} (J24 : dj_X15_read_24 p l e s m args below meth c Q A dC dI a ac g24 r) : dj_X15_read_199 p l e s m args below meth c Q A dC dI a ac (df_X15_read_199 n g24) r := by
  obtain ⟨hlt, hx, hb, hml, hown, hts, hN, hA, hK⟩ := id C
  intro x1 x2 x3 s0 H locs ls h hP hD hS hl
  unfold df_X15_read_199 at h
  refine lv_iconst (v := 0) hx hb dX15_read_199 (by decide) ?_
  exact (db_X15_read_200 C K J24) (x1) (x2) (x3) (0) s0 _ _ _ h hP hD hS (lv_sub hl [0, 1, 2, 3] rfl)
set_option maxHeartbeats 40000000 in
set_option maxRecDepth 100000 in
theorem db_X15_read_195 {p : Program} {l : Launch} {e : Env} {s : State} {m : MethodId} {args : Array Value} {below : List Frame} {meth : Method} {c : Code} {Q : State → Prop} {A : Nat → Prop} {dC : Nat → ClassId} {dI : Nat → Nat → Nat} {a : Nat → Nat} {ac : Nat → ClassId} {n : Nat} {r : Int32 × (St × (St × (St)))} (C : nd_C p l s m args c A (dC, dI) cX15_read 6 RX15 ow_dm_X15_read (dk_X15 ac)) (K : nd_Ki p l e (headSpec ow_dm_X15_read ({ frames := 3, cells := 0, slots := 0, locals := 73 })).room s m args below meth c Q A (dC, dI) cX15_read .int (St × (St × (St))) (dw_X15 a ac) r) {g24 : Int32 → Int32 → (St × (St × (St))) → Option (Int32 × (St × (St × (St))))} (J24 : dj_X15_read_24 p l e s m args below meth c Q A dC dI a ac g24 r) : dj_X15_read_195 p l e s m args below meth c Q A dC dI a ac (df_X15_read_195 n g24) r := by
  obtain ⟨hlt, hx, hb, hml, hown, hts, hN, hA, hK⟩ := id C
  intro x1 x2 x3 s0 H locs ls h hP hD hS hl
  unfold df_X15_read_195 at h
  refine lv_iconst (v := 1) hx hb dX15_read_195 (by decide) ?_
  refine lv_goto (tgt := 200) hx hb dX15_read_196 (by decide) ?_
  exact (db_X15_read_200 C K J24) (x1) (x2) (x3) (1) s0 _ _ _ h hP hD hS (lv_sub hl [0, 1, 2, 3] rfl)
set_option maxHeartbeats 40000000 in
set_option maxRecDepth 100000 in
theorem db_X15_read_192 {p : Program} {l : Launch} {e : Env} {s : State} {m : MethodId} {args : Array Value} {below : List Frame} {meth : Method} {c : Code} {Q : State → Prop} {A : Nat → Prop} {dC : Nat → ClassId} {dI : Nat → Nat → Nat} {a : Nat → Nat} {ac : Nat → ClassId} {n : Nat} {r : Int32 × (St × (St × (St)))} (C : nd_C p l s m args c A (dC, dI) cX15_read 6 RX15 ow_dm_X15_read (dk_X15 ac)) (K : nd_Ki p l e (headSpec ow_dm_X15_read ({ frames := 3, cells := 0, slots := 0, locals := 73 })).room s m args below meth c Q A (dC, dI) cX15_read .int (St × (St × (St))) (dw_X15 a ac) r) {g24 : Int32 → Int32 → (St × (St × (St))) → Option (Int32 × (St × (St × (St))))} (J24 : dj_X15_read_24 p l e s m args below meth c Q A dC dI a ac g24 r) : dj_X15_read_192 p l e s m args below meth c Q A dC dI a ac (df_X15_read_192 n g24) r := by
  obtain ⟨hlt, hx, hb, hml, hown, hts, hN, hA, hK⟩ := id C
  intro x1 x2 x3 y0 y1 s0 H locs ls h hP hD hS hl
  unfold df_X15_read_192 at h
  refine lv_icmp_ne (tgt := 199) hx hb dX15_read_192 (by decide) (fun c69 => ?_) (fun c69 => ?_)
  · have h := nd_neg h c69
    exact (db_X15_read_199 C K J24) (x1) (x2) (x3) s0 _ _ _ h hP hD hS (lv_sub hl [0, 1, 2, 3] rfl)
  · have h := nd_pos h c69
    exact (db_X15_read_195 C K J24) (x1) (x2) (x3) s0 _ _ _ h hP hD hS (lv_sub hl [0, 1, 2, 3] rfl)
set_option maxHeartbeats 40000000 in
set_option maxRecDepth 100000 in
theorem db_X15_read_127 {p : Program} {l : Launch} {e : Env} {s : State} {m : MethodId} {args : Array Value} {below : List Frame} {meth : Method} {c : Code} {Q : State → Prop} {A : Nat → Prop} {dC : Nat → ClassId} {dI : Nat → Nat → Nat} {a : Nat → Nat} {ac : Nat → ClassId} {n : Nat} {r : Int32 × (St × (St × (St)))} (C : nd_C p l s m args c A (dC, dI) cX15_read 6 RX15 ow_dm_X15_read (dk_X15 ac)) (K : nd_Ki p l e (headSpec ow_dm_X15_read ({ frames := 3, cells := 0, slots := 0, locals := 73 })).room s m args below meth c Q A (dC, dI) cX15_read .int (St × (St × (St))) (dw_X15 a ac) r) {g24 : Int32 → Int32 → (St × (St × (St))) → Option (Int32 × (St × (St × (St))))} (J24 : dj_X15_read_24 p l e s m args below meth c Q A dC dI a ac g24 r) : dj_X15_read_127 p l e s m args below meth c Q A dC dI a ac (df_X15_read_127 n g24) r := by
  obtain ⟨hlt, hx, hb, hml, hown, hts, hN, hA, hK⟩ := id C
  intro x1 x2 y0 s0 H locs ls h hP hD hS hl
  unfold df_X15_read_127 at h
  refine lv_istore_n (lv' := [(3, .int y0), (0, .ref (a 0)), (1, .int x1), (2, .int x2)]) hx hb dX15_read_127 rfl hl (by decide) rfl (fun ls hl => ?_)
  refine lv_aload_n hx hb dX15_read_128 rfl (lv_at hl 1 rfl) ?_
  refine va_get (D := (dC, dI)) (ci := 16) (v := .int (sI s0.1 2)) (C := RX15) (T := TX15) (N := 28) hx hb hts hi_dm_X15_read_X15 hown hK hP 0 rfl rfl 10 (by decide) (hts (.fieldLink RX15 92 "TimeMachineModel$Conditions" "token" "I") (List.mem_of_getElem? (i := 16) rfl)) (fun _ h9 => h9) rfl dX15_read_129 ?_
  refine lv_bipush (v := 34) hx hb dX15_read_132 (by decide) ?_
  refine lv_icmp_eq (tgt := 199) hx hb dX15_read_134 (by decide) (fun c20 => ?_) (fun c20 => ?_)
  · have h := nd_pos h c20
    exact (db_X15_read_199 C K J24) (x1) (x2) (y0) s0 _ _ _ h hP hD hS (lv_sub hl [1, 2, 3, 0] rfl)
  · have h := nd_neg h c20
    refine lv_iload_n hx hb dX15_read_137 rfl (lv_at hl 3 rfl) ?_
    refine lv_if_ne (tgt := 154) hx hb dX15_read_138 (by decide) (fun c66 => ?_) (fun c66 => ?_)
    · have h := nd_neg h c66
      refine lv_iload_n hx hb dX15_read_154 rfl (lv_at hl 3 rfl) ?_
      refine lv_iconst (v := 1) hx hb dX15_read_155 (by decide) ?_
      refine lv_icmp_ne (tgt := 176) hx hb dX15_read_156 (by decide) (fun c67 => ?_) (fun c67 => ?_)
      · have h := nd_neg h c67
        refine lv_aload_n hx hb dX15_read_176 rfl (lv_at hl 1 rfl) ?_
        refine va_get (D := (dC, dI)) (ci := 16) (v := .int (sI s0.1 2)) (C := RX15) (T := TX15) (N := 28) hx hb hts hi_dm_X15_read_X15 hown hK hP 0 rfl rfl 10 (by decide) (hts (.fieldLink RX15 92 "TimeMachineModel$Conditions" "token" "I") (List.mem_of_getElem? (i := 16) rfl)) (fun _ h9 => h9) rfl dX15_read_177 ?_
        refine lv_iload_n hx hb dX15_read_180 rfl (lv_at hl 3 rfl) ?_
        refine lv_iconst (v := 2) hx hb dX15_read_181 (by decide) ?_
        refine lv_icmp_ne (tgt := 190) hx hb dX15_read_182 (by decide) (fun c68 => ?_) (fun c68 => ?_)
        · have h := nd_neg h c68
          refine lv_bipush (v := 30) hx hb dX15_read_190 (by decide) ?_
          exact (db_X15_read_192 C K J24) (x1) (x2) (y0) ((sI s0.1 2)) (30) s0 _ _ _ h hP hD hS (lv_sub hl [1, 2, 3, 0] rfl)
        · have h := nd_pos h c68
          refine lv_bipush (v := 32) hx hb dX15_read_185 (by decide) ?_
          refine lv_goto (tgt := 192) hx hb dX15_read_187 (by decide) ?_
          exact (db_X15_read_192 C K J24) (x1) (x2) (y0) ((sI s0.1 2)) (32) s0 _ _ _ h hP hD hS (lv_sub hl [1, 2, 3, 0] rfl)
      · have h := nd_pos h c67
        refine lv_aload_n hx hb dX15_read_159 rfl (lv_at hl 1 rfl) ?_
        refine va_get (D := (dC, dI)) (ci := 16) (v := .int (sI s0.1 2)) (C := RX15) (T := TX15) (N := 28) hx hb hts hi_dm_X15_read_X15 hown hK hP 0 rfl rfl 10 (by decide) (hts (.fieldLink RX15 92 "TimeMachineModel$Conditions" "token" "I") (List.mem_of_getElem? (i := 16) rfl)) (fun _ h9 => h9) rfl dX15_read_160 ?_
        obtain ⟨q70, s71, hq, h⟩ := nd_b2_e h
        have hPc : va_P (dC, dI) vwCl (dw_P a ac ()) H := nd_p0
        have hDc : va_D A (dw_P a ac ()) := nd_d0
        have hKc : va_K (dC, dI) vwCl (dk_P ac) s := nd_y0 hK
        have hFc : ∀ q, va_A (dw_P a ac ()) H.size q → A q := nd_r0 hS hA
        refine nd_cSi (As := [.int (sI s0.1 2)]) (rest := []) (q := q70) (w' := dw_P a ac s71) ⟨hx, hb, hml, hown, hts⟩ (fun sz => dm_X15_isBetween l hlt dC dI a ac n ((sI s0.1 2)) () hq sz) (cwS 1 hts gi_dm_X15_read_6 rfl rfl rfl (by decide +kernel) ⟨Nat.le_of_ble_eq_true rfl, Nat.le_of_ble_eq_true rfl⟩) hPc hDc hKc hS hA hN rfl hl.1 rfl (Nat.le_of_ble_eq_true rfl) dX15_read_163 (fun H locs hP1 hD1 hk1 hS => ?_)
        have hP := nd_n0 hP hk1
        refine lv_if_ne (tgt := 195) hx hb dX15_read_166 (by decide) (fun c73 => ?_) (fun c73 => ?_)
        · have h := nd_neg h c73
          exact (db_X15_read_195 C K J24) (x1) (x2) (y0) s0 _ _ _ h hP hD hS (lv_sub hl [1, 2, 3, 0] rfl)
        · have h := nd_pos h c73
          refine lv_iload_n hx hb dX15_read_169 rfl (lv_at hl 0 rfl) ?_
          refine lv_if_eq (tgt := 199) hx hb dX15_read_170 (by decide) (fun c74 => ?_) (fun c74 => ?_)
          · have h := nd_pos h c74
            exact (db_X15_read_199 C K J24) (x1) (x2) (y0) s0 _ _ _ h hP hD hS (lv_sub hl [1, 2, 3, 0] rfl)
          · have h := nd_neg h c74
            refine lv_goto (tgt := 195) hx hb dX15_read_173 (by decide) ?_
            exact (db_X15_read_195 C K J24) (x1) (x2) (y0) s0 _ _ _ h hP hD hS (lv_sub hl [1, 2, 3, 0] rfl)
    · have h := nd_pos h c66
      refine lv_aload_n hx hb dX15_read_141 rfl (lv_at hl 1 rfl) ?_
      refine va_get (D := (dC, dI)) (ci := 16) (v := .int (sI s0.1 2)) (C := RX15) (T := TX15) (N := 28) hx hb hts hi_dm_X15_read_X15 hown hK hP 0 rfl rfl 10 (by decide) (hts (.fieldLink RX15 92 "TimeMachineModel$Conditions" "token" "I") (List.mem_of_getElem? (i := 16) rfl)) (fun _ h9 => h9) rfl dX15_read_142 ?_
      obtain ⟨q75, s76, hq, h⟩ := nd_b2_e h
      have hPc : va_P (dC, dI) vwCl (dw_P a ac ()) H := nd_p0
      have hDc : va_D A (dw_P a ac ()) := nd_d0
      have hKc : va_K (dC, dI) vwCl (dk_P ac) s := nd_y0 hK
      have hFc : ∀ q, va_A (dw_P a ac ()) H.size q → A q := nd_r0 hS hA
      refine nd_cSi (As := [.int (sI s0.1 2)]) (rest := []) (q := q75) (w' := dw_P a ac s76) ⟨hx, hb, hml, hown, hts⟩ (fun sz => dm_X15_begins l hlt dC dI a ac n ((sI s0.1 2)) () hq sz) (cwS 1 hts gi_dm_X15_read_7 rfl rfl rfl (by decide +kernel) ⟨Nat.le_of_ble_eq_true rfl, Nat.le_of_ble_eq_true rfl⟩) hPc hDc hKc hS hA hN rfl hl.1 rfl (Nat.le_of_ble_eq_true rfl) dX15_read_145 (fun H locs hP1 hD1 hk1 hS => ?_)
      have hP := nd_n0 hP hk1
      refine lv_if_eq (tgt := 199) hx hb dX15_read_148 (by decide) (fun c78 => ?_) (fun c78 => ?_)
      · have h := nd_pos h c78
        exact (db_X15_read_199 C K J24) (x1) (x2) (y0) s0 _ _ _ h hP hD hS (lv_sub hl [1, 2, 3, 0] rfl)
      · have h := nd_neg h c78
        refine lv_goto (tgt := 195) hx hb dX15_read_151 (by decide) ?_
        exact (db_X15_read_195 C K J24) (x1) (x2) (y0) s0 _ _ _ h hP hD hS (lv_sub hl [1, 2, 3, 0] rfl)
set_option maxHeartbeats 40000000 in
set_option maxRecDepth 100000 in
theorem db_X15_read_126 {p : Program} {l : Launch} {e : Env} {s : State} {m : MethodId} {args : Array Value} {below : List Frame} {meth : Method} {c : Code} {Q : State → Prop} {A : Nat → Prop} {dC : Nat → ClassId} {dI : Nat → Nat → Nat} {a : Nat → Nat} {ac : Nat → ClassId} {n : Nat} {r : Int32 × (St × (St × (St)))} (C : nd_C p l s m args c A (dC, dI) cX15_read 6 RX15 ow_dm_X15_read (dk_X15 ac)) (K : nd_Ki p l e (headSpec ow_dm_X15_read ({ frames := 3, cells := 0, slots := 0, locals := 73 })).room s m args below meth c Q A (dC, dI) cX15_read .int (St × (St × (St))) (dw_X15 a ac) r) {g24 : Int32 → Int32 → (St × (St × (St))) → Option (Int32 × (St × (St × (St))))} (J24 : dj_X15_read_24 p l e s m args below meth c Q A dC dI a ac g24 r) : dj_X15_read_126 p l e s m args below meth c Q A dC dI a ac (df_X15_read_126 n g24) r := by
  obtain ⟨hlt, hx, hb, hml, hown, hts, hN, hA, hK⟩ := id C
  intro x1 x2 s0 H locs ls h hP hD hS hl
  unfold df_X15_read_126 at h
  refine lv_iconst (v := 0) hx hb dX15_read_126 (by decide) ?_
  exact (db_X15_read_127 C K J24) (x1) (x2) (0) s0 _ _ _ h hP hD hS (lv_sub hl [0, 1, 2] rfl)
set_option maxHeartbeats 40000000 in
set_option maxRecDepth 100000 in
theorem db_X15_read_119 {p : Program} {l : Launch} {e : Env} {s : State} {m : MethodId} {args : Array Value} {below : List Frame} {meth : Method} {c : Code} {Q : State → Prop} {A : Nat → Prop} {dC : Nat → ClassId} {dI : Nat → Nat → Nat} {a : Nat → Nat} {ac : Nat → ClassId} {n : Nat} {r : Int32 × (St × (St × (St)))} (C : nd_C p l s m args c A (dC, dI) cX15_read 6 RX15 ow_dm_X15_read (dk_X15 ac)) (K : nd_Ki p l e (headSpec ow_dm_X15_read ({ frames := 3, cells := 0, slots := 0, locals := 73 })).room s m args below meth c Q A (dC, dI) cX15_read .int (St × (St × (St))) (dw_X15 a ac) r) {g24 : Int32 → Int32 → (St × (St × (St))) → Option (Int32 × (St × (St × (St))))} (J24 : dj_X15_read_24 p l e s m args below meth c Q A dC dI a ac g24 r) : dj_X15_read_119 p l e s m args below meth c Q A dC dI a ac (df_X15_read_119 n g24) r := by
  obtain ⟨hlt, hx, hb, hml, hown, hts, hN, hA, hK⟩ := id C
  intro x1 x2 y0 y1 s0 H locs ls h hP hD hS hl
  unfold df_X15_read_119 at h
  refine lv_icmp_ne (tgt := 126) hx hb dX15_read_119 (by decide) (fun c83 => ?_) (fun c83 => ?_)
  · have h := nd_neg h c83
    exact (db_X15_read_126 C K J24) (x1) (x2) s0 _ _ _ h hP hD hS (lv_sub hl [0, 1, 2] rfl)
  · have h := nd_pos h c83
    refine lv_iconst (v := 1) hx hb dX15_read_122 (by decide) ?_
    refine lv_goto (tgt := 127) hx hb dX15_read_123 (by decide) ?_
    exact (db_X15_read_127 C K J24) (x1) (x2) (1) s0 _ _ _ h hP hD hS (lv_sub hl [0, 1, 2] rfl)
set_option maxHeartbeats 40000000 in
set_option maxRecDepth 100000 in
theorem dB_X15_read_31 {p : Program} {l : Launch} {e : Env} {s : State} {m : MethodId} {args : Array Value} {below : List Frame} {meth : Method} {c : Code} {Q : State → Prop} {A : Nat → Prop} {dC : Nat → ClassId} {dI : Nat → Nat → Nat} {a : Nat → Nat} {ac : Nat → ClassId} {n : Nat} {r : Int32 × (St × (St × (St)))} (C : nd_C p l s m args c A (dC, dI) cX15_read 6 RX15 ow_dm_X15_read (dk_X15 ac)) (K : nd_Ki p l e (headSpec ow_dm_X15_read ({ frames := 3, cells := 0, slots := 0, locals := 73 })).room s m args below meth c Q A (dC, dI) cX15_read .int (St × (St × (St))) (dw_X15 a ac) r) {g24 : Int32 → Int32 → (St × (St × (St))) → Option (Int32 × (St × (St × (St))))} (J24 : dj_X15_read_24 p l e s m args below meth c Q A dC dI a ac g24 r) {g31 : Int32 → Int32 → (St × (St × (St))) → Option (Int32 × (St × (St × (St))))} (J31 : dj_X15_read_31 p l e s m args below meth c Q A dC dI a ac g31 r) : dj_X15_read_31 p l e s m args below meth c Q A dC dI a ac (dF_X15_read_31 n g24 g31) r := by
  obtain ⟨hlt, hx, hb, hml, hown, hts, hN, hA, hK⟩ := id C
  intro x1 x2 s0 H locs ls h hP hD hS hl
  unfold dF_X15_read_31 at h
  refine lv_aload_n hx hb dX15_read_31 rfl (lv_at hl 0 rfl) ?_
  refine lv_aload_n hx hb dX15_read_32 rfl (lv_at hl 0 rfl) ?_
  refine va_get (D := (dC, dI)) (ci := 16) (v := .int (sI s0.1 1)) (C := RX15) (T := TX15) (N := 28) hx hb hts hi_dm_X15_read_X15 hown hK hP 0 rfl rfl 9 (by decide) (hts (.fieldLink RX15 73 "TimeMachineModel$Conditions" "at" "I") (List.mem_of_getElem? (i := 4) rfl)) (fun _ h9 => h9) rfl dX15_read_33 ?_
  obtain ⟨q11, s12, hq, h⟩ := nd_b2_e h
  have hPc := hP
  have hDc := hD
  have hKc := hK
  have hFc := nd_rs hD hS hA
  refine nd_cVi (As := [.int (sI s0.1 1)]) (rest := []) (q := q11) (w' := dw_X15 a ac s12) ⟨hx, hb, hml, hown, hts⟩ (fun sz => dm_X15_charAt l hlt dC dI a ac n ((sI s0.1 1)) s0 hq sz) (cwV 1 hts gi_dm_X15_read_1 rfl rfl rfl (by decide +kernel) ⟨Nat.le_of_ble_eq_true rfl, Nat.le_of_ble_eq_true rfl⟩) hPc hDc hKc hS hA hN (va_recv hKc hPc (ci := 16) (q0 := 0) rfl rfl) rfl hl.1 rfl (Nat.le_of_ble_eq_true rfl) dX15_read_36 (fun H locs hP1 hD1 hk1 hS => ?_)
  have hP := hP1
  have hD := hD1.weaken (fun k q _ h => hFc q.1 h)
  refine lv_bipush (v := 32) hx hb dX15_read_39 (by decide) ?_
  refine lv_icmp_ne (tgt := 57) hx hb dX15_read_41 (by decide) (fun c14 => ?_) (fun c14 => ?_)
  · have h := nd_neg h c14
    refine lv_aload_n hx hb dX15_read_57 rfl (lv_at hl 0 rfl) ?_
    refine va_get (D := (dC, dI)) (ci := 16) (v := .int (sI s12.1 1)) (C := RX15) (T := TX15) (N := 28) hx hb hts hi_dm_X15_read_X15 hown hK hP 0 rfl rfl 9 (by decide) (hts (.fieldLink RX15 73 "TimeMachineModel$Conditions" "at" "I") (List.mem_of_getElem? (i := 4) rfl)) (fun _ h9 => h9) rfl dX15_read_58 ?_
    refine lv_aload_n hx hb dX15_read_61 rfl (lv_at hl 0 rfl) ?_
    refine va_get (D := (dC, dI)) (ci := 16) (v := .int (sI s12.1 0)) (C := RX15) (T := TX15) (N := 28) hx hb hts hi_dm_X15_read_X15 hown hK hP 0 rfl rfl 1 (by decide) (hts (.fieldLink RX15 65 "TimeMachineModel$Conditions" "size" "I") (List.mem_of_getElem? (i := 5) rfl)) (fun _ h9 => h9) rfl dX15_read_62 ?_
    refine lv_icmp_ne (tgt := 71) hx hb dX15_read_65 (by decide) (fun c15 => ?_) (fun c15 => ?_)
    · have h := nd_neg h c15
      refine lv_aload_n hx hb dX15_read_71 rfl (lv_at hl 0 rfl) ?_
      obtain ⟨s17, hq, h⟩ := nd_b1_e h
      have hPc := hP
      have hDc := hD
      have hKc := hK
      have hFc := nd_rs hD hS hA
      refine nd_cVv (As := []) (rest := []) (w' := dw_X15 a ac s17) ⟨hx, hb, hml, hown, hts⟩ (fun sz => dm_X15_scan l hlt dC dI a ac n  s12 hq sz) (cwV 0 hts gi_dm_X15_read_2 rfl rfl rfl (by decide +kernel) ⟨Nat.le_of_ble_eq_true rfl, Nat.le_of_ble_eq_true rfl⟩) hPc hDc hKc hS hA hN (va_recv hKc hPc (ci := 16) (q0 := 0) rfl rfl) rfl hl.1 rfl (Nat.le_of_ble_eq_true rfl) dX15_read_72 (fun H locs hP1 hD1 hk1 hS => ?_)
      have hP := hP1
      have hD := hD1.weaken (fun k q _ h => hFc q.1 h)
      refine lv_iload_n hx hb dX15_read_75 rfl (lv_at hl 2 rfl) ?_
      refine lv_iconst (v := 1) hx hb dX15_read_76 (by decide) ?_
      refine lv_icmp_ne (tgt := 126) hx hb dX15_read_77 (by decide) (fun c19 => ?_) (fun c19 => ?_)
      · have h := nd_neg h c19
        exact (db_X15_read_126 C K J24) (x1) (x2) s17 _ _ _ h hP hD hS (lv_sub hl [0, 1, 2] rfl)
      · have h := nd_pos h c19
        refine lv_aload_n hx hb dX15_read_80 rfl (lv_at hl 0 rfl) ?_
        refine va_get (D := (dC, dI)) (ci := 16) (v := .int (sI s17.1 5)) (C := RX15) (T := TX15) (N := 28) hx hb hts hi_dm_X15_read_X15 hown hK hP 0 rfl rfl 13 (by decide) (hts (.fieldLink RX15 128 "TimeMachineModel$Conditions" "opened" "I") (List.mem_of_getElem? (i := 2) rfl)) (fun _ h9 => h9) rfl dX15_read_81 ?_
        refine lv_if_le (tgt := 126) hx hb dX15_read_84 (by decide) (fun c79 => ?_) (fun c79 => ?_)
        · have h := nd_pos h c79
          exact (db_X15_read_126 C K J24) (x1) (x2) s17 _ _ _ h hP hD hS (lv_sub hl [0, 1, 2] rfl)
        · have h := nd_neg h c79
          refine lv_aload_n hx hb dX15_read_87 rfl (lv_at hl 0 rfl) ?_
          refine va_get (D := (dC, dI)) (ci := 16) (v := .int (sI s17.1 2)) (C := RX15) (T := TX15) (N := 28) hx hb hts hi_dm_X15_read_X15 hown hK hP 0 rfl rfl 10 (by decide) (hts (.fieldLink RX15 92 "TimeMachineModel$Conditions" "token" "I") (List.mem_of_getElem? (i := 16) rfl)) (fun _ h9 => h9) rfl dX15_read_88 ?_
          refine lv_aload_n hx hb dX15_read_91 rfl (lv_at hl 0 rfl) ?_
          refine va_get (D := (dC, dI)) (ci := 16) (v := .ref (a 8)) (C := RX15) (T := TX15) (N := 28) hx hb hts hi_dm_X15_read_X15 hown hK hP 0 rfl rfl 16 (by decide) (hts (.fieldLink RX15 34 "TimeMachineModel$Conditions" "newKind" "[I") (List.mem_of_getElem? (i := 32) rfl)) (fun _ h9 => h9) rfl dX15_read_92 ?_
          refine lv_aload_n hx hb dX15_read_95 rfl (lv_at hl 0 rfl) ?_
          refine va_get (D := (dC, dI)) (ci := 16) (v := .ref (a 10)) (C := RX15) (T := TX15) (N := 28) hx hb hts hi_dm_X15_read_X15 hown hK hP 0 rfl rfl 18 (by decide) (hts (.fieldLink RX15 40 "TimeMachineModel$Conditions" "openAt" "[I") (List.mem_of_getElem? (i := 20) rfl)) (fun _ h9 => h9) rfl dX15_read_96 ?_
          refine lv_aload_n hx hb dX15_read_99 rfl (lv_at hl 0 rfl) ?_
          refine va_get (D := (dC, dI)) (ci := 16) (v := .int (sI s17.1 5)) (C := RX15) (T := TX15) (N := 28) hx hb hts hi_dm_X15_read_X15 hown hK hP 0 rfl rfl 13 (by decide) (hts (.fieldLink RX15 128 "TimeMachineModel$Conditions" "opened" "I") (List.mem_of_getElem? (i := 2) rfl)) (fun _ h9 => h9) rfl dX15_read_100 ?_
          refine lv_iconst (v := 1) hx hb dX15_read_103 (by decide) ?_
          refine lv_isub hx hb dX15_read_104 ?_
          obtain ⟨i80, h⟩ := nd_ck_e h
          refine va_iald (i := ((sI s17.1 5) - 1)) hx hb hK hP 10 9 rfl rfl i80 dX15_read_105 ?_
          obtain ⟨i81, h⟩ := nd_ck_e h
          refine va_iald (i := (sR s17.1 7 (Int32.toNatClampNeg ((sI s17.1 5) - 1)))) hx hb hK hP 8 7 rfl rfl i81 dX15_read_106 ?_
          refine lv_bipush (v := 30) hx hb dX15_read_107 (by decide) ?_
          refine lv_icmp_ne (tgt := 117) hx hb dX15_read_109 (by decide) (fun c82 => ?_) (fun c82 => ?_)
          · have h := nd_neg h c82
            refine lv_bipush (v := 33) hx hb dX15_read_117 (by decide) ?_
            exact (db_X15_read_119 C K J24) (x1) (x2) ((sI s17.1 2)) (33) s17 _ _ _ h hP hD hS (lv_sub hl [0, 1, 2] rfl)
          · have h := nd_pos h c82
            refine lv_bipush (v := 31) hx hb dX15_read_112 (by decide) ?_
            refine lv_goto (tgt := 119) hx hb dX15_read_114 (by decide) ?_
            exact (db_X15_read_119 C K J24) (x1) (x2) ((sI s17.1 2)) (31) s17 _ _ _ h hP hD hS (lv_sub hl [0, 1, 2] rfl)
    · have h := nd_pos h c15
      refine lv_goto (tgt := 463) hx hb dX15_read_68 (by decide) ?_
      exact (db_X15_read_463 C K) (x1) (x2) s12 _ _ _ h hP hD hS (lv_sub hl [0, 1, 2] rfl)
  · have h := nd_pos h c14
    refine lv_aload_n hx hb dX15_read_44 rfl (lv_at hl 0 rfl) ?_
    refine lv_dup hx hb dX15_read_45 rfl ?_
    refine va_get (D := (dC, dI)) (ci := 16) (v := .int (sI s12.1 1)) (C := RX15) (T := TX15) (N := 28) hx hb hts hi_dm_X15_read_X15 hown hK hP 0 rfl rfl 9 (by decide) (hts (.fieldLink RX15 73 "TimeMachineModel$Conditions" "at" "I") (List.mem_of_getElem? (i := 4) rfl)) (fun _ h9 => h9) rfl dX15_read_46 ?_
    refine lv_iconst (v := 1) hx hb dX15_read_49 (by decide) ?_
    refine lv_iadd hx hb dX15_read_50 ?_
    refine va_put (D := (dC, dI)) (ci := 16) (v := .int ((sI s12.1 1) + 1)) (ty := .int) (C := RX15) (T := TX15) (N := 28) hx hb hts hi_dm_X15_read_X15 tyX15 tyX15_ok nmX15 hown hK hP hD hS 0 rfl rfl 9 (by decide) (hts (.fieldLink RX15 73 "TimeMachineModel$Conditions" "at" "I") (List.mem_of_getElem? (i := 4) rfl)) (fun _ h9 => h9) rfl (by decide +kernel) rfl rfl (Nat.le_of_ble_eq_true rfl) dX15_read_51 (fun H locs hP hD hS => ?_)
    obtain ⟨s84, es84, h⟩ := nd_let_e h
    have hP : va_P (dC, dI) vwCl (dw_X15 a ac s84) H := by rw [es84]; exact hP
    have hD : va_D A (dw_X15 a ac s84) := by rw [es84]; exact hD
    refine lv_goto (tgt := 31) hx hb dX15_read_54 (by decide) ?_
    exact (J31) (x1) (x2) s84 _ _ _ h hP hD hS (lv_sub hl [0, 1, 2] rfl)
set_option maxHeartbeats 40000000 in
set_option maxRecDepth 100000 in
theorem db_X15_read_31 {p : Program} {l : Launch} {e : Env} {s : State} {m : MethodId} {args : Array Value} {below : List Frame} {meth : Method} {c : Code} {Q : State → Prop} {A : Nat → Prop} {dC : Nat → ClassId} {dI : Nat → Nat → Nat} {a : Nat → Nat} {ac : Nat → ClassId} {n : Nat} {r : Int32 × (St × (St × (St)))} (C : nd_C p l s m args c A (dC, dI) cX15_read 6 RX15 ow_dm_X15_read (dk_X15 ac)) (K : nd_Ki p l e (headSpec ow_dm_X15_read ({ frames := 3, cells := 0, slots := 0, locals := 73 })).room s m args below meth c Q A (dC, dI) cX15_read .int (St × (St × (St))) (dw_X15 a ac) r) {g24 : Int32 → Int32 → (St × (St × (St))) → Option (Int32 × (St × (St × (St))))} (J24 : dj_X15_read_24 p l e s m args below meth c Q A dC dI a ac g24 r) (k : Nat) : dj_X15_read_31 p l e s m args below meth c Q A dC dI a ac (df_X15_read_31 n g24 k) r := by
  induction k with
  | zero => intro x1 x2 s0 H locs ls h; exact nomatch (show (none : Option (Int32 × (St × (St × (St))))) = some r from h)
  | succ k ih => exact dB_X15_read_31 C K J24 ih
set_option maxHeartbeats 40000000 in
set_option maxRecDepth 100000 in
theorem dB_X15_read_24 {p : Program} {l : Launch} {e : Env} {s : State} {m : MethodId} {args : Array Value} {below : List Frame} {meth : Method} {c : Code} {Q : State → Prop} {A : Nat → Prop} {dC : Nat → ClassId} {dI : Nat → Nat → Nat} {a : Nat → Nat} {ac : Nat → ClassId} {n : Nat} {r : Int32 × (St × (St × (St)))} (C : nd_C p l s m args c A (dC, dI) cX15_read 6 RX15 ow_dm_X15_read (dk_X15 ac)) (K : nd_Ki p l e (headSpec ow_dm_X15_read ({ frames := 3, cells := 0, slots := 0, locals := 73 })).room s m args below meth c Q A (dC, dI) cX15_read .int (St × (St × (St))) (dw_X15 a ac) r) {g24 : Int32 → Int32 → (St × (St × (St))) → Option (Int32 × (St × (St × (St))))} (J24 : dj_X15_read_24 p l e s m args below meth c Q A dC dI a ac g24 r) : dj_X15_read_24 p l e s m args below meth c Q A dC dI a ac (dF_X15_read_24 n g24) r := by
  obtain ⟨hlt, hx, hb, hml, hown, hts, hN, hA, hK⟩ := id C
  intro x1 x2 s0 H locs ls h hP hD hS hl
  unfold dF_X15_read_24 at h
  refine lv_aload_n hx hb dX15_read_24 rfl (lv_at hl 0 rfl) ?_
  refine va_get (D := (dC, dI)) (ci := 16) (v := .int (sI s0.1 6)) (C := RX15) (T := TX15) (N := 28) hx hb hts hi_dm_X15_read_X15 hown hK hP 0 rfl rfl 14 (by decide) (hts (.fieldLink RX15 125 "TimeMachineModel$Conditions" "fault" "I") (List.mem_of_getElem? (i := 1) rfl)) (fun _ h9 => h9) rfl dX15_read_25 ?_
  refine lv_if_ne (tgt := 463) hx hb dX15_read_28 (by decide) (fun c5 => ?_) (fun c5 => ?_)
  · have h := nd_neg h c5
    exact (db_X15_read_463 C K) (x1) (x2) s0 _ _ _ h hP hD hS (lv_sub hl [0, 1, 2] rfl)
  · have h := nd_pos h c5
    exact (db_X15_read_31 C K J24 n) (x1) (x2) s0 _ _ _ h hP hD hS (lv_sub hl [0, 1, 2] rfl)
set_option maxHeartbeats 40000000 in
set_option maxRecDepth 100000 in
theorem db_X15_read_24 {p : Program} {l : Launch} {e : Env} {s : State} {m : MethodId} {args : Array Value} {below : List Frame} {meth : Method} {c : Code} {Q : State → Prop} {A : Nat → Prop} {dC : Nat → ClassId} {dI : Nat → Nat → Nat} {a : Nat → Nat} {ac : Nat → ClassId} {n : Nat} {r : Int32 × (St × (St × (St)))} (C : nd_C p l s m args c A (dC, dI) cX15_read 6 RX15 ow_dm_X15_read (dk_X15 ac)) (K : nd_Ki p l e (headSpec ow_dm_X15_read ({ frames := 3, cells := 0, slots := 0, locals := 73 })).room s m args below meth c Q A (dC, dI) cX15_read .int (St × (St × (St))) (dw_X15 a ac) r) (k : Nat) : dj_X15_read_24 p l e s m args below meth c Q A dC dI a ac (df_X15_read_24 n k) r := by
  induction k with
  | zero => intro x1 x2 s0 H locs ls h; exact nomatch (show (none : Option (Int32 × (St × (St × (St))))) = some r from h)
  | succ k ih => exact dB_X15_read_24 C K ih
set_option maxHeartbeats 40000000 in
set_option maxRecDepth 100000 in
theorem db_X15_read_0 {p : Program} {l : Launch} {e : Env} {s : State} {m : MethodId} {args : Array Value} {below : List Frame} {meth : Method} {c : Code} {Q : State → Prop} {A : Nat → Prop} {dC : Nat → ClassId} {dI : Nat → Nat → Nat} {a : Nat → Nat} {ac : Nat → ClassId} {n : Nat} {r : Int32 × (St × (St × (St)))} (C : nd_C p l s m args c A (dC, dI) cX15_read 6 RX15 ow_dm_X15_read (dk_X15 ac)) (K : nd_Ki p l e (headSpec ow_dm_X15_read ({ frames := 3, cells := 0, slots := 0, locals := 73 })).room s m args below meth c Q A (dC, dI) cX15_read .int (St × (St × (St))) (dw_X15 a ac) r) : dj_X15_read_0 p l e s m args below meth c Q A dC dI a ac (df_X15_read_0 n) r := by
  obtain ⟨hlt, hx, hb, hml, hown, hts, hN, hA, hK⟩ := id C
  intro s0 H locs ls h hP hD hS hl
  unfold df_X15_read_0 at h
  refine lv_aload_n hx hb dX15_read_0 rfl (lv_at hl 0 rfl) ?_
  refine lv_aload_n hx hb dX15_read_1 rfl (lv_at hl 0 rfl) ?_
  refine lv_aload_n hx hb dX15_read_2 rfl (lv_at hl 0 rfl) ?_
  refine lv_aload_n hx hb dX15_read_3 rfl (lv_at hl 0 rfl) ?_
  refine lv_iconst (v := 0) hx hb dX15_read_4 (by decide) ?_
  refine lv_dup_x1 hx hb dX15_read_5 rfl rfl ?_
  refine va_put (D := (dC, dI)) (ci := 16) (v := .int 0) (ty := .int) (C := RX15) (T := TX15) (N := 28) hx hb hts hi_dm_X15_read_X15 tyX15 tyX15_ok nmX15 hown hK hP hD hS 0 rfl rfl 14 (by decide) (hts (.fieldLink RX15 125 "TimeMachineModel$Conditions" "fault" "I") (List.mem_of_getElem? (i := 1) rfl)) (fun _ h9 => h9) rfl (by decide +kernel) rfl rfl (Nat.le_of_ble_eq_true rfl) dX15_read_6 (fun H locs hP hD hS => ?_)
  obtain ⟨s1, es1, h⟩ := nd_let_e h
  have hP : va_P (dC, dI) vwCl (dw_X15 a ac s1) H := by rw [es1]; exact hP
  have hD : va_D A (dw_X15 a ac s1) := by rw [es1]; exact hD
  refine lv_dup_x1 hx hb dX15_read_9 rfl rfl ?_
  refine va_put (D := (dC, dI)) (ci := 16) (v := .int 0) (ty := .int) (C := RX15) (T := TX15) (N := 28) hx hb hts hi_dm_X15_read_X15 tyX15 tyX15_ok nmX15 hown hK hP hD hS 0 rfl rfl 13 (by decide) (hts (.fieldLink RX15 128 "TimeMachineModel$Conditions" "opened" "I") (List.mem_of_getElem? (i := 2) rfl)) (fun _ h9 => h9) rfl (by decide +kernel) rfl rfl (Nat.le_of_ble_eq_true rfl) dX15_read_10 (fun H locs hP hD hS => ?_)
  obtain ⟨s2, es2, h⟩ := nd_let_e h
  have hP : va_P (dC, dI) vwCl (dw_X15 a ac s2) H := by rw [es2]; exact hP
  have hD : va_D A (dw_X15 a ac s2) := by rw [es2]; exact hD
  refine lv_dup_x1 hx hb dX15_read_13 rfl rfl ?_
  refine va_put (D := (dC, dI)) (ci := 16) (v := .int 0) (ty := .int) (C := RX15) (T := TX15) (N := 28) hx hb hts hi_dm_X15_read_X15 tyX15 tyX15_ok nmX15 hown hK hP hD hS 0 rfl rfl 12 (by decide) (hts (.fieldLink RX15 131 "TimeMachineModel$Conditions" "tokens" "I") (List.mem_of_getElem? (i := 3) rfl)) (fun _ h9 => h9) rfl (by decide +kernel) rfl rfl (Nat.le_of_ble_eq_true rfl) dX15_read_14 (fun H locs hP hD hS => ?_)
  obtain ⟨s3, es3, h⟩ := nd_let_e h
  have hP : va_P (dC, dI) vwCl (dw_X15 a ac s3) H := by rw [es3]; exact hP
  have hD : va_D A (dw_X15 a ac s3) := by rw [es3]; exact hD
  refine va_put (D := (dC, dI)) (ci := 16) (v := .int 0) (ty := .int) (C := RX15) (T := TX15) (N := 28) hx hb hts hi_dm_X15_read_X15 tyX15 tyX15_ok nmX15 hown hK hP hD hS 0 rfl rfl 9 (by decide) (hts (.fieldLink RX15 73 "TimeMachineModel$Conditions" "at" "I") (List.mem_of_getElem? (i := 4) rfl)) (fun _ h9 => h9) rfl (by decide +kernel) rfl rfl (Nat.le_of_ble_eq_true rfl) dX15_read_17 (fun H locs hP hD hS => ?_)
  obtain ⟨s4, es4, h⟩ := nd_let_e h
  have hP : va_P (dC, dI) vwCl (dw_X15 a ac s4) H := by rw [es4]; exact hP
  have hD : va_D A (dw_X15 a ac s4) := by rw [es4]; exact hD
  refine lv_iconst (v := 0) hx hb dX15_read_20 (by decide) ?_
  refine lv_istore_n (lv' := [(1, .int 0), (0, .ref (a 0))]) hx hb dX15_read_21 rfl hl (by decide) rfl (fun ls hl => ?_)
  refine lv_iconst (v := 0) hx hb dX15_read_22 (by decide) ?_
  refine lv_istore_n (lv' := [(2, .int 0), (1, .int 0), (0, .ref (a 0))]) hx hb dX15_read_23 rfl hl (by decide) rfl (fun ls hl => ?_)
  exact (db_X15_read_24 C K n) (0) (0) s4 _ _ _ h hP hD hS (lv_sub hl [2, 1, 0] rfl)
set_option maxHeartbeats 40000000 in
set_option maxRecDepth 100000 in
theorem dm_X15_read (l : Launch) (hlt : l.stackTraces = false) (dC : Nat → ClassId) (dI : Nat → Nat → Nat) (a : Nat → Nat) (ac : Nat → ClassId) (n : Nat) (s0 : St × (St × (St))) {r : Int32 × (St × (St × (St)))} (h : df_X15_read n s0 = some r) (sz : Nat) : Met l yX15_read ow_dm_X15_read ({ frames := 3, cells := 0, slots := 0, locals := 73 }) (va_Pc [.ref (a 0)] (fun U => U.heap.size = sz ∧ va_P (dC, dI) vwCl (dw_X15 a ac s0) U.heap ∧ va_K (dC, dI) vwCl (dk_X15 ac) U ∧ va_D (fun _ => True) (dw_X15 a ac s0) ∧ nv_E (va_A (dw_X15 a ac s0) sz) U)) (va_Qi (fun x _ => x = r.1) (fun (_ : Unit) t => va_P (dC, dI) vwCl (dw_X15 a ac r.2) t.heap ∧ va_K (dC, dI) vwCl (dk_X15 ac) t ∧ va_D (va_A (dw_X15 a ac s0) sz) (dw_X15 a ac r.2)) (va_A (dw_X15 a ac s0) sz)) 0 0 (va_A (dw_X15 a ac s0) sz) := by
  refine Met.ofW (cc := cX15_read) (maxL := 6) (ret := (some .int)) (by decide) rfl ?_
  intro p e s m args below meth c s₁ B hml hv
  obtain ⟨rfl, hsz, hP, hK, hD0, hN⟩ := hv
  have hx := B.exec
  have hb := B.bytes
  have hr := B.returns
  have hts := atoms_spec (ws := ow_dm_X15_read) B.pre
  have hown : s.vm.findClass RX15 = some m.cls := findClass_of_methodNamed B.named
  have hlocks := B.notSynchronized
  subst hsz
  have hD := hD0.self (sz := s.heap.size)
  generalize hAe : va_A (dw_X15 a ac s0) s.heap.size = A at hD hN ⊢
  have hA : ∀ q : Nat, s.heap.size ≤ q → A q := fun q h => by rw [← hAe]; exact Or.inr h
  have hl := lv_entry ([.ref (a 0)]) (n := 6) (Nat.le_of_ble_eq_true rfl)
  rw [lg_entry_eq]
  generalize (lg_sl ([.ref (a 0)]) ++ List.replicate (6 - (lg_sl ([.ref (a 0)])).length) Slot.unset).toArray = ls at hl ⊢
  have hl : lv_has ls 6 [(0, .ref (a 0))] := hl
  exact db_X15_read_0 (dC := dC) (dI := dI) (a := a) (ac := ac) (n := n) (r := r) ⟨hlt, hx, hb, hml, hown, hts, hN, hA, hK⟩ (fun pc v τ H locs ls d z er hP hD hS => by subst er; exact W.zret (v := v) hx hb hr z (fun t ht hW => ⟨⟨v, (), rfl, rfl, by rw [ht]; exact hP, va_K.moved hW.alike hK, hD⟩, hS.F ht⟩) hS.2.2 d) s0 _ _ _ h hP hD va_S.rf (lv_sub hl [0] rfl)
def ow_dm_X15_drop : List Cond := .code yX15_drop cX15_drop 3 (some .boolean) :: ([.fieldLink RX15 13 "TimeMachineModel$Conditions" "there" "[Z"] ++ (u_ws RX15 TX15 28 ++ []))
theorem gd_dm_X15_drop : ∀ w ∈ ow_dm_X15_drop, (w.onTables && w.keeps) = true ∨ ∃ ty, w = Cond.arrayClass ty := List.forall_mem_cons.mpr ⟨good_of_word rfl, List.forall_mem_append.mpr ⟨fun w h => good_of_word (List.all_eq_true.mp (by decide +kernel) w h), List.forall_mem_append.mpr ⟨gu_X15, fun _ h => nomatch h⟩⟩⟩
theorem hi_dm_X15_drop_X15 : ∀ w ∈ u_ws RX15 TX15 28, w ∈ ow_dm_X15_drop := fun w h => List.mem_cons_of_mem _ (List.mem_append_right _ (List.mem_append_left _ h))
def dj_X15_drop_0 (p : Program) (l : Launch) (e : Env) (s : State) (m : MethodId) (args : Array Value) (below : List Frame) (meth : Method) (c : Code) (Q : State → Prop) (A : Nat → Prop) (dC : Nat → ClassId) (dI : Nat → Nat → Nat) (a : Nat → Nat) (ac : Nat → ClassId) (g : Int32 → (St × (St × (St))) → Option (Int32 × (St × (St × (St))))) (r : Int32 × (St × (St × (St)))) : Prop := ∀ (v0 : Int32) (s0 : St × (St × (St))) (H : Heap) (locs : List Loc) (ls : Array Slot), g v0 s0 = some r → va_P (dC, dI) vwCl (dw_X15 a ac s0) H → va_D A (dw_X15 a ac s0) → va_S A s.heap H locs → lv_has ls 3 [(0, .ref (a 0)), (1, .int v0)] → W p l e (headSpec ow_dm_X15_drop ({ frames := 0, cells := 0, slots := 0, locals := 0 })).room s m args below meth c H locs 0 0 Q (F0 m 0 ls [])
set_option maxHeartbeats 40000000 in
set_option maxRecDepth 100000 in
theorem db_X15_drop_0 {p : Program} {l : Launch} {e : Env} {s : State} {m : MethodId} {args : Array Value} {below : List Frame} {meth : Method} {c : Code} {Q : State → Prop} {A : Nat → Prop} {dC : Nat → ClassId} {dI : Nat → Nat → Nat} {a : Nat → Nat} {ac : Nat → ClassId} {n : Nat} {r : Int32 × (St × (St × (St)))} (C : nd_C p l s m args c A (dC, dI) cX15_drop 3 RX15 ow_dm_X15_drop (dk_X15 ac)) (K : nd_Ki p l e (headSpec ow_dm_X15_drop ({ frames := 0, cells := 0, slots := 0, locals := 0 })).room s m args below meth c Q A (dC, dI) cX15_drop .boolean (St × (St × (St))) (dw_X15 a ac) r) : dj_X15_drop_0 p l e s m args below meth c Q A dC dI a ac (df_X15_drop_0 n) r := by
  obtain ⟨hlt, hx, hb, hml, hown, hts, hN, hA, hK⟩ := id C
  intro v0 s0 H locs ls h hP hD hS hl
  unfold df_X15_drop_0 at h
  refine lv_aload_n hx hb dX15_drop_0 rfl (lv_at hl 0 rfl) ?_
  refine va_get (D := (dC, dI)) (ci := 16) (v := .ref (a 2)) (C := RX15) (T := TX15) (N := 28) hx hb hts hi_dm_X15_drop_X15 hown hK hP 0 rfl rfl 3 (by decide) (hts (.fieldLink RX15 13 "TimeMachineModel$Conditions" "there" "[Z") (List.mem_of_getElem? (i := 1) rfl)) (fun _ h9 => h9) rfl dX15_drop_1 ?_
  refine lv_iload_n hx hb dX15_drop_4 rfl (lv_at hl 1 rfl) ?_
  obtain ⟨i1, h⟩ := nd_ck_e h
  refine va_zald (i := v0) hx hb hK hP 2 1 rfl rfl i1 dX15_drop_5 ?_
  refine lv_topi (fun z2 ez2 => ?_)
  have h := nd_at h ez2
  refine lv_istore_n (lv' := [(2, .int z2), (0, .ref (a 0)), (1, .int v0)]) hx hb dX15_drop_6 rfl hl (by decide) rfl (fun ls hl => ?_)
  refine lv_aload_n hx hb dX15_drop_7 rfl (lv_at hl 1 rfl) ?_
  refine va_get (D := (dC, dI)) (ci := 16) (v := .ref (a 2)) (C := RX15) (T := TX15) (N := 28) hx hb hts hi_dm_X15_drop_X15 hown hK hP 0 rfl rfl 3 (by decide) (hts (.fieldLink RX15 13 "TimeMachineModel$Conditions" "there" "[Z") (List.mem_of_getElem? (i := 1) rfl)) (fun _ h9 => h9) rfl dX15_drop_8 ?_
  refine lv_iload_n hx hb dX15_drop_11 rfl (lv_at hl 2 rfl) ?_
  refine lv_iconst (v := 0) hx hb dX15_drop_12 (by decide) ?_
  obtain ⟨i3, h⟩ := nd_ck_e h
  refine va_zast (i := v0) (x := 0) hx hb hK hP hD hS 2 1 rfl rfl i3 dX15_drop_13 (fun H locs hP hD hS => ?_)
  obtain ⟨s4, es4, h⟩ := nd_let_e h
  have hP : va_P (dC, dI) vwCl (dw_X15 a ac s4) H := by rw [es4]; exact hP
  have hD : va_D A (dw_X15 a ac s4) := by rw [es4]; exact hD
  refine lv_iload_n hx hb dX15_drop_14 rfl (lv_at hl 0 rfl) ?_
  obtain ⟨n5, h⟩ := nd_z_e ⟨_, rfl⟩ h
  exact K _ _ _ _ _ _ dX15_drop_15 n5 (Option.some.inj h).symm hP hD hS
set_option maxHeartbeats 40000000 in
set_option maxRecDepth 100000 in
theorem dm_X15_drop (l : Launch) (hlt : l.stackTraces = false) (dC : Nat → ClassId) (dI : Nat → Nat → Nat) (a : Nat → Nat) (ac : Nat → ClassId) (n : Nat) (v0 : Int32) (s0 : St × (St × (St))) {r : Int32 × (St × (St × (St)))} (h : df_X15_drop n v0 s0 = some r) (sz : Nat) : Met l yX15_drop ow_dm_X15_drop ({ frames := 0, cells := 0, slots := 0, locals := 0 }) (va_Pc [.ref (a 0), .int v0] (fun U => U.heap.size = sz ∧ va_P (dC, dI) vwCl (dw_X15 a ac s0) U.heap ∧ va_K (dC, dI) vwCl (dk_X15 ac) U ∧ va_D (fun _ => True) (dw_X15 a ac s0) ∧ nv_E (va_A (dw_X15 a ac s0) sz) U)) (va_Qi (fun x _ => x = r.1) (fun (_ : Unit) t => va_P (dC, dI) vwCl (dw_X15 a ac r.2) t.heap ∧ va_K (dC, dI) vwCl (dk_X15 ac) t ∧ va_D (va_A (dw_X15 a ac s0) sz) (dw_X15 a ac r.2)) (va_A (dw_X15 a ac s0) sz)) 0 0 (va_A (dw_X15 a ac s0) sz) := by
  refine Met.ofW (cc := cX15_drop) (maxL := 3) (ret := (some .boolean)) (by decide) rfl ?_
  intro p e s m args below meth c s₁ B hml hv
  obtain ⟨rfl, hsz, hP, hK, hD0, hN⟩ := hv
  have hx := B.exec
  have hb := B.bytes
  have hr := B.returns
  have hts := atoms_spec (ws := ow_dm_X15_drop) B.pre
  have hown : s.vm.findClass RX15 = some m.cls := findClass_of_methodNamed B.named
  have hlocks := B.notSynchronized
  subst hsz
  have hD := hD0.self (sz := s.heap.size)
  generalize hAe : va_A (dw_X15 a ac s0) s.heap.size = A at hD hN ⊢
  have hA : ∀ q : Nat, s.heap.size ≤ q → A q := fun q h => by rw [← hAe]; exact Or.inr h
  have hl := lv_entry ([.ref (a 0), .int v0]) (n := 3) (Nat.le_of_ble_eq_true rfl)
  rw [lg_entry_eq]
  generalize (lg_sl ([.ref (a 0), .int v0]) ++ List.replicate (3 - (lg_sl ([.ref (a 0), .int v0])).length) Slot.unset).toArray = ls at hl ⊢
  have hl : lv_has ls 3 [(0, .ref (a 0)), (1, .int v0)] := hl
  exact db_X15_drop_0 (dC := dC) (dI := dI) (a := a) (ac := ac) (n := n) (r := r) ⟨hlt, hx, hb, hml, hown, hts, hN, hA, hK⟩ (fun pc v τ H locs ls d z er hP hD hS => by subst er; exact W.zret (v := v) hx hb hr z (fun t ht hW => ⟨⟨v, (), rfl, rfl, by rw [ht]; exact hP, va_K.moved hW.alike hK, hD⟩, hS.F ht⟩) hS.2.2 d) v0 s0 _ _ _ h hP hD va_S.rf (lv_sub hl [0, 1] rfl)
def ow_dm_X15_rank : List Cond := .code yX15_rank cX15_rank 1 (some .int) :: ([] ++ [])
theorem gd_dm_X15_rank : ∀ w ∈ ow_dm_X15_rank, (w.onTables && w.keeps) = true ∨ ∃ ty, w = Cond.arrayClass ty := List.forall_mem_cons.mpr ⟨good_of_word rfl, List.forall_mem_append.mpr ⟨fun w h => good_of_word (List.all_eq_true.mp (by decide +kernel) w h), fun _ h => nomatch h⟩⟩
def dj_X15_rank_84 (p : Program) (l : Launch) (e : Env) (s : State) (m : MethodId) (args : Array Value) (below : List Frame) (meth : Method) (c : Code) (Q : State → Prop) (A : Nat → Prop) (dC : Nat → ClassId) (dI : Nat → Nat → Nat) (a : Nat → Nat) (ac : Nat → ClassId) (g : Int32 → (Unit) → Option (Int32 × (Unit))) (r : Int32 × (Unit)) : Prop := ∀ (y0 : Int32) (s0 : Unit) (H : Heap) (locs : List Loc) (ls : Array Slot), g y0 s0 = some r → va_P (dC, dI) vwCl (dw_P a ac s0) H → va_D A (dw_P a ac s0) → va_S A s.heap H locs → lv_has ls 1 [] → W p l e (headSpec ow_dm_X15_rank ({ frames := 0, cells := 0, slots := 0, locals := 0 })).room s m args below meth c H locs 0 0 Q (F0 m 84 ls [.int y0])
def dj_X15_rank_0 (p : Program) (l : Launch) (e : Env) (s : State) (m : MethodId) (args : Array Value) (below : List Frame) (meth : Method) (c : Code) (Q : State → Prop) (A : Nat → Prop) (dC : Nat → ClassId) (dI : Nat → Nat → Nat) (a : Nat → Nat) (ac : Nat → ClassId) (g : Int32 → (Unit) → Option (Int32 × (Unit))) (r : Int32 × (Unit)) : Prop := ∀ (v0 : Int32) (s0 : Unit) (H : Heap) (locs : List Loc) (ls : Array Slot), g v0 s0 = some r → va_P (dC, dI) vwCl (dw_P a ac s0) H → va_D A (dw_P a ac s0) → va_S A s.heap H locs → lv_has ls 1 [(0, .int v0)] → W p l e (headSpec ow_dm_X15_rank ({ frames := 0, cells := 0, slots := 0, locals := 0 })).room s m args below meth c H locs 0 0 Q (F0 m 0 ls [])
set_option maxHeartbeats 40000000 in
set_option maxRecDepth 100000 in
theorem db_X15_rank_84 {p : Program} {l : Launch} {e : Env} {s : State} {m : MethodId} {args : Array Value} {below : List Frame} {meth : Method} {c : Code} {Q : State → Prop} {A : Nat → Prop} {dC : Nat → ClassId} {dI : Nat → Nat → Nat} {a : Nat → Nat} {ac : Nat → ClassId} {n : Nat} {r : Int32 × (Unit)} (C : nd_C p l s m args c A (dC, dI) cX15_rank 1 RX15 ow_dm_X15_rank (dk_P ac)) (K : nd_Ki p l e (headSpec ow_dm_X15_rank ({ frames := 0, cells := 0, slots := 0, locals := 0 })).room s m args below meth c Q A (dC, dI) cX15_rank .int (Unit) (dw_P a ac) r) : dj_X15_rank_84 p l e s m args below meth c Q A dC dI a ac (df_X15_rank_84 n) r := by
  obtain ⟨hlt, hx, hb, hml, hown, hts, hN, hA, hK⟩ := id C
  intro y0 s0 H locs ls h hP hD hS hl
  unfold df_X15_rank_84 at h
  exact K _ _ _ _ _ _ dX15_rank_84 rfl (Option.some.inj h).symm hP hD hS
set_option maxHeartbeats 40000000 in
set_option maxRecDepth 100000 in
theorem db_X15_rank_0 {p : Program} {l : Launch} {e : Env} {s : State} {m : MethodId} {args : Array Value} {below : List Frame} {meth : Method} {c : Code} {Q : State → Prop} {A : Nat → Prop} {dC : Nat → ClassId} {dI : Nat → Nat → Nat} {a : Nat → Nat} {ac : Nat → ClassId} {n : Nat} {r : Int32 × (Unit)} (C : nd_C p l s m args c A (dC, dI) cX15_rank 1 RX15 ow_dm_X15_rank (dk_P ac)) (K : nd_Ki p l e (headSpec ow_dm_X15_rank ({ frames := 0, cells := 0, slots := 0, locals := 0 })).room s m args below meth c Q A (dC, dI) cX15_rank .int (Unit) (dw_P a ac) r) : dj_X15_rank_0 p l e s m args below meth c Q A dC dI a ac (df_X15_rank_0 n) r := by
  obtain ⟨hlt, hx, hb, hml, hown, hts, hN, hA, hK⟩ := id C
  intro v0 s0 H locs ls h hP hD hS hl
  unfold df_X15_rank_0 at h
  refine lv_iload_n hx hb dX15_rank_0 rfl (lv_at hl 0 rfl) ?_
  refine lv_bipush (v := 10) hx hb dX15_rank_1 (by decide) ?_
  refine lv_icmp_ne (tgt := 10) hx hb dX15_rank_3 (by decide) (fun c1 => ?_) (fun c1 => ?_)
  · have h := nd_neg h c1
    refine lv_iload_n hx hb dX15_rank_10 rfl (lv_at hl 0 rfl) ?_
    refine lv_bipush (v := 11) hx hb dX15_rank_11 (by decide) ?_
    refine lv_icmp_ne (tgt := 20) hx hb dX15_rank_13 (by decide) (fun c2 => ?_) (fun c2 => ?_)
    · have h := nd_neg h c2
      refine lv_iload_n hx hb dX15_rank_20 rfl (lv_at hl 0 rfl) ?_
      refine lv_bipush (v := 18) hx hb dX15_rank_21 (by decide) ?_
      refine lv_icmp_ge (tgt := 30) hx hb dX15_rank_23 (by decide) (fun c3 => ?_) (fun c3 => ?_)
      · have h := nd_pos h c3
        refine lv_iload_n hx hb dX15_rank_30 rfl (lv_at hl 0 rfl) ?_
        refine lv_bipush (v := 18) hx hb dX15_rank_31 (by decide) ?_
        refine lv_icmp_ne (tgt := 40) hx hb dX15_rank_33 (by decide) (fun c4 => ?_) (fun c4 => ?_)
        · have h := nd_neg h c4
          refine lv_iload_n hx hb dX15_rank_40 rfl (lv_at hl 0 rfl) ?_
          refine lv_bipush (v := 19) hx hb dX15_rank_41 (by decide) ?_
          refine lv_icmp_ne (tgt := 50) hx hb dX15_rank_43 (by decide) (fun c5 => ?_) (fun c5 => ?_)
          · have h := nd_neg h c5
            refine lv_iload_n hx hb dX15_rank_50 rfl (lv_at hl 0 rfl) ?_
            refine lv_bipush (v := 20) hx hb dX15_rank_51 (by decide) ?_
            refine lv_icmp_ne (tgt := 60) hx hb dX15_rank_53 (by decide) (fun c6 => ?_) (fun c6 => ?_)
            · have h := nd_neg h c6
              refine lv_iload_n hx hb dX15_rank_60 rfl (lv_at hl 0 rfl) ?_
              refine lv_bipush (v := 23) hx hb dX15_rank_61 (by decide) ?_
              refine lv_icmp_ge (tgt := 71) hx hb dX15_rank_63 (by decide) (fun c7 => ?_) (fun c7 => ?_)
              · have h := nd_pos h c7
                refine lv_iload_n hx hb dX15_rank_71 rfl (lv_at hl 0 rfl) ?_
                refine lv_bipush (v := 25) hx hb dX15_rank_72 (by decide) ?_
                refine lv_icmp_ge (tgt := 82) hx hb dX15_rank_74 (by decide) (fun c8 => ?_) (fun c8 => ?_)
                · have h := nd_pos h c8
                  refine lv_bipush (v := 8) hx hb dX15_rank_82 (by decide) ?_
                  exact (db_X15_rank_84 C K) (8) s0 _ _ _ h hP hD hS (lv_sub hl [] rfl)
                · have h := nd_neg h c8
                  refine lv_bipush (v := 7) hx hb dX15_rank_77 (by decide) ?_
                  refine lv_goto (tgt := 84) hx hb dX15_rank_79 (by decide) ?_
                  exact (db_X15_rank_84 C K) (7) s0 _ _ _ h hP hD hS (lv_sub hl [] rfl)
              · have h := nd_neg h c7
                refine lv_bipush (v := 6) hx hb dX15_rank_66 (by decide) ?_
                refine lv_goto (tgt := 84) hx hb dX15_rank_68 (by decide) ?_
                exact (db_X15_rank_84 C K) (6) s0 _ _ _ h hP hD hS (lv_sub hl [] rfl)
            · have h := nd_pos h c6
              refine lv_iconst (v := 5) hx hb dX15_rank_56 (by decide) ?_
              refine lv_goto (tgt := 84) hx hb dX15_rank_57 (by decide) ?_
              exact (db_X15_rank_84 C K) (5) s0 _ _ _ h hP hD hS (lv_sub hl [] rfl)
          · have h := nd_pos h c5
            refine lv_iconst (v := 4) hx hb dX15_rank_46 (by decide) ?_
            refine lv_goto (tgt := 84) hx hb dX15_rank_47 (by decide) ?_
            exact (db_X15_rank_84 C K) (4) s0 _ _ _ h hP hD hS (lv_sub hl [] rfl)
        · have h := nd_pos h c4
          refine lv_iconst (v := 3) hx hb dX15_rank_36 (by decide) ?_
          refine lv_goto (tgt := 84) hx hb dX15_rank_37 (by decide) ?_
          exact (db_X15_rank_84 C K) (3) s0 _ _ _ h hP hD hS (lv_sub hl [] rfl)
      · have h := nd_neg h c3
        refine lv_iconst (v := 2) hx hb dX15_rank_26 (by decide) ?_
        refine lv_goto (tgt := 84) hx hb dX15_rank_27 (by decide) ?_
        exact (db_X15_rank_84 C K) (2) s0 _ _ _ h hP hD hS (lv_sub hl [] rfl)
    · have h := nd_pos h c2
      refine lv_iconst (v := 1) hx hb dX15_rank_16 (by decide) ?_
      refine lv_goto (tgt := 84) hx hb dX15_rank_17 (by decide) ?_
      exact (db_X15_rank_84 C K) (1) s0 _ _ _ h hP hD hS (lv_sub hl [] rfl)
  · have h := nd_pos h c1
    refine lv_iconst (v := 0) hx hb dX15_rank_6 (by decide) ?_
    refine lv_goto (tgt := 84) hx hb dX15_rank_7 (by decide) ?_
    exact (db_X15_rank_84 C K) (0) s0 _ _ _ h hP hD hS (lv_sub hl [] rfl)
set_option maxHeartbeats 40000000 in
set_option maxRecDepth 100000 in
theorem dm_X15_rank (l : Launch) (hlt : l.stackTraces = false) (dC : Nat → ClassId) (dI : Nat → Nat → Nat) (a : Nat → Nat) (ac : Nat → ClassId) (n : Nat) (v0 : Int32) (s0 : Unit) {r : Int32 × (Unit)} (h : df_X15_rank n v0 s0 = some r) (sz : Nat) : Met l yX15_rank ow_dm_X15_rank ({ frames := 0, cells := 0, slots := 0, locals := 0 }) (va_Pc [.int v0] (fun U => U.heap.size = sz ∧ va_P (dC, dI) vwCl (dw_P a ac s0) U.heap ∧ va_K (dC, dI) vwCl (dk_P ac) U ∧ va_D (fun _ => True) (dw_P a ac s0) ∧ nv_E (va_A (dw_P a ac s0) sz) U)) (va_Qi (fun x _ => x = r.1) (fun (_ : Unit) t => va_P (dC, dI) vwCl (dw_P a ac r.2) t.heap ∧ va_K (dC, dI) vwCl (dk_P ac) t ∧ va_D (va_A (dw_P a ac s0) sz) (dw_P a ac r.2)) (va_A (dw_P a ac s0) sz)) 0 0 (va_A (dw_P a ac s0) sz) := by
  refine Met.ofW (cc := cX15_rank) (maxL := 1) (ret := (some .int)) (by decide) rfl ?_
  intro p e s m args below meth c s₁ B hml hv
  obtain ⟨rfl, hsz, hP, hK, hD0, hN⟩ := hv
  have hx := B.exec
  have hb := B.bytes
  have hr := B.returns
  have hts := atoms_spec (ws := ow_dm_X15_rank) B.pre
  have hown : s.vm.findClass RX15 = some m.cls := findClass_of_methodNamed B.named
  have hlocks := B.notSynchronized
  subst hsz
  have hD := hD0.self (sz := s.heap.size)
  generalize hAe : va_A (dw_P a ac s0) s.heap.size = A at hD hN ⊢
  have hA : ∀ q : Nat, s.heap.size ≤ q → A q := fun q h => by rw [← hAe]; exact Or.inr h
  have hl := lv_entry ([.int v0]) (n := 1) (Nat.le_of_ble_eq_true rfl)
  rw [lg_entry_eq]
  generalize (lg_sl ([.int v0]) ++ List.replicate (1 - (lg_sl ([.int v0])).length) Slot.unset).toArray = ls at hl ⊢
  have hl : lv_has ls 1 [(0, .int v0)] := hl
  exact db_X15_rank_0 (dC := dC) (dI := dI) (a := a) (ac := ac) (n := n) (r := r) ⟨hlt, hx, hb, hml, hown, hts, hN, hA, hK⟩ (fun pc v τ H locs ls d z er hP hD hS => by subst er; exact W.zret (v := v) hx hb hr z (fun t ht hW => ⟨⟨v, (), rfl, rfl, by rw [ht]; exact hP, va_K.moved hW.alike hK, hD⟩, hS.F ht⟩) hS.2.2 d) v0 s0 _ _ _ h hP hD va_S.rf (lv_sub hl [0] rfl)
def ow_dm_X15_least : List Cond := .code yX15_least cX15_least 7 (some .int) :: ([.fieldLink RX15 21 "TimeMachineModel$Conditions" "kind" "[I", .fieldLink RX15 24 "TimeMachineModel$Conditions" "partner" "[I", .methodLink RX15 143 yX15_isBetween, .static yX15_isBetween, .initialized RX15, .methodLink RX15 161 yX15_rank, .static yX15_rank] ++ (u_ws RX15 TX15 28 ++ (ow_dm_X15_isBetween ++ (ow_dm_X15_rank ++ []))))
theorem gd_dm_X15_least : ∀ w ∈ ow_dm_X15_least, (w.onTables && w.keeps) = true ∨ ∃ ty, w = Cond.arrayClass ty := List.forall_mem_cons.mpr ⟨good_of_word rfl, List.forall_mem_append.mpr ⟨fun w h => good_of_word (List.all_eq_true.mp (by decide +kernel) w h), List.forall_mem_append.mpr ⟨gu_X15, List.forall_mem_append.mpr ⟨gd_dm_X15_isBetween, List.forall_mem_append.mpr ⟨gd_dm_X15_rank, fun _ h => nomatch h⟩⟩⟩⟩⟩
theorem hi_dm_X15_least_X15 : ∀ w ∈ u_ws RX15 TX15 28, w ∈ ow_dm_X15_least := fun w h => List.mem_cons_of_mem _ (List.mem_append_right _ (List.mem_append_left _ h))
theorem gi_dm_X15_least_0 : GoodIn ow_dm_X15_least (wsS RX15 143 yX15_isBetween ow_dm_X15_isBetween) := goodIn_app (goodIn_of _ (by decide +kernel)) (fun w h => ⟨List.mem_cons_of_mem _ (List.mem_append_right _ (List.mem_append_right _ (List.mem_append_left _ h))), gd_dm_X15_isBetween w h⟩)
theorem gi_dm_X15_least_1 : GoodIn ow_dm_X15_least (wsS RX15 161 yX15_rank ow_dm_X15_rank) := goodIn_app (goodIn_of _ (by decide +kernel)) (fun w h => ⟨List.mem_cons_of_mem _ (List.mem_append_right _ (List.mem_append_right _ (List.mem_append_right _ (List.mem_append_left _ h)))), gd_dm_X15_rank w h⟩)
def dj_X15_least_103 (p : Program) (l : Launch) (e : Env) (s : State) (m : MethodId) (args : Array Value) (below : List Frame) (meth : Method) (c : Code) (Q : State → Prop) (A : Nat → Prop) (dC : Nat → ClassId) (dI : Nat → Nat → Nat) (a : Nat → Nat) (ac : Nat → ClassId) (g : Int32 → Int32 → Int32 → Int32 → (St × (St × (St))) → Option (Int32 × (St × (St × (St))))) (r : Int32 × (St × (St × (St)))) : Prop := ∀ (x2 : Int32) (x3 : Int32) (x4 : Int32) (x5 : Int32) (s0 : St × (St × (St))) (H : Heap) (locs : List Loc) (ls : Array Slot), g x2 x3 x4 x5 s0 = some r → va_P (dC, dI) vwCl (dw_X15 a ac s0) H → va_D A (dw_X15 a ac s0) → va_S A s.heap H locs → lv_has ls 7 [(0, .ref (a 0)), (2, .int x2), (3, .int x3), (4, .int x4), (5, .int x5)] → W p l e (headSpec ow_dm_X15_least ({ frames := 1, cells := 0, slots := 0, locals := 20 })).room s m args below meth c H locs 0 0 Q (F0 m 103 ls [])
def dj_X15_least_37 (p : Program) (l : Launch) (e : Env) (s : State) (m : MethodId) (args : Array Value) (below : List Frame) (meth : Method) (c : Code) (Q : State → Prop) (A : Nat → Prop) (dC : Nat → ClassId) (dI : Nat → Nat → Nat) (a : Nat → Nat) (ac : Nat → ClassId) (g : Int32 → Int32 → Int32 → (St × (St × (St))) → Option (Int32 × (St × (St × (St))))) (r : Int32 × (St × (St × (St)))) : Prop := ∀ (x2 : Int32) (x3 : Int32) (x5 : Int32) (s0 : St × (St × (St))) (H : Heap) (locs : List Loc) (ls : Array Slot), g x2 x3 x5 s0 = some r → va_P (dC, dI) vwCl (dw_X15 a ac s0) H → va_D A (dw_X15 a ac s0) → va_S A s.heap H locs → lv_has ls 7 [(0, .ref (a 0)), (2, .int x2), (3, .int x3), (5, .int x5)] → W p l e (headSpec ow_dm_X15_least ({ frames := 1, cells := 0, slots := 0, locals := 20 })).room s m args below meth c H locs 0 0 Q (F0 m 37 ls [])
def dj_X15_least_101 (p : Program) (l : Launch) (e : Env) (s : State) (m : MethodId) (args : Array Value) (below : List Frame) (meth : Method) (c : Code) (Q : State → Prop) (A : Nat → Prop) (dC : Nat → ClassId) (dI : Nat → Nat → Nat) (a : Nat → Nat) (ac : Nat → ClassId) (g : Int32 → Int32 → Int32 → Int32 → (St × (St × (St))) → Option (Int32 × (St × (St × (St))))) (r : Int32 × (St × (St × (St)))) : Prop := ∀ (x2 : Int32) (x3 : Int32) (x5 : Int32) (y0 : Int32) (s0 : St × (St × (St))) (H : Heap) (locs : List Loc) (ls : Array Slot), g x2 x3 x5 y0 s0 = some r → va_P (dC, dI) vwCl (dw_X15 a ac s0) H → va_D A (dw_X15 a ac s0) → va_S A s.heap H locs → lv_has ls 7 [(0, .ref (a 0)), (2, .int x2), (3, .int x3), (5, .int x5)] → W p l e (headSpec ow_dm_X15_least ({ frames := 1, cells := 0, slots := 0, locals := 20 })).room s m args below meth c H locs 0 0 Q (F0 m 101 ls [.int y0])
def dj_X15_least_89 (p : Program) (l : Launch) (e : Env) (s : State) (m : MethodId) (args : Array Value) (below : List Frame) (meth : Method) (c : Code) (Q : State → Prop) (A : Nat → Prop) (dC : Nat → ClassId) (dI : Nat → Nat → Nat) (a : Nat → Nat) (ac : Nat → ClassId) (g : Int32 → Int32 → Int32 → Int32 → (St × (St × (St))) → Option (Int32 × (St × (St × (St))))) (r : Int32 × (St × (St × (St)))) : Prop := ∀ (x2 : Int32) (x3 : Int32) (x5 : Int32) (x6 : Int32) (s0 : St × (St × (St))) (H : Heap) (locs : List Loc) (ls : Array Slot), g x2 x3 x5 x6 s0 = some r → va_P (dC, dI) vwCl (dw_X15 a ac s0) H → va_D A (dw_X15 a ac s0) → va_S A s.heap H locs → lv_has ls 7 [(0, .ref (a 0)), (2, .int x2), (3, .int x3), (5, .int x5), (6, .int x6)] → W p l e (headSpec ow_dm_X15_least ({ frames := 1, cells := 0, slots := 0, locals := 20 })).room s m args below meth c H locs 0 0 Q (F0 m 89 ls [])
def dj_X15_least_86 (p : Program) (l : Launch) (e : Env) (s : State) (m : MethodId) (args : Array Value) (below : List Frame) (meth : Method) (c : Code) (Q : State → Prop) (A : Nat → Prop) (dC : Nat → ClassId) (dI : Nat → Nat → Nat) (a : Nat → Nat) (ac : Nat → ClassId) (g : Int32 → Int32 → Int32 → (St × (St × (St))) → Option (Int32 × (St × (St × (St))))) (r : Int32 × (St × (St × (St)))) : Prop := ∀ (x2 : Int32) (x5 : Int32) (x6 : Int32) (s0 : St × (St × (St))) (H : Heap) (locs : List Loc) (ls : Array Slot), g x2 x5 x6 s0 = some r → va_P (dC, dI) vwCl (dw_X15 a ac s0) H → va_D A (dw_X15 a ac s0) → va_S A s.heap H locs → lv_has ls 7 [(0, .ref (a 0)), (2, .int x2), (5, .int x5), (6, .int x6)] → W p l e (headSpec ow_dm_X15_least ({ frames := 1, cells := 0, slots := 0, locals := 20 })).room s m args below meth c H locs 0 0 Q (F0 m 86 ls [])
def dj_X15_least_8 (p : Program) (l : Launch) (e : Env) (s : State) (m : MethodId) (args : Array Value) (below : List Frame) (meth : Method) (c : Code) (Q : State → Prop) (A : Nat → Prop) (dC : Nat → ClassId) (dI : Nat → Nat → Nat) (a : Nat → Nat) (ac : Nat → ClassId) (g : Int32 → Int32 → Int32 → Int32 → (St × (St × (St))) → Option (Int32 × (St × (St × (St))))) (r : Int32 × (St × (St × (St)))) : Prop := ∀ (x2 : Int32) (x3 : Int32) (x4 : Int32) (x5 : Int32) (s0 : St × (St × (St))) (H : Heap) (locs : List Loc) (ls : Array Slot), g x2 x3 x4 x5 s0 = some r → va_P (dC, dI) vwCl (dw_X15 a ac s0) H → va_D A (dw_X15 a ac s0) → va_S A s.heap H locs → lv_has ls 7 [(0, .ref (a 0)), (2, .int x2), (3, .int x3), (4, .int x4), (5, .int x5)] → W p l e (headSpec ow_dm_X15_least ({ frames := 1, cells := 0, slots := 0, locals := 20 })).room s m args below meth c H locs 0 0 Q (F0 m 8 ls [])
def dj_X15_least_0 (p : Program) (l : Launch) (e : Env) (s : State) (m : MethodId) (args : Array Value) (below : List Frame) (meth : Method) (c : Code) (Q : State → Prop) (A : Nat → Prop) (dC : Nat → ClassId) (dI : Nat → Nat → Nat) (a : Nat → Nat) (ac : Nat → ClassId) (g : Int32 → Int32 → (St × (St × (St))) → Option (Int32 × (St × (St × (St))))) (r : Int32 × (St × (St × (St)))) : Prop := ∀ (v0 : Int32) (v1 : Int32) (s0 : St × (St × (St))) (H : Heap) (locs : List Loc) (ls : Array Slot), g v0 v1 s0 = some r → va_P (dC, dI) vwCl (dw_X15 a ac s0) H → va_D A (dw_X15 a ac s0) → va_S A s.heap H locs → lv_has ls 7 [(0, .ref (a 0)), (1, .int v0), (2, .int v1)] → W p l e (headSpec ow_dm_X15_least ({ frames := 1, cells := 0, slots := 0, locals := 20 })).room s m args below meth c H locs 0 0 Q (F0 m 0 ls [])
set_option maxHeartbeats 40000000 in
set_option maxRecDepth 100000 in
theorem db_X15_least_103 {p : Program} {l : Launch} {e : Env} {s : State} {m : MethodId} {args : Array Value} {below : List Frame} {meth : Method} {c : Code} {Q : State → Prop} {A : Nat → Prop} {dC : Nat → ClassId} {dI : Nat → Nat → Nat} {a : Nat → Nat} {ac : Nat → ClassId} {n : Nat} {r : Int32 × (St × (St × (St)))} (C : nd_C p l s m args c A (dC, dI) cX15_least 7 RX15 ow_dm_X15_least (dk_X15 ac)) (K : nd_Ki p l e (headSpec ow_dm_X15_least ({ frames := 1, cells := 0, slots := 0, locals := 20 })).room s m args below meth c Q A (dC, dI) cX15_least .int (St × (St × (St))) (dw_X15 a ac) r) {g8 : Int32 → Int32 → Int32 → Int32 → (St × (St × (St))) → Option (Int32 × (St × (St × (St))))} (J8 : dj_X15_least_8 p l e s m args below meth c Q A dC dI a ac g8 r) : dj_X15_least_103 p l e s m args below meth c Q A dC dI a ac (df_X15_least_103 n g8) r := by
  obtain ⟨hlt, hx, hb, hml, hown, hts, hN, hA, hK⟩ := id C
  intro x2 x3 x4 x5 s0 H locs ls h hP hD hS hl
  unfold df_X15_least_103 at h
  obtain ⟨z7, ez7, h⟩ := nd_let_e h
  refine lv_iinc (v := z7) (lv' := [(5, .int z7), (0, .ref (a 0)), (2, .int x2), (3, .int x3), (4, .int x4)]) hx hb dX15_least_103 hl (k := 4) rfl (by rw [ez7]) (by decide) rfl (fun ls hl => ?_)
  refine lv_goto (tgt := 8) hx hb dX15_least_106 (by decide) ?_
  exact (J8) (x2) (x3) (x4) (z7) s0 _ _ _ h hP hD hS (lv_sub hl [1, 2, 3, 4, 0] rfl)
set_option maxHeartbeats 40000000 in
set_option maxRecDepth 100000 in
theorem db_X15_least_37 {p : Program} {l : Launch} {e : Env} {s : State} {m : MethodId} {args : Array Value} {below : List Frame} {meth : Method} {c : Code} {Q : State → Prop} {A : Nat → Prop} {dC : Nat → ClassId} {dI : Nat → Nat → Nat} {a : Nat → Nat} {ac : Nat → ClassId} {n : Nat} {r : Int32 × (St × (St × (St)))} (C : nd_C p l s m args c A (dC, dI) cX15_least 7 RX15 ow_dm_X15_least (dk_X15 ac)) (K : nd_Ki p l e (headSpec ow_dm_X15_least ({ frames := 1, cells := 0, slots := 0, locals := 20 })).room s m args below meth c Q A (dC, dI) cX15_least .int (St × (St × (St))) (dw_X15 a ac) r) {g8 : Int32 → Int32 → Int32 → Int32 → (St × (St × (St))) → Option (Int32 × (St × (St × (St))))} (J8 : dj_X15_least_8 p l e s m args below meth c Q A dC dI a ac g8 r) : dj_X15_least_37 p l e s m args below meth c Q A dC dI a ac (df_X15_least_37 n g8) r := by
  obtain ⟨hlt, hx, hb, hml, hown, hts, hN, hA, hK⟩ := id C
  intro x2 x3 x5 s0 H locs ls h hP hD hS hl
  unfold df_X15_least_37 at h
  refine lv_aload_n hx hb dX15_least_37 rfl (lv_at hl 0 rfl) ?_
  refine va_get (D := (dC, dI)) (ci := 16) (v := .ref (a 5)) (C := RX15) (T := TX15) (N := 28) hx hb hts hi_dm_X15_least_X15 hown hK hP 0 rfl rfl 6 (by decide) (hts (.fieldLink RX15 24 "TimeMachineModel$Conditions" "partner" "[I") (List.mem_of_getElem? (i := 2) rfl)) (fun _ h9 => h9) rfl dX15_least_38 ?_
  refine lv_iload hx hb dX15_least_41 (lv_at hl 3 rfl) ?_
  obtain ⟨i5, h⟩ := nd_ck_e h
  refine va_iald (i := x5) hx hb hK hP 5 4 rfl rfl i5 dX15_least_43 ?_
  refine lv_topi (fun z6 ez6 => ?_)
  have h := nd_at h ez6
  refine lv_istore (lv' := [(5, .int z6), (0, .ref (a 0)), (2, .int x2), (3, .int x3)]) hx hb dX15_least_44 hl (by decide) rfl (fun ls hl => ?_)
  refine lv_iconst (v := 1) hx hb dX15_least_46 (by decide) ?_
  refine lv_istore (lv' := [(4, .int 1), (5, .int z6), (0, .ref (a 0)), (2, .int x2), (3, .int x3)]) hx hb dX15_least_47 hl (by decide) rfl (fun ls hl => ?_)
  refine lv_goto (tgt := 103) hx hb dX15_least_49 (by decide) ?_
  exact (db_X15_least_103 C K J8) (x2) (x3) (1) (z6) s0 _ _ _ h hP hD hS (lv_sub hl [2, 3, 4, 0, 1] rfl)
set_option maxHeartbeats 40000000 in
set_option maxRecDepth 100000 in
theorem db_X15_least_101 {p : Program} {l : Launch} {e : Env} {s : State} {m : MethodId} {args : Array Value} {below : List Frame} {meth : Method} {c : Code} {Q : State → Prop} {A : Nat → Prop} {dC : Nat → ClassId} {dI : Nat → Nat → Nat} {a : Nat → Nat} {ac : Nat → ClassId} {n : Nat} {r : Int32 × (St × (St × (St)))} (C : nd_C p l s m args c A (dC, dI) cX15_least 7 RX15 ow_dm_X15_least (dk_X15 ac)) (K : nd_Ki p l e (headSpec ow_dm_X15_least ({ frames := 1, cells := 0, slots := 0, locals := 20 })).room s m args below meth c Q A (dC, dI) cX15_least .int (St × (St × (St))) (dw_X15 a ac) r) {g8 : Int32 → Int32 → Int32 → Int32 → (St × (St × (St))) → Option (Int32 × (St × (St × (St))))} (J8 : dj_X15_least_8 p l e s m args below meth c Q A dC dI a ac g8 r) : dj_X15_least_101 p l e s m args below meth c Q A dC dI a ac (df_X15_least_101 n g8) r := by
  obtain ⟨hlt, hx, hb, hml, hown, hts, hN, hA, hK⟩ := id C
  intro x2 x3 x5 y0 s0 H locs ls h hP hD hS hl
  unfold df_X15_least_101 at h
  refine lv_istore (lv' := [(4, .int y0), (0, .ref (a 0)), (2, .int x2), (3, .int x3), (5, .int x5)]) hx hb dX15_least_101 hl (by decide) rfl (fun ls hl => ?_)
  exact (db_X15_least_103 C K J8) (x2) (x3) (y0) (x5) s0 _ _ _ h hP hD hS (lv_sub hl [1, 2, 3, 0, 4] rfl)
set_option maxHeartbeats 40000000 in
set_option maxRecDepth 100000 in
theorem db_X15_least_89 {p : Program} {l : Launch} {e : Env} {s : State} {m : MethodId} {args : Array Value} {below : List Frame} {meth : Method} {c : Code} {Q : State → Prop} {A : Nat → Prop} {dC : Nat → ClassId} {dI : Nat → Nat → Nat} {a : Nat → Nat} {ac : Nat → ClassId} {n : Nat} {r : Int32 × (St × (St × (St)))} (C : nd_C p l s m args c A (dC, dI) cX15_least 7 RX15 ow_dm_X15_least (dk_X15 ac)) (K : nd_Ki p l e (headSpec ow_dm_X15_least ({ frames := 1, cells := 0, slots := 0, locals := 20 })).room s m args below meth c Q A (dC, dI) cX15_least .int (St × (St × (St))) (dw_X15 a ac) r) {g8 : Int32 → Int32 → Int32 → Int32 → (St × (St × (St))) → Option (Int32 × (St × (St × (St))))} (J8 : dj_X15_least_8 p l e s m args below meth c Q A dC dI a ac g8 r) : dj_X15_least_89 p l e s m args below meth c Q A dC dI a ac (df_X15_least_89 n g8) r := by
  obtain ⟨hlt, hx, hb, hml, hown, hts, hN, hA, hK⟩ := id C
  intro x2 x3 x5 x6 s0 H locs ls h hP hD hS hl
  unfold df_X15_least_89 at h
  refine lv_iload hx hb dX15_least_89 (lv_at hl 4 rfl) ?_
  refine lv_bipush (v := 10) hx hb dX15_least_91 (by decide) ?_
  refine lv_icmp_ge (tgt := 100) hx hb dX15_least_93 (by decide) (fun c10 => ?_) (fun c10 => ?_)
  · have h := nd_pos h c10
    refine lv_iconst (v := 0) hx hb dX15_least_100 (by decide) ?_
    exact (db_X15_least_101 C K J8) (x2) (x3) (x5) (0) s0 _ _ _ h hP hD hS (lv_sub hl [0, 1, 2, 3] rfl)
  · have h := nd_neg h c10
    refine lv_iconst (v := 1) hx hb dX15_least_96 (by decide) ?_
    refine lv_goto (tgt := 101) hx hb dX15_least_97 (by decide) ?_
    exact (db_X15_least_101 C K J8) (x2) (x3) (x5) (1) s0 _ _ _ h hP hD hS (lv_sub hl [0, 1, 2, 3] rfl)
set_option maxHeartbeats 40000000 in
set_option maxRecDepth 100000 in
theorem db_X15_least_86 {p : Program} {l : Launch} {e : Env} {s : State} {m : MethodId} {args : Array Value} {below : List Frame} {meth : Method} {c : Code} {Q : State → Prop} {A : Nat → Prop} {dC : Nat → ClassId} {dI : Nat → Nat → Nat} {a : Nat → Nat} {ac : Nat → ClassId} {n : Nat} {r : Int32 × (St × (St × (St)))} (C : nd_C p l s m args c A (dC, dI) cX15_least 7 RX15 ow_dm_X15_least (dk_X15 ac)) (K : nd_Ki p l e (headSpec ow_dm_X15_least ({ frames := 1, cells := 0, slots := 0, locals := 20 })).room s m args below meth c Q A (dC, dI) cX15_least .int (St × (St × (St))) (dw_X15 a ac) r) {g8 : Int32 → Int32 → Int32 → Int32 → (St × (St × (St))) → Option (Int32 × (St × (St × (St))))} (J8 : dj_X15_least_8 p l e s m args below meth c Q A dC dI a ac g8 r) : dj_X15_least_86 p l e s m args below meth c Q A dC dI a ac (df_X15_least_86 n g8) r := by
  obtain ⟨hlt, hx, hb, hml, hown, hts, hN, hA, hK⟩ := id C
  intro x2 x5 x6 s0 H locs ls h hP hD hS hl
  unfold df_X15_least_86 at h
  refine lv_iload hx hb dX15_least_86 (lv_at hl 2 rfl) ?_
  refine lv_istore_n (lv' := [(3, .int x5), (0, .ref (a 0)), (2, .int x2), (5, .int x5), (6, .int x6)]) hx hb dX15_least_88 rfl hl (by decide) rfl (fun ls hl => ?_)
  exact (db_X15_least_89 C K J8) (x2) (x5) (x5) (x6) s0 _ _ _ h hP hD hS (lv_sub hl [1, 2, 0, 3, 4] rfl)
set_option maxHeartbeats 40000000 in
set_option maxRecDepth 100000 in
theorem dB_X15_least_8 {p : Program} {l : Launch} {e : Env} {s : State} {m : MethodId} {args : Array Value} {below : List Frame} {meth : Method} {c : Code} {Q : State → Prop} {A : Nat → Prop} {dC : Nat → ClassId} {dI : Nat → Nat → Nat} {a : Nat → Nat} {ac : Nat → ClassId} {n : Nat} {r : Int32 × (St × (St × (St)))} (C : nd_C p l s m args c A (dC, dI) cX15_least 7 RX15 ow_dm_X15_least (dk_X15 ac)) (K : nd_Ki p l e (headSpec ow_dm_X15_least ({ frames := 1, cells := 0, slots := 0, locals := 20 })).room s m args below meth c Q A (dC, dI) cX15_least .int (St × (St × (St))) (dw_X15 a ac) r) {g8 : Int32 → Int32 → Int32 → Int32 → (St × (St × (St))) → Option (Int32 × (St × (St × (St))))} (J8 : dj_X15_least_8 p l e s m args below meth c Q A dC dI a ac g8 r) : dj_X15_least_8 p l e s m args below meth c Q A dC dI a ac (dF_X15_least_8 n g8) r := by
  obtain ⟨hlt, hx, hb, hml, hown, hts, hN, hA, hK⟩ := id C
  intro x2 x3 x4 x5 s0 H locs ls h hP hD hS hl
  unfold dF_X15_least_8 at h
  refine lv_iload hx hb dX15_least_8 (lv_at hl 4 rfl) ?_
  refine lv_iload_n hx hb dX15_least_10 rfl (lv_at hl 1 rfl) ?_
  refine lv_icmp_ge (tgt := 109) hx hb dX15_least_11 (by decide) (fun c1 => ?_) (fun c1 => ?_)
  · have h := nd_pos h c1
    refine lv_iload_n hx hb dX15_least_109 rfl (lv_at hl 2 rfl) ?_
    exact K _ _ _ _ _ _ dX15_least_110 rfl (Option.some.inj h).symm hP hD hS
  · have h := nd_neg h c1
    refine lv_aload_n hx hb dX15_least_14 rfl (lv_at hl 0 rfl) ?_
    refine va_get (D := (dC, dI)) (ci := 16) (v := .ref (a 4)) (C := RX15) (T := TX15) (N := 28) hx hb hts hi_dm_X15_least_X15 hown hK hP 0 rfl rfl 5 (by decide) (hts (.fieldLink RX15 21 "TimeMachineModel$Conditions" "kind" "[I") (List.mem_of_getElem? (i := 1) rfl)) (fun _ h9 => h9) rfl dX15_least_15 ?_
    refine lv_iload hx hb dX15_least_18 (lv_at hl 4 rfl) ?_
    obtain ⟨i2, h⟩ := nd_ck_e h
    refine va_iald (i := x5) hx hb hK hP 4 3 rfl rfl i2 dX15_least_20 ?_
    refine lv_topi (fun z3 ez3 => ?_)
    have h := nd_at h ez3
    refine lv_istore (lv' := [(6, .int z3), (0, .ref (a 0)), (2, .int x2), (3, .int x3), (4, .int x4), (5, .int x5)]) hx hb dX15_least_21 hl (by decide) rfl (fun ls hl => ?_)
    refine lv_iload hx hb dX15_least_23 (lv_at hl 0 rfl) ?_
    refine lv_bipush (v := 30) hx hb dX15_least_25 (by decide) ?_
    refine lv_icmp_eq (tgt := 37) hx hb dX15_least_27 (by decide) (fun c4 => ?_) (fun c4 => ?_)
    · have h := nd_pos h c4
      exact (db_X15_least_37 C K J8) (x2) (x3) (x5) s0 _ _ _ h hP hD hS (lv_sub hl [1, 2, 3, 5] rfl)
    · have h := nd_neg h c4
      refine lv_iload hx hb dX15_least_30 (lv_at hl 0 rfl) ?_
      refine lv_bipush (v := 32) hx hb dX15_least_32 (by decide) ?_
      refine lv_icmp_ne (tgt := 52) hx hb dX15_least_34 (by decide) (fun c8 => ?_) (fun c8 => ?_)
      · have h := nd_neg h c8
        refine lv_iload hx hb dX15_least_52 (lv_at hl 4 rfl) ?_
        refine lv_if_eq (tgt := 89) hx hb dX15_least_54 (by decide) (fun c9 => ?_) (fun c9 => ?_)
        · have h := nd_pos h c9
          exact (db_X15_least_89 C K J8) (x2) (x3) (x5) (z3) s0 _ _ _ h hP hD hS (lv_sub hl [1, 2, 3, 5, 0] rfl)
        · have h := nd_neg h c9
          refine lv_iload hx hb dX15_least_57 (lv_at hl 0 rfl) ?_
          obtain ⟨q11, s12, hq, h⟩ := nd_b2_e h
          have hPc : va_P (dC, dI) vwCl (dw_P a ac ()) H := nd_p0
          have hDc : va_D A (dw_P a ac ()) := nd_d0
          have hKc : va_K (dC, dI) vwCl (dk_P ac) s := nd_y0 hK
          have hFc : ∀ q, va_A (dw_P a ac ()) H.size q → A q := nd_r0 hS hA
          refine nd_cSi (As := [.int z3]) (rest := []) (q := q11) (w' := dw_P a ac s12) ⟨hx, hb, hml, hown, hts⟩ (fun sz => dm_X15_isBetween l hlt dC dI a ac n (z3) () hq sz) (cwS 1 hts gi_dm_X15_least_0 rfl rfl rfl (by decide +kernel) ⟨Nat.le_of_ble_eq_true rfl, Nat.le_of_ble_eq_true rfl⟩) hPc hDc hKc hS hA hN rfl hl.1 rfl (Nat.le_of_ble_eq_true rfl) dX15_least_59 (fun H locs hP1 hD1 hk1 hS => ?_)
          have hP := nd_n0 hP hk1
          refine lv_if_eq (tgt := 89) hx hb dX15_least_62 (by decide) (fun c14 => ?_) (fun c14 => ?_)
          · have h := nd_pos h c14
            exact (db_X15_least_89 C K J8) (x2) (x3) (x5) (z3) s0 _ _ _ h hP hD hS (lv_sub hl [1, 2, 3, 5, 0] rfl)
          · have h := nd_neg h c14
            refine lv_iload_n hx hb dX15_least_65 rfl (lv_at hl 3 rfl) ?_
            refine lv_if_lt (tgt := 86) hx hb dX15_least_66 (by decide) (fun c15 => ?_) (fun c15 => ?_)
            · have h := nd_pos h c15
              exact (db_X15_least_86 C K J8) (x2) (x5) (z3) s0 _ _ _ h hP hD hS (lv_sub hl [1, 2, 5, 0] rfl)
            · have h := nd_neg h c15
              refine lv_iload hx hb dX15_least_69 (lv_at hl 0 rfl) ?_
              obtain ⟨q16, s17, hq, h⟩ := nd_b2_e h
              have hPc : va_P (dC, dI) vwCl (dw_P a ac ()) H := nd_p0
              have hDc : va_D A (dw_P a ac ()) := nd_d0
              have hKc : va_K (dC, dI) vwCl (dk_P ac) s := nd_y0 hK
              have hFc : ∀ q, va_A (dw_P a ac ()) H.size q → A q := nd_r0 hS hA
              refine nd_cSi (As := [.int z3]) (rest := []) (q := q16) (w' := dw_P a ac s17) ⟨hx, hb, hml, hown, hts⟩ (fun sz => dm_X15_rank l hlt dC dI a ac n (z3) () hq sz) (cwS 1 hts gi_dm_X15_least_1 rfl rfl rfl (by decide +kernel) ⟨Nat.le_of_ble_eq_true rfl, Nat.le_of_ble_eq_true rfl⟩) hPc hDc hKc hS hA hN rfl hl.1 rfl (Nat.le_of_ble_eq_true rfl) dX15_least_71 (fun H locs hP1 hD1 hk1 hS => ?_)
              have hP := nd_n0 hP hk1
              refine lv_aload_n hx hb dX15_least_74 rfl (lv_at hl 1 rfl) ?_
              refine va_get (D := (dC, dI)) (ci := 16) (v := .ref (a 4)) (C := RX15) (T := TX15) (N := 28) hx hb hts hi_dm_X15_least_X15 hown hK hP 0 rfl rfl 5 (by decide) (hts (.fieldLink RX15 21 "TimeMachineModel$Conditions" "kind" "[I") (List.mem_of_getElem? (i := 1) rfl)) (fun _ h9 => h9) rfl dX15_least_75 ?_
              refine lv_iload_n hx hb dX15_least_78 rfl (lv_at hl 3 rfl) ?_
              obtain ⟨i19, h⟩ := nd_ck_e h
              refine va_iald (i := x3) hx hb hK hP 4 3 rfl rfl i19 dX15_least_79 ?_
              obtain ⟨q20, s21, hq, h⟩ := nd_b2_e h
              have hPc : va_P (dC, dI) vwCl (dw_P a ac ()) H := nd_p0
              have hDc : va_D A (dw_P a ac ()) := nd_d0
              have hKc : va_K (dC, dI) vwCl (dk_P ac) s := nd_y0 hK
              have hFc : ∀ q, va_A (dw_P a ac ()) H.size q → A q := nd_r0 hS hA
              refine nd_cSi (As := [.int (sR s0.1 3 (Int32.toNatClampNeg x3))]) (rest := [.int q16]) (q := q20) (w' := dw_P a ac s21) ⟨hx, hb, hml, hown, hts⟩ (fun sz => dm_X15_rank l hlt dC dI a ac n ((sR s0.1 3 (Int32.toNatClampNeg x3))) () hq sz) (cwS 1 hts gi_dm_X15_least_1 rfl rfl rfl (by decide +kernel) ⟨Nat.le_of_ble_eq_true rfl, Nat.le_of_ble_eq_true rfl⟩) hPc hDc hKc hS hA hN rfl hl.1 rfl (Nat.le_of_ble_eq_true rfl) dX15_least_80 (fun H locs hP1 hD1 hk1 hS => ?_)
              have hP := nd_n0 hP hk1
              refine lv_icmp_gt (tgt := 89) hx hb dX15_least_83 (by decide) (fun c23 => ?_) (fun c23 => ?_)
              · have h := nd_pos h c23
                exact (db_X15_least_89 C K J8) (x2) (x3) (x5) (z3) s0 _ _ _ h hP hD hS (lv_sub hl [1, 2, 3, 5, 0] rfl)
              · have h := nd_neg h c23
                exact (db_X15_least_86 C K J8) (x2) (x5) (z3) s0 _ _ _ h hP hD hS (lv_sub hl [1, 2, 5, 0] rfl)
      · have h := nd_pos h c8
        exact (db_X15_least_37 C K J8) (x2) (x3) (x5) s0 _ _ _ h hP hD hS (lv_sub hl [1, 2, 3, 5] rfl)
set_option maxHeartbeats 40000000 in
set_option maxRecDepth 100000 in
theorem db_X15_least_8 {p : Program} {l : Launch} {e : Env} {s : State} {m : MethodId} {args : Array Value} {below : List Frame} {meth : Method} {c : Code} {Q : State → Prop} {A : Nat → Prop} {dC : Nat → ClassId} {dI : Nat → Nat → Nat} {a : Nat → Nat} {ac : Nat → ClassId} {n : Nat} {r : Int32 × (St × (St × (St)))} (C : nd_C p l s m args c A (dC, dI) cX15_least 7 RX15 ow_dm_X15_least (dk_X15 ac)) (K : nd_Ki p l e (headSpec ow_dm_X15_least ({ frames := 1, cells := 0, slots := 0, locals := 20 })).room s m args below meth c Q A (dC, dI) cX15_least .int (St × (St × (St))) (dw_X15 a ac) r) (k : Nat) : dj_X15_least_8 p l e s m args below meth c Q A dC dI a ac (df_X15_least_8 n k) r := by
  induction k with
  | zero => intro x2 x3 x4 x5 s0 H locs ls h; exact nomatch (show (none : Option (Int32 × (St × (St × (St))))) = some r from h)
  | succ k ih => exact dB_X15_least_8 C K ih
set_option maxHeartbeats 40000000 in
set_option maxRecDepth 100000 in
theorem db_X15_least_0 {p : Program} {l : Launch} {e : Env} {s : State} {m : MethodId} {args : Array Value} {below : List Frame} {meth : Method} {c : Code} {Q : State → Prop} {A : Nat → Prop} {dC : Nat → ClassId} {dI : Nat → Nat → Nat} {a : Nat → Nat} {ac : Nat → ClassId} {n : Nat} {r : Int32 × (St × (St × (St)))} (C : nd_C p l s m args c A (dC, dI) cX15_least 7 RX15 ow_dm_X15_least (dk_X15 ac)) (K : nd_Ki p l e (headSpec ow_dm_X15_least ({ frames := 1, cells := 0, slots := 0, locals := 20 })).room s m args below meth c Q A (dC, dI) cX15_least .int (St × (St × (St))) (dw_X15 a ac) r) : dj_X15_least_0 p l e s m args below meth c Q A dC dI a ac (df_X15_least_0 n) r := by
  obtain ⟨hlt, hx, hb, hml, hown, hts, hN, hA, hK⟩ := id C
  intro v0 v1 s0 H locs ls h hP hD hS hl
  unfold df_X15_least_0 at h
  refine lv_iconst (v := (-1)) hx hb dX15_least_0 (by decide) ?_
  refine lv_istore_n (lv' := [(3, .int (-1)), (0, .ref (a 0)), (1, .int v0), (2, .int v1)]) hx hb dX15_least_1 rfl hl (by decide) rfl (fun ls hl => ?_)
  refine lv_iconst (v := 0) hx hb dX15_least_2 (by decide) ?_
  refine lv_istore (lv' := [(4, .int 0), (3, .int (-1)), (0, .ref (a 0)), (1, .int v0), (2, .int v1)]) hx hb dX15_least_3 hl (by decide) rfl (fun ls hl => ?_)
  refine lv_iload_n hx hb dX15_least_5 rfl (lv_at hl 3 rfl) ?_
  refine lv_istore (lv' := [(5, .int v0), (4, .int 0), (3, .int (-1)), (0, .ref (a 0)), (1, .int v0), (2, .int v1)]) hx hb dX15_least_6 hl (by decide) rfl (fun ls hl => ?_)
  exact (db_X15_least_8 C K n) (v1) ((-1)) (0) (v0) s0 _ _ _ h hP hD hS (lv_sub hl [3, 5, 2, 1, 0] rfl)
set_option maxHeartbeats 40000000 in
set_option maxRecDepth 100000 in
theorem dm_X15_least (l : Launch) (hlt : l.stackTraces = false) (dC : Nat → ClassId) (dI : Nat → Nat → Nat) (a : Nat → Nat) (ac : Nat → ClassId) (n : Nat) (v0 : Int32) (v1 : Int32) (s0 : St × (St × (St))) {r : Int32 × (St × (St × (St)))} (h : df_X15_least n v0 v1 s0 = some r) (sz : Nat) : Met l yX15_least ow_dm_X15_least ({ frames := 1, cells := 0, slots := 0, locals := 20 }) (va_Pc [.ref (a 0), .int v0, .int v1] (fun U => U.heap.size = sz ∧ va_P (dC, dI) vwCl (dw_X15 a ac s0) U.heap ∧ va_K (dC, dI) vwCl (dk_X15 ac) U ∧ va_D (fun _ => True) (dw_X15 a ac s0) ∧ nv_E (va_A (dw_X15 a ac s0) sz) U)) (va_Qi (fun x _ => x = r.1) (fun (_ : Unit) t => va_P (dC, dI) vwCl (dw_X15 a ac r.2) t.heap ∧ va_K (dC, dI) vwCl (dk_X15 ac) t ∧ va_D (va_A (dw_X15 a ac s0) sz) (dw_X15 a ac r.2)) (va_A (dw_X15 a ac s0) sz)) 0 0 (va_A (dw_X15 a ac s0) sz) := by
  refine Met.ofW (cc := cX15_least) (maxL := 7) (ret := (some .int)) (by decide) rfl ?_
  intro p e s m args below meth c s₁ B hml hv
  obtain ⟨rfl, hsz, hP, hK, hD0, hN⟩ := hv
  have hx := B.exec
  have hb := B.bytes
  have hr := B.returns
  have hts := atoms_spec (ws := ow_dm_X15_least) B.pre
  have hown : s.vm.findClass RX15 = some m.cls := findClass_of_methodNamed B.named
  have hlocks := B.notSynchronized
  subst hsz
  have hD := hD0.self (sz := s.heap.size)
  generalize hAe : va_A (dw_X15 a ac s0) s.heap.size = A at hD hN ⊢
  have hA : ∀ q : Nat, s.heap.size ≤ q → A q := fun q h => by rw [← hAe]; exact Or.inr h
  have hl := lv_entry ([.ref (a 0), .int v0, .int v1]) (n := 7) (Nat.le_of_ble_eq_true rfl)
  rw [lg_entry_eq]
  generalize (lg_sl ([.ref (a 0), .int v0, .int v1]) ++ List.replicate (7 - (lg_sl ([.ref (a 0), .int v0, .int v1])).length) Slot.unset).toArray = ls at hl ⊢
  have hl : lv_has ls 7 [(0, .ref (a 0)), (1, .int v0), (2, .int v1)] := hl
  exact db_X15_least_0 (dC := dC) (dI := dI) (a := a) (ac := ac) (n := n) (r := r) ⟨hlt, hx, hb, hml, hown, hts, hN, hA, hK⟩ (fun pc v τ H locs ls d z er hP hD hS => by subst er; exact W.zret (v := v) hx hb hr z (fun t ht hW => ⟨⟨v, (), rfl, rfl, by rw [ht]; exact hP, va_K.moved hW.alike hK, hD⟩, hS.F ht⟩) hS.2.2 d) v0 v1 s0 _ _ _ h hP hD va_S.rf (lv_sub hl [0, 1, 2] rfl)
def ow_dm_X15_begin : List Cond := .code yX15_begin cX15_begin 3 none :: ([.fieldLink RX15 46 "TimeMachineModel$Conditions" "first" "[I", .fieldLink RX15 164 "TimeMachineModel$Conditions" "begun" "I", .fieldLink RX15 49 "TimeMachineModel$Conditions" "last" "[I", .fieldLink RX15 55 "TimeMachineModel$Conditions" "stage" "[I"] ++ (u_ws RX15 TX15 28 ++ []))
theorem gd_dm_X15_begin : ∀ w ∈ ow_dm_X15_begin, (w.onTables && w.keeps) = true ∨ ∃ ty, w = Cond.arrayClass ty := List.forall_mem_cons.mpr ⟨good_of_word rfl, List.forall_mem_append.mpr ⟨fun w h => good_of_word (List.all_eq_true.mp (by decide +kernel) w h), List.forall_mem_append.mpr ⟨gu_X15, fun _ h => nomatch h⟩⟩⟩
theorem hi_dm_X15_begin_X15 : ∀ w ∈ u_ws RX15 TX15 28, w ∈ ow_dm_X15_begin := fun w h => List.mem_cons_of_mem _ (List.mem_append_right _ (List.mem_append_left _ h))
def dj_X15_begin_0 (p : Program) (l : Launch) (e : Env) (s : State) (m : MethodId) (args : Array Value) (below : List Frame) (meth : Method) (c : Code) (Q : State → Prop) (A : Nat → Prop) (dC : Nat → ClassId) (dI : Nat → Nat → Nat) (a : Nat → Nat) (ac : Nat → ClassId) (g : Int32 → Int32 → (St × (St × (St))) → Option (St × (St × (St)))) (r : St × (St × (St))) : Prop := ∀ (v0 : Int32) (v1 : Int32) (s0 : St × (St × (St))) (H : Heap) (locs : List Loc) (ls : Array Slot), g v0 v1 s0 = some r → va_P (dC, dI) vwCl (dw_X15 a ac s0) H → va_D A (dw_X15 a ac s0) → va_S A s.heap H locs → lv_has ls 3 [(0, .ref (a 0)), (1, .int v0), (2, .int v1)] → W p l e (headSpec ow_dm_X15_begin ({ frames := 0, cells := 0, slots := 0, locals := 0 })).room s m args below meth c H locs 0 0 Q (F0 m 0 ls [])
set_option maxHeartbeats 40000000 in
set_option maxRecDepth 100000 in
theorem db_X15_begin_0 {p : Program} {l : Launch} {e : Env} {s : State} {m : MethodId} {args : Array Value} {below : List Frame} {meth : Method} {c : Code} {Q : State → Prop} {A : Nat → Prop} {dC : Nat → ClassId} {dI : Nat → Nat → Nat} {a : Nat → Nat} {ac : Nat → ClassId} {n : Nat} {r : St × (St × (St))} (C : nd_C p l s m args c A (dC, dI) cX15_begin 3 RX15 ow_dm_X15_begin (dk_X15 ac)) (K : nd_Kv p l e (headSpec ow_dm_X15_begin ({ frames := 0, cells := 0, slots := 0, locals := 0 })).room s m args below meth c Q A (dC, dI) cX15_begin (St × (St × (St))) (dw_X15 a ac) r) : dj_X15_begin_0 p l e s m args below meth c Q A dC dI a ac (df_X15_begin_0 n) r := by
  obtain ⟨hlt, hx, hb, hml, hown, hts, hN, hA, hK⟩ := id C
  intro v0 v1 s0 H locs ls h hP hD hS hl
  unfold df_X15_begin_0 at h
  refine lv_aload_n hx hb dX15_begin_0 rfl (lv_at hl 0 rfl) ?_
  refine va_get (D := (dC, dI)) (ci := 16) (v := .ref (a 12)) (C := RX15) (T := TX15) (N := 28) hx hb hts hi_dm_X15_begin_X15 hown hK hP 0 rfl rfl 23 (by decide) (hts (.fieldLink RX15 46 "TimeMachineModel$Conditions" "first" "[I") (List.mem_of_getElem? (i := 1) rfl)) (fun _ h9 => h9) rfl dX15_begin_1 ?_
  refine lv_aload_n hx hb dX15_begin_4 rfl (lv_at hl 0 rfl) ?_
  refine va_get (D := (dC, dI)) (ci := 16) (v := .int (sI s0.1 7)) (C := RX15) (T := TX15) (N := 28) hx hb hts hi_dm_X15_begin_X15 hown hK hP 0 rfl rfl 20 (by decide) (hts (.fieldLink RX15 164 "TimeMachineModel$Conditions" "begun" "I") (List.mem_of_getElem? (i := 2) rfl)) (fun _ h9 => h9) rfl dX15_begin_5 ?_
  refine lv_iload_n hx hb dX15_begin_8 rfl (lv_at hl 1 rfl) ?_
  obtain ⟨i1, h⟩ := nd_ck_e h
  refine va_iast (i := (sI s0.1 7)) (x := v0) hx hb hK hP hD hS 12 11 rfl rfl i1 dX15_begin_9 (fun H locs hP hD hS => ?_)
  obtain ⟨s2, es2, h⟩ := nd_let_e h
  have hP : va_P (dC, dI) vwCl (dw_X15 a ac s2) H := by rw [es2]; exact hP
  have hD : va_D A (dw_X15 a ac s2) := by rw [es2]; exact hD
  refine lv_aload_n hx hb dX15_begin_10 rfl (lv_at hl 0 rfl) ?_
  refine va_get (D := (dC, dI)) (ci := 16) (v := .ref (a 13)) (C := RX15) (T := TX15) (N := 28) hx hb hts hi_dm_X15_begin_X15 hown hK hP 0 rfl rfl 24 (by decide) (hts (.fieldLink RX15 49 "TimeMachineModel$Conditions" "last" "[I") (List.mem_of_getElem? (i := 3) rfl)) (fun _ h9 => h9) rfl dX15_begin_11 ?_
  refine lv_aload_n hx hb dX15_begin_14 rfl (lv_at hl 0 rfl) ?_
  refine va_get (D := (dC, dI)) (ci := 16) (v := .int (sI s2.1 7)) (C := RX15) (T := TX15) (N := 28) hx hb hts hi_dm_X15_begin_X15 hown hK hP 0 rfl rfl 20 (by decide) (hts (.fieldLink RX15 164 "TimeMachineModel$Conditions" "begun" "I") (List.mem_of_getElem? (i := 2) rfl)) (fun _ h9 => h9) rfl dX15_begin_15 ?_
  refine lv_iload_n hx hb dX15_begin_18 rfl (lv_at hl 2 rfl) ?_
  obtain ⟨i3, h⟩ := nd_ck_e h
  refine va_iast (i := (sI s2.1 7)) (x := v1) hx hb hK hP hD hS 13 12 rfl rfl i3 dX15_begin_19 (fun H locs hP hD hS => ?_)
  obtain ⟨s4, es4, h⟩ := nd_let_e h
  have hP : va_P (dC, dI) vwCl (dw_X15 a ac s4) H := by rw [es4]; exact hP
  have hD : va_D A (dw_X15 a ac s4) := by rw [es4]; exact hD
  refine lv_aload_n hx hb dX15_begin_20 rfl (lv_at hl 0 rfl) ?_
  refine va_get (D := (dC, dI)) (ci := 16) (v := .ref (a 15)) (C := RX15) (T := TX15) (N := 28) hx hb hts hi_dm_X15_begin_X15 hown hK hP 0 rfl rfl 26 (by decide) (hts (.fieldLink RX15 55 "TimeMachineModel$Conditions" "stage" "[I") (List.mem_of_getElem? (i := 4) rfl)) (fun _ h9 => h9) rfl dX15_begin_21 ?_
  refine lv_aload_n hx hb dX15_begin_24 rfl (lv_at hl 0 rfl) ?_
  refine va_get (D := (dC, dI)) (ci := 16) (v := .int (sI s4.1 7)) (C := RX15) (T := TX15) (N := 28) hx hb hts hi_dm_X15_begin_X15 hown hK hP 0 rfl rfl 20 (by decide) (hts (.fieldLink RX15 164 "TimeMachineModel$Conditions" "begun" "I") (List.mem_of_getElem? (i := 2) rfl)) (fun _ h9 => h9) rfl dX15_begin_25 ?_
  refine lv_iconst (v := 0) hx hb dX15_begin_28 (by decide) ?_
  obtain ⟨i5, h⟩ := nd_ck_e h
  refine va_iast (i := (sI s4.1 7)) (x := 0) hx hb hK hP hD hS 15 14 rfl rfl i5 dX15_begin_29 (fun H locs hP hD hS => ?_)
  obtain ⟨s6, es6, h⟩ := nd_let_e h
  have hP : va_P (dC, dI) vwCl (dw_X15 a ac s6) H := by rw [es6]; exact hP
  have hD : va_D A (dw_X15 a ac s6) := by rw [es6]; exact hD
  refine lv_aload_n hx hb dX15_begin_30 rfl (lv_at hl 0 rfl) ?_
  refine lv_dup hx hb dX15_begin_31 rfl ?_
  refine va_get (D := (dC, dI)) (ci := 16) (v := .int (sI s6.1 7)) (C := RX15) (T := TX15) (N := 28) hx hb hts hi_dm_X15_begin_X15 hown hK hP 0 rfl rfl 20 (by decide) (hts (.fieldLink RX15 164 "TimeMachineModel$Conditions" "begun" "I") (List.mem_of_getElem? (i := 2) rfl)) (fun _ h9 => h9) rfl dX15_begin_32 ?_
  refine lv_iconst (v := 1) hx hb dX15_begin_35 (by decide) ?_
  refine lv_iadd hx hb dX15_begin_36 ?_
  refine va_put (D := (dC, dI)) (ci := 16) (v := .int ((sI s6.1 7) + 1)) (ty := .int) (C := RX15) (T := TX15) (N := 28) hx hb hts hi_dm_X15_begin_X15 tyX15 tyX15_ok nmX15 hown hK hP hD hS 0 rfl rfl 20 (by decide) (hts (.fieldLink RX15 164 "TimeMachineModel$Conditions" "begun" "I") (List.mem_of_getElem? (i := 2) rfl)) (fun _ h9 => h9) rfl (by decide +kernel) rfl rfl (Nat.le_of_ble_eq_true rfl) dX15_begin_37 (fun H locs hP hD hS => ?_)
  obtain ⟨s7, es7, h⟩ := nd_let_e h
  have hP : va_P (dC, dI) vwCl (dw_X15 a ac s7) H := by rw [es7]; exact hP
  have hD : va_D A (dw_X15 a ac s7) := by rw [es7]; exact hD
  exact K _ _ _ _ _ dX15_begin_40 (Option.some.inj h).symm hP hD hS
set_option maxHeartbeats 40000000 in
set_option maxRecDepth 100000 in
theorem dm_X15_begin (l : Launch) (hlt : l.stackTraces = false) (dC : Nat → ClassId) (dI : Nat → Nat → Nat) (a : Nat → Nat) (ac : Nat → ClassId) (n : Nat) (v0 : Int32) (v1 : Int32) (s0 : St × (St × (St))) {r : St × (St × (St))} (h : df_X15_begin n v0 v1 s0 = some r) (sz : Nat) : Met l yX15_begin ow_dm_X15_begin ({ frames := 0, cells := 0, slots := 0, locals := 0 }) (va_Pc [.ref (a 0), .int v0, .int v1] (fun U => U.heap.size = sz ∧ va_P (dC, dI) vwCl (dw_X15 a ac s0) U.heap ∧ va_K (dC, dI) vwCl (dk_X15 ac) U ∧ va_D (fun _ => True) (dw_X15 a ac s0) ∧ nv_E (va_A (dw_X15 a ac s0) sz) U)) (va_Qv (fun _ => True) (fun (_ : Unit) t => va_P (dC, dI) vwCl (dw_X15 a ac r) t.heap ∧ va_K (dC, dI) vwCl (dk_X15 ac) t ∧ va_D (va_A (dw_X15 a ac s0) sz) (dw_X15 a ac r)) (va_A (dw_X15 a ac s0) sz)) 0 0 (va_A (dw_X15 a ac s0) sz) := by
  refine Met.ofW (cc := cX15_begin) (maxL := 3) (ret := none) (by decide) rfl ?_
  intro p e s m args below meth c s₁ B hml hv
  obtain ⟨rfl, hsz, hP, hK, hD0, hN⟩ := hv
  have hx := B.exec
  have hb := B.bytes
  have hr := B.returns
  have hts := atoms_spec (ws := ow_dm_X15_begin) B.pre
  have hown : s.vm.findClass RX15 = some m.cls := findClass_of_methodNamed B.named
  have hlocks := B.notSynchronized
  subst hsz
  have hD := hD0.self (sz := s.heap.size)
  generalize hAe : va_A (dw_X15 a ac s0) s.heap.size = A at hD hN ⊢
  have hA : ∀ q : Nat, s.heap.size ≤ q → A q := fun q h => by rw [← hAe]; exact Or.inr h
  have hl := lv_entry ([.ref (a 0), .int v0, .int v1]) (n := 3) (Nat.le_of_ble_eq_true rfl)
  rw [lg_entry_eq]
  generalize (lg_sl ([.ref (a 0), .int v0, .int v1]) ++ List.replicate (3 - (lg_sl ([.ref (a 0), .int v0, .int v1])).length) Slot.unset).toArray = ls at hl ⊢
  have hl : lv_has ls 3 [(0, .ref (a 0)), (1, .int v0), (2, .int v1)] := hl
  exact db_X15_begin_0 (dC := dC) (dI := dI) (a := a) (ac := ac) (n := n) (r := r) ⟨hlt, hx, hb, hml, hown, hts, hN, hA, hK⟩ (fun pc τ H locs ls d er hP hD hS => by subst er; exact W.vret hx hb hr (fun t ht hW => ⟨⟨(), rfl, trivial, by rw [ht]; exact hP, va_K.moved hW.alike hK, hD⟩, hS.F ht⟩) hS.2.2 d) v0 v1 s0 _ _ _ h hP hD va_S.rf (lv_sub hl [0, 1, 2] rfl)
def ow_dm_X15_give : List Cond := .code yX15_give cX15_give 3 none :: ([.fieldLink RX15 164 "TimeMachineModel$Conditions" "begun" "I", .fieldLink RX15 167 "TimeMachineModel$Conditions" "result" "J"] ++ (u_ws RX15 TX15 28 ++ []))
theorem gd_dm_X15_give : ∀ w ∈ ow_dm_X15_give, (w.onTables && w.keeps) = true ∨ ∃ ty, w = Cond.arrayClass ty := List.forall_mem_cons.mpr ⟨good_of_word rfl, List.forall_mem_append.mpr ⟨fun w h => good_of_word (List.all_eq_true.mp (by decide +kernel) w h), List.forall_mem_append.mpr ⟨gu_X15, fun _ h => nomatch h⟩⟩⟩
theorem hi_dm_X15_give_X15 : ∀ w ∈ u_ws RX15 TX15 28, w ∈ ow_dm_X15_give := fun w h => List.mem_cons_of_mem _ (List.mem_append_right _ (List.mem_append_left _ h))
def dj_X15_give_0 (p : Program) (l : Launch) (e : Env) (s : State) (m : MethodId) (args : Array Value) (below : List Frame) (meth : Method) (c : Code) (Q : State → Prop) (A : Nat → Prop) (dC : Nat → ClassId) (dI : Nat → Nat → Nat) (a : Nat → Nat) (ac : Nat → ClassId) (g : Int64 → (St × (St × (St))) → Option (St × (St × (St)))) (r : St × (St × (St))) : Prop := ∀ (v0 : Int64) (s0 : St × (St × (St))) (H : Heap) (locs : List Loc) (ls : Array Slot), g v0 s0 = some r → va_P (dC, dI) vwCl (dw_X15 a ac s0) H → va_D A (dw_X15 a ac s0) → va_S A s.heap H locs → lv_has ls 3 [(0, .ref (a 0)), (1, .long v0)] → W p l e (headSpec ow_dm_X15_give ({ frames := 0, cells := 0, slots := 0, locals := 0 })).room s m args below meth c H locs 0 0 Q (F0 m 0 ls [])
set_option maxHeartbeats 40000000 in
set_option maxRecDepth 100000 in
theorem db_X15_give_0 {p : Program} {l : Launch} {e : Env} {s : State} {m : MethodId} {args : Array Value} {below : List Frame} {meth : Method} {c : Code} {Q : State → Prop} {A : Nat → Prop} {dC : Nat → ClassId} {dI : Nat → Nat → Nat} {a : Nat → Nat} {ac : Nat → ClassId} {n : Nat} {r : St × (St × (St))} (C : nd_C p l s m args c A (dC, dI) cX15_give 3 RX15 ow_dm_X15_give (dk_X15 ac)) (K : nd_Kv p l e (headSpec ow_dm_X15_give ({ frames := 0, cells := 0, slots := 0, locals := 0 })).room s m args below meth c Q A (dC, dI) cX15_give (St × (St × (St))) (dw_X15 a ac) r) : dj_X15_give_0 p l e s m args below meth c Q A dC dI a ac (df_X15_give_0 n) r := by
  obtain ⟨hlt, hx, hb, hml, hown, hts, hN, hA, hK⟩ := id C
  intro v0 s0 H locs ls h hP hD hS hl
  unfold df_X15_give_0 at h
  refine lv_aload_n hx hb dX15_give_0 rfl (lv_at hl 0 rfl) ?_
  refine lv_dup hx hb dX15_give_1 rfl ?_
  refine va_get (D := (dC, dI)) (ci := 16) (v := .int (sI s0.1 7)) (C := RX15) (T := TX15) (N := 28) hx hb hts hi_dm_X15_give_X15 hown hK hP 0 rfl rfl 20 (by decide) (hts (.fieldLink RX15 164 "TimeMachineModel$Conditions" "begun" "I") (List.mem_of_getElem? (i := 1) rfl)) (fun _ h9 => h9) rfl dX15_give_2 ?_
  refine lv_iconst (v := 1) hx hb dX15_give_5 (by decide) ?_
  refine lv_isub hx hb dX15_give_6 ?_
  refine va_put (D := (dC, dI)) (ci := 16) (v := .int ((sI s0.1 7) - 1)) (ty := .int) (C := RX15) (T := TX15) (N := 28) hx hb hts hi_dm_X15_give_X15 tyX15 tyX15_ok nmX15 hown hK hP hD hS 0 rfl rfl 20 (by decide) (hts (.fieldLink RX15 164 "TimeMachineModel$Conditions" "begun" "I") (List.mem_of_getElem? (i := 1) rfl)) (fun _ h9 => h9) rfl (by decide +kernel) rfl rfl (Nat.le_of_ble_eq_true rfl) dX15_give_7 (fun H locs hP hD hS => ?_)
  obtain ⟨s1, es1, h⟩ := nd_let_e h
  have hP : va_P (dC, dI) vwCl (dw_X15 a ac s1) H := by rw [es1]; exact hP
  have hD : va_D A (dw_X15 a ac s1) := by rw [es1]; exact hD
  refine lv_aload_n hx hb dX15_give_10 rfl (lv_at hl 0 rfl) ?_
  refine lv_lload_n hx hb dX15_give_11 rfl (lv_at hl 1 rfl) ?_
  refine va_put (D := (dC, dI)) (ci := 16) (v := .long v0) (ty := .long) (C := RX15) (T := TX15) (N := 28) hx hb hts hi_dm_X15_give_X15 tyX15 tyX15_ok nmX15 hown hK hP hD hS 0 rfl rfl 22 (by decide) (hts (.fieldLink RX15 167 "TimeMachineModel$Conditions" "result" "J") (List.mem_of_getElem? (i := 2) rfl)) (fun _ h9 => h9) rfl (by decide +kernel) rfl rfl (Nat.le_of_ble_eq_true rfl) dX15_give_12 (fun H locs hP hD hS => ?_)
  obtain ⟨s2, es2, h⟩ := nd_let_e h
  have hP : va_P (dC, dI) vwCl (dw_X15 a ac s2) H := by rw [es2]; exact hP
  have hD : va_D A (dw_X15 a ac s2) := by rw [es2]; exact hD
  exact K _ _ _ _ _ dX15_give_15 (Option.some.inj h).symm hP hD hS
set_option maxHeartbeats 40000000 in
set_option maxRecDepth 100000 in
theorem dm_X15_give (l : Launch) (hlt : l.stackTraces = false) (dC : Nat → ClassId) (dI : Nat → Nat → Nat) (a : Nat → Nat) (ac : Nat → ClassId) (n : Nat) (v0 : Int64) (s0 : St × (St × (St))) {r : St × (St × (St))} (h : df_X15_give n v0 s0 = some r) (sz : Nat) : Met l yX15_give ow_dm_X15_give ({ frames := 0, cells := 0, slots := 0, locals := 0 }) (va_Pc [.ref (a 0), .long v0] (fun U => U.heap.size = sz ∧ va_P (dC, dI) vwCl (dw_X15 a ac s0) U.heap ∧ va_K (dC, dI) vwCl (dk_X15 ac) U ∧ va_D (fun _ => True) (dw_X15 a ac s0) ∧ nv_E (va_A (dw_X15 a ac s0) sz) U)) (va_Qv (fun _ => True) (fun (_ : Unit) t => va_P (dC, dI) vwCl (dw_X15 a ac r) t.heap ∧ va_K (dC, dI) vwCl (dk_X15 ac) t ∧ va_D (va_A (dw_X15 a ac s0) sz) (dw_X15 a ac r)) (va_A (dw_X15 a ac s0) sz)) 0 0 (va_A (dw_X15 a ac s0) sz) := by
  refine Met.ofW (cc := cX15_give) (maxL := 3) (ret := none) (by decide) rfl ?_
  intro p e s m args below meth c s₁ B hml hv
  obtain ⟨rfl, hsz, hP, hK, hD0, hN⟩ := hv
  have hx := B.exec
  have hb := B.bytes
  have hr := B.returns
  have hts := atoms_spec (ws := ow_dm_X15_give) B.pre
  have hown : s.vm.findClass RX15 = some m.cls := findClass_of_methodNamed B.named
  have hlocks := B.notSynchronized
  subst hsz
  have hD := hD0.self (sz := s.heap.size)
  generalize hAe : va_A (dw_X15 a ac s0) s.heap.size = A at hD hN ⊢
  have hA : ∀ q : Nat, s.heap.size ≤ q → A q := fun q h => by rw [← hAe]; exact Or.inr h
  have hl := lv_entry ([.ref (a 0), .long v0]) (n := 3) (Nat.le_of_ble_eq_true rfl)
  rw [lg_entry_eq]
  generalize (lg_sl ([.ref (a 0), .long v0]) ++ List.replicate (3 - (lg_sl ([.ref (a 0), .long v0])).length) Slot.unset).toArray = ls at hl ⊢
  have hl : lv_has ls 3 [(0, .ref (a 0)), (1, .long v0)] := hl
  exact db_X15_give_0 (dC := dC) (dI := dI) (a := a) (ac := ac) (n := n) (r := r) ⟨hlt, hx, hb, hml, hown, hts, hN, hA, hK⟩ (fun pc τ H locs ls d er hP hD hS => by subst er; exact W.vret hx hb hr (fun t ht hW => ⟨⟨(), rfl, trivial, by rw [ht]; exact hP, va_K.moved hW.alike hK, hD⟩, hS.F ht⟩) hS.2.2 d) v0 s0 _ _ _ h hP hD va_S.rf (lv_sub hl [0, 1] rfl)
def ow_dm_X15_fail : List Cond := .code yX15_fail cX15_fail 1 none :: ([.fieldLink RX15 170 "TimeMachineModel$Conditions" "failed" "Z", .fieldLink RX15 164 "TimeMachineModel$Conditions" "begun" "I", .fieldLink RX15 167 "TimeMachineModel$Conditions" "result" "J"] ++ (u_ws RX15 TX15 28 ++ []))
theorem gd_dm_X15_fail : ∀ w ∈ ow_dm_X15_fail, (w.onTables && w.keeps) = true ∨ ∃ ty, w = Cond.arrayClass ty := List.forall_mem_cons.mpr ⟨good_of_word rfl, List.forall_mem_append.mpr ⟨fun w h => good_of_word (List.all_eq_true.mp (by decide +kernel) w h), List.forall_mem_append.mpr ⟨gu_X15, fun _ h => nomatch h⟩⟩⟩
theorem hi_dm_X15_fail_X15 : ∀ w ∈ u_ws RX15 TX15 28, w ∈ ow_dm_X15_fail := fun w h => List.mem_cons_of_mem _ (List.mem_append_right _ (List.mem_append_left _ h))
def dj_X15_fail_0 (p : Program) (l : Launch) (e : Env) (s : State) (m : MethodId) (args : Array Value) (below : List Frame) (meth : Method) (c : Code) (Q : State → Prop) (A : Nat → Prop) (dC : Nat → ClassId) (dI : Nat → Nat → Nat) (a : Nat → Nat) (ac : Nat → ClassId) (g : (St × (St × (St))) → Option (St × (St × (St)))) (r : St × (St × (St))) : Prop := ∀ (s0 : St × (St × (St))) (H : Heap) (locs : List Loc) (ls : Array Slot), g s0 = some r → va_P (dC, dI) vwCl (dw_X15 a ac s0) H → va_D A (dw_X15 a ac s0) → va_S A s.heap H locs → lv_has ls 1 [(0, .ref (a 0))] → W p l e (headSpec ow_dm_X15_fail ({ frames := 0, cells := 0, slots := 0, locals := 0 })).room s m args below meth c H locs 0 0 Q (F0 m 0 ls [])
set_option maxHeartbeats 40000000 in
set_option maxRecDepth 100000 in
theorem db_X15_fail_0 {p : Program} {l : Launch} {e : Env} {s : State} {m : MethodId} {args : Array Value} {below : List Frame} {meth : Method} {c : Code} {Q : State → Prop} {A : Nat → Prop} {dC : Nat → ClassId} {dI : Nat → Nat → Nat} {a : Nat → Nat} {ac : Nat → ClassId} {n : Nat} {r : St × (St × (St))} (C : nd_C p l s m args c A (dC, dI) cX15_fail 1 RX15 ow_dm_X15_fail (dk_X15 ac)) (K : nd_Kv p l e (headSpec ow_dm_X15_fail ({ frames := 0, cells := 0, slots := 0, locals := 0 })).room s m args below meth c Q A (dC, dI) cX15_fail (St × (St × (St))) (dw_X15 a ac) r) : dj_X15_fail_0 p l e s m args below meth c Q A dC dI a ac (df_X15_fail_0 n) r := by
  obtain ⟨hlt, hx, hb, hml, hown, hts, hN, hA, hK⟩ := id C
  intro s0 H locs ls h hP hD hS hl
  unfold df_X15_fail_0 at h
  refine lv_aload_n hx hb dX15_fail_0 rfl (lv_at hl 0 rfl) ?_
  refine lv_iconst (v := 1) hx hb dX15_fail_1 (by decide) ?_
  refine va_put (D := (dC, dI)) (ci := 16) (v := .int 1) (ty := .boolean) (C := RX15) (T := TX15) (N := 28) hx hb hts hi_dm_X15_fail_X15 tyX15 tyX15_ok nmX15 hown hK hP hD hS 0 rfl rfl 21 (by decide) (hts (.fieldLink RX15 170 "TimeMachineModel$Conditions" "failed" "Z") (List.mem_of_getElem? (i := 1) rfl)) (fun _ h9 => h9) rfl (by decide +kernel) (by first | rfl | decide) rfl (Nat.le_of_ble_eq_true rfl) dX15_fail_2 (fun H locs hP hD hS => ?_)
  obtain ⟨s1, es1, h⟩ := nd_let_e h
  have hP : va_P (dC, dI) vwCl (dw_X15 a ac s1) H := by rw [es1]; exact hP
  have hD : va_D A (dw_X15 a ac s1) := by rw [es1]; exact hD
  refine lv_aload_n hx hb dX15_fail_5 rfl (lv_at hl 0 rfl) ?_
  refine lv_iconst (v := 0) hx hb dX15_fail_6 (by decide) ?_
  refine va_put (D := (dC, dI)) (ci := 16) (v := .int 0) (ty := .int) (C := RX15) (T := TX15) (N := 28) hx hb hts hi_dm_X15_fail_X15 tyX15 tyX15_ok nmX15 hown hK hP hD hS 0 rfl rfl 20 (by decide) (hts (.fieldLink RX15 164 "TimeMachineModel$Conditions" "begun" "I") (List.mem_of_getElem? (i := 2) rfl)) (fun _ h9 => h9) rfl (by decide +kernel) rfl rfl (Nat.le_of_ble_eq_true rfl) dX15_fail_7 (fun H locs hP hD hS => ?_)
  obtain ⟨s2, es2, h⟩ := nd_let_e h
  have hP : va_P (dC, dI) vwCl (dw_X15 a ac s2) H := by rw [es2]; exact hP
  have hD : va_D A (dw_X15 a ac s2) := by rw [es2]; exact hD
  refine lv_aload_n hx hb dX15_fail_10 rfl (lv_at hl 0 rfl) ?_
  refine lv_lconst (v := 0) hx hb dX15_fail_11 (by decide) ?_
  refine va_put (D := (dC, dI)) (ci := 16) (v := .long 0) (ty := .long) (C := RX15) (T := TX15) (N := 28) hx hb hts hi_dm_X15_fail_X15 tyX15 tyX15_ok nmX15 hown hK hP hD hS 0 rfl rfl 22 (by decide) (hts (.fieldLink RX15 167 "TimeMachineModel$Conditions" "result" "J") (List.mem_of_getElem? (i := 3) rfl)) (fun _ h9 => h9) rfl (by decide +kernel) rfl rfl (Nat.le_of_ble_eq_true rfl) dX15_fail_12 (fun H locs hP hD hS => ?_)
  obtain ⟨s3, es3, h⟩ := nd_let_e h
  have hP : va_P (dC, dI) vwCl (dw_X15 a ac s3) H := by rw [es3]; exact hP
  have hD : va_D A (dw_X15 a ac s3) := by rw [es3]; exact hD
  exact K _ _ _ _ _ dX15_fail_15 (Option.some.inj h).symm hP hD hS
set_option maxHeartbeats 40000000 in
set_option maxRecDepth 100000 in
theorem dm_X15_fail (l : Launch) (hlt : l.stackTraces = false) (dC : Nat → ClassId) (dI : Nat → Nat → Nat) (a : Nat → Nat) (ac : Nat → ClassId) (n : Nat) (s0 : St × (St × (St))) {r : St × (St × (St))} (h : df_X15_fail n s0 = some r) (sz : Nat) : Met l yX15_fail ow_dm_X15_fail ({ frames := 0, cells := 0, slots := 0, locals := 0 }) (va_Pc [.ref (a 0)] (fun U => U.heap.size = sz ∧ va_P (dC, dI) vwCl (dw_X15 a ac s0) U.heap ∧ va_K (dC, dI) vwCl (dk_X15 ac) U ∧ va_D (fun _ => True) (dw_X15 a ac s0) ∧ nv_E (va_A (dw_X15 a ac s0) sz) U)) (va_Qv (fun _ => True) (fun (_ : Unit) t => va_P (dC, dI) vwCl (dw_X15 a ac r) t.heap ∧ va_K (dC, dI) vwCl (dk_X15 ac) t ∧ va_D (va_A (dw_X15 a ac s0) sz) (dw_X15 a ac r)) (va_A (dw_X15 a ac s0) sz)) 0 0 (va_A (dw_X15 a ac s0) sz) := by
  refine Met.ofW (cc := cX15_fail) (maxL := 1) (ret := none) (by decide) rfl ?_
  intro p e s m args below meth c s₁ B hml hv
  obtain ⟨rfl, hsz, hP, hK, hD0, hN⟩ := hv
  have hx := B.exec
  have hb := B.bytes
  have hr := B.returns
  have hts := atoms_spec (ws := ow_dm_X15_fail) B.pre
  have hown : s.vm.findClass RX15 = some m.cls := findClass_of_methodNamed B.named
  have hlocks := B.notSynchronized
  subst hsz
  have hD := hD0.self (sz := s.heap.size)
  generalize hAe : va_A (dw_X15 a ac s0) s.heap.size = A at hD hN ⊢
  have hA : ∀ q : Nat, s.heap.size ≤ q → A q := fun q h => by rw [← hAe]; exact Or.inr h
  have hl := lv_entry ([.ref (a 0)]) (n := 1) (Nat.le_of_ble_eq_true rfl)
  rw [lg_entry_eq]
  generalize (lg_sl ([.ref (a 0)]) ++ List.replicate (1 - (lg_sl ([.ref (a 0)])).length) Slot.unset).toArray = ls at hl ⊢
  have hl : lv_has ls 1 [(0, .ref (a 0))] := hl
  exact db_X15_fail_0 (dC := dC) (dI := dI) (a := a) (ac := ac) (n := n) (r := r) ⟨hlt, hx, hb, hml, hown, hts, hN, hA, hK⟩ (fun pc τ H locs ls d er hP hD hS => by subst er; exact W.vret hx hb hr (fun t ht hW => ⟨⟨(), rfl, trivial, by rw [ht]; exact hP, va_K.moved hW.alike hK, hD⟩, hS.F ht⟩) hS.2.2 d) s0 _ _ _ h hP hD va_S.rf (lv_sub hl [0] rfl)
def ow_dm_X15_access : List Cond := .code yX15_access cX15_access 7 none :: ([.fieldLink RX15 61 "TimeMachineModel$Conditions" "m" "LTimeMachineModel$Machine;", .methodLink RX15 224 yX16_has, .instanceMethod yX16_has, .selects RX16 yX16_has yX16_has, .initialized RX16, .methodLink RX15 191 yX15_give, .instanceMethod yX15_give, .selects RX15 yX15_give yX15_give, .initialized RX15, .methodLink RX15 228 yX16_cell, .instanceMethod yX16_cell, .selects RX16 yX16_cell yX16_cell, .methodLink RX15 217 yX15_fail, .instanceMethod yX15_fail, .selects RX15 yX15_fail yX15_fail] ++ (u_ws RX15 TX15 28 ++ (ow_dm_X16_has ++ (ow_dm_X15_give ++ (ow_dm_X16_cell ++ (ow_dm_X15_fail ++ []))))))
theorem gd_dm_X15_access : ∀ w ∈ ow_dm_X15_access, (w.onTables && w.keeps) = true ∨ ∃ ty, w = Cond.arrayClass ty := List.forall_mem_cons.mpr ⟨good_of_word rfl, List.forall_mem_append.mpr ⟨fun w h => good_of_word (List.all_eq_true.mp (by decide +kernel) w h), List.forall_mem_append.mpr ⟨gu_X15, List.forall_mem_append.mpr ⟨gd_dm_X16_has, List.forall_mem_append.mpr ⟨gd_dm_X15_give, List.forall_mem_append.mpr ⟨gd_dm_X16_cell, List.forall_mem_append.mpr ⟨gd_dm_X15_fail, fun _ h => nomatch h⟩⟩⟩⟩⟩⟩⟩
theorem hi_dm_X15_access_X15 : ∀ w ∈ u_ws RX15 TX15 28, w ∈ ow_dm_X15_access := fun w h => List.mem_cons_of_mem _ (List.mem_append_right _ (List.mem_append_left _ h))
theorem gi_dm_X15_access_0 : GoodIn ow_dm_X15_access (wsV RX15 224 RX16 yX16_has ow_dm_X16_has) := goodIn_app (goodIn_of _ (by decide +kernel)) (fun w h => ⟨List.mem_cons_of_mem _ (List.mem_append_right _ (List.mem_append_right _ (List.mem_append_left _ h))), gd_dm_X16_has w h⟩)
theorem gi_dm_X15_access_1 : GoodIn ow_dm_X15_access (wsV RX15 191 RX15 yX15_give ow_dm_X15_give) := goodIn_app (goodIn_of _ (by decide +kernel)) (fun w h => ⟨List.mem_cons_of_mem _ (List.mem_append_right _ (List.mem_append_right _ (List.mem_append_right _ (List.mem_append_left _ h)))), gd_dm_X15_give w h⟩)
theorem gi_dm_X15_access_2 : GoodIn ow_dm_X15_access (wsV RX15 228 RX16 yX16_cell ow_dm_X16_cell) := goodIn_app (goodIn_of _ (by decide +kernel)) (fun w h => ⟨List.mem_cons_of_mem _ (List.mem_append_right _ (List.mem_append_right _ (List.mem_append_right _ (List.mem_append_right _ (List.mem_append_left _ h))))), gd_dm_X16_cell w h⟩)
theorem gi_dm_X15_access_3 : GoodIn ow_dm_X15_access (wsV RX15 217 RX15 yX15_fail ow_dm_X15_fail) := goodIn_app (goodIn_of _ (by decide +kernel)) (fun w h => ⟨List.mem_cons_of_mem _ (List.mem_append_right _ (List.mem_append_right _ (List.mem_append_right _ (List.mem_append_right _ (List.mem_append_right _ (List.mem_append_left _ h)))))), gd_dm_X15_fail w h⟩)
def dj_X15_access_105 (p : Program) (l : Launch) (e : Env) (s : State) (m : MethodId) (args : Array Value) (below : List Frame) (meth : Method) (c : Code) (Q : State → Prop) (A : Nat → Prop) (dC : Nat → ClassId) (dI : Nat → Nat → Nat) (a : Nat → Nat) (ac : Nat → ClassId) (g : Int64 → (St × (St × (St))) → Option (St × (St × (St)))) (r : St × (St × (St))) : Prop := ∀ (y1 : Int64) (s0 : St × (St × (St))) (H : Heap) (locs : List Loc) (ls : Array Slot), g y1 s0 = some r → va_P (dC, dI) vwCl (dw_X15 a ac s0) H → va_D A (dw_X15 a ac s0) → va_S A s.heap H locs → lv_has ls 7 [] → W p l e (headSpec ow_dm_X15_access ({ frames := 3, cells := 0, slots := 0, locals := 65 })).room s m args below meth c H locs 0 0 Q (F0 m 105 ls [.long y1, .ref (a 0)])
def dj_X15_access_47 (p : Program) (l : Launch) (e : Env) (s : State) (m : MethodId) (args : Array Value) (below : List Frame) (meth : Method) (c : Code) (Q : State → Prop) (A : Nat → Prop) (dC : Nat → ClassId) (dI : Nat → Nat → Nat) (a : Nat → Nat) (ac : Nat → ClassId) (g : Int64 → Int32 → Int32 → Int32 → (St × (St × (St))) → Option (St × (St × (St)))) (r : St × (St × (St))) : Prop := ∀ (x2 : Int64) (x4 : Int32) (x5 : Int32) (x6 : Int32) (s0 : St × (St × (St))) (H : Heap) (locs : List Loc) (ls : Array Slot), g x2 x4 x5 x6 s0 = some r → va_P (dC, dI) vwCl (dw_X15 a ac s0) H → va_D A (dw_X15 a ac s0) → va_S A s.heap H locs → lv_has ls 7 [(0, .ref (a 0)), (2, .long x2), (4, .int x4), (5, .int x5), (6, .int x6)] → W p l e (headSpec ow_dm_X15_access ({ frames := 3, cells := 0, slots := 0, locals := 65 })).room s m args below meth c H locs 0 0 Q (F0 m 47 ls [])
def dj_X15_access_21 (p : Program) (l : Launch) (e : Env) (s : State) (m : MethodId) (args : Array Value) (below : List Frame) (meth : Method) (c : Code) (Q : State → Prop) (A : Nat → Prop) (dC : Nat → ClassId) (dI : Nat → Nat → Nat) (a : Nat → Nat) (ac : Nat → ClassId) (g : Int64 → Int32 → (St × (St × (St))) → Option (St × (St × (St)))) (r : St × (St × (St))) : Prop := ∀ (x2 : Int64) (y0 : Int32) (s0 : St × (St × (St))) (H : Heap) (locs : List Loc) (ls : Array Slot), g x2 y0 s0 = some r → va_P (dC, dI) vwCl (dw_X15 a ac s0) H → va_D A (dw_X15 a ac s0) → va_S A s.heap H locs → lv_has ls 7 [(0, .ref (a 0)), (2, .long x2)] → W p l e (headSpec ow_dm_X15_access ({ frames := 3, cells := 0, slots := 0, locals := 65 })).room s m args below meth c H locs 0 0 Q (F0 m 21 ls [.int y0])
def dj_X15_access_0 (p : Program) (l : Launch) (e : Env) (s : State) (m : MethodId) (args : Array Value) (below : List Frame) (meth : Method) (c : Code) (Q : State → Prop) (A : Nat → Prop) (dC : Nat → ClassId) (dI : Nat → Nat → Nat) (a : Nat → Nat) (ac : Nat → ClassId) (g : Int32 → Int64 → (St × (St × (St))) → Option (St × (St × (St)))) (r : St × (St × (St))) : Prop := ∀ (v0 : Int32) (v1 : Int64) (s0 : St × (St × (St))) (H : Heap) (locs : List Loc) (ls : Array Slot), g v0 v1 s0 = some r → va_P (dC, dI) vwCl (dw_X15 a ac s0) H → va_D A (dw_X15 a ac s0) → va_S A s.heap H locs → lv_has ls 7 [(0, .ref (a 0)), (1, .int v0), (2, .long v1)] → W p l e (headSpec ow_dm_X15_access ({ frames := 3, cells := 0, slots := 0, locals := 65 })).room s m args below meth c H locs 0 0 Q (F0 m 0 ls [])
set_option maxHeartbeats 40000000 in
set_option maxRecDepth 100000 in
theorem db_X15_access_105 {p : Program} {l : Launch} {e : Env} {s : State} {m : MethodId} {args : Array Value} {below : List Frame} {meth : Method} {c : Code} {Q : State → Prop} {A : Nat → Prop} {dC : Nat → ClassId} {dI : Nat → Nat → Nat} {a : Nat → Nat} {ac : Nat → ClassId} {n : Nat} {r : St × (St × (St))} (C : nd_C p l s m args c A (dC, dI) cX15_access 7 RX15 ow_dm_X15_access (dk_X15 ac)) (K : nd_Kv p l e (headSpec ow_dm_X15_access ({ frames := 3, cells := 0, slots := 0, locals := 65 })).room s m args below meth c Q A (dC, dI) cX15_access (St × (St × (St))) (dw_X15 a ac) r) : dj_X15_access_105 p l e s m args below meth c Q A dC dI a ac (df_X15_access_105 n) r := by
  obtain ⟨hlt, hx, hb, hml, hown, hts, hN, hA, hK⟩ := id C
  intro y1 s0 H locs ls h hP hD hS hl
  unfold df_X15_access_105 at h
  obtain ⟨s11, hq, h⟩ := nd_b1_e h
  have hPc := hP
  have hDc := hD
  have hKc := hK
  have hFc := nd_rs hD hS hA
  refine nd_cVv (As := [.long y1]) (rest := []) (w' := dw_X15 a ac s11) ⟨hx, hb, hml, hown, hts⟩ (fun sz => dm_X15_give l hlt dC dI a ac n (y1) s0 hq sz) (cwV 1 hts gi_dm_X15_access_1 rfl rfl rfl (by decide +kernel) ⟨Nat.le_of_ble_eq_true rfl, Nat.le_of_ble_eq_true rfl⟩) hPc hDc hKc hS hA hN (va_recv hKc hPc (ci := 16) (q0 := 0) rfl rfl) rfl hl.1 rfl (Nat.le_of_ble_eq_true rfl) dX15_access_105 (fun H locs hP1 hD1 hk1 hS => ?_)
  have hP := hP1
  have hD := hD1.weaken (fun k q _ h => hFc q.1 h)
  exact K _ _ _ _ _ dX15_access_108 (Option.some.inj h).symm hP hD hS
set_option maxHeartbeats 40000000 in
set_option maxRecDepth 100000 in
theorem dB_X15_access_47 {p : Program} {l : Launch} {e : Env} {s : State} {m : MethodId} {args : Array Value} {below : List Frame} {meth : Method} {c : Code} {Q : State → Prop} {A : Nat → Prop} {dC : Nat → ClassId} {dI : Nat → Nat → Nat} {a : Nat → Nat} {ac : Nat → ClassId} {n : Nat} {r : St × (St × (St))} (C : nd_C p l s m args c A (dC, dI) cX15_access 7 RX15 ow_dm_X15_access (dk_X15 ac)) (K : nd_Kv p l e (headSpec ow_dm_X15_access ({ frames := 3, cells := 0, slots := 0, locals := 65 })).room s m args below meth c Q A (dC, dI) cX15_access (St × (St × (St))) (dw_X15 a ac) r) {g47 : Int64 → Int32 → Int32 → Int32 → (St × (St × (St))) → Option (St × (St × (St)))} (J47 : dj_X15_access_47 p l e s m args below meth c Q A dC dI a ac g47 r) : dj_X15_access_47 p l e s m args below meth c Q A dC dI a ac (dF_X15_access_47 n g47) r := by
  obtain ⟨hlt, hx, hb, hml, hown, hts, hN, hA, hK⟩ := id C
  intro x2 x4 x5 x6 s0 H locs ls h hP hD hS hl
  unfold dF_X15_access_47 at h
  refine lv_iload hx hb dX15_access_47 (lv_at hl 4 rfl) ?_
  refine lv_iload hx hb dX15_access_49 (lv_at hl 2 rfl) ?_
  refine lv_icmp_ge (tgt := 83) hx hb dX15_access_51 (by decide) (fun c8 => ?_) (fun c8 => ?_)
  · have h := nd_pos h c8
    refine lv_aload_n hx hb dX15_access_83 rfl (lv_at hl 0 rfl) ?_
    refine lv_iload hx hb dX15_access_84 (lv_at hl 2 rfl) ?_
    refine lv_iconst (v := 2) hx hb dX15_access_86 (by decide) ?_
    refine lv_icmp_ne (tgt := 102) hx hb dX15_access_87 (by decide) (fun c9 => ?_) (fun c9 => ?_)
    · have h := nd_neg h c9
      refine lv_iload hx hb dX15_access_102 (lv_at hl 3 rfl) ?_
      refine lv_i2l hx hb dX15_access_104 rfl ?_
      exact (db_X15_access_105 C K) ((x5.toInt64)) s0 _ _ _ h hP hD hS (lv_sub hl [] rfl)
    · have h := nd_pos h c9
      refine lv_iload hx hb dX15_access_90 (lv_at hl 3 rfl) ?_
      refine lv_bipush (v := 16) hx hb dX15_access_92 (by decide) ?_
      refine lv_ishl hx hb dX15_access_94 ?_
      refine lv_bipush (v := 16) hx hb dX15_access_95 (by decide) ?_
      refine lv_ishr hx hb dX15_access_97 ?_
      refine lv_i2l hx hb dX15_access_98 rfl ?_
      refine lv_goto (tgt := 105) hx hb dX15_access_99 (by decide) ?_
      exact (db_X15_access_105 C K) (((((((x5 : Int32) <<< ((16 : Int32) &&& 31)) : Int32) >>> ((16 : Int32) &&& 31)) : Int32).toInt64)) s0 _ _ _ h hP hD hS (lv_sub hl [] rfl)
  · have h := nd_neg h c8
    refine lv_iload hx hb dX15_access_54 (lv_at hl 3 rfl) ?_
    refine lv_aload_n hx hb dX15_access_56 rfl (lv_at hl 0 rfl) ?_
    refine va_get (D := (dC, dI)) (ci := 16) (v := .ref (a 17)) (C := RX15) (T := TX15) (N := 28) hx hb hts hi_dm_X15_access_X15 hown hK hP 0 rfl rfl 0 (by decide) (hts (.fieldLink RX15 61 "TimeMachineModel$Conditions" "m" "LTimeMachineModel$Machine;") (List.mem_of_getElem? (i := 1) rfl)) (fun _ h9 => h9) rfl dX15_access_57 ?_
    refine lv_lload_n hx hb dX15_access_60 rfl (lv_at hl 1 rfl) ?_
    refine lv_l2i hx hb dX15_access_61 rfl ?_
    refine lv_iload hx hb dX15_access_62 (lv_at hl 4 rfl) ?_
    refine lv_iadd hx hb dX15_access_64 ?_
    obtain ⟨q13, s14, hq, h⟩ := nd_b2_e h
    have hPc := dp_X15_17 hP
    have hDc := dd_X15_17 hD
    have hKc := dy_X15_17 hK
    have hFc := nd_rs hDc hS hA
    have hzA : ∀ q : Nat, H.size ≤ q → A q := fun q h => hA q (Nat.le_trans hS.1 h)
    refine nd_cVi (As := [.int ((x2.toInt32) + x6)]) (rest := [.int x5]) (q := q13) (w' := dw_X16 (fun k => a (k + 17)) (fun k => ac (k + 17)) s14) ⟨hx, hb, hml, hown, hts⟩ (fun sz => dm_X16_cell l hlt dC dI (fun k => a (k + 17)) (fun k => ac (k + 17)) n (((x2.toInt32) + x6)) s0.2 hq sz) (cwV 1 hts gi_dm_X15_access_2 rfl rfl rfl (by decide +kernel) ⟨Nat.le_of_ble_eq_true rfl, Nat.le_of_ble_eq_true rfl⟩) hPc hDc hKc hS hA hN (va_recv hKc hPc (ci := 17) (q0 := 0) rfl rfl) rfl hl.1 rfl (Nat.le_of_ble_eq_true rfl) dX15_access_65 (fun H locs hP1 hD1 hk1 hS => ?_)
    obtain ⟨hP, hD⟩ := dn_X15_17 hP hD hzA hk1 hP1 hD1
    obtain ⟨s16, es16, h⟩ := nd_let_e h
    have hP : va_P (dC, dI) vwCl (dw_X15 a ac s16) H := by rw [es16]; exact hP
    have hD : va_D A (dw_X15 a ac s16) := by rw [es16]; exact hD
    refine lv_bipush (v := 8) hx hb dX15_access_68 (by decide) ?_
    refine lv_iload hx hb dX15_access_70 (lv_at hl 4 rfl) ?_
    refine lv_imul hx hb dX15_access_72 ?_
    refine lv_ishl hx hb dX15_access_73 ?_
    refine lv_ior hx hb dX15_access_74 ?_
    refine lv_topi (fun z17 ez17 => ?_)
    have h := nd_at h ez17
    refine lv_istore (lv' := [(5, .int z17), (0, .ref (a 0)), (2, .long x2), (4, .int x4), (6, .int x6)]) hx hb dX15_access_75 hl (by decide) rfl (fun ls hl => ?_)
    obtain ⟨z18, ez18, h⟩ := nd_let_e h
    refine lv_iinc (v := z18) (lv' := [(6, .int z18), (5, .int z17), (0, .ref (a 0)), (2, .long x2), (4, .int x4)]) hx hb dX15_access_77 hl (k := 4) rfl (by rw [ez18]) (by decide) rfl (fun ls hl => ?_)
    refine lv_goto (tgt := 47) hx hb dX15_access_80 (by decide) ?_
    exact (J47) (x2) (x4) (z17) (z18) s16 _ _ _ h hP hD hS (lv_sub hl [2, 3, 4, 1, 0] rfl)
set_option maxHeartbeats 40000000 in
set_option maxRecDepth 100000 in
theorem db_X15_access_47 {p : Program} {l : Launch} {e : Env} {s : State} {m : MethodId} {args : Array Value} {below : List Frame} {meth : Method} {c : Code} {Q : State → Prop} {A : Nat → Prop} {dC : Nat → ClassId} {dI : Nat → Nat → Nat} {a : Nat → Nat} {ac : Nat → ClassId} {n : Nat} {r : St × (St × (St))} (C : nd_C p l s m args c A (dC, dI) cX15_access 7 RX15 ow_dm_X15_access (dk_X15 ac)) (K : nd_Kv p l e (headSpec ow_dm_X15_access ({ frames := 3, cells := 0, slots := 0, locals := 65 })).room s m args below meth c Q A (dC, dI) cX15_access (St × (St × (St))) (dw_X15 a ac) r) (k : Nat) : dj_X15_access_47 p l e s m args below meth c Q A dC dI a ac (df_X15_access_47 n k) r := by
  induction k with
  | zero => intro x2 x4 x5 x6 s0 H locs ls h; exact nomatch (show (none : Option (St × (St × (St)))) = some r from h)
  | succ k ih => exact dB_X15_access_47 C K ih
set_option maxHeartbeats 40000000 in
set_option maxRecDepth 100000 in
theorem db_X15_access_21 {p : Program} {l : Launch} {e : Env} {s : State} {m : MethodId} {args : Array Value} {below : List Frame} {meth : Method} {c : Code} {Q : State → Prop} {A : Nat → Prop} {dC : Nat → ClassId} {dI : Nat → Nat → Nat} {a : Nat → Nat} {ac : Nat → ClassId} {n : Nat} {r : St × (St × (St))} (C : nd_C p l s m args c A (dC, dI) cX15_access 7 RX15 ow_dm_X15_access (dk_X15 ac)) (K : nd_Kv p l e (headSpec ow_dm_X15_access ({ frames := 3, cells := 0, slots := 0, locals := 65 })).room s m args below meth c Q A (dC, dI) cX15_access (St × (St × (St))) (dw_X15 a ac) r) : dj_X15_access_21 p l e s m args below meth c Q A dC dI a ac (df_X15_access_21 n) r := by
  obtain ⟨hlt, hx, hb, hml, hown, hts, hN, hA, hK⟩ := id C
  intro x2 y0 s0 H locs ls h hP hD hS hl
  unfold df_X15_access_21 at h
  refine lv_istore (lv' := [(4, .int y0), (0, .ref (a 0)), (2, .long x2)]) hx hb dX15_access_21 hl (by decide) rfl (fun ls hl => ?_)
  refine lv_aload_n hx hb dX15_access_23 rfl (lv_at hl 1 rfl) ?_
  refine va_get (D := (dC, dI)) (ci := 16) (v := .ref (a 17)) (C := RX15) (T := TX15) (N := 28) hx hb hts hi_dm_X15_access_X15 hown hK hP 0 rfl rfl 0 (by decide) (hts (.fieldLink RX15 61 "TimeMachineModel$Conditions" "m" "LTimeMachineModel$Machine;") (List.mem_of_getElem? (i := 1) rfl)) (fun _ h9 => h9) rfl dX15_access_24 ?_
  refine lv_lload_n hx hb dX15_access_27 rfl (lv_at hl 2 rfl) ?_
  refine lv_iload hx hb dX15_access_28 (lv_at hl 0 rfl) ?_
  obtain ⟨q3, s4, hq, h⟩ := nd_b2_e h
  have hPc := dp_X15_17 hP
  have hDc := dd_X15_17 hD
  have hKc := dy_X15_17 hK
  have hFc := nd_rs hDc hS hA
  have hzA : ∀ q : Nat, H.size ≤ q → A q := fun q h => hA q (Nat.le_trans hS.1 h)
  refine nd_cVi (As := [.long x2, .int y0]) (rest := []) (q := q3) (w' := dw_X16 (fun k => a (k + 17)) (fun k => ac (k + 17)) s4) ⟨hx, hb, hml, hown, hts⟩ (fun sz => dm_X16_has l hlt dC dI (fun k => a (k + 17)) (fun k => ac (k + 17)) n (x2) (y0) s0.2 hq sz) (cwV 2 hts gi_dm_X15_access_0 rfl rfl rfl (by decide +kernel) ⟨Nat.le_of_ble_eq_true rfl, Nat.le_of_ble_eq_true rfl⟩) hPc hDc hKc hS hA hN (va_recv hKc hPc (ci := 17) (q0 := 0) rfl rfl) rfl hl.1 rfl (Nat.le_of_ble_eq_true rfl) dX15_access_30 (fun H locs hP1 hD1 hk1 hS => ?_)
  obtain ⟨hP, hD⟩ := dn_X15_17 hP hD hzA hk1 hP1 hD1
  obtain ⟨s6, es6, h⟩ := nd_let_e h
  have hP : va_P (dC, dI) vwCl (dw_X15 a ac s6) H := by rw [es6]; exact hP
  have hD : va_D A (dw_X15 a ac s6) := by rw [es6]; exact hD
  refine lv_if_ne (tgt := 41) hx hb dX15_access_33 (by decide) (fun c7 => ?_) (fun c7 => ?_)
  · have h := nd_neg h c7
    refine lv_iconst (v := 0) hx hb dX15_access_41 (by decide) ?_
    refine lv_istore (lv' := [(5, .int 0), (4, .int y0), (0, .ref (a 0)), (2, .long x2)]) hx hb dX15_access_42 hl (by decide) rfl (fun ls hl => ?_)
    refine lv_iconst (v := 0) hx hb dX15_access_44 (by decide) ?_
    refine lv_istore (lv' := [(6, .int 0), (5, .int 0), (4, .int y0), (0, .ref (a 0)), (2, .long x2)]) hx hb dX15_access_45 hl (by decide) rfl (fun ls hl => ?_)
    exact (db_X15_access_47 C K n) (x2) (y0) (0) (0) s6 _ _ _ h hP hD hS (lv_sub hl [3, 4, 2, 1, 0] rfl)
  · have h := nd_pos h c7
    refine lv_aload_n hx hb dX15_access_36 rfl (lv_at hl 1 rfl) ?_
    obtain ⟨s20, hq, h⟩ := nd_b1_e h
    have hPc := hP
    have hDc := hD
    have hKc := hK
    have hFc := nd_rs hD hS hA
    refine nd_cVv (As := []) (rest := []) (w' := dw_X15 a ac s20) ⟨hx, hb, hml, hown, hts⟩ (fun sz => dm_X15_fail l hlt dC dI a ac n  s6 hq sz) (cwV 0 hts gi_dm_X15_access_3 rfl rfl rfl (by decide +kernel) ⟨Nat.le_of_ble_eq_true rfl, Nat.le_of_ble_eq_true rfl⟩) hPc hDc hKc hS hA hN (va_recv hKc hPc (ci := 16) (q0 := 0) rfl rfl) rfl hl.1 rfl (Nat.le_of_ble_eq_true rfl) dX15_access_37 (fun H locs hP1 hD1 hk1 hS => ?_)
    have hP := hP1
    have hD := hD1.weaken (fun k q _ h => hFc q.1 h)
    exact K _ _ _ _ _ dX15_access_40 (Option.some.inj h).symm hP hD hS
set_option maxHeartbeats 40000000 in
set_option maxRecDepth 100000 in
theorem db_X15_access_0 {p : Program} {l : Launch} {e : Env} {s : State} {m : MethodId} {args : Array Value} {below : List Frame} {meth : Method} {c : Code} {Q : State → Prop} {A : Nat → Prop} {dC : Nat → ClassId} {dI : Nat → Nat → Nat} {a : Nat → Nat} {ac : Nat → ClassId} {n : Nat} {r : St × (St × (St))} (C : nd_C p l s m args c A (dC, dI) cX15_access 7 RX15 ow_dm_X15_access (dk_X15 ac)) (K : nd_Kv p l e (headSpec ow_dm_X15_access ({ frames := 3, cells := 0, slots := 0, locals := 65 })).room s m args below meth c Q A (dC, dI) cX15_access (St × (St × (St))) (dw_X15 a ac) r) : dj_X15_access_0 p l e s m args below meth c Q A dC dI a ac (df_X15_access_0 n) r := by
  obtain ⟨hlt, hx, hb, hml, hown, hts, hN, hA, hK⟩ := id C
  intro v0 v1 s0 H locs ls h hP hD hS hl
  unfold df_X15_access_0 at h
  refine lv_iload_n hx hb dX15_access_0 rfl (lv_at hl 1 rfl) ?_
  refine lv_bipush (v := 32) hx hb dX15_access_1 (by decide) ?_
  refine lv_icmp_ne (tgt := 10) hx hb dX15_access_3 (by decide) (fun c1 => ?_) (fun c1 => ?_)
  · have h := nd_neg h c1
    refine lv_iload_n hx hb dX15_access_10 rfl (lv_at hl 1 rfl) ?_
    refine lv_bipush (v := 7) hx hb dX15_access_11 (by decide) ?_
    refine lv_icmp_ne (tgt := 20) hx hb dX15_access_13 (by decide) (fun c2 => ?_) (fun c2 => ?_)
    · have h := nd_neg h c2
      refine lv_iconst (v := 1) hx hb dX15_access_20 (by decide) ?_
      exact (db_X15_access_21 C K) (v1) (1) s0 _ _ _ h hP hD hS (lv_sub hl [0, 2] rfl)
    · have h := nd_pos h c2
      refine lv_iconst (v := 2) hx hb dX15_access_16 (by decide) ?_
      refine lv_goto (tgt := 21) hx hb dX15_access_17 (by decide) ?_
      exact (db_X15_access_21 C K) (v1) (2) s0 _ _ _ h hP hD hS (lv_sub hl [0, 2] rfl)
  · have h := nd_pos h c1
    refine lv_iconst (v := 4) hx hb dX15_access_6 (by decide) ?_
    refine lv_goto (tgt := 21) hx hb dX15_access_7 (by decide) ?_
    exact (db_X15_access_21 C K) (v1) (4) s0 _ _ _ h hP hD hS (lv_sub hl [0, 2] rfl)
set_option maxHeartbeats 40000000 in
set_option maxRecDepth 100000 in
theorem dm_X15_access (l : Launch) (hlt : l.stackTraces = false) (dC : Nat → ClassId) (dI : Nat → Nat → Nat) (a : Nat → Nat) (ac : Nat → ClassId) (n : Nat) (v0 : Int32) (v1 : Int64) (s0 : St × (St × (St))) {r : St × (St × (St))} (h : df_X15_access n v0 v1 s0 = some r) (sz : Nat) : Met l yX15_access ow_dm_X15_access ({ frames := 3, cells := 0, slots := 0, locals := 65 }) (va_Pc [.ref (a 0), .int v0, .long v1] (fun U => U.heap.size = sz ∧ va_P (dC, dI) vwCl (dw_X15 a ac s0) U.heap ∧ va_K (dC, dI) vwCl (dk_X15 ac) U ∧ va_D (fun _ => True) (dw_X15 a ac s0) ∧ nv_E (va_A (dw_X15 a ac s0) sz) U)) (va_Qv (fun _ => True) (fun (_ : Unit) t => va_P (dC, dI) vwCl (dw_X15 a ac r) t.heap ∧ va_K (dC, dI) vwCl (dk_X15 ac) t ∧ va_D (va_A (dw_X15 a ac s0) sz) (dw_X15 a ac r)) (va_A (dw_X15 a ac s0) sz)) 0 0 (va_A (dw_X15 a ac s0) sz) := by
  refine Met.ofW (cc := cX15_access) (maxL := 7) (ret := none) (by decide) rfl ?_
  intro p e s m args below meth c s₁ B hml hv
  obtain ⟨rfl, hsz, hP, hK, hD0, hN⟩ := hv
  have hx := B.exec
  have hb := B.bytes
  have hr := B.returns
  have hts := atoms_spec (ws := ow_dm_X15_access) B.pre
  have hown : s.vm.findClass RX15 = some m.cls := findClass_of_methodNamed B.named
  have hlocks := B.notSynchronized
  subst hsz
  have hD := hD0.self (sz := s.heap.size)
  generalize hAe : va_A (dw_X15 a ac s0) s.heap.size = A at hD hN ⊢
  have hA : ∀ q : Nat, s.heap.size ≤ q → A q := fun q h => by rw [← hAe]; exact Or.inr h
  have hl := lv_entry ([.ref (a 0), .int v0, .long v1]) (n := 7) (Nat.le_of_ble_eq_true rfl)
  rw [lg_entry_eq]
  generalize (lg_sl ([.ref (a 0), .int v0, .long v1]) ++ List.replicate (7 - (lg_sl ([.ref (a 0), .int v0, .long v1])).length) Slot.unset).toArray = ls at hl ⊢
  have hl : lv_has ls 7 [(0, .ref (a 0)), (1, .int v0), (2, .long v1)] := hl
  exact db_X15_access_0 (dC := dC) (dI := dI) (a := a) (ac := ac) (n := n) (r := r) ⟨hlt, hx, hb, hml, hown, hts, hN, hA, hK⟩ (fun pc τ H locs ls d er hP hD hS => by subst er; exact W.vret hx hb hr (fun t ht hW => ⟨⟨(), rfl, trivial, by rw [ht]; exact hP, va_K.moved hW.alike hK, hD⟩, hS.F ht⟩) hS.2.2 d) v0 v1 s0 _ _ _ h hP hD va_S.rf (lv_sub hl [0, 1, 2] rfl)
def ow_dm_X15_truth : List Cond := .code yX15_truth cX15_truth 1 (some .long) :: ([] ++ [])
theorem gd_dm_X15_truth : ∀ w ∈ ow_dm_X15_truth, (w.onTables && w.keeps) = true ∨ ∃ ty, w = Cond.arrayClass ty := List.forall_mem_cons.mpr ⟨good_of_word rfl, List.forall_mem_append.mpr ⟨fun w h => good_of_word (List.all_eq_true.mp (by decide +kernel) w h), fun _ h => nomatch h⟩⟩
def dj_X15_truth_9 (p : Program) (l : Launch) (e : Env) (s : State) (m : MethodId) (args : Array Value) (below : List Frame) (meth : Method) (c : Code) (Q : State → Prop) (A : Nat → Prop) (dC : Nat → ClassId) (dI : Nat → Nat → Nat) (a : Nat → Nat) (ac : Nat → ClassId) (g : Int64 → (Unit) → Option (Int64 × (Unit))) (r : Int64 × (Unit)) : Prop := ∀ (y0 : Int64) (s0 : Unit) (H : Heap) (locs : List Loc) (ls : Array Slot), g y0 s0 = some r → va_P (dC, dI) vwCl (dw_P a ac s0) H → va_D A (dw_P a ac s0) → va_S A s.heap H locs → lv_has ls 1 [] → W p l e (headSpec ow_dm_X15_truth ({ frames := 0, cells := 0, slots := 0, locals := 0 })).room s m args below meth c H locs 0 0 Q (F0 m 9 ls [.long y0])
def dj_X15_truth_0 (p : Program) (l : Launch) (e : Env) (s : State) (m : MethodId) (args : Array Value) (below : List Frame) (meth : Method) (c : Code) (Q : State → Prop) (A : Nat → Prop) (dC : Nat → ClassId) (dI : Nat → Nat → Nat) (a : Nat → Nat) (ac : Nat → ClassId) (g : Int32 → (Unit) → Option (Int64 × (Unit))) (r : Int64 × (Unit)) : Prop := ∀ (v0 : Int32) (s0 : Unit) (H : Heap) (locs : List Loc) (ls : Array Slot), g v0 s0 = some r → va_P (dC, dI) vwCl (dw_P a ac s0) H → va_D A (dw_P a ac s0) → va_S A s.heap H locs → lv_has ls 1 [(0, .int v0)] → W p l e (headSpec ow_dm_X15_truth ({ frames := 0, cells := 0, slots := 0, locals := 0 })).room s m args below meth c H locs 0 0 Q (F0 m 0 ls [])
set_option maxHeartbeats 40000000 in
set_option maxRecDepth 100000 in
theorem db_X15_truth_9 {p : Program} {l : Launch} {e : Env} {s : State} {m : MethodId} {args : Array Value} {below : List Frame} {meth : Method} {c : Code} {Q : State → Prop} {A : Nat → Prop} {dC : Nat → ClassId} {dI : Nat → Nat → Nat} {a : Nat → Nat} {ac : Nat → ClassId} {n : Nat} {r : Int64 × (Unit)} (C : nd_C p l s m args c A (dC, dI) cX15_truth 1 RX15 ow_dm_X15_truth (dk_P ac)) (K : nd_Kl p l e (headSpec ow_dm_X15_truth ({ frames := 0, cells := 0, slots := 0, locals := 0 })).room s m args below meth c Q A (dC, dI) cX15_truth (Unit) (dw_P a ac) r) : dj_X15_truth_9 p l e s m args below meth c Q A dC dI a ac (df_X15_truth_9 n) r := by
  obtain ⟨hlt, hx, hb, hml, hown, hts, hN, hA, hK⟩ := id C
  intro y0 s0 H locs ls h hP hD hS hl
  unfold df_X15_truth_9 at h
  exact K _ _ _ _ _ _ dX15_truth_9 (Option.some.inj h).symm hP hD hS
set_option maxHeartbeats 40000000 in
set_option maxRecDepth 100000 in
theorem db_X15_truth_0 {p : Program} {l : Launch} {e : Env} {s : State} {m : MethodId} {args : Array Value} {below : List Frame} {meth : Method} {c : Code} {Q : State → Prop} {A : Nat → Prop} {dC : Nat → ClassId} {dI : Nat → Nat → Nat} {a : Nat → Nat} {ac : Nat → ClassId} {n : Nat} {r : Int64 × (Unit)} (C : nd_C p l s m args c A (dC, dI) cX15_truth 1 RX15 ow_dm_X15_truth (dk_P ac)) (K : nd_Kl p l e (headSpec ow_dm_X15_truth ({ frames := 0, cells := 0, slots := 0, locals := 0 })).room s m args below meth c Q A (dC, dI) cX15_truth (Unit) (dw_P a ac) r) : dj_X15_truth_0 p l e s m args below meth c Q A dC dI a ac (df_X15_truth_0 n) r := by
  obtain ⟨hlt, hx, hb, hml, hown, hts, hN, hA, hK⟩ := id C
  intro v0 s0 H locs ls h hP hD hS hl
  unfold df_X15_truth_0 at h
  refine lv_iload_n hx hb dX15_truth_0 rfl (lv_at hl 0 rfl) ?_
  refine lv_if_eq (tgt := 8) hx hb dX15_truth_1 (by decide) (fun c1 => ?_) (fun c1 => ?_)
  · have h := nd_pos h c1
    refine lv_lconst (v := 0) hx hb dX15_truth_8 (by decide) ?_
    exact (db_X15_truth_9 C K) (0) s0 _ _ _ h hP hD hS (lv_sub hl [] rfl)
  · have h := nd_neg h c1
    refine lv_lconst (v := 1) hx hb dX15_truth_4 (by decide) ?_
    refine lv_goto (tgt := 9) hx hb dX15_truth_5 (by decide) ?_
    exact (db_X15_truth_9 C K) (1) s0 _ _ _ h hP hD hS (lv_sub hl [] rfl)
set_option maxHeartbeats 40000000 in
set_option maxRecDepth 100000 in
theorem dm_X15_truth (l : Launch) (hlt : l.stackTraces = false) (dC : Nat → ClassId) (dI : Nat → Nat → Nat) (a : Nat → Nat) (ac : Nat → ClassId) (n : Nat) (v0 : Int32) (s0 : Unit) {r : Int64 × (Unit)} (h : df_X15_truth n v0 s0 = some r) (sz : Nat) : Met l yX15_truth ow_dm_X15_truth ({ frames := 0, cells := 0, slots := 0, locals := 0 }) (va_Pc [.int v0] (fun U => U.heap.size = sz ∧ va_P (dC, dI) vwCl (dw_P a ac s0) U.heap ∧ va_K (dC, dI) vwCl (dk_P ac) U ∧ va_D (fun _ => True) (dw_P a ac s0) ∧ nv_E (va_A (dw_P a ac s0) sz) U)) (va_Ql (fun x _ => x = r.1) (fun (_ : Unit) t => va_P (dC, dI) vwCl (dw_P a ac r.2) t.heap ∧ va_K (dC, dI) vwCl (dk_P ac) t ∧ va_D (va_A (dw_P a ac s0) sz) (dw_P a ac r.2)) (va_A (dw_P a ac s0) sz)) 0 0 (va_A (dw_P a ac s0) sz) := by
  refine Met.ofW (cc := cX15_truth) (maxL := 1) (ret := (some .long)) (by decide) rfl ?_
  intro p e s m args below meth c s₁ B hml hv
  obtain ⟨rfl, hsz, hP, hK, hD0, hN⟩ := hv
  have hx := B.exec
  have hb := B.bytes
  have hr := B.returns
  have hts := atoms_spec (ws := ow_dm_X15_truth) B.pre
  have hown : s.vm.findClass RX15 = some m.cls := findClass_of_methodNamed B.named
  have hlocks := B.notSynchronized
  subst hsz
  have hD := hD0.self (sz := s.heap.size)
  generalize hAe : va_A (dw_P a ac s0) s.heap.size = A at hD hN ⊢
  have hA : ∀ q : Nat, s.heap.size ≤ q → A q := fun q h => by rw [← hAe]; exact Or.inr h
  have hl := lv_entry ([.int v0]) (n := 1) (Nat.le_of_ble_eq_true rfl)
  rw [lg_entry_eq]
  generalize (lg_sl ([.int v0]) ++ List.replicate (1 - (lg_sl ([.int v0])).length) Slot.unset).toArray = ls at hl ⊢
  have hl : lv_has ls 1 [(0, .int v0)] := hl
  exact db_X15_truth_0 (dC := dC) (dI := dI) (a := a) (ac := ac) (n := n) (r := r) ⟨hlt, hx, hb, hml, hown, hts, hN, hA, hK⟩ (fun pc v τ H locs ls d er hP hD hS => by subst er; exact W.lret (v := v) hx hb hr (fun t ht hW => ⟨⟨v, (), rfl, rfl, by rw [ht]; exact hP, va_K.moved hW.alike hK, hD⟩, hS.F ht⟩) hS.2.2 d) v0 s0 _ _ _ h hP hD va_S.rf (lv_sub hl [0] rfl)
def ow_dm_X15_both : List Cond := .code yX15_both cX15_both 5 (some .long) :: ([.methodLink RX15 207 yX15_truth, .static yX15_truth, .initialized RX15, .constantLong RX15 231 (63)] ++ (ow_dm_X15_truth ++ []))
theorem gd_dm_X15_both : ∀ w ∈ ow_dm_X15_both, (w.onTables && w.keeps) = true ∨ ∃ ty, w = Cond.arrayClass ty := List.forall_mem_cons.mpr ⟨good_of_word rfl, List.forall_mem_append.mpr ⟨fun w h => good_of_word (List.all_eq_true.mp (by decide +kernel) w h), List.forall_mem_append.mpr ⟨gd_dm_X15_truth, fun _ h => nomatch h⟩⟩⟩
theorem gi_dm_X15_both_0 : GoodIn ow_dm_X15_both (wsS RX15 207 yX15_truth ow_dm_X15_truth) := goodIn_app (goodIn_of _ (by decide +kernel)) (fun w h => ⟨List.mem_cons_of_mem _ (List.mem_append_right _ (List.mem_append_left _ h)), gd_dm_X15_truth w h⟩)
def dj_X15_both_95 (p : Program) (l : Launch) (e : Env) (s : State) (m : MethodId) (args : Array Value) (below : List Frame) (meth : Method) (c : Code) (Q : State → Prop) (A : Nat → Prop) (dC : Nat → ClassId) (dI : Nat → Nat → Nat) (a : Nat → Nat) (ac : Nat → ClassId) (g : Int32 → (Unit) → Option (Int64 × (Unit))) (r : Int64 × (Unit)) : Prop := ∀ (y0 : Int32) (s0 : Unit) (H : Heap) (locs : List Loc) (ls : Array Slot), g y0 s0 = some r → va_P (dC, dI) vwCl (dw_P a ac s0) H → va_D A (dw_P a ac s0) → va_S A s.heap H locs → lv_has ls 5 [] → W p l e (headSpec ow_dm_X15_both ({ frames := 1, cells := 0, slots := 0, locals := 20 })).room s m args below meth c H locs 0 0 Q (F0 m 95 ls [.int y0])
def dj_X15_both_84 (p : Program) (l : Launch) (e : Env) (s : State) (m : MethodId) (args : Array Value) (below : List Frame) (meth : Method) (c : Code) (Q : State → Prop) (A : Nat → Prop) (dC : Nat → ClassId) (dI : Nat → Nat → Nat) (a : Nat → Nat) (ac : Nat → ClassId) (g : Int64 → (Unit) → Option (Int64 × (Unit))) (r : Int64 × (Unit)) : Prop := ∀ (x3 : Int64) (s0 : Unit) (H : Heap) (locs : List Loc) (ls : Array Slot), g x3 s0 = some r → va_P (dC, dI) vwCl (dw_P a ac s0) H → va_D A (dw_P a ac s0) → va_S A s.heap H locs → lv_has ls 5 [(3, .long x3)] → W p l e (headSpec ow_dm_X15_both ({ frames := 1, cells := 0, slots := 0, locals := 20 })).room s m args below meth c H locs 0 0 Q (F0 m 84 ls [])
def dj_X15_both_110 (p : Program) (l : Launch) (e : Env) (s : State) (m : MethodId) (args : Array Value) (below : List Frame) (meth : Method) (c : Code) (Q : State → Prop) (A : Nat → Prop) (dC : Nat → ClassId) (dI : Nat → Nat → Nat) (a : Nat → Nat) (ac : Nat → ClassId) (g : Int32 → (Unit) → Option (Int64 × (Unit))) (r : Int64 × (Unit)) : Prop := ∀ (y0 : Int32) (s0 : Unit) (H : Heap) (locs : List Loc) (ls : Array Slot), g y0 s0 = some r → va_P (dC, dI) vwCl (dw_P a ac s0) H → va_D A (dw_P a ac s0) → va_S A s.heap H locs → lv_has ls 5 [] → W p l e (headSpec ow_dm_X15_both ({ frames := 1, cells := 0, slots := 0, locals := 20 })).room s m args below meth c H locs 0 0 Q (F0 m 110 ls [.int y0])
def dj_X15_both_125 (p : Program) (l : Launch) (e : Env) (s : State) (m : MethodId) (args : Array Value) (below : List Frame) (meth : Method) (c : Code) (Q : State → Prop) (A : Nat → Prop) (dC : Nat → ClassId) (dI : Nat → Nat → Nat) (a : Nat → Nat) (ac : Nat → ClassId) (g : Int32 → (Unit) → Option (Int64 × (Unit))) (r : Int64 × (Unit)) : Prop := ∀ (y0 : Int32) (s0 : Unit) (H : Heap) (locs : List Loc) (ls : Array Slot), g y0 s0 = some r → va_P (dC, dI) vwCl (dw_P a ac s0) H → va_D A (dw_P a ac s0) → va_S A s.heap H locs → lv_has ls 5 [] → W p l e (headSpec ow_dm_X15_both ({ frames := 1, cells := 0, slots := 0, locals := 20 })).room s m args below meth c H locs 0 0 Q (F0 m 125 ls [.int y0])
def dj_X15_both_140 (p : Program) (l : Launch) (e : Env) (s : State) (m : MethodId) (args : Array Value) (below : List Frame) (meth : Method) (c : Code) (Q : State → Prop) (A : Nat → Prop) (dC : Nat → ClassId) (dI : Nat → Nat → Nat) (a : Nat → Nat) (ac : Nat → ClassId) (g : Int32 → (Unit) → Option (Int64 × (Unit))) (r : Int64 × (Unit)) : Prop := ∀ (y0 : Int32) (s0 : Unit) (H : Heap) (locs : List Loc) (ls : Array Slot), g y0 s0 = some r → va_P (dC, dI) vwCl (dw_P a ac s0) H → va_D A (dw_P a ac s0) → va_S A s.heap H locs → lv_has ls 5 [] → W p l e (headSpec ow_dm_X15_both ({ frames := 1, cells := 0, slots := 0, locals := 20 })).room s m args below meth c H locs 0 0 Q (F0 m 140 ls [.int y0])
def dj_X15_both_155 (p : Program) (l : Launch) (e : Env) (s : State) (m : MethodId) (args : Array Value) (below : List Frame) (meth : Method) (c : Code) (Q : State → Prop) (A : Nat → Prop) (dC : Nat → ClassId) (dI : Nat → Nat → Nat) (a : Nat → Nat) (ac : Nat → ClassId) (g : Int32 → (Unit) → Option (Int64 × (Unit))) (r : Int64 × (Unit)) : Prop := ∀ (y0 : Int32) (s0 : Unit) (H : Heap) (locs : List Loc) (ls : Array Slot), g y0 s0 = some r → va_P (dC, dI) vwCl (dw_P a ac s0) H → va_D A (dw_P a ac s0) → va_S A s.heap H locs → lv_has ls 5 [] → W p l e (headSpec ow_dm_X15_both ({ frames := 1, cells := 0, slots := 0, locals := 20 })).room s m args below meth c H locs 0 0 Q (F0 m 155 ls [.int y0])
def dj_X15_both_170 (p : Program) (l : Launch) (e : Env) (s : State) (m : MethodId) (args : Array Value) (below : List Frame) (meth : Method) (c : Code) (Q : State → Prop) (A : Nat → Prop) (dC : Nat → ClassId) (dI : Nat → Nat → Nat) (a : Nat → Nat) (ac : Nat → ClassId) (g : Int32 → (Unit) → Option (Int64 × (Unit))) (r : Int64 × (Unit)) : Prop := ∀ (y0 : Int32) (s0 : Unit) (H : Heap) (locs : List Loc) (ls : Array Slot), g y0 s0 = some r → va_P (dC, dI) vwCl (dw_P a ac s0) H → va_D A (dw_P a ac s0) → va_S A s.heap H locs → lv_has ls 5 [] → W p l e (headSpec ow_dm_X15_both ({ frames := 1, cells := 0, slots := 0, locals := 20 })).room s m args below meth c H locs 0 0 Q (F0 m 170 ls [.int y0])
def dj_X15_both_185 (p : Program) (l : Launch) (e : Env) (s : State) (m : MethodId) (args : Array Value) (below : List Frame) (meth : Method) (c : Code) (Q : State → Prop) (A : Nat → Prop) (dC : Nat → ClassId) (dI : Nat → Nat → Nat) (a : Nat → Nat) (ac : Nat → ClassId) (g : Int32 → (Unit) → Option (Int64 × (Unit))) (r : Int64 × (Unit)) : Prop := ∀ (y0 : Int32) (s0 : Unit) (H : Heap) (locs : List Loc) (ls : Array Slot), g y0 s0 = some r → va_P (dC, dI) vwCl (dw_P a ac s0) H → va_D A (dw_P a ac s0) → va_S A s.heap H locs → lv_has ls 5 [] → W p l e (headSpec ow_dm_X15_both ({ frames := 1, cells := 0, slots := 0, locals := 20 })).room s m args below meth c H locs 0 0 Q (F0 m 185 ls [.int y0])
def dj_X15_both_0 (p : Program) (l : Launch) (e : Env) (s : State) (m : MethodId) (args : Array Value) (below : List Frame) (meth : Method) (c : Code) (Q : State → Prop) (A : Nat → Prop) (dC : Nat → ClassId) (dI : Nat → Nat → Nat) (a : Nat → Nat) (ac : Nat → ClassId) (g : Int32 → Int64 → Int64 → (Unit) → Option (Int64 × (Unit))) (r : Int64 × (Unit)) : Prop := ∀ (v0 : Int32) (v1 : Int64) (v2 : Int64) (s0 : Unit) (H : Heap) (locs : List Loc) (ls : Array Slot), g v0 v1 v2 s0 = some r → va_P (dC, dI) vwCl (dw_P a ac s0) H → va_D A (dw_P a ac s0) → va_S A s.heap H locs → lv_has ls 5 [(0, .int v0), (1, .long v1), (3, .long v2)] → W p l e (headSpec ow_dm_X15_both ({ frames := 1, cells := 0, slots := 0, locals := 20 })).room s m args below meth c H locs 0 0 Q (F0 m 0 ls [])
set_option maxHeartbeats 40000000 in
set_option maxRecDepth 100000 in
theorem db_X15_both_95 {p : Program} {l : Launch} {e : Env} {s : State} {m : MethodId} {args : Array Value} {below : List Frame} {meth : Method} {c : Code} {Q : State → Prop} {A : Nat → Prop} {dC : Nat → ClassId} {dI : Nat → Nat → Nat} {a : Nat → Nat} {ac : Nat → ClassId} {n : Nat} {r : Int64 × (Unit)} (C : nd_C p l s m args c A (dC, dI) cX15_both 5 RX15 ow_dm_X15_both (dk_P ac)) (K : nd_Kl p l e (headSpec ow_dm_X15_both ({ frames := 1, cells := 0, slots := 0, locals := 20 })).room s m args below meth c Q A (dC, dI) cX15_both (Unit) (dw_P a ac) r) : dj_X15_both_95 p l e s m args below meth c Q A dC dI a ac (df_X15_both_95 n) r := by
  obtain ⟨hlt, hx, hb, hml, hown, hts, hN, hA, hK⟩ := id C
  intro y0 s0 H locs ls h hP hD hS hl
  unfold df_X15_both_95 at h
  obtain ⟨q3, s4, hq, h⟩ := nd_b2_e h
  have hPc : va_P (dC, dI) vwCl (dw_P a ac ()) H := nd_p0
  have hDc : va_D A (dw_P a ac ()) := nd_d0
  have hKc : va_K (dC, dI) vwCl (dk_P ac) s := nd_y0 hK
  have hFc : ∀ q, va_A (dw_P a ac ()) H.size q → A q := nd_r0 hS hA
  refine nd_cSl (As := [.int y0]) (rest := []) (q := q3) (w' := dw_P a ac s4) ⟨hx, hb, hml, hown, hts⟩ (fun sz => dm_X15_truth l hlt dC dI a ac n (y0) () hq sz) (cwS 1 hts gi_dm_X15_both_0 rfl rfl rfl (by decide +kernel) ⟨Nat.le_of_ble_eq_true rfl, Nat.le_of_ble_eq_true rfl⟩) hPc hDc hKc hS hA hN rfl hl.1 rfl (Nat.le_of_ble_eq_true rfl) dX15_both_95 (fun H locs hP1 hD1 hk1 hS => ?_)
  have hP := nd_n0 hP hk1
  exact K _ _ _ _ _ _ dX15_both_98 (Option.some.inj h).symm hP hD hS
set_option maxHeartbeats 40000000 in
set_option maxRecDepth 100000 in
theorem db_X15_both_84 {p : Program} {l : Launch} {e : Env} {s : State} {m : MethodId} {args : Array Value} {below : List Frame} {meth : Method} {c : Code} {Q : State → Prop} {A : Nat → Prop} {dC : Nat → ClassId} {dI : Nat → Nat → Nat} {a : Nat → Nat} {ac : Nat → ClassId} {n : Nat} {r : Int64 × (Unit)} (C : nd_C p l s m args c A (dC, dI) cX15_both 5 RX15 ow_dm_X15_both (dk_P ac)) (K : nd_Kl p l e (headSpec ow_dm_X15_both ({ frames := 1, cells := 0, slots := 0, locals := 20 })).room s m args below meth c Q A (dC, dI) cX15_both (Unit) (dw_P a ac) r) : dj_X15_both_84 p l e s m args below meth c Q A dC dI a ac (df_X15_both_84 n) r := by
  obtain ⟨hlt, hx, hb, hml, hown, hts, hN, hA, hK⟩ := id C
  intro x3 s0 H locs ls h hP hD hS hl
  unfold df_X15_both_84 at h
  refine lv_lload_n hx hb dX15_both_84 rfl (lv_at hl 0 rfl) ?_
  refine lv_lconst (v := 0) hx hb dX15_both_85 (by decide) ?_
  refine W.lcmp hx hb dX15_both_86 ?_
  refine lv_if_eq (tgt := 94) hx hb dX15_both_87 (by decide) (fun c2 => ?_) (fun c2 => ?_)
  · have h := nd_pos h c2
    refine lv_iconst (v := 0) hx hb dX15_both_94 (by decide) ?_
    exact (db_X15_both_95 C K) (0) s0 _ _ _ h hP hD hS (lv_sub hl [] rfl)
  · have h := nd_neg h c2
    refine lv_iconst (v := 1) hx hb dX15_both_90 (by decide) ?_
    refine lv_goto (tgt := 95) hx hb dX15_both_91 (by decide) ?_
    exact (db_X15_both_95 C K) (1) s0 _ _ _ h hP hD hS (lv_sub hl [] rfl)
set_option maxHeartbeats 40000000 in
set_option maxRecDepth 100000 in
theorem db_X15_both_110 {p : Program} {l : Launch} {e : Env} {s : State} {m : MethodId} {args : Array Value} {below : List Frame} {meth : Method} {c : Code} {Q : State → Prop} {A : Nat → Prop} {dC : Nat → ClassId} {dI : Nat → Nat → Nat} {a : Nat → Nat} {ac : Nat → ClassId} {n : Nat} {r : Int64 × (Unit)} (C : nd_C p l s m args c A (dC, dI) cX15_both 5 RX15 ow_dm_X15_both (dk_P ac)) (K : nd_Kl p l e (headSpec ow_dm_X15_both ({ frames := 1, cells := 0, slots := 0, locals := 20 })).room s m args below meth c Q A (dC, dI) cX15_both (Unit) (dw_P a ac) r) : dj_X15_both_110 p l e s m args below meth c Q A dC dI a ac (df_X15_both_110 n) r := by
  obtain ⟨hlt, hx, hb, hml, hown, hts, hN, hA, hK⟩ := id C
  intro y0 s0 H locs ls h hP hD hS hl
  unfold df_X15_both_110 at h
  obtain ⟨q9, s10, hq, h⟩ := nd_b2_e h
  have hPc : va_P (dC, dI) vwCl (dw_P a ac ()) H := nd_p0
  have hDc : va_D A (dw_P a ac ()) := nd_d0
  have hKc : va_K (dC, dI) vwCl (dk_P ac) s := nd_y0 hK
  have hFc : ∀ q, va_A (dw_P a ac ()) H.size q → A q := nd_r0 hS hA
  refine nd_cSl (As := [.int y0]) (rest := []) (q := q9) (w' := dw_P a ac s10) ⟨hx, hb, hml, hown, hts⟩ (fun sz => dm_X15_truth l hlt dC dI a ac n (y0) () hq sz) (cwS 1 hts gi_dm_X15_both_0 rfl rfl rfl (by decide +kernel) ⟨Nat.le_of_ble_eq_true rfl, Nat.le_of_ble_eq_true rfl⟩) hPc hDc hKc hS hA hN rfl hl.1 rfl (Nat.le_of_ble_eq_true rfl) dX15_both_110 (fun H locs hP1 hD1 hk1 hS => ?_)
  have hP := nd_n0 hP hk1
  exact K _ _ _ _ _ _ dX15_both_113 (Option.some.inj h).symm hP hD hS
set_option maxHeartbeats 40000000 in
set_option maxRecDepth 100000 in
theorem db_X15_both_125 {p : Program} {l : Launch} {e : Env} {s : State} {m : MethodId} {args : Array Value} {below : List Frame} {meth : Method} {c : Code} {Q : State → Prop} {A : Nat → Prop} {dC : Nat → ClassId} {dI : Nat → Nat → Nat} {a : Nat → Nat} {ac : Nat → ClassId} {n : Nat} {r : Int64 × (Unit)} (C : nd_C p l s m args c A (dC, dI) cX15_both 5 RX15 ow_dm_X15_both (dk_P ac)) (K : nd_Kl p l e (headSpec ow_dm_X15_both ({ frames := 1, cells := 0, slots := 0, locals := 20 })).room s m args below meth c Q A (dC, dI) cX15_both (Unit) (dw_P a ac) r) : dj_X15_both_125 p l e s m args below meth c Q A dC dI a ac (df_X15_both_125 n) r := by
  obtain ⟨hlt, hx, hb, hml, hown, hts, hN, hA, hK⟩ := id C
  intro y0 s0 H locs ls h hP hD hS hl
  unfold df_X15_both_125 at h
  obtain ⟨q14, s15, hq, h⟩ := nd_b2_e h
  have hPc : va_P (dC, dI) vwCl (dw_P a ac ()) H := nd_p0
  have hDc : va_D A (dw_P a ac ()) := nd_d0
  have hKc : va_K (dC, dI) vwCl (dk_P ac) s := nd_y0 hK
  have hFc : ∀ q, va_A (dw_P a ac ()) H.size q → A q := nd_r0 hS hA
  refine nd_cSl (As := [.int y0]) (rest := []) (q := q14) (w' := dw_P a ac s15) ⟨hx, hb, hml, hown, hts⟩ (fun sz => dm_X15_truth l hlt dC dI a ac n (y0) () hq sz) (cwS 1 hts gi_dm_X15_both_0 rfl rfl rfl (by decide +kernel) ⟨Nat.le_of_ble_eq_true rfl, Nat.le_of_ble_eq_true rfl⟩) hPc hDc hKc hS hA hN rfl hl.1 rfl (Nat.le_of_ble_eq_true rfl) dX15_both_125 (fun H locs hP1 hD1 hk1 hS => ?_)
  have hP := nd_n0 hP hk1
  exact K _ _ _ _ _ _ dX15_both_128 (Option.some.inj h).symm hP hD hS
set_option maxHeartbeats 40000000 in
set_option maxRecDepth 100000 in
theorem db_X15_both_140 {p : Program} {l : Launch} {e : Env} {s : State} {m : MethodId} {args : Array Value} {below : List Frame} {meth : Method} {c : Code} {Q : State → Prop} {A : Nat → Prop} {dC : Nat → ClassId} {dI : Nat → Nat → Nat} {a : Nat → Nat} {ac : Nat → ClassId} {n : Nat} {r : Int64 × (Unit)} (C : nd_C p l s m args c A (dC, dI) cX15_both 5 RX15 ow_dm_X15_both (dk_P ac)) (K : nd_Kl p l e (headSpec ow_dm_X15_both ({ frames := 1, cells := 0, slots := 0, locals := 20 })).room s m args below meth c Q A (dC, dI) cX15_both (Unit) (dw_P a ac) r) : dj_X15_both_140 p l e s m args below meth c Q A dC dI a ac (df_X15_both_140 n) r := by
  obtain ⟨hlt, hx, hb, hml, hown, hts, hN, hA, hK⟩ := id C
  intro y0 s0 H locs ls h hP hD hS hl
  unfold df_X15_both_140 at h
  obtain ⟨q19, s20, hq, h⟩ := nd_b2_e h
  have hPc : va_P (dC, dI) vwCl (dw_P a ac ()) H := nd_p0
  have hDc : va_D A (dw_P a ac ()) := nd_d0
  have hKc : va_K (dC, dI) vwCl (dk_P ac) s := nd_y0 hK
  have hFc : ∀ q, va_A (dw_P a ac ()) H.size q → A q := nd_r0 hS hA
  refine nd_cSl (As := [.int y0]) (rest := []) (q := q19) (w' := dw_P a ac s20) ⟨hx, hb, hml, hown, hts⟩ (fun sz => dm_X15_truth l hlt dC dI a ac n (y0) () hq sz) (cwS 1 hts gi_dm_X15_both_0 rfl rfl rfl (by decide +kernel) ⟨Nat.le_of_ble_eq_true rfl, Nat.le_of_ble_eq_true rfl⟩) hPc hDc hKc hS hA hN rfl hl.1 rfl (Nat.le_of_ble_eq_true rfl) dX15_both_140 (fun H locs hP1 hD1 hk1 hS => ?_)
  have hP := nd_n0 hP hk1
  exact K _ _ _ _ _ _ dX15_both_143 (Option.some.inj h).symm hP hD hS
set_option maxHeartbeats 40000000 in
set_option maxRecDepth 100000 in
theorem db_X15_both_155 {p : Program} {l : Launch} {e : Env} {s : State} {m : MethodId} {args : Array Value} {below : List Frame} {meth : Method} {c : Code} {Q : State → Prop} {A : Nat → Prop} {dC : Nat → ClassId} {dI : Nat → Nat → Nat} {a : Nat → Nat} {ac : Nat → ClassId} {n : Nat} {r : Int64 × (Unit)} (C : nd_C p l s m args c A (dC, dI) cX15_both 5 RX15 ow_dm_X15_both (dk_P ac)) (K : nd_Kl p l e (headSpec ow_dm_X15_both ({ frames := 1, cells := 0, slots := 0, locals := 20 })).room s m args below meth c Q A (dC, dI) cX15_both (Unit) (dw_P a ac) r) : dj_X15_both_155 p l e s m args below meth c Q A dC dI a ac (df_X15_both_155 n) r := by
  obtain ⟨hlt, hx, hb, hml, hown, hts, hN, hA, hK⟩ := id C
  intro y0 s0 H locs ls h hP hD hS hl
  unfold df_X15_both_155 at h
  obtain ⟨q24, s25, hq, h⟩ := nd_b2_e h
  have hPc : va_P (dC, dI) vwCl (dw_P a ac ()) H := nd_p0
  have hDc : va_D A (dw_P a ac ()) := nd_d0
  have hKc : va_K (dC, dI) vwCl (dk_P ac) s := nd_y0 hK
  have hFc : ∀ q, va_A (dw_P a ac ()) H.size q → A q := nd_r0 hS hA
  refine nd_cSl (As := [.int y0]) (rest := []) (q := q24) (w' := dw_P a ac s25) ⟨hx, hb, hml, hown, hts⟩ (fun sz => dm_X15_truth l hlt dC dI a ac n (y0) () hq sz) (cwS 1 hts gi_dm_X15_both_0 rfl rfl rfl (by decide +kernel) ⟨Nat.le_of_ble_eq_true rfl, Nat.le_of_ble_eq_true rfl⟩) hPc hDc hKc hS hA hN rfl hl.1 rfl (Nat.le_of_ble_eq_true rfl) dX15_both_155 (fun H locs hP1 hD1 hk1 hS => ?_)
  have hP := nd_n0 hP hk1
  exact K _ _ _ _ _ _ dX15_both_158 (Option.some.inj h).symm hP hD hS
set_option maxHeartbeats 40000000 in
set_option maxRecDepth 100000 in
theorem db_X15_both_170 {p : Program} {l : Launch} {e : Env} {s : State} {m : MethodId} {args : Array Value} {below : List Frame} {meth : Method} {c : Code} {Q : State → Prop} {A : Nat → Prop} {dC : Nat → ClassId} {dI : Nat → Nat → Nat} {a : Nat → Nat} {ac : Nat → ClassId} {n : Nat} {r : Int64 × (Unit)} (C : nd_C p l s m args c A (dC, dI) cX15_both 5 RX15 ow_dm_X15_both (dk_P ac)) (K : nd_Kl p l e (headSpec ow_dm_X15_both ({ frames := 1, cells := 0, slots := 0, locals := 20 })).room s m args below meth c Q A (dC, dI) cX15_both (Unit) (dw_P a ac) r) : dj_X15_both_170 p l e s m args below meth c Q A dC dI a ac (df_X15_both_170 n) r := by
  obtain ⟨hlt, hx, hb, hml, hown, hts, hN, hA, hK⟩ := id C
  intro y0 s0 H locs ls h hP hD hS hl
  unfold df_X15_both_170 at h
  obtain ⟨q29, s30, hq, h⟩ := nd_b2_e h
  have hPc : va_P (dC, dI) vwCl (dw_P a ac ()) H := nd_p0
  have hDc : va_D A (dw_P a ac ()) := nd_d0
  have hKc : va_K (dC, dI) vwCl (dk_P ac) s := nd_y0 hK
  have hFc : ∀ q, va_A (dw_P a ac ()) H.size q → A q := nd_r0 hS hA
  refine nd_cSl (As := [.int y0]) (rest := []) (q := q29) (w' := dw_P a ac s30) ⟨hx, hb, hml, hown, hts⟩ (fun sz => dm_X15_truth l hlt dC dI a ac n (y0) () hq sz) (cwS 1 hts gi_dm_X15_both_0 rfl rfl rfl (by decide +kernel) ⟨Nat.le_of_ble_eq_true rfl, Nat.le_of_ble_eq_true rfl⟩) hPc hDc hKc hS hA hN rfl hl.1 rfl (Nat.le_of_ble_eq_true rfl) dX15_both_170 (fun H locs hP1 hD1 hk1 hS => ?_)
  have hP := nd_n0 hP hk1
  exact K _ _ _ _ _ _ dX15_both_173 (Option.some.inj h).symm hP hD hS
set_option maxHeartbeats 40000000 in
set_option maxRecDepth 100000 in
theorem db_X15_both_185 {p : Program} {l : Launch} {e : Env} {s : State} {m : MethodId} {args : Array Value} {below : List Frame} {meth : Method} {c : Code} {Q : State → Prop} {A : Nat → Prop} {dC : Nat → ClassId} {dI : Nat → Nat → Nat} {a : Nat → Nat} {ac : Nat → ClassId} {n : Nat} {r : Int64 × (Unit)} (C : nd_C p l s m args c A (dC, dI) cX15_both 5 RX15 ow_dm_X15_both (dk_P ac)) (K : nd_Kl p l e (headSpec ow_dm_X15_both ({ frames := 1, cells := 0, slots := 0, locals := 20 })).room s m args below meth c Q A (dC, dI) cX15_both (Unit) (dw_P a ac) r) : dj_X15_both_185 p l e s m args below meth c Q A dC dI a ac (df_X15_both_185 n) r := by
  obtain ⟨hlt, hx, hb, hml, hown, hts, hN, hA, hK⟩ := id C
  intro y0 s0 H locs ls h hP hD hS hl
  unfold df_X15_both_185 at h
  obtain ⟨q34, s35, hq, h⟩ := nd_b2_e h
  have hPc : va_P (dC, dI) vwCl (dw_P a ac ()) H := nd_p0
  have hDc : va_D A (dw_P a ac ()) := nd_d0
  have hKc : va_K (dC, dI) vwCl (dk_P ac) s := nd_y0 hK
  have hFc : ∀ q, va_A (dw_P a ac ()) H.size q → A q := nd_r0 hS hA
  refine nd_cSl (As := [.int y0]) (rest := []) (q := q34) (w' := dw_P a ac s35) ⟨hx, hb, hml, hown, hts⟩ (fun sz => dm_X15_truth l hlt dC dI a ac n (y0) () hq sz) (cwS 1 hts gi_dm_X15_both_0 rfl rfl rfl (by decide +kernel) ⟨Nat.le_of_ble_eq_true rfl, Nat.le_of_ble_eq_true rfl⟩) hPc hDc hKc hS hA hN rfl hl.1 rfl (Nat.le_of_ble_eq_true rfl) dX15_both_185 (fun H locs hP1 hD1 hk1 hS => ?_)
  have hP := nd_n0 hP hk1
  exact K _ _ _ _ _ _ dX15_both_188 (Option.some.inj h).symm hP hD hS
