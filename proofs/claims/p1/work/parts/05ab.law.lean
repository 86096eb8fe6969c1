set_option maxHeartbeats 40000000 in
set_option maxRecDepth 100000 in
theorem law_c3 {p : Program} {l : Launch} {e : Env} {s : State} {m : MethodId} {below : List Frame} {meth : Method} {c : Code} {Q : State → Prop} {A : Nat → Prop} {b : Nat} (hlt : l.stackTraces = false) (hx : p.tables.exec = Jvm.exec) (hb : c.code = code) (hml : c.maxLocals = 8) (hown : s.vm.findClass RL = some m.cls) (hts : ∀ w ∈ lw_tbl, w.before #[Value.ref b] s = true) (hN : nv_E A s) (hA : ∀ q : Nat, s.heap.size ≤ q → A q) (hDe : nv_Dc s) (dC : Nat → ClassId) (dI : Nat → Nat → Nat) (q1 : Nat) (q2 : Nat) (q4 : Nat) (y5 : ClassId) (q6 : Nat) (q8 : Nat) (q22 : Nat) (q37 : Nat) (q39 : Nat) (q41 : Nat) (q43 : Nat) (q77 : Nat) (q78 : Nat) (q80 : Nat) (y81 : ClassId) (q82 : Nat) (q84 : Nat) (q86 : Nat) (q88 : Nat) (q90 : Nat) (q91 : Nat) (q93 : Nat) (q94 : Nat) (q105 : Nat) (q106 : Nat) (q124 : Nat) (q131 : Nat) (q132 : Nat) (q133 : Nat) (q134 : Nat) (q135 : Nat) (q136 : Nat) (q137 : Nat) (q138 : Nat) (q139 : Nat) (q140 : Nat) (q143 : Nat) {xs : Nat → Int32} (hX : va_X b 6 xs s s.heap) (hbl : b < s.heap.size) (hbA : ¬ A b) (x0 : Int32) (es0 : xs (Int32.toNatClampNeg 0) = x0) (x1 : Int32) (es1 : xs (Int32.toNatClampNeg 1) = x1) (x2 : Int32) (es2 : xs (Int32.toNatClampNeg 2) = x2) (x3 : Int32) (es3 : xs (Int32.toNatClampNeg 3) = x3) (x4 : Int32) (es4 : xs (Int32.toNatClampNeg 4) = x4) (x5 : Int32) (es5 : xs (Int32.toNatClampNeg 5) = x5) {H : Heap} {locs : List Loc} {ls : Array Slot} (hK : va_K (dC, dI) vwCl [(y5, .object RX8), (y81, .boolean)] s) (hP : va_P (dC, dI) vwCl [(q1, .inr (13, [.ref q2, .int 0, .int 0, .ref q4, .ref q6, .ref q8, .ref q22, .ref q37, .ref q39, .ref q41, .int 0, .ref q43])), (q4, .inl (y5, 4, .inr (.inr (.inr (.inr (fun _ => none)))))), (q77, .inr (20, [.int 0, .ref q78, .int 0, .int 0, .ref q80, .ref q82, .ref q84, .ref q86, .ref q88, .ref q90, .ref q91, .ref q93, .ref q94, .ref q105, .ref q106, .ref q124, .ref q131, .int 0, .int 0, .int 0, .int 0, .int 0, .int 0, .int 0, .int 0, .int 0, .ref q132, .ref q133, .ref q134, .ref q135, .ref q136, .ref q137, .ref q138, .ref q139, .ref q140, .int 0])), (q80, .inl (y81, 4, .inl (fun _ => 0)))] H) (hD : va_D A [(q1, .inr (13, [.ref q2, .int 0, .int 0, .ref q4, .ref q6, .ref q8, .ref q22, .ref q37, .ref q39, .ref q41, .int 0, .ref q43])), (q4, .inl (y5, 4, .inr (.inr (.inr (.inr (fun _ => none)))))), (q77, .inr (20, [.int 0, .ref q78, .int 0, .int 0, .ref q80, .ref q82, .ref q84, .ref q86, .ref q88, .ref q90, .ref q91, .ref q93, .ref q94, .ref q105, .ref q106, .ref q124, .ref q131, .int 0, .int 0, .int 0, .int 0, .int 0, .int 0, .int 0, .int 0, .int 0, .ref q132, .ref q133, .ref q134, .ref q135, .ref q136, .ref q137, .ref q138, .ref q139, .ref q140, .int 0])), (q80, .inl (y81, 4, .inl (fun _ => 0)))]) (hS : va_S A s.heap H locs) (hl : lv_has ls 8 [(4, .int 0), (3, .ref q143), (2, .ref q77), (1, .ref q1), (0, .ref b)]) (kkE : ∀ (H : Heap) (locs : List Loc) (ls : Array Slot), va_S A s.heap H locs → lv_has ls 8 [(4, .int 6), (0, .ref b)] → W p l e room_1 s m #[Value.ref b] below meth c H locs 600002 7302232 Q (F0 m 23 ls [])) : W p l e room_1 s m #[Value.ref b] below meth c H locs 455 2511899 Q (F0 m 334 ls []) := by
  refine lv_aload_n hx hb dL_law_334 rfl (lv_at hl 3 rfl) ?_
  refine lv_aload_n hx hb dL_law_335 rfl (lv_at hl 4 rfl) ?_
  refine lv_iload hx hb dL_law_336 (lv_at hl 0 rfl) ?_
  refine lv_iconst (v := 1) hx hb dL_law_338 (by decide) ?_
  refine lv_iadd hx hb dL_law_339 ?_
  refine lv_topi (fun z501 ez501 => ?_)
  obtain rfl : z501 = 1 := ez501.trans (by decide)
  refine va_sld (i := 1) hx hb hX hbl hbA hS (vp_in_iff.mpr ⟨by decide, by decide⟩) dL_law_340 ?_
  rw [es1]
  refine lv_aload_n hx hb dL_law_341 rfl (lv_at hl 4 rfl) ?_
  refine lv_iload hx hb dL_law_342 (lv_at hl 0 rfl) ?_
  refine lv_iconst (v := 2) hx hb dL_law_344 (by decide) ?_
  refine lv_iadd hx hb dL_law_345 ?_
  refine lv_topi (fun z502 ez502 => ?_)
  obtain rfl : z502 = 2 := ez502.trans (by decide)
  refine va_sld (i := 2) hx hb hX hbl hbA hS (vp_in_iff.mpr ⟨by decide, by decide⟩) dL_law_346 ?_
  rw [es2]
  have hPc := hP.sub (ws' := [(q1, .inr (13, [.ref q2, .int 0, .int 0, .ref q4, .ref q6, .ref q8, .ref q22, .ref q37, .ref q39, .ref q41, .int 0, .ref q43])), (q4, .inl (y5, 4, .inr (.inr (.inr (.inr (fun _ => none))))))]) [0, 1] rfl
  have hDc := hD.sub (ws' := [(q1, .inr (13, [.ref q2, .int 0, .int 0, .ref q4, .ref q6, .ref q8, .ref q22, .ref q37, .ref q39, .ref q41, .int 0, .ref q43])), (q4, .inl (y5, 4, .inr (.inr (.inr (.inr (fun _ => none))))))]) [0, 1] (by decide) rfl
  have hKc := hK.sub (tys' := [(y5, .object RX8)]) [0] rfl
  have hFc := va_free (wc := [(q1, .inr (13, [.ref q2, .int 0, .int 0, .ref q4, .ref q6, .ref q8, .ref q22, .ref q37, .ref q39, .ref q41, .int 0, .ref q43])), (q4, .inl (y5, 4, .inr (.inr (.inr (.inr (fun _ => none))))))]) hD hS hA [0, 1] rfl
  refine va_calli (va_runV (As := [.int x1, .int x2]) (rest := []) ⟨hx, hb, hml, hown, hts⟩ (k_X12_program l hlt dC dI q1 q4 y5 x1 x2 q2 q6 q8 q22 q37 q39 q41 q43  H.size) (cwV 2 hts gl_10 rfl rfl rfl (by decide +kernel) ⟨Nat.le_of_ble_eq_true rfl, Nat.le_of_ble_eq_true rfl⟩) ⟨fun a U g mk q => by obtain ⟨q0, q1, qP, qK, qD, qN⟩ := q; exact ⟨q0, q1, qP, va_K.moved (u := U) (U := U.calling g mk a) (Vm.Alike.refl U.vm) qK, qD, nv_same rfl rfl qN⟩, va_recv hKc hPc (ci := 13) (q0 := 0) rfl rfl, fun U hU hW => ⟨rfl, by rw [hU], by rw [hU]; exact hPc, va_K.moved hW.alike hKc, hDc.weaken (fun _ _ _ _ => trivial), nv_call hS hFc hU hW hN⟩⟩ rfl rfl hl.1 rfl (lv_room (Nat.le_of_ble_eq_true rfl)) dL_law_347 ⟨by decide +kernel, by decide +kernel⟩) hS (fun q _ h => hFc q h) hFc (fun r503 u t H1 locs ht hvm hw hB hz1 hk1 hS => ?_)
  obtain ⟨hP1, hK1, hD1⟩ := hB
  rw [ht] at hP1
  have hK1 := va_K.moved hvm.symm hK1
  obtain rfl : r503 = (-1) := hw
  obtain ⟨hP, hD⟩ := va_join (wr := [(q77, .inr (20, [.int 0, .ref q78, .int 0, .int 0, .ref q80, .ref q82, .ref q84, .ref q86, .ref q88, .ref q90, .ref q91, .ref q93, .ref q94, .ref q105, .ref q106, .ref q124, .ref q131, .int 0, .int 0, .int 0, .int 0, .int 0, .int 0, .int 0, .int 0, .int 0, .ref q132, .ref q133, .ref q134, .ref q135, .ref q136, .ref q137, .ref q138, .ref q139, .ref q140, .int 0])), (q80, .inl (y81, 4, .inl (fun _ => 0)))]) (w1 := [(q1, .inr (13, [.ref q2, .int 0, .int 0, .ref q4, .ref q6, .ref q8, .ref q22, .ref q37, .ref q39, .ref q41, .int 0, .ref q43])), (q4, .inl (y5, 4, .inr (.inr (.inr (.inr (fun _ => none))))))]) hP hD [0, 1] [2, 3] rfl rfl (by decide) (by decide) hk1 hFc hP1 hD1
  have hK := (hK.sub (tys' := [(y81, .boolean)]) [1] rfl).app hK1
  generalize H1 = H at hP hS ⊢
  have hP : va_P (dC, dI) vwCl [(q77, .inr (20, [.int 0, .ref q78, .int 0, .int 0, .ref q80, .ref q82, .ref q84, .ref q86, .ref q88, .ref q90, .ref q91, .ref q93, .ref q94, .ref q105, .ref q106, .ref q124, .ref q131, .int 0, .int 0, .int 0, .int 0, .int 0, .int 0, .int 0, .int 0, .int 0, .ref q132, .ref q133, .ref q134, .ref q135, .ref q136, .ref q137, .ref q138, .ref q139, .ref q140, .int 0])), (q80, .inl (y81, 4, .inl (fun _ => 0))), (q1, .inr (13, [.ref q2, .int 0, .int 0, .ref q4, .ref q6, .ref q8, .ref q22, .ref q37, .ref q39, .ref q41, .int 0, .ref q43])), (q4, .inl (y5, 4, .inr (.inr (.inr (.inr (fun _ => none))))))] H := hP
  have hD : va_D A [(q77, .inr (20, [.int 0, .ref q78, .int 0, .int 0, .ref q80, .ref q82, .ref q84, .ref q86, .ref q88, .ref q90, .ref q91, .ref q93, .ref q94, .ref q105, .ref q106, .ref q124, .ref q131, .int 0, .int 0, .int 0, .int 0, .int 0, .int 0, .int 0, .int 0, .int 0, .ref q132, .ref q133, .ref q134, .ref q135, .ref q136, .ref q137, .ref q138, .ref q139, .ref q140, .int 0])), (q80, .inl (y81, 4, .inl (fun _ => 0))), (q1, .inr (13, [.ref q2, .int 0, .int 0, .ref q4, .ref q6, .ref q8, .ref q22, .ref q37, .ref q39, .ref q41, .int 0, .ref q43])), (q4, .inl (y5, 4, .inr (.inr (.inr (.inr (fun _ => none))))))] := hD
  have hK : va_K (dC, dI) vwCl [(y81, .boolean), (y5, .object RX8)] s := hK
  refine W.widen (k := 455) (n := 2511899) (by decide +kernel) (by decide +kernel) ?_
  refine lv_aload_n hx hb dL_law_350 rfl (lv_at hl 2 rfl) ?_
  refine lv_aload_n hx hb dL_law_351 rfl (lv_at hl 4 rfl) ?_
  refine lv_iload hx hb dL_law_352 (lv_at hl 0 rfl) ?_
  refine lv_iconst (v := 1) hx hb dL_law_354 (by decide) ?_
  refine lv_iadd hx hb dL_law_355 ?_
  refine lv_topi (fun z504 ez504 => ?_)
  obtain rfl : z504 = 1 := ez504.trans (by decide)
  refine va_sld (i := 1) hx hb hX hbl hbA hS (vp_in_iff.mpr ⟨by decide, by decide⟩) dL_law_356 ?_
  rw [es1]
  refine lv_aload_n hx hb dL_law_357 rfl (lv_at hl 4 rfl) ?_
  refine lv_iload hx hb dL_law_358 (lv_at hl 0 rfl) ?_
  refine lv_iconst (v := 2) hx hb dL_law_360 (by decide) ?_
  refine lv_iadd hx hb dL_law_361 ?_
  refine lv_topi (fun z505 ez505 => ?_)
  obtain rfl : z505 = 2 := ez505.trans (by decide)
  refine va_sld (i := 2) hx hb hX hbl hbA hS (vp_in_iff.mpr ⟨by decide, by decide⟩) dL_law_362 ?_
  rw [es2]
  have hPc := hP.sub (ws' := [(q77, .inr (20, [.int 0, .ref q78, .int 0, .int 0, .ref q80, .ref q82, .ref q84, .ref q86, .ref q88, .ref q90, .ref q91, .ref q93, .ref q94, .ref q105, .ref q106, .ref q124, .ref q131, .int 0, .int 0, .int 0, .int 0, .int 0, .int 0, .int 0, .int 0, .int 0, .ref q132, .ref q133, .ref q134, .ref q135, .ref q136, .ref q137, .ref q138, .ref q139, .ref q140, .int 0])), (q80, .inl (y81, 4, .inl (fun _ => 0)))]) [0, 1] rfl
  have hDc := hD.sub (ws' := [(q77, .inr (20, [.int 0, .ref q78, .int 0, .int 0, .ref q80, .ref q82, .ref q84, .ref q86, .ref q88, .ref q90, .ref q91, .ref q93, .ref q94, .ref q105, .ref q106, .ref q124, .ref q131, .int 0, .int 0, .int 0, .int 0, .int 0, .int 0, .int 0, .int 0, .int 0, .ref q132, .ref q133, .ref q134, .ref q135, .ref q136, .ref q137, .ref q138, .ref q139, .ref q140, .int 0])), (q80, .inl (y81, 4, .inl (fun _ => 0)))]) [0, 1] (by decide) rfl
  have hKc := hK.sub (tys' := [(y81, .boolean)]) [0] rfl
  have hFc := va_free (wc := [(q77, .inr (20, [.int 0, .ref q78, .int 0, .int 0, .ref q80, .ref q82, .ref q84, .ref q86, .ref q88, .ref q90, .ref q91, .ref q93, .ref q94, .ref q105, .ref q106, .ref q124, .ref q131, .int 0, .int 0, .int 0, .int 0, .int 0, .int 0, .int 0, .int 0, .int 0, .ref q132, .ref q133, .ref q134, .ref q135, .ref q136, .ref q137, .ref q138, .ref q139, .ref q140, .int 0])), (q80, .inl (y81, 4, .inl (fun _ => 0)))]) hD hS hA [0, 1] rfl
  refine va_calli (va_runV (As := [.int x1, .int x2]) (rest := [.int (-1)]) ⟨hx, hb, hml, hown, hts⟩ (k_X19_program l hlt dC dI q77 q80 y81 x1 x2 q78 q82 q84 q86 q88 q90 q91 q93 q94 q105 q106 q124 q131 q132 q133 q134 q135 q136 q137 q138 q139 q140  H.size) (cwV 2 hts gl_11 rfl rfl rfl (by decide +kernel) ⟨Nat.le_of_ble_eq_true rfl, Nat.le_of_ble_eq_true rfl⟩) ⟨fun a U g mk q => by obtain ⟨q0, q1, qP, qK, qD, qN⟩ := q; exact ⟨q0, q1, qP, va_K.moved (u := U) (U := U.calling g mk a) (Vm.Alike.refl U.vm) qK, qD, nv_same rfl rfl qN⟩, va_recv hKc hPc (ci := 20) (q0 := 0) rfl rfl, fun U hU hW => ⟨rfl, by rw [hU], by rw [hU]; exact hPc, va_K.moved hW.alike hKc, hDc.weaken (fun _ _ _ _ => trivial), nv_call hS hFc hU hW hN⟩⟩ rfl rfl hl.1 rfl (lv_room (Nat.le_of_ble_eq_true rfl)) dL_law_363 ⟨by decide +kernel, by decide +kernel⟩) hS (fun q _ h => hFc q h) hFc (fun r506 u t H1 locs ht hvm hw hB hz1 hk1 hS => ?_)
  obtain ⟨hP1, hK1, hD1⟩ := hB
  rw [ht] at hP1
  have hK1 := va_K.moved hvm.symm hK1
  obtain rfl : r506 = (-1) := hw
  obtain ⟨hP, hD⟩ := va_join (wr := [(q1, .inr (13, [.ref q2, .int 0, .int 0, .ref q4, .ref q6, .ref q8, .ref q22, .ref q37, .ref q39, .ref q41, .int 0, .ref q43])), (q4, .inl (y5, 4, .inr (.inr (.inr (.inr (fun _ => none))))))]) (w1 := [(q77, .inr (20, [.int 0, .ref q78, .int 0, .int 0, .ref q80, .ref q82, .ref q84, .ref q86, .ref q88, .ref q90, .ref q91, .ref q93, .ref q94, .ref q105, .ref q106, .ref q124, .ref q131, .int 0, .int 0, .int 0, .int 0, .int 0, .int 0, .int 0, .int 0, .int 0, .ref q132, .ref q133, .ref q134, .ref q135, .ref q136, .ref q137, .ref q138, .ref q139, .ref q140, .int 0])), (q80, .inl (y81, 4, .inl (fun _ => 0)))]) hP hD [0, 1] [2, 3] rfl rfl (by decide) (by decide) hk1 hFc hP1 hD1
  have hK := (hK.sub (tys' := [(y5, .object RX8)]) [1] rfl).app hK1
  generalize H1 = H at hP hS ⊢
  have hP : va_P (dC, dI) vwCl [(q1, .inr (13, [.ref q2, .int 0, .int 0, .ref q4, .ref q6, .ref q8, .ref q22, .ref q37, .ref q39, .ref q41, .int 0, .ref q43])), (q4, .inl (y5, 4, .inr (.inr (.inr (.inr (fun _ => none)))))), (q77, .inr (20, [.int 0, .ref q78, .int 0, .int 0, .ref q80, .ref q82, .ref q84, .ref q86, .ref q88, .ref q90, .ref q91, .ref q93, .ref q94, .ref q105, .ref q106, .ref q124, .ref q131, .int 0, .int 0, .int 0, .int 0, .int 0, .int 0, .int 0, .int 0, .int 0, .ref q132, .ref q133, .ref q134, .ref q135, .ref q136, .ref q137, .ref q138, .ref q139, .ref q140, .int 0])), (q80, .inl (y81, 4, .inl (fun _ => 0)))] H := hP
  have hD : va_D A [(q1, .inr (13, [.ref q2, .int 0, .int 0, .ref q4, .ref q6, .ref q8, .ref q22, .ref q37, .ref q39, .ref q41, .int 0, .ref q43])), (q4, .inl (y5, 4, .inr (.inr (.inr (.inr (fun _ => none)))))), (q77, .inr (20, [.int 0, .ref q78, .int 0, .int 0, .ref q80, .ref q82, .ref q84, .ref q86, .ref q88, .ref q90, .ref q91, .ref q93, .ref q94, .ref q105, .ref q106, .ref q124, .ref q131, .int 0, .int 0, .int 0, .int 0, .int 0, .int 0, .int 0, .int 0, .int 0, .ref q132, .ref q133, .ref q134, .ref q135, .ref q136, .ref q137, .ref q138, .ref q139, .ref q140, .int 0])), (q80, .inl (y81, 4, .inl (fun _ => 0)))] := hD
  have hK : va_K (dC, dI) vwCl [(y5, .object RX8), (y81, .boolean)] s := hK
  refine W.widen (k := 455) (n := 2511899) (by decide +kernel) (by decide +kernel) ?_
  refine lv_icmp_eq (tgt := 1493) hx hb dL_law_366 (by decide) (fun _ => ?_) (fun h9 => absurd (by decide) h9)
  refine lv_iinc (v := 6) (lv' := [(4, .int 6), (3, .ref q143), (2, .ref q77), (1, .ref q1), (0, .ref b)]) hx hb dL_law_1493 hl (k := 0) rfl (by decide) (by decide) rfl (fun ls hl => ?_)
  refine lv_goto (tgt := 23) hx hb dL_law_1496 (by decide) ?_
  refine W.widen (k := 600002) (n := 7302232) (by decide +kernel) (by decide +kernel) ?_
  exact kkE _ _ _ hS (lv_sub hl [0, 4] rfl)
set_option maxHeartbeats 40000000 in
set_option maxRecDepth 100000 in
theorem law_c4 {p : Program} {l : Launch} {e : Env} {s : State} {m : MethodId} {below : List Frame} {meth : Method} {c : Code} {Q : State → Prop} {A : Nat → Prop} {b : Nat} (hlt : l.stackTraces = false) (hx : p.tables.exec = Jvm.exec) (hb : c.code = code) (hml : c.maxLocals = 8) (hown : s.vm.findClass RL = some m.cls) (hts : ∀ w ∈ lw_tbl, w.before #[Value.ref b] s = true) (hN : nv_E A s) (hA : ∀ q : Nat, s.heap.size ≤ q → A q) (hDe : nv_Dc s) (dC : Nat → ClassId) (dI : Nat → Nat → Nat) (q1 : Nat) (q2 : Nat) (q4 : Nat) (y5 : ClassId) (q6 : Nat) (q8 : Nat) (q22 : Nat) (q37 : Nat) (q39 : Nat) (q41 : Nat) (q43 : Nat) (q77 : Nat) (q78 : Nat) (q80 : Nat) (y81 : ClassId) (q82 : Nat) (q84 : Nat) (q86 : Nat) (q88 : Nat) (q90 : Nat) (q91 : Nat) (q93 : Nat) (q94 : Nat) (q105 : Nat) (q106 : Nat) (q124 : Nat) (q131 : Nat) (q132 : Nat) (q133 : Nat) (q134 : Nat) (q135 : Nat) (q136 : Nat) (q137 : Nat) (q138 : Nat) (q139 : Nat) (q140 : Nat) (q143 : Nat) {xs : Nat → Int32} (hX : va_X b 6 xs s s.heap) (hbl : b < s.heap.size) (hbA : ¬ A b) (x0 : Int32) (es0 : xs (Int32.toNatClampNeg 0) = x0) (x1 : Int32) (es1 : xs (Int32.toNatClampNeg 1) = x1) (x2 : Int32) (es2 : xs (Int32.toNatClampNeg 2) = x2) (x3 : Int32) (es3 : xs (Int32.toNatClampNeg 3) = x3) (x4 : Int32) (es4 : xs (Int32.toNatClampNeg 4) = x4) (x5 : Int32) (es5 : xs (Int32.toNatClampNeg 5) = x5) {H : Heap} {locs : List Loc} {ls : Array Slot} (hK : va_K (dC, dI) vwCl [(y5, .object RX8), (y81, .boolean)] s) (hP : va_P (dC, dI) vwCl [(q1, .inr (13, [.ref q2, .int 0, .int 0, .ref q4, .ref q6, .ref q8, .ref q22, .ref q37, .ref q39, .ref q41, .int 0, .ref q43])), (q4, .inl (y5, 4, .inr (.inr (.inr (.inr (fun _ => none)))))), (q77, .inr (20, [.int 0, .ref q78, .int 0, .int 0, .ref q80, .ref q82, .ref q84, .ref q86, .ref q88, .ref q90, .ref q91, .ref q93, .ref q94, .ref q105, .ref q106, .ref q124, .ref q131, .int 0, .int 0, .int 0, .int 0, .int 0, .int 0, .int 0, .int 0, .int 0, .ref q132, .ref q133, .ref q134, .ref q135, .ref q136, .ref q137, .ref q138, .ref q139, .ref q140, .int 0])), (q80, .inl (y81, 4, .inl (fun _ => 0)))] H) (hD : va_D A [(q1, .inr (13, [.ref q2, .int 0, .int 0, .ref q4, .ref q6, .ref q8, .ref q22, .ref q37, .ref q39, .ref q41, .int 0, .ref q43])), (q4, .inl (y5, 4, .inr (.inr (.inr (.inr (fun _ => none)))))), (q77, .inr (20, [.int 0, .ref q78, .int 0, .int 0, .ref q80, .ref q82, .ref q84, .ref q86, .ref q88, .ref q90, .ref q91, .ref q93, .ref q94, .ref q105, .ref q106, .ref q124, .ref q131, .int 0, .int 0, .int 0, .int 0, .int 0, .int 0, .int 0, .int 0, .int 0, .ref q132, .ref q133, .ref q134, .ref q135, .ref q136, .ref q137, .ref q138, .ref q139, .ref q140, .int 0])), (q80, .inl (y81, 4, .inl (fun _ => 0)))]) (hS : va_S A s.heap H locs) (hl : lv_has ls 8 [(4, .int 0), (3, .ref q143), (2, .ref q77), (1, .ref q1), (0, .ref b)]) (kkE : ∀ (H : Heap) (locs : List Loc) (ls : Array Slot), va_S A s.heap H locs → lv_has ls 8 [(4, .int 6), (0, .ref b)] → W p l e room_1 s m #[Value.ref b] below meth c H locs 600002 7302232 Q (F0 m 23 ls [])) : W p l e room_1 s m #[Value.ref b] below meth c H locs 455 2511899 Q (F0 m 371 ls []) := by
  refine lv_aload_n hx hb dL_law_371 rfl (lv_at hl 3 rfl) ?_
  refine lv_aload_n hx hb dL_law_372 rfl (lv_at hl 4 rfl) ?_
  refine lv_iload hx hb dL_law_373 (lv_at hl 0 rfl) ?_
  refine lv_iconst (v := 1) hx hb dL_law_375 (by decide) ?_
  refine lv_iadd hx hb dL_law_376 ?_
  refine lv_topi (fun z501 ez501 => ?_)
  obtain rfl : z501 = 1 := ez501.trans (by decide)
  refine va_sld (i := 1) hx hb hX hbl hbA hS (vp_in_iff.mpr ⟨by decide, by decide⟩) dL_law_377 ?_
  rw [es1]
  refine lv_aload_n hx hb dL_law_378 rfl (lv_at hl 4 rfl) ?_
  refine lv_iload hx hb dL_law_379 (lv_at hl 0 rfl) ?_
  refine lv_iconst (v := 2) hx hb dL_law_381 (by decide) ?_
  refine lv_iadd hx hb dL_law_382 ?_
  refine lv_topi (fun z502 ez502 => ?_)
  obtain rfl : z502 = 2 := ez502.trans (by decide)
  refine va_sld (i := 2) hx hb hX hbl hbA hS (vp_in_iff.mpr ⟨by decide, by decide⟩) dL_law_383 ?_
  rw [es2]
  have hPc := hP.sub (ws' := [(q1, .inr (13, [.ref q2, .int 0, .int 0, .ref q4, .ref q6, .ref q8, .ref q22, .ref q37, .ref q39, .ref q41, .int 0, .ref q43])), (q4, .inl (y5, 4, .inr (.inr (.inr (.inr (fun _ => none))))))]) [0, 1] rfl
  have hDc := hD.sub (ws' := [(q1, .inr (13, [.ref q2, .int 0, .int 0, .ref q4, .ref q6, .ref q8, .ref q22, .ref q37, .ref q39, .ref q41, .int 0, .ref q43])), (q4, .inl (y5, 4, .inr (.inr (.inr (.inr (fun _ => none))))))]) [0, 1] (by decide) rfl
  have hKc := hK.sub (tys' := [(y5, .object RX8)]) [0] rfl
  have hFc := va_free (wc := [(q1, .inr (13, [.ref q2, .int 0, .int 0, .ref q4, .ref q6, .ref q8, .ref q22, .ref q37, .ref q39, .ref q41, .int 0, .ref q43])), (q4, .inl (y5, 4, .inr (.inr (.inr (.inr (fun _ => none))))))]) hD hS hA [0, 1] rfl
  refine va_calli (va_runV (As := [.int x1, .int x2]) (rest := []) ⟨hx, hb, hml, hown, hts⟩ (k_X12_image l hlt dC dI q1 q4 y5 x1 x2 q2 q6 q8 q22 q37 q39 q41 q43  H.size) (cwV 2 hts gl_12 rfl rfl rfl (by decide +kernel) ⟨Nat.le_of_ble_eq_true rfl, Nat.le_of_ble_eq_true rfl⟩) ⟨fun a U g mk q => by obtain ⟨q0, q1, qP, qK, qD, qN⟩ := q; exact ⟨q0, q1, qP, va_K.moved (u := U) (U := U.calling g mk a) (Vm.Alike.refl U.vm) qK, qD, nv_same rfl rfl qN⟩, va_recv hKc hPc (ci := 13) (q0 := 0) rfl rfl, fun U hU hW => ⟨rfl, by rw [hU], by rw [hU]; exact hPc, va_K.moved hW.alike hKc, hDc.weaken (fun _ _ _ _ => trivial), nv_call hS hFc hU hW hN⟩⟩ rfl rfl hl.1 rfl (lv_room (Nat.le_of_ble_eq_true rfl)) dL_law_384 ⟨by decide +kernel, by decide +kernel⟩) hS (fun q _ h => hFc q h) hFc (fun r503 u t H1 locs ht hvm hw hB hz1 hk1 hS => ?_)
  obtain ⟨hP1, hK1, hD1⟩ := hB
  rw [ht] at hP1
  have hK1 := va_K.moved hvm.symm hK1
  obtain rfl : r503 = (-1) := hw
  obtain ⟨hP, hD⟩ := va_join (wr := [(q77, .inr (20, [.int 0, .ref q78, .int 0, .int 0, .ref q80, .ref q82, .ref q84, .ref q86, .ref q88, .ref q90, .ref q91, .ref q93, .ref q94, .ref q105, .ref q106, .ref q124, .ref q131, .int 0, .int 0, .int 0, .int 0, .int 0, .int 0, .int 0, .int 0, .int 0, .ref q132, .ref q133, .ref q134, .ref q135, .ref q136, .ref q137, .ref q138, .ref q139, .ref q140, .int 0])), (q80, .inl (y81, 4, .inl (fun _ => 0)))]) (w1 := [(q1, .inr (13, [.ref q2, .int 0, .int 0, .ref q4, .ref q6, .ref q8, .ref q22, .ref q37, .ref q39, .ref q41, .int 0, .ref q43])), (q4, .inl (y5, 4, .inr (.inr (.inr (.inr (fun _ => none))))))]) hP hD [0, 1] [2, 3] rfl rfl (by decide) (by decide) hk1 hFc hP1 hD1
  have hK := (hK.sub (tys' := [(y81, .boolean)]) [1] rfl).app hK1
  generalize H1 = H at hP hS ⊢
  have hP : va_P (dC, dI) vwCl [(q77, .inr (20, [.int 0, .ref q78, .int 0, .int 0, .ref q80, .ref q82, .ref q84, .ref q86, .ref q88, .ref q90, .ref q91, .ref q93, .ref q94, .ref q105, .ref q106, .ref q124, .ref q131, .int 0, .int 0, .int 0, .int 0, .int 0, .int 0, .int 0, .int 0, .int 0, .ref q132, .ref q133, .ref q134, .ref q135, .ref q136, .ref q137, .ref q138, .ref q139, .ref q140, .int 0])), (q80, .inl (y81, 4, .inl (fun _ => 0))), (q1, .inr (13, [.ref q2, .int 0, .int 0, .ref q4, .ref q6, .ref q8, .ref q22, .ref q37, .ref q39, .ref q41, .int 0, .ref q43])), (q4, .inl (y5, 4, .inr (.inr (.inr (.inr (fun _ => none))))))] H := hP
  have hD : va_D A [(q77, .inr (20, [.int 0, .ref q78, .int 0, .int 0, .ref q80, .ref q82, .ref q84, .ref q86, .ref q88, .ref q90, .ref q91, .ref q93, .ref q94, .ref q105, .ref q106, .ref q124, .ref q131, .int 0, .int 0, .int 0, .int 0, .int 0, .int 0, .int 0, .int 0, .int 0, .ref q132, .ref q133, .ref q134, .ref q135, .ref q136, .ref q137, .ref q138, .ref q139, .ref q140, .int 0])), (q80, .inl (y81, 4, .inl (fun _ => 0))), (q1, .inr (13, [.ref q2, .int 0, .int 0, .ref q4, .ref q6, .ref q8, .ref q22, .ref q37, .ref q39, .ref q41, .int 0, .ref q43])), (q4, .inl (y5, 4, .inr (.inr (.inr (.inr (fun _ => none))))))] := hD
  have hK : va_K (dC, dI) vwCl [(y81, .boolean), (y5, .object RX8)] s := hK
  refine W.widen (k := 455) (n := 2511899) (by decide +kernel) (by decide +kernel) ?_
  refine lv_aload_n hx hb dL_law_387 rfl (lv_at hl 2 rfl) ?_
  refine lv_aload_n hx hb dL_law_388 rfl (lv_at hl 4 rfl) ?_
  refine lv_iload hx hb dL_law_389 (lv_at hl 0 rfl) ?_
  refine lv_iconst (v := 1) hx hb dL_law_391 (by decide) ?_
  refine lv_iadd hx hb dL_law_392 ?_
  refine lv_topi (fun z504 ez504 => ?_)
  obtain rfl : z504 = 1 := ez504.trans (by decide)
  refine va_sld (i := 1) hx hb hX hbl hbA hS (vp_in_iff.mpr ⟨by decide, by decide⟩) dL_law_393 ?_
  rw [es1]
  refine lv_aload_n hx hb dL_law_394 rfl (lv_at hl 4 rfl) ?_
  refine lv_iload hx hb dL_law_395 (lv_at hl 0 rfl) ?_
  refine lv_iconst (v := 2) hx hb dL_law_397 (by decide) ?_
  refine lv_iadd hx hb dL_law_398 ?_
  refine lv_topi (fun z505 ez505 => ?_)
  obtain rfl : z505 = 2 := ez505.trans (by decide)
  refine va_sld (i := 2) hx hb hX hbl hbA hS (vp_in_iff.mpr ⟨by decide, by decide⟩) dL_law_399 ?_
  rw [es2]
  have hPc := hP.sub (ws' := [(q77, .inr (20, [.int 0, .ref q78, .int 0, .int 0, .ref q80, .ref q82, .ref q84, .ref q86, .ref q88, .ref q90, .ref q91, .ref q93, .ref q94, .ref q105, .ref q106, .ref q124, .ref q131, .int 0, .int 0, .int 0, .int 0, .int 0, .int 0, .int 0, .int 0, .int 0, .ref q132, .ref q133, .ref q134, .ref q135, .ref q136, .ref q137, .ref q138, .ref q139, .ref q140, .int 0])), (q80, .inl (y81, 4, .inl (fun _ => 0)))]) [0, 1] rfl
  have hDc := hD.sub (ws' := [(q77, .inr (20, [.int 0, .ref q78, .int 0, .int 0, .ref q80, .ref q82, .ref q84, .ref q86, .ref q88, .ref q90, .ref q91, .ref q93, .ref q94, .ref q105, .ref q106, .ref q124, .ref q131, .int 0, .int 0, .int 0, .int 0, .int 0, .int 0, .int 0, .int 0, .int 0, .ref q132, .ref q133, .ref q134, .ref q135, .ref q136, .ref q137, .ref q138, .ref q139, .ref q140, .int 0])), (q80, .inl (y81, 4, .inl (fun _ => 0)))]) [0, 1] (by decide) rfl
  have hKc := hK.sub (tys' := [(y81, .boolean)]) [0] rfl
  have hFc := va_free (wc := [(q77, .inr (20, [.int 0, .ref q78, .int 0, .int 0, .ref q80, .ref q82, .ref q84, .ref q86, .ref q88, .ref q90, .ref q91, .ref q93, .ref q94, .ref q105, .ref q106, .ref q124, .ref q131, .int 0, .int 0, .int 0, .int 0, .int 0, .int 0, .int 0, .int 0, .int 0, .ref q132, .ref q133, .ref q134, .ref q135, .ref q136, .ref q137, .ref q138, .ref q139, .ref q140, .int 0])), (q80, .inl (y81, 4, .inl (fun _ => 0)))]) hD hS hA [0, 1] rfl
  refine va_calli (va_runV (As := [.int x1, .int x2]) (rest := [.int (-1)]) ⟨hx, hb, hml, hown, hts⟩ (k_X19_image l hlt dC dI q77 q80 y81 x1 x2 q78 q82 q84 q86 q88 q90 q91 q93 q94 q105 q106 q124 q131 q132 q133 q134 q135 q136 q137 q138 q139 q140  H.size) (cwV 2 hts gl_13 rfl rfl rfl (by decide +kernel) ⟨Nat.le_of_ble_eq_true rfl, Nat.le_of_ble_eq_true rfl⟩) ⟨fun a U g mk q => by obtain ⟨q0, q1, qP, qK, qD, qN⟩ := q; exact ⟨q0, q1, qP, va_K.moved (u := U) (U := U.calling g mk a) (Vm.Alike.refl U.vm) qK, qD, nv_same rfl rfl qN⟩, va_recv hKc hPc (ci := 20) (q0 := 0) rfl rfl, fun U hU hW => ⟨rfl, by rw [hU], by rw [hU]; exact hPc, va_K.moved hW.alike hKc, hDc.weaken (fun _ _ _ _ => trivial), nv_call hS hFc hU hW hN⟩⟩ rfl rfl hl.1 rfl (lv_room (Nat.le_of_ble_eq_true rfl)) dL_law_400 ⟨by decide +kernel, by decide +kernel⟩) hS (fun q _ h => hFc q h) hFc (fun r506 u t H1 locs ht hvm hw hB hz1 hk1 hS => ?_)
  obtain ⟨hP1, hK1, hD1⟩ := hB
  rw [ht] at hP1
  have hK1 := va_K.moved hvm.symm hK1
  obtain rfl : r506 = (-1) := hw
  obtain ⟨hP, hD⟩ := va_join (wr := [(q1, .inr (13, [.ref q2, .int 0, .int 0, .ref q4, .ref q6, .ref q8, .ref q22, .ref q37, .ref q39, .ref q41, .int 0, .ref q43])), (q4, .inl (y5, 4, .inr (.inr (.inr (.inr (fun _ => none))))))]) (w1 := [(q77, .inr (20, [.int 0, .ref q78, .int 0, .int 0, .ref q80, .ref q82, .ref q84, .ref q86, .ref q88, .ref q90, .ref q91, .ref q93, .ref q94, .ref q105, .ref q106, .ref q124, .ref q131, .int 0, .int 0, .int 0, .int 0, .int 0, .int 0, .int 0, .int 0, .int 0, .ref q132, .ref q133, .ref q134, .ref q135, .ref q136, .ref q137, .ref q138, .ref q139, .ref q140, .int 0])), (q80, .inl (y81, 4, .inl (fun _ => 0)))]) hP hD [0, 1] [2, 3] rfl rfl (by decide) (by decide) hk1 hFc hP1 hD1
  have hK := (hK.sub (tys' := [(y5, .object RX8)]) [1] rfl).app hK1
  generalize H1 = H at hP hS ⊢
  have hP : va_P (dC, dI) vwCl [(q1, .inr (13, [.ref q2, .int 0, .int 0, .ref q4, .ref q6, .ref q8, .ref q22, .ref q37, .ref q39, .ref q41, .int 0, .ref q43])), (q4, .inl (y5, 4, .inr (.inr (.inr (.inr (fun _ => none)))))), (q77, .inr (20, [.int 0, .ref q78, .int 0, .int 0, .ref q80, .ref q82, .ref q84, .ref q86, .ref q88, .ref q90, .ref q91, .ref q93, .ref q94, .ref q105, .ref q106, .ref q124, .ref q131, .int 0, .int 0, .int 0, .int 0, .int 0, .int 0, .int 0, .int 0, .int 0, .ref q132, .ref q133, .ref q134, .ref q135, .ref q136, .ref q137, .ref q138, .ref q139, .ref q140, .int 0])), (q80, .inl (y81, 4, .inl (fun _ => 0)))] H := hP
  have hD : va_D A [(q1, .inr (13, [.ref q2, .int 0, .int 0, .ref q4, .ref q6, .ref q8, .ref q22, .ref q37, .ref q39, .ref q41, .int 0, .ref q43])), (q4, .inl (y5, 4, .inr (.inr (.inr (.inr (fun _ => none)))))), (q77, .inr (20, [.int 0, .ref q78, .int 0, .int 0, .ref q80, .ref q82, .ref q84, .ref q86, .ref q88, .ref q90, .ref q91, .ref q93, .ref q94, .ref q105, .ref q106, .ref q124, .ref q131, .int 0, .int 0, .int 0, .int 0, .int 0, .int 0, .int 0, .int 0, .int 0, .ref q132, .ref q133, .ref q134, .ref q135, .ref q136, .ref q137, .ref q138, .ref q139, .ref q140, .int 0])), (q80, .inl (y81, 4, .inl (fun _ => 0)))] := hD
  have hK : va_K (dC, dI) vwCl [(y5, .object RX8), (y81, .boolean)] s := hK
  refine W.widen (k := 455) (n := 2511899) (by decide +kernel) (by decide +kernel) ?_
  refine lv_icmp_eq (tgt := 1493) hx hb dL_law_403 (by decide) (fun _ => ?_) (fun h9 => absurd (by decide) h9)
  refine lv_iinc (v := 6) (lv' := [(4, .int 6), (3, .ref q143), (2, .ref q77), (1, .ref q1), (0, .ref b)]) hx hb dL_law_1493 hl (k := 0) rfl (by decide) (by decide) rfl (fun ls hl => ?_)
  refine lv_goto (tgt := 23) hx hb dL_law_1496 (by decide) ?_
  refine W.widen (k := 600002) (n := 7302232) (by decide +kernel) (by decide +kernel) ?_
  exact kkE _ _ _ hS (lv_sub hl [0, 4] rfl)
set_option maxHeartbeats 40000000 in
set_option maxRecDepth 100000 in
theorem law_c5 {p : Program} {l : Launch} {e : Env} {s : State} {m : MethodId} {below : List Frame} {meth : Method} {c : Code} {Q : State → Prop} {A : Nat → Prop} {b : Nat} (hlt : l.stackTraces = false) (hx : p.tables.exec = Jvm.exec) (hb : c.code = code) (hml : c.maxLocals = 8) (hown : s.vm.findClass RL = some m.cls) (hts : ∀ w ∈ lw_tbl, w.before #[Value.ref b] s = true) (hN : nv_E A s) (hA : ∀ q : Nat, s.heap.size ≤ q → A q) (hDe : nv_Dc s) (dC : Nat → ClassId) (dI : Nat → Nat → Nat) (q1 : Nat) (q2 : Nat) (q4 : Nat) (y5 : ClassId) (q6 : Nat) (q8 : Nat) (q22 : Nat) (q37 : Nat) (q39 : Nat) (q41 : Nat) (q43 : Nat) (q77 : Nat) (q78 : Nat) (q80 : Nat) (y81 : ClassId) (q82 : Nat) (q84 : Nat) (q86 : Nat) (q88 : Nat) (q90 : Nat) (q91 : Nat) (q93 : Nat) (q94 : Nat) (q105 : Nat) (q106 : Nat) (q124 : Nat) (q131 : Nat) (q132 : Nat) (q133 : Nat) (q134 : Nat) (q135 : Nat) (q136 : Nat) (q137 : Nat) (q138 : Nat) (q139 : Nat) (q140 : Nat) (q143 : Nat) {xs : Nat → Int32} (hX : va_X b 6 xs s s.heap) (hbl : b < s.heap.size) (hbA : ¬ A b) (x0 : Int32) (es0 : xs (Int32.toNatClampNeg 0) = x0) (x1 : Int32) (es1 : xs (Int32.toNatClampNeg 1) = x1) (x2 : Int32) (es2 : xs (Int32.toNatClampNeg 2) = x2) (x3 : Int32) (es3 : xs (Int32.toNatClampNeg 3) = x3) (x4 : Int32) (es4 : xs (Int32.toNatClampNeg 4) = x4) (x5 : Int32) (es5 : xs (Int32.toNatClampNeg 5) = x5) {H : Heap} {locs : List Loc} {ls : Array Slot} (hK : va_K (dC, dI) vwCl [(y5, .object RX8), (y81, .boolean)] s) (hP : va_P (dC, dI) vwCl [(q1, .inr (13, [.ref q2, .int 0, .int 0, .ref q4, .ref q6, .ref q8, .ref q22, .ref q37, .ref q39, .ref q41, .int 0, .ref q43])), (q4, .inl (y5, 4, .inr (.inr (.inr (.inr (fun _ => none)))))), (q77, .inr (20, [.int 0, .ref q78, .int 0, .int 0, .ref q80, .ref q82, .ref q84, .ref q86, .ref q88, .ref q90, .ref q91, .ref q93, .ref q94, .ref q105, .ref q106, .ref q124, .ref q131, .int 0, .int 0, .int 0, .int 0, .int 0, .int 0, .int 0, .int 0, .int 0, .ref q132, .ref q133, .ref q134, .ref q135, .ref q136, .ref q137, .ref q138, .ref q139, .ref q140, .int 0])), (q80, .inl (y81, 4, .inl (fun _ => 0)))] H) (hD : va_D A [(q1, .inr (13, [.ref q2, .int 0, .int 0, .ref q4, .ref q6, .ref q8, .ref q22, .ref q37, .ref q39, .ref q41, .int 0, .ref q43])), (q4, .inl (y5, 4, .inr (.inr (.inr (.inr (fun _ => none)))))), (q77, .inr (20, [.int 0, .ref q78, .int 0, .int 0, .ref q80, .ref q82, .ref q84, .ref q86, .ref q88, .ref q90, .ref q91, .ref q93, .ref q94, .ref q105, .ref q106, .ref q124, .ref q131, .int 0, .int 0, .int 0, .int 0, .int 0, .int 0, .int 0, .int 0, .int 0, .ref q132, .ref q133, .ref q134, .ref q135, .ref q136, .ref q137, .ref q138, .ref q139, .ref q140, .int 0])), (q80, .inl (y81, 4, .inl (fun _ => 0)))]) (hS : va_S A s.heap H locs) (hl : lv_has ls 8 [(4, .int 0), (3, .ref q143), (2, .ref q77), (1, .ref q1), (0, .ref b)]) (kkE : ∀ (H : Heap) (locs : List Loc) (ls : Array Slot), va_S A s.heap H locs → lv_has ls 8 [(4, .int 6), (0, .ref b)] → W p l e room_1 s m #[Value.ref b] below meth c H locs 600002 7302232 Q (F0 m 23 ls [])) : W p l e room_1 s m #[Value.ref b] below meth c H locs 455 2511899 Q (F0 m 408 ls []) := by
  refine lv_aload_n hx hb dL_law_408 rfl (lv_at hl 3 rfl) ?_
  refine lv_aload_n hx hb dL_law_409 rfl (lv_at hl 4 rfl) ?_
  refine lv_iload hx hb dL_law_410 (lv_at hl 0 rfl) ?_
  refine lv_iconst (v := 1) hx hb dL_law_412 (by decide) ?_
  refine lv_iadd hx hb dL_law_413 ?_
  refine lv_topi (fun z501 ez501 => ?_)
  obtain rfl : z501 = 1 := ez501.trans (by decide)
  refine va_sld (i := 1) hx hb hX hbl hbA hS (vp_in_iff.mpr ⟨by decide, by decide⟩) dL_law_414 ?_
  rw [es1]
  refine lv_aload_n hx hb dL_law_415 rfl (lv_at hl 4 rfl) ?_
  refine lv_iload hx hb dL_law_416 (lv_at hl 0 rfl) ?_
  refine lv_iconst (v := 2) hx hb dL_law_418 (by decide) ?_
  refine lv_iadd hx hb dL_law_419 ?_
  refine lv_topi (fun z502 ez502 => ?_)
  obtain rfl : z502 = 2 := ez502.trans (by decide)
  refine va_sld (i := 2) hx hb hX hbl hbA hS (vp_in_iff.mpr ⟨by decide, by decide⟩) dL_law_420 ?_
  rw [es2]
  have hPc := hP.sub (ws' := [(q1, .inr (13, [.ref q2, .int 0, .int 0, .ref q4, .ref q6, .ref q8, .ref q22, .ref q37, .ref q39, .ref q41, .int 0, .ref q43])), (q4, .inl (y5, 4, .inr (.inr (.inr (.inr (fun _ => none))))))]) [0, 1] rfl
  have hDc := hD.sub (ws' := [(q1, .inr (13, [.ref q2, .int 0, .int 0, .ref q4, .ref q6, .ref q8, .ref q22, .ref q37, .ref q39, .ref q41, .int 0, .ref q43])), (q4, .inl (y5, 4, .inr (.inr (.inr (.inr (fun _ => none))))))]) [0, 1] (by decide) rfl
  have hKc := hK.sub (tys' := [(y5, .object RX8)]) [0] rfl
  have hFc := va_free (wc := [(q1, .inr (13, [.ref q2, .int 0, .int 0, .ref q4, .ref q6, .ref q8, .ref q22, .ref q37, .ref q39, .ref q41, .int 0, .ref q43])), (q4, .inl (y5, 4, .inr (.inr (.inr (.inr (fun _ => none))))))]) hD hS hA [0, 1] rfl
  refine va_calli (va_runV (As := [.int x1, .int x2]) (rest := []) ⟨hx, hb, hml, hown, hts⟩ (k_X12_label l hlt dC dI q1 q4 y5 x1 x2 q2 q6 q8 q22 q37 q39 q41 q43  H.size) (cwV 2 hts gl_14 rfl rfl rfl (by decide +kernel) ⟨Nat.le_of_ble_eq_true rfl, Nat.le_of_ble_eq_true rfl⟩) ⟨fun a U g mk q => by obtain ⟨q0, q1, qP, qK, qD, qN⟩ := q; exact ⟨q0, q1, qP, va_K.moved (u := U) (U := U.calling g mk a) (Vm.Alike.refl U.vm) qK, qD, nv_same rfl rfl qN⟩, va_recv hKc hPc (ci := 13) (q0 := 0) rfl rfl, fun U hU hW => ⟨rfl, by rw [hU], by rw [hU]; exact hPc, va_K.moved hW.alike hKc, hDc.weaken (fun _ _ _ _ => trivial), nv_call hS hFc hU hW hN⟩⟩ rfl rfl hl.1 rfl (lv_room (Nat.le_of_ble_eq_true rfl)) dL_law_421 ⟨by decide +kernel, by decide +kernel⟩) hS (fun q _ h => hFc q h) hFc (fun r503 u t H1 locs ht hvm hw hB hz1 hk1 hS => ?_)
  obtain ⟨hP1, hK1, hD1⟩ := hB
  rw [ht] at hP1
  have hK1 := va_K.moved hvm.symm hK1
  obtain rfl : r503 = (-1) := hw
  obtain ⟨hP, hD⟩ := va_join (wr := [(q77, .inr (20, [.int 0, .ref q78, .int 0, .int 0, .ref q80, .ref q82, .ref q84, .ref q86, .ref q88, .ref q90, .ref q91, .ref q93, .ref q94, .ref q105, .ref q106, .ref q124, .ref q131, .int 0, .int 0, .int 0, .int 0, .int 0, .int 0, .int 0, .int 0, .int 0, .ref q132, .ref q133, .ref q134, .ref q135, .ref q136, .ref q137, .ref q138, .ref q139, .ref q140, .int 0])), (q80, .inl (y81, 4, .inl (fun _ => 0)))]) (w1 := [(q1, .inr (13, [.ref q2, .int 0, .int 0, .ref q4, .ref q6, .ref q8, .ref q22, .ref q37, .ref q39, .ref q41, .int 0, .ref q43])), (q4, .inl (y5, 4, .inr (.inr (.inr (.inr (fun _ => none))))))]) hP hD [0, 1] [2, 3] rfl rfl (by decide) (by decide) hk1 hFc hP1 hD1
  have hK := (hK.sub (tys' := [(y81, .boolean)]) [1] rfl).app hK1
  generalize H1 = H at hP hS ⊢
  have hP : va_P (dC, dI) vwCl [(q77, .inr (20, [.int 0, .ref q78, .int 0, .int 0, .ref q80, .ref q82, .ref q84, .ref q86, .ref q88, .ref q90, .ref q91, .ref q93, .ref q94, .ref q105, .ref q106, .ref q124, .ref q131, .int 0, .int 0, .int 0, .int 0, .int 0, .int 0, .int 0, .int 0, .int 0, .ref q132, .ref q133, .ref q134, .ref q135, .ref q136, .ref q137, .ref q138, .ref q139, .ref q140, .int 0])), (q80, .inl (y81, 4, .inl (fun _ => 0))), (q1, .inr (13, [.ref q2, .int 0, .int 0, .ref q4, .ref q6, .ref q8, .ref q22, .ref q37, .ref q39, .ref q41, .int 0, .ref q43])), (q4, .inl (y5, 4, .inr (.inr (.inr (.inr (fun _ => none))))))] H := hP
  have hD : va_D A [(q77, .inr (20, [.int 0, .ref q78, .int 0, .int 0, .ref q80, .ref q82, .ref q84, .ref q86, .ref q88, .ref q90, .ref q91, .ref q93, .ref q94, .ref q105, .ref q106, .ref q124, .ref q131, .int 0, .int 0, .int 0, .int 0, .int 0, .int 0, .int 0, .int 0, .int 0, .ref q132, .ref q133, .ref q134, .ref q135, .ref q136, .ref q137, .ref q138, .ref q139, .ref q140, .int 0])), (q80, .inl (y81, 4, .inl (fun _ => 0))), (q1, .inr (13, [.ref q2, .int 0, .int 0, .ref q4, .ref q6, .ref q8, .ref q22, .ref q37, .ref q39, .ref q41, .int 0, .ref q43])), (q4, .inl (y5, 4, .inr (.inr (.inr (.inr (fun _ => none))))))] := hD
  have hK : va_K (dC, dI) vwCl [(y81, .boolean), (y5, .object RX8)] s := hK
  refine W.widen (k := 455) (n := 2511899) (by decide +kernel) (by decide +kernel) ?_
  refine lv_aload_n hx hb dL_law_424 rfl (lv_at hl 2 rfl) ?_
  refine lv_aload_n hx hb dL_law_425 rfl (lv_at hl 4 rfl) ?_
  refine lv_iload hx hb dL_law_426 (lv_at hl 0 rfl) ?_
  refine lv_iconst (v := 1) hx hb dL_law_428 (by decide) ?_
  refine lv_iadd hx hb dL_law_429 ?_
  refine lv_topi (fun z504 ez504 => ?_)
  obtain rfl : z504 = 1 := ez504.trans (by decide)
  refine va_sld (i := 1) hx hb hX hbl hbA hS (vp_in_iff.mpr ⟨by decide, by decide⟩) dL_law_430 ?_
  rw [es1]
  refine lv_aload_n hx hb dL_law_431 rfl (lv_at hl 4 rfl) ?_
  refine lv_iload hx hb dL_law_432 (lv_at hl 0 rfl) ?_
  refine lv_iconst (v := 2) hx hb dL_law_434 (by decide) ?_
  refine lv_iadd hx hb dL_law_435 ?_
  refine lv_topi (fun z505 ez505 => ?_)
  obtain rfl : z505 = 2 := ez505.trans (by decide)
  refine va_sld (i := 2) hx hb hX hbl hbA hS (vp_in_iff.mpr ⟨by decide, by decide⟩) dL_law_436 ?_
  rw [es2]
  have hPc := hP.sub (ws' := [(q77, .inr (20, [.int 0, .ref q78, .int 0, .int 0, .ref q80, .ref q82, .ref q84, .ref q86, .ref q88, .ref q90, .ref q91, .ref q93, .ref q94, .ref q105, .ref q106, .ref q124, .ref q131, .int 0, .int 0, .int 0, .int 0, .int 0, .int 0, .int 0, .int 0, .int 0, .ref q132, .ref q133, .ref q134, .ref q135, .ref q136, .ref q137, .ref q138, .ref q139, .ref q140, .int 0])), (q80, .inl (y81, 4, .inl (fun _ => 0)))]) [0, 1] rfl
  have hDc := hD.sub (ws' := [(q77, .inr (20, [.int 0, .ref q78, .int 0, .int 0, .ref q80, .ref q82, .ref q84, .ref q86, .ref q88, .ref q90, .ref q91, .ref q93, .ref q94, .ref q105, .ref q106, .ref q124, .ref q131, .int 0, .int 0, .int 0, .int 0, .int 0, .int 0, .int 0, .int 0, .int 0, .ref q132, .ref q133, .ref q134, .ref q135, .ref q136, .ref q137, .ref q138, .ref q139, .ref q140, .int 0])), (q80, .inl (y81, 4, .inl (fun _ => 0)))]) [0, 1] (by decide) rfl
  have hKc := hK.sub (tys' := [(y81, .boolean)]) [0] rfl
  have hFc := va_free (wc := [(q77, .inr (20, [.int 0, .ref q78, .int 0, .int 0, .ref q80, .ref q82, .ref q84, .ref q86, .ref q88, .ref q90, .ref q91, .ref q93, .ref q94, .ref q105, .ref q106, .ref q124, .ref q131, .int 0, .int 0, .int 0, .int 0, .int 0, .int 0, .int 0, .int 0, .int 0, .ref q132, .ref q133, .ref q134, .ref q135, .ref q136, .ref q137, .ref q138, .ref q139, .ref q140, .int 0])), (q80, .inl (y81, 4, .inl (fun _ => 0)))]) hD hS hA [0, 1] rfl
  refine va_calli (va_runV (As := [.int x1, .int x2]) (rest := [.int (-1)]) ⟨hx, hb, hml, hown, hts⟩ (k_X19_label l hlt dC dI q77 q80 y81 x1 x2 q78 q82 q84 q86 q88 q90 q91 q93 q94 q105 q106 q124 q131 q132 q133 q134 q135 q136 q137 q138 q139 q140  H.size) (cwV 2 hts gl_15 rfl rfl rfl (by decide +kernel) ⟨Nat.le_of_ble_eq_true rfl, Nat.le_of_ble_eq_true rfl⟩) ⟨fun a U g mk q => by obtain ⟨q0, q1, qP, qK, qD, qN⟩ := q; exact ⟨q0, q1, qP, va_K.moved (u := U) (U := U.calling g mk a) (Vm.Alike.refl U.vm) qK, qD, nv_same rfl rfl qN⟩, va_recv hKc hPc (ci := 20) (q0 := 0) rfl rfl, fun U hU hW => ⟨rfl, by rw [hU], by rw [hU]; exact hPc, va_K.moved hW.alike hKc, hDc.weaken (fun _ _ _ _ => trivial), nv_call hS hFc hU hW hN⟩⟩ rfl rfl hl.1 rfl (lv_room (Nat.le_of_ble_eq_true rfl)) dL_law_437 ⟨by decide +kernel, by decide +kernel⟩) hS (fun q _ h => hFc q h) hFc (fun r506 u t H1 locs ht hvm hw hB hz1 hk1 hS => ?_)
  obtain ⟨hP1, hK1, hD1⟩ := hB
  rw [ht] at hP1
  have hK1 := va_K.moved hvm.symm hK1
  obtain rfl : r506 = (-1) := hw
  obtain ⟨hP, hD⟩ := va_join (wr := [(q1, .inr (13, [.ref q2, .int 0, .int 0, .ref q4, .ref q6, .ref q8, .ref q22, .ref q37, .ref q39, .ref q41, .int 0, .ref q43])), (q4, .inl (y5, 4, .inr (.inr (.inr (.inr (fun _ => none))))))]) (w1 := [(q77, .inr (20, [.int 0, .ref q78, .int 0, .int 0, .ref q80, .ref q82, .ref q84, .ref q86, .ref q88, .ref q90, .ref q91, .ref q93, .ref q94, .ref q105, .ref q106, .ref q124, .ref q131, .int 0, .int 0, .int 0, .int 0, .int 0, .int 0, .int 0, .int 0, .int 0, .ref q132, .ref q133, .ref q134, .ref q135, .ref q136, .ref q137, .ref q138, .ref q139, .ref q140, .int 0])), (q80, .inl (y81, 4, .inl (fun _ => 0)))]) hP hD [0, 1] [2, 3] rfl rfl (by decide) (by decide) hk1 hFc hP1 hD1
  have hK := (hK.sub (tys' := [(y5, .object RX8)]) [1] rfl).app hK1
  generalize H1 = H at hP hS ⊢
  have hP : va_P (dC, dI) vwCl [(q1, .inr (13, [.ref q2, .int 0, .int 0, .ref q4, .ref q6, .ref q8, .ref q22, .ref q37, .ref q39, .ref q41, .int 0, .ref q43])), (q4, .inl (y5, 4, .inr (.inr (.inr (.inr (fun _ => none)))))), (q77, .inr (20, [.int 0, .ref q78, .int 0, .int 0, .ref q80, .ref q82, .ref q84, .ref q86, .ref q88, .ref q90, .ref q91, .ref q93, .ref q94, .ref q105, .ref q106, .ref q124, .ref q131, .int 0, .int 0, .int 0, .int 0, .int 0, .int 0, .int 0, .int 0, .int 0, .ref q132, .ref q133, .ref q134, .ref q135, .ref q136, .ref q137, .ref q138, .ref q139, .ref q140, .int 0])), (q80, .inl (y81, 4, .inl (fun _ => 0)))] H := hP
  have hD : va_D A [(q1, .inr (13, [.ref q2, .int 0, .int 0, .ref q4, .ref q6, .ref q8, .ref q22, .ref q37, .ref q39, .ref q41, .int 0, .ref q43])), (q4, .inl (y5, 4, .inr (.inr (.inr (.inr (fun _ => none)))))), (q77, .inr (20, [.int 0, .ref q78, .int 0, .int 0, .ref q80, .ref q82, .ref q84, .ref q86, .ref q88, .ref q90, .ref q91, .ref q93, .ref q94, .ref q105, .ref q106, .ref q124, .ref q131, .int 0, .int 0, .int 0, .int 0, .int 0, .int 0, .int 0, .int 0, .int 0, .ref q132, .ref q133, .ref q134, .ref q135, .ref q136, .ref q137, .ref q138, .ref q139, .ref q140, .int 0])), (q80, .inl (y81, 4, .inl (fun _ => 0)))] := hD
  have hK : va_K (dC, dI) vwCl [(y5, .object RX8), (y81, .boolean)] s := hK
  refine W.widen (k := 455) (n := 2511899) (by decide +kernel) (by decide +kernel) ?_
  refine lv_icmp_eq (tgt := 1493) hx hb dL_law_440 (by decide) (fun _ => ?_) (fun h9 => absurd (by decide) h9)
  refine lv_iinc (v := 6) (lv' := [(4, .int 6), (3, .ref q143), (2, .ref q77), (1, .ref q1), (0, .ref b)]) hx hb dL_law_1493 hl (k := 0) rfl (by decide) (by decide) rfl (fun ls hl => ?_)
  refine lv_goto (tgt := 23) hx hb dL_law_1496 (by decide) ?_
  refine W.widen (k := 600002) (n := 7302232) (by decide +kernel) (by decide +kernel) ?_
  exact kkE _ _ _ hS (lv_sub hl [0, 4] rfl)
set_option maxHeartbeats 40000000 in
set_option maxRecDepth 100000 in
theorem law_c6 {p : Program} {l : Launch} {e : Env} {s : State} {m : MethodId} {below : List Frame} {meth : Method} {c : Code} {Q : State → Prop} {A : Nat → Prop} {b : Nat} (hlt : l.stackTraces = false) (hx : p.tables.exec = Jvm.exec) (hb : c.code = code) (hml : c.maxLocals = 8) (hown : s.vm.findClass RL = some m.cls) (hts : ∀ w ∈ lw_tbl, w.before #[Value.ref b] s = true) (hN : nv_E A s) (hA : ∀ q : Nat, s.heap.size ≤ q → A q) (hDe : nv_Dc s) (dC : Nat → ClassId) (dI : Nat → Nat → Nat) (q1 : Nat) (q2 : Nat) (q4 : Nat) (y5 : ClassId) (q6 : Nat) (q8 : Nat) (q22 : Nat) (q37 : Nat) (q39 : Nat) (q41 : Nat) (q43 : Nat) (q77 : Nat) (q78 : Nat) (q80 : Nat) (y81 : ClassId) (q82 : Nat) (q84 : Nat) (q86 : Nat) (q88 : Nat) (q90 : Nat) (q91 : Nat) (q93 : Nat) (q94 : Nat) (q105 : Nat) (q106 : Nat) (q124 : Nat) (q131 : Nat) (q132 : Nat) (q133 : Nat) (q134 : Nat) (q135 : Nat) (q136 : Nat) (q137 : Nat) (q138 : Nat) (q139 : Nat) (q140 : Nat) (q143 : Nat) {xs : Nat → Int32} (hX : va_X b 6 xs s s.heap) (hbl : b < s.heap.size) (hbA : ¬ A b) (x0 : Int32) (es0 : xs (Int32.toNatClampNeg 0) = x0) (x1 : Int32) (es1 : xs (Int32.toNatClampNeg 1) = x1) (x2 : Int32) (es2 : xs (Int32.toNatClampNeg 2) = x2) (x3 : Int32) (es3 : xs (Int32.toNatClampNeg 3) = x3) (x4 : Int32) (es4 : xs (Int32.toNatClampNeg 4) = x4) (x5 : Int32) (es5 : xs (Int32.toNatClampNeg 5) = x5) {H : Heap} {locs : List Loc} {ls : Array Slot} (hK : va_K (dC, dI) vwCl [(y5, .object RX8), (y81, .boolean)] s) (hP : va_P (dC, dI) vwCl [(q1, .inr (13, [.ref q2, .int 0, .int 0, .ref q4, .ref q6, .ref q8, .ref q22, .ref q37, .ref q39, .ref q41, .int 0, .ref q43])), (q4, .inl (y5, 4, .inr (.inr (.inr (.inr (fun _ => none)))))), (q77, .inr (20, [.int 0, .ref q78, .int 0, .int 0, .ref q80, .ref q82, .ref q84, .ref q86, .ref q88, .ref q90, .ref q91, .ref q93, .ref q94, .ref q105, .ref q106, .ref q124, .ref q131, .int 0, .int 0, .int 0, .int 0, .int 0, .int 0, .int 0, .int 0, .int 0, .ref q132, .ref q133, .ref q134, .ref q135, .ref q136, .ref q137, .ref q138, .ref q139, .ref q140, .int 0])), (q80, .inl (y81, 4, .inl (fun _ => 0)))] H) (hD : va_D A [(q1, .inr (13, [.ref q2, .int 0, .int 0, .ref q4, .ref q6, .ref q8, .ref q22, .ref q37, .ref q39, .ref q41, .int 0, .ref q43])), (q4, .inl (y5, 4, .inr (.inr (.inr (.inr (fun _ => none)))))), (q77, .inr (20, [.int 0, .ref q78, .int 0, .int 0, .ref q80, .ref q82, .ref q84, .ref q86, .ref q88, .ref q90, .ref q91, .ref q93, .ref q94, .ref q105, .ref q106, .ref q124, .ref q131, .int 0, .int 0, .int 0, .int 0, .int 0, .int 0, .int 0, .int 0, .int 0, .ref q132, .ref q133, .ref q134, .ref q135, .ref q136, .ref q137, .ref q138, .ref q139, .ref q140, .int 0])), (q80, .inl (y81, 4, .inl (fun _ => 0)))]) (hS : va_S A s.heap H locs) (hl : lv_has ls 8 [(4, .int 0), (3, .ref q143), (2, .ref q77), (1, .ref q1), (0, .ref b)]) (kkE : ∀ (H : Heap) (locs : List Loc) (ls : Array Slot), va_S A s.heap H locs → lv_has ls 8 [(4, .int 6), (0, .ref b)] → W p l e room_1 s m #[Value.ref b] below meth c H locs 600002 7302232 Q (F0 m 23 ls [])) : W p l e room_1 s m #[Value.ref b] below meth c H locs 455 2511899 Q (F0 m 445 ls []) := by
  refine lv_aload_n hx hb dL_law_445 rfl (lv_at hl 3 rfl) ?_
  refine lv_aload_n hx hb dL_law_446 rfl (lv_at hl 4 rfl) ?_
  refine lv_iload hx hb dL_law_447 (lv_at hl 0 rfl) ?_
  refine lv_iconst (v := 1) hx hb dL_law_449 (by decide) ?_
  refine lv_iadd hx hb dL_law_450 ?_
  refine lv_topi (fun z501 ez501 => ?_)
  obtain rfl : z501 = 1 := ez501.trans (by decide)
  refine va_sld (i := 1) hx hb hX hbl hbA hS (vp_in_iff.mpr ⟨by decide, by decide⟩) dL_law_451 ?_
  rw [es1]
  refine lv_aload_n hx hb dL_law_452 rfl (lv_at hl 4 rfl) ?_
  refine lv_iload hx hb dL_law_453 (lv_at hl 0 rfl) ?_
  refine lv_iconst (v := 2) hx hb dL_law_455 (by decide) ?_
  refine lv_iadd hx hb dL_law_456 ?_
  refine lv_topi (fun z502 ez502 => ?_)
  obtain rfl : z502 = 2 := ez502.trans (by decide)
  refine va_sld (i := 2) hx hb hX hbl hbA hS (vp_in_iff.mpr ⟨by decide, by decide⟩) dL_law_457 ?_
  rw [es2]
  have hPc := hP.sub (ws' := [(q1, .inr (13, [.ref q2, .int 0, .int 0, .ref q4, .ref q6, .ref q8, .ref q22, .ref q37, .ref q39, .ref q41, .int 0, .ref q43])), (q4, .inl (y5, 4, .inr (.inr (.inr (.inr (fun _ => none))))))]) [0, 1] rfl
  have hDc := hD.sub (ws' := [(q1, .inr (13, [.ref q2, .int 0, .int 0, .ref q4, .ref q6, .ref q8, .ref q22, .ref q37, .ref q39, .ref q41, .int 0, .ref q43])), (q4, .inl (y5, 4, .inr (.inr (.inr (.inr (fun _ => none))))))]) [0, 1] (by decide) rfl
  have hKc := hK.sub (tys' := [(y5, .object RX8)]) [0] rfl
  have hFc := va_free (wc := [(q1, .inr (13, [.ref q2, .int 0, .int 0, .ref q4, .ref q6, .ref q8, .ref q22, .ref q37, .ref q39, .ref q41, .int 0, .ref q43])), (q4, .inl (y5, 4, .inr (.inr (.inr (.inr (fun _ => none))))))]) hD hS hA [0, 1] rfl
  refine va_calli (va_runV (As := [.int x1, .int x2]) (rest := []) ⟨hx, hb, hml, hown, hts⟩ (k_X12_before l hlt dC dI q1 q4 y5 x1 x2 q2 q6 q8 q22 q37 q39 q41 q43  H.size) (cwV 2 hts gl_16 rfl rfl rfl (by decide +kernel) ⟨Nat.le_of_ble_eq_true rfl, Nat.le_of_ble_eq_true rfl⟩) ⟨fun a U g mk q => by obtain ⟨q0, q1, qP, qK, qD, qN⟩ := q; exact ⟨q0, q1, qP, va_K.moved (u := U) (U := U.calling g mk a) (Vm.Alike.refl U.vm) qK, qD, nv_same rfl rfl qN⟩, va_recv hKc hPc (ci := 13) (q0 := 0) rfl rfl, fun U hU hW => ⟨rfl, by rw [hU], by rw [hU]; exact hPc, va_K.moved hW.alike hKc, hDc.weaken (fun _ _ _ _ => trivial), nv_call hS hFc hU hW hN⟩⟩ rfl rfl hl.1 rfl (lv_room (Nat.le_of_ble_eq_true rfl)) dL_law_458 ⟨by decide +kernel, by decide +kernel⟩) hS (fun q _ h => hFc q h) hFc (fun r503 u t H1 locs ht hvm hw hB hz1 hk1 hS => ?_)
  obtain ⟨hP1, hK1, hD1⟩ := hB
  rw [ht] at hP1
  have hK1 := va_K.moved hvm.symm hK1
  obtain rfl : r503 = (-1) := hw
  obtain ⟨hP, hD⟩ := va_join (wr := [(q77, .inr (20, [.int 0, .ref q78, .int 0, .int 0, .ref q80, .ref q82, .ref q84, .ref q86, .ref q88, .ref q90, .ref q91, .ref q93, .ref q94, .ref q105, .ref q106, .ref q124, .ref q131, .int 0, .int 0, .int 0, .int 0, .int 0, .int 0, .int 0, .int 0, .int 0, .ref q132, .ref q133, .ref q134, .ref q135, .ref q136, .ref q137, .ref q138, .ref q139, .ref q140, .int 0])), (q80, .inl (y81, 4, .inl (fun _ => 0)))]) (w1 := [(q1, .inr (13, [.ref q2, .int 0, .int 0, .ref q4, .ref q6, .ref q8, .ref q22, .ref q37, .ref q39, .ref q41, .int 0, .ref q43])), (q4, .inl (y5, 4, .inr (.inr (.inr (.inr (fun _ => none))))))]) hP hD [0, 1] [2, 3] rfl rfl (by decide) (by decide) hk1 hFc hP1 hD1
  have hK := (hK.sub (tys' := [(y81, .boolean)]) [1] rfl).app hK1
  generalize H1 = H at hP hS ⊢
  have hP : va_P (dC, dI) vwCl [(q77, .inr (20, [.int 0, .ref q78, .int 0, .int 0, .ref q80, .ref q82, .ref q84, .ref q86, .ref q88, .ref q90, .ref q91, .ref q93, .ref q94, .ref q105, .ref q106, .ref q124, .ref q131, .int 0, .int 0, .int 0, .int 0, .int 0, .int 0, .int 0, .int 0, .int 0, .ref q132, .ref q133, .ref q134, .ref q135, .ref q136, .ref q137, .ref q138, .ref q139, .ref q140, .int 0])), (q80, .inl (y81, 4, .inl (fun _ => 0))), (q1, .inr (13, [.ref q2, .int 0, .int 0, .ref q4, .ref q6, .ref q8, .ref q22, .ref q37, .ref q39, .ref q41, .int 0, .ref q43])), (q4, .inl (y5, 4, .inr (.inr (.inr (.inr (fun _ => none))))))] H := hP
  have hD : va_D A [(q77, .inr (20, [.int 0, .ref q78, .int 0, .int 0, .ref q80, .ref q82, .ref q84, .ref q86, .ref q88, .ref q90, .ref q91, .ref q93, .ref q94, .ref q105, .ref q106, .ref q124, .ref q131, .int 0, .int 0, .int 0, .int 0, .int 0, .int 0, .int 0, .int 0, .int 0, .ref q132, .ref q133, .ref q134, .ref q135, .ref q136, .ref q137, .ref q138, .ref q139, .ref q140, .int 0])), (q80, .inl (y81, 4, .inl (fun _ => 0))), (q1, .inr (13, [.ref q2, .int 0, .int 0, .ref q4, .ref q6, .ref q8, .ref q22, .ref q37, .ref q39, .ref q41, .int 0, .ref q43])), (q4, .inl (y5, 4, .inr (.inr (.inr (.inr (fun _ => none))))))] := hD
  have hK : va_K (dC, dI) vwCl [(y81, .boolean), (y5, .object RX8)] s := hK
  refine W.widen (k := 455) (n := 2511899) (by decide +kernel) (by decide +kernel) ?_
  refine lv_aload_n hx hb dL_law_461 rfl (lv_at hl 2 rfl) ?_
  refine lv_aload_n hx hb dL_law_462 rfl (lv_at hl 4 rfl) ?_
  refine lv_iload hx hb dL_law_463 (lv_at hl 0 rfl) ?_
  refine lv_iconst (v := 1) hx hb dL_law_465 (by decide) ?_
  refine lv_iadd hx hb dL_law_466 ?_
  refine lv_topi (fun z504 ez504 => ?_)
  obtain rfl : z504 = 1 := ez504.trans (by decide)
  refine va_sld (i := 1) hx hb hX hbl hbA hS (vp_in_iff.mpr ⟨by decide, by decide⟩) dL_law_467 ?_
  rw [es1]
  refine lv_aload_n hx hb dL_law_468 rfl (lv_at hl 4 rfl) ?_
  refine lv_iload hx hb dL_law_469 (lv_at hl 0 rfl) ?_
  refine lv_iconst (v := 2) hx hb dL_law_471 (by decide) ?_
  refine lv_iadd hx hb dL_law_472 ?_
  refine lv_topi (fun z505 ez505 => ?_)
  obtain rfl : z505 = 2 := ez505.trans (by decide)
  refine va_sld (i := 2) hx hb hX hbl hbA hS (vp_in_iff.mpr ⟨by decide, by decide⟩) dL_law_473 ?_
  rw [es2]
  have hPc := hP.sub (ws' := [(q77, .inr (20, [.int 0, .ref q78, .int 0, .int 0, .ref q80, .ref q82, .ref q84, .ref q86, .ref q88, .ref q90, .ref q91, .ref q93, .ref q94, .ref q105, .ref q106, .ref q124, .ref q131, .int 0, .int 0, .int 0, .int 0, .int 0, .int 0, .int 0, .int 0, .int 0, .ref q132, .ref q133, .ref q134, .ref q135, .ref q136, .ref q137, .ref q138, .ref q139, .ref q140, .int 0])), (q80, .inl (y81, 4, .inl (fun _ => 0)))]) [0, 1] rfl
  have hDc := hD.sub (ws' := [(q77, .inr (20, [.int 0, .ref q78, .int 0, .int 0, .ref q80, .ref q82, .ref q84, .ref q86, .ref q88, .ref q90, .ref q91, .ref q93, .ref q94, .ref q105, .ref q106, .ref q124, .ref q131, .int 0, .int 0, .int 0, .int 0, .int 0, .int 0, .int 0, .int 0, .int 0, .ref q132, .ref q133, .ref q134, .ref q135, .ref q136, .ref q137, .ref q138, .ref q139, .ref q140, .int 0])), (q80, .inl (y81, 4, .inl (fun _ => 0)))]) [0, 1] (by decide) rfl
  have hKc := hK.sub (tys' := [(y81, .boolean)]) [0] rfl
  have hFc := va_free (wc := [(q77, .inr (20, [.int 0, .ref q78, .int 0, .int 0, .ref q80, .ref q82, .ref q84, .ref q86, .ref q88, .ref q90, .ref q91, .ref q93, .ref q94, .ref q105, .ref q106, .ref q124, .ref q131, .int 0, .int 0, .int 0, .int 0, .int 0, .int 0, .int 0, .int 0, .int 0, .ref q132, .ref q133, .ref q134, .ref q135, .ref q136, .ref q137, .ref q138, .ref q139, .ref q140, .int 0])), (q80, .inl (y81, 4, .inl (fun _ => 0)))]) hD hS hA [0, 1] rfl
  refine va_calli (va_runV (As := [.int x1, .int x2]) (rest := [.int (-1)]) ⟨hx, hb, hml, hown, hts⟩ (k_X19_before l hlt dC dI q77 q80 y81 x1 x2 q78 q82 q84 q86 q88 q90 q91 q93 q94 q105 q106 q124 q131 q132 q133 q134 q135 q136 q137 q138 q139 q140  H.size) (cwV 2 hts gl_17 rfl rfl rfl (by decide +kernel) ⟨Nat.le_of_ble_eq_true rfl, Nat.le_of_ble_eq_true rfl⟩) ⟨fun a U g mk q => by obtain ⟨q0, q1, qP, qK, qD, qN⟩ := q; exact ⟨q0, q1, qP, va_K.moved (u := U) (U := U.calling g mk a) (Vm.Alike.refl U.vm) qK, qD, nv_same rfl rfl qN⟩, va_recv hKc hPc (ci := 20) (q0 := 0) rfl rfl, fun U hU hW => ⟨rfl, by rw [hU], by rw [hU]; exact hPc, va_K.moved hW.alike hKc, hDc.weaken (fun _ _ _ _ => trivial), nv_call hS hFc hU hW hN⟩⟩ rfl rfl hl.1 rfl (lv_room (Nat.le_of_ble_eq_true rfl)) dL_law_474 ⟨by decide +kernel, by decide +kernel⟩) hS (fun q _ h => hFc q h) hFc (fun r506 u t H1 locs ht hvm hw hB hz1 hk1 hS => ?_)
  obtain ⟨hP1, hK1, hD1⟩ := hB
  rw [ht] at hP1
  have hK1 := va_K.moved hvm.symm hK1
  obtain rfl : r506 = (-1) := hw
  obtain ⟨hP, hD⟩ := va_join (wr := [(q1, .inr (13, [.ref q2, .int 0, .int 0, .ref q4, .ref q6, .ref q8, .ref q22, .ref q37, .ref q39, .ref q41, .int 0, .ref q43])), (q4, .inl (y5, 4, .inr (.inr (.inr (.inr (fun _ => none))))))]) (w1 := [(q77, .inr (20, [.int 0, .ref q78, .int 0, .int 0, .ref q80, .ref q82, .ref q84, .ref q86, .ref q88, .ref q90, .ref q91, .ref q93, .ref q94, .ref q105, .ref q106, .ref q124, .ref q131, .int 0, .int 0, .int 0, .int 0, .int 0, .int 0, .int 0, .int 0, .int 0, .ref q132, .ref q133, .ref q134, .ref q135, .ref q136, .ref q137, .ref q138, .ref q139, .ref q140, .int 0])), (q80, .inl (y81, 4, .inl (fun _ => 0)))]) hP hD [0, 1] [2, 3] rfl rfl (by decide) (by decide) hk1 hFc hP1 hD1
  have hK := (hK.sub (tys' := [(y5, .object RX8)]) [1] rfl).app hK1
  generalize H1 = H at hP hS ⊢
  have hP : va_P (dC, dI) vwCl [(q1, .inr (13, [.ref q2, .int 0, .int 0, .ref q4, .ref q6, .ref q8, .ref q22, .ref q37, .ref q39, .ref q41, .int 0, .ref q43])), (q4, .inl (y5, 4, .inr (.inr (.inr (.inr (fun _ => none)))))), (q77, .inr (20, [.int 0, .ref q78, .int 0, .int 0, .ref q80, .ref q82, .ref q84, .ref q86, .ref q88, .ref q90, .ref q91, .ref q93, .ref q94, .ref q105, .ref q106, .ref q124, .ref q131, .int 0, .int 0, .int 0, .int 0, .int 0, .int 0, .int 0, .int 0, .int 0, .ref q132, .ref q133, .ref q134, .ref q135, .ref q136, .ref q137, .ref q138, .ref q139, .ref q140, .int 0])), (q80, .inl (y81, 4, .inl (fun _ => 0)))] H := hP
  have hD : va_D A [(q1, .inr (13, [.ref q2, .int 0, .int 0, .ref q4, .ref q6, .ref q8, .ref q22, .ref q37, .ref q39, .ref q41, .int 0, .ref q43])), (q4, .inl (y5, 4, .inr (.inr (.inr (.inr (fun _ => none)))))), (q77, .inr (20, [.int 0, .ref q78, .int 0, .int 0, .ref q80, .ref q82, .ref q84, .ref q86, .ref q88, .ref q90, .ref q91, .ref q93, .ref q94, .ref q105, .ref q106, .ref q124, .ref q131, .int 0, .int 0, .int 0, .int 0, .int 0, .int 0, .int 0, .int 0, .int 0, .ref q132, .ref q133, .ref q134, .ref q135, .ref q136, .ref q137, .ref q138, .ref q139, .ref q140, .int 0])), (q80, .inl (y81, 4, .inl (fun _ => 0)))] := hD
  have hK : va_K (dC, dI) vwCl [(y5, .object RX8), (y81, .boolean)] s := hK
  refine W.widen (k := 455) (n := 2511899) (by decide +kernel) (by decide +kernel) ?_
  refine lv_icmp_eq (tgt := 1493) hx hb dL_law_477 (by decide) (fun _ => ?_) (fun h9 => absurd (by decide) h9)
  refine lv_iinc (v := 6) (lv' := [(4, .int 6), (3, .ref q143), (2, .ref q77), (1, .ref q1), (0, .ref b)]) hx hb dL_law_1493 hl (k := 0) rfl (by decide) (by decide) rfl (fun ls hl => ?_)
  refine lv_goto (tgt := 23) hx hb dL_law_1496 (by decide) ?_
  refine W.widen (k := 600002) (n := 7302232) (by decide +kernel) (by decide +kernel) ?_
  exact kkE _ _ _ hS (lv_sub hl [0, 4] rfl)
set_option maxHeartbeats 40000000 in
set_option maxRecDepth 100000 in
theorem law_c7 {p : Program} {l : Launch} {e : Env} {s : State} {m : MethodId} {below : List Frame} {meth : Method} {c : Code} {Q : State → Prop} {A : Nat → Prop} {b : Nat} (hlt : l.stackTraces = false) (hx : p.tables.exec = Jvm.exec) (hb : c.code = code) (hml : c.maxLocals = 8) (hown : s.vm.findClass RL = some m.cls) (hts : ∀ w ∈ lw_tbl, w.before #[Value.ref b] s = true) (hN : nv_E A s) (hA : ∀ q : Nat, s.heap.size ≤ q → A q) (hDe : nv_Dc s) (dC : Nat → ClassId) (dI : Nat → Nat → Nat) (q1 : Nat) (q2 : Nat) (q4 : Nat) (y5 : ClassId) (q6 : Nat) (q8 : Nat) (q22 : Nat) (q37 : Nat) (q39 : Nat) (q41 : Nat) (q43 : Nat) (q77 : Nat) (q78 : Nat) (q80 : Nat) (y81 : ClassId) (q82 : Nat) (q84 : Nat) (q86 : Nat) (q88 : Nat) (q90 : Nat) (q91 : Nat) (q93 : Nat) (q94 : Nat) (q105 : Nat) (q106 : Nat) (q124 : Nat) (q131 : Nat) (q132 : Nat) (q133 : Nat) (q134 : Nat) (q135 : Nat) (q136 : Nat) (q137 : Nat) (q138 : Nat) (q139 : Nat) (q140 : Nat) (q143 : Nat) {xs : Nat → Int32} (hX : va_X b 6 xs s s.heap) (hbl : b < s.heap.size) (hbA : ¬ A b) (x0 : Int32) (es0 : xs (Int32.toNatClampNeg 0) = x0) (x1 : Int32) (es1 : xs (Int32.toNatClampNeg 1) = x1) (x2 : Int32) (es2 : xs (Int32.toNatClampNeg 2) = x2) (x3 : Int32) (es3 : xs (Int32.toNatClampNeg 3) = x3) (x4 : Int32) (es4 : xs (Int32.toNatClampNeg 4) = x4) (x5 : Int32) (es5 : xs (Int32.toNatClampNeg 5) = x5) {H : Heap} {locs : List Loc} {ls : Array Slot} (hK : va_K (dC, dI) vwCl [(y5, .object RX8), (y81, .boolean)] s) (hP : va_P (dC, dI) vwCl [(q1, .inr (13, [.ref q2, .int 0, .int 0, .ref q4, .ref q6, .ref q8, .ref q22, .ref q37, .ref q39, .ref q41, .int 0, .ref q43])), (q4, .inl (y5, 4, .inr (.inr (.inr (.inr (fun _ => none)))))), (q77, .inr (20, [.int 0, .ref q78, .int 0, .int 0, .ref q80, .ref q82, .ref q84, .ref q86, .ref q88, .ref q90, .ref q91, .ref q93, .ref q94, .ref q105, .ref q106, .ref q124, .ref q131, .int 0, .int 0, .int 0, .int 0, .int 0, .int 0, .int 0, .int 0, .int 0, .ref q132, .ref q133, .ref q134, .ref q135, .ref q136, .ref q137, .ref q138, .ref q139, .ref q140, .int 0])), (q80, .inl (y81, 4, .inl (fun _ => 0)))] H) (hD : va_D A [(q1, .inr (13, [.ref q2, .int 0, .int 0, .ref q4, .ref q6, .ref q8, .ref q22, .ref q37, .ref q39, .ref q41, .int 0, .ref q43])), (q4, .inl (y5, 4, .inr (.inr (.inr (.inr (fun _ => none)))))), (q77, .inr (20, [.int 0, .ref q78, .int 0, .int 0, .ref q80, .ref q82, .ref q84, .ref q86, .ref q88, .ref q90, .ref q91, .ref q93, .ref q94, .ref q105, .ref q106, .ref q124, .ref q131, .int 0, .int 0, .int 0, .int 0, .int 0, .int 0, .int 0, .int 0, .int 0, .ref q132, .ref q133, .ref q134, .ref q135, .ref q136, .ref q137, .ref q138, .ref q139, .ref q140, .int 0])), (q80, .inl (y81, 4, .inl (fun _ => 0)))]) (hS : va_S A s.heap H locs) (hl : lv_has ls 8 [(4, .int 0), (3, .ref q143), (2, .ref q77), (1, .ref q1), (0, .ref b)]) (kkE : ∀ (H : Heap) (locs : List Loc) (ls : Array Slot), va_S A s.heap H locs → lv_has ls 8 [(4, .int 6), (0, .ref b)] → W p l e room_1 s m #[Value.ref b] below meth c H locs 600002 7302232 Q (F0 m 23 ls [])) : W p l e room_1 s m #[Value.ref b] below meth c H locs 455 2511899 Q (F0 m 482 ls []) := by
  refine lv_aload_n hx hb dL_law_482 rfl (lv_at hl 3 rfl) ?_
  refine lv_aload_n hx hb dL_law_483 rfl (lv_at hl 4 rfl) ?_
  refine lv_iload hx hb dL_law_484 (lv_at hl 0 rfl) ?_
  refine lv_iconst (v := 1) hx hb dL_law_486 (by decide) ?_
  refine lv_iadd hx hb dL_law_487 ?_
  refine lv_topi (fun z501 ez501 => ?_)
  obtain rfl : z501 = 1 := ez501.trans (by decide)
  refine va_sld (i := 1) hx hb hX hbl hbA hS (vp_in_iff.mpr ⟨by decide, by decide⟩) dL_law_488 ?_
  rw [es1]
  refine lv_aload_n hx hb dL_law_489 rfl (lv_at hl 4 rfl) ?_
  refine lv_iload hx hb dL_law_490 (lv_at hl 0 rfl) ?_
  refine lv_iconst (v := 2) hx hb dL_law_492 (by decide) ?_
  refine lv_iadd hx hb dL_law_493 ?_
  refine lv_topi (fun z502 ez502 => ?_)
  obtain rfl : z502 = 2 := ez502.trans (by decide)
  refine va_sld (i := 2) hx hb hX hbl hbA hS (vp_in_iff.mpr ⟨by decide, by decide⟩) dL_law_494 ?_
  rw [es2]
  have hPc := hP.sub (ws' := [(q1, .inr (13, [.ref q2, .int 0, .int 0, .ref q4, .ref q6, .ref q8, .ref q22, .ref q37, .ref q39, .ref q41, .int 0, .ref q43])), (q4, .inl (y5, 4, .inr (.inr (.inr (.inr (fun _ => none))))))]) [0, 1] rfl
  have hDc := hD.sub (ws' := [(q1, .inr (13, [.ref q2, .int 0, .int 0, .ref q4, .ref q6, .ref q8, .ref q22, .ref q37, .ref q39, .ref q41, .int 0, .ref q43])), (q4, .inl (y5, 4, .inr (.inr (.inr (.inr (fun _ => none))))))]) [0, 1] (by decide) rfl
  have hKc := hK.sub (tys' := [(y5, .object RX8)]) [0] rfl
  have hFc := va_free (wc := [(q1, .inr (13, [.ref q2, .int 0, .int 0, .ref q4, .ref q6, .ref q8, .ref q22, .ref q37, .ref q39, .ref q41, .int 0, .ref q43])), (q4, .inl (y5, 4, .inr (.inr (.inr (.inr (fun _ => none))))))]) hD hS hA [0, 1] rfl
  refine va_calli (va_runV (As := [.int x1, .int x2]) (rest := []) ⟨hx, hb, hml, hown, hts⟩ (k_X12_line l hlt dC dI q1 q4 y5 x1 x2 q2 q6 q8 q22 q37 q39 q41 q43  H.size) (cwV 2 hts gl_18 rfl rfl rfl (by decide +kernel) ⟨Nat.le_of_ble_eq_true rfl, Nat.le_of_ble_eq_true rfl⟩) ⟨fun a U g mk q => by obtain ⟨q0, q1, qP, qK, qD, qN⟩ := q; exact ⟨q0, q1, qP, va_K.moved (u := U) (U := U.calling g mk a) (Vm.Alike.refl U.vm) qK, qD, nv_same rfl rfl qN⟩, va_recv hKc hPc (ci := 13) (q0 := 0) rfl rfl, fun U hU hW => ⟨rfl, by rw [hU], by rw [hU]; exact hPc, va_K.moved hW.alike hKc, hDc.weaken (fun _ _ _ _ => trivial), nv_call hS hFc hU hW hN⟩⟩ rfl rfl hl.1 rfl (lv_room (Nat.le_of_ble_eq_true rfl)) dL_law_495 ⟨by decide +kernel, by decide +kernel⟩) hS (fun q _ h => hFc q h) hFc (fun r503 u t H1 locs ht hvm hw hB hz1 hk1 hS => ?_)
  obtain ⟨hP1, hK1, hD1⟩ := hB
  rw [ht] at hP1
  have hK1 := va_K.moved hvm.symm hK1
  obtain rfl : r503 = 0 := hw
  obtain ⟨hP, hD⟩ := va_join (wr := [(q77, .inr (20, [.int 0, .ref q78, .int 0, .int 0, .ref q80, .ref q82, .ref q84, .ref q86, .ref q88, .ref q90, .ref q91, .ref q93, .ref q94, .ref q105, .ref q106, .ref q124, .ref q131, .int 0, .int 0, .int 0, .int 0, .int 0, .int 0, .int 0, .int 0, .int 0, .ref q132, .ref q133, .ref q134, .ref q135, .ref q136, .ref q137, .ref q138, .ref q139, .ref q140, .int 0])), (q80, .inl (y81, 4, .inl (fun _ => 0)))]) (w1 := [(q1, .inr (13, [.ref q2, .int 0, .int 0, .ref q4, .ref q6, .ref q8, .ref q22, .ref q37, .ref q39, .ref q41, .int 0, .ref q43])), (q4, .inl (y5, 4, .inr (.inr (.inr (.inr (fun _ => none))))))]) hP hD [0, 1] [2, 3] rfl rfl (by decide) (by decide) hk1 hFc hP1 hD1
  have hK := (hK.sub (tys' := [(y81, .boolean)]) [1] rfl).app hK1
  generalize H1 = H at hP hS ⊢
  have hP : va_P (dC, dI) vwCl [(q77, .inr (20, [.int 0, .ref q78, .int 0, .int 0, .ref q80, .ref q82, .ref q84, .ref q86, .ref q88, .ref q90, .ref q91, .ref q93, .ref q94, .ref q105, .ref q106, .ref q124, .ref q131, .int 0, .int 0, .int 0, .int 0, .int 0, .int 0, .int 0, .int 0, .int 0, .ref q132, .ref q133, .ref q134, .ref q135, .ref q136, .ref q137, .ref q138, .ref q139, .ref q140, .int 0])), (q80, .inl (y81, 4, .inl (fun _ => 0))), (q1, .inr (13, [.ref q2, .int 0, .int 0, .ref q4, .ref q6, .ref q8, .ref q22, .ref q37, .ref q39, .ref q41, .int 0, .ref q43])), (q4, .inl (y5, 4, .inr (.inr (.inr (.inr (fun _ => none))))))] H := hP
  have hD : va_D A [(q77, .inr (20, [.int 0, .ref q78, .int 0, .int 0, .ref q80, .ref q82, .ref q84, .ref q86, .ref q88, .ref q90, .ref q91, .ref q93, .ref q94, .ref q105, .ref q106, .ref q124, .ref q131, .int 0, .int 0, .int 0, .int 0, .int 0, .int 0, .int 0, .int 0, .int 0, .ref q132, .ref q133, .ref q134, .ref q135, .ref q136, .ref q137, .ref q138, .ref q139, .ref q140, .int 0])), (q80, .inl (y81, 4, .inl (fun _ => 0))), (q1, .inr (13, [.ref q2, .int 0, .int 0, .ref q4, .ref q6, .ref q8, .ref q22, .ref q37, .ref q39, .ref q41, .int 0, .ref q43])), (q4, .inl (y5, 4, .inr (.inr (.inr (.inr (fun _ => none))))))] := hD
  have hK : va_K (dC, dI) vwCl [(y81, .boolean), (y5, .object RX8)] s := hK
  refine W.widen (k := 455) (n := 2511899) (by decide +kernel) (by decide +kernel) ?_
  refine lv_aload_n hx hb dL_law_498 rfl (lv_at hl 2 rfl) ?_
  refine lv_aload_n hx hb dL_law_499 rfl (lv_at hl 4 rfl) ?_
  refine lv_iload hx hb dL_law_500 (lv_at hl 0 rfl) ?_
  refine lv_iconst (v := 1) hx hb dL_law_502 (by decide) ?_
  refine lv_iadd hx hb dL_law_503 ?_
  refine lv_topi (fun z504 ez504 => ?_)
  obtain rfl : z504 = 1 := ez504.trans (by decide)
  refine va_sld (i := 1) hx hb hX hbl hbA hS (vp_in_iff.mpr ⟨by decide, by decide⟩) dL_law_504 ?_
  rw [es1]
  refine lv_aload_n hx hb dL_law_505 rfl (lv_at hl 4 rfl) ?_
  refine lv_iload hx hb dL_law_506 (lv_at hl 0 rfl) ?_
  refine lv_iconst (v := 2) hx hb dL_law_508 (by decide) ?_
  refine lv_iadd hx hb dL_law_509 ?_
  refine lv_topi (fun z505 ez505 => ?_)
  obtain rfl : z505 = 2 := ez505.trans (by decide)
  refine va_sld (i := 2) hx hb hX hbl hbA hS (vp_in_iff.mpr ⟨by decide, by decide⟩) dL_law_510 ?_
  rw [es2]
  have hPc := hP.sub (ws' := [(q77, .inr (20, [.int 0, .ref q78, .int 0, .int 0, .ref q80, .ref q82, .ref q84, .ref q86, .ref q88, .ref q90, .ref q91, .ref q93, .ref q94, .ref q105, .ref q106, .ref q124, .ref q131, .int 0, .int 0, .int 0, .int 0, .int 0, .int 0, .int 0, .int 0, .int 0, .ref q132, .ref q133, .ref q134, .ref q135, .ref q136, .ref q137, .ref q138, .ref q139, .ref q140, .int 0])), (q80, .inl (y81, 4, .inl (fun _ => 0)))]) [0, 1] rfl
  have hDc := hD.sub (ws' := [(q77, .inr (20, [.int 0, .ref q78, .int 0, .int 0, .ref q80, .ref q82, .ref q84, .ref q86, .ref q88, .ref q90, .ref q91, .ref q93, .ref q94, .ref q105, .ref q106, .ref q124, .ref q131, .int 0, .int 0, .int 0, .int 0, .int 0, .int 0, .int 0, .int 0, .int 0, .ref q132, .ref q133, .ref q134, .ref q135, .ref q136, .ref q137, .ref q138, .ref q139, .ref q140, .int 0])), (q80, .inl (y81, 4, .inl (fun _ => 0)))]) [0, 1] (by decide) rfl
  have hKc := hK.sub (tys' := [(y81, .boolean)]) [0] rfl
  have hFc := va_free (wc := [(q77, .inr (20, [.int 0, .ref q78, .int 0, .int 0, .ref q80, .ref q82, .ref q84, .ref q86, .ref q88, .ref q90, .ref q91, .ref q93, .ref q94, .ref q105, .ref q106, .ref q124, .ref q131, .int 0, .int 0, .int 0, .int 0, .int 0, .int 0, .int 0, .int 0, .int 0, .ref q132, .ref q133, .ref q134, .ref q135, .ref q136, .ref q137, .ref q138, .ref q139, .ref q140, .int 0])), (q80, .inl (y81, 4, .inl (fun _ => 0)))]) hD hS hA [0, 1] rfl
  refine va_calli (va_runV (As := [.int x1, .int x2]) (rest := [.int 0]) ⟨hx, hb, hml, hown, hts⟩ (k_X19_line l hlt dC dI q77 q80 y81 x1 x2 q78 q82 q84 q86 q88 q90 q91 q93 q94 q105 q106 q124 q131 q132 q133 q134 q135 q136 q137 q138 q139 q140  H.size) (cwV 2 hts gl_19 rfl rfl rfl (by decide +kernel) ⟨Nat.le_of_ble_eq_true rfl, Nat.le_of_ble_eq_true rfl⟩) ⟨fun a U g mk q => by obtain ⟨q0, q1, qP, qK, qD, qN⟩ := q; exact ⟨q0, q1, qP, va_K.moved (u := U) (U := U.calling g mk a) (Vm.Alike.refl U.vm) qK, qD, nv_same rfl rfl qN⟩, va_recv hKc hPc (ci := 20) (q0 := 0) rfl rfl, fun U hU hW => ⟨rfl, by rw [hU], by rw [hU]; exact hPc, va_K.moved hW.alike hKc, hDc.weaken (fun _ _ _ _ => trivial), nv_call hS hFc hU hW hN⟩⟩ rfl rfl hl.1 rfl (lv_room (Nat.le_of_ble_eq_true rfl)) dL_law_511 ⟨by decide +kernel, by decide +kernel⟩) hS (fun q _ h => hFc q h) hFc (fun r506 u t H1 locs ht hvm hw hB hz1 hk1 hS => ?_)
  obtain ⟨hP1, hK1, hD1⟩ := hB
  rw [ht] at hP1
  have hK1 := va_K.moved hvm.symm hK1
  obtain rfl : r506 = 0 := hw
  obtain ⟨hP, hD⟩ := va_join (wr := [(q1, .inr (13, [.ref q2, .int 0, .int 0, .ref q4, .ref q6, .ref q8, .ref q22, .ref q37, .ref q39, .ref q41, .int 0, .ref q43])), (q4, .inl (y5, 4, .inr (.inr (.inr (.inr (fun _ => none))))))]) (w1 := [(q77, .inr (20, [.int 0, .ref q78, .int 0, .int 0, .ref q80, .ref q82, .ref q84, .ref q86, .ref q88, .ref q90, .ref q91, .ref q93, .ref q94, .ref q105, .ref q106, .ref q124, .ref q131, .int 0, .int 0, .int 0, .int 0, .int 0, .int 0, .int 0, .int 0, .int 0, .ref q132, .ref q133, .ref q134, .ref q135, .ref q136, .ref q137, .ref q138, .ref q139, .ref q140, .int 0])), (q80, .inl (y81, 4, .inl (fun _ => 0)))]) hP hD [0, 1] [2, 3] rfl rfl (by decide) (by decide) hk1 hFc hP1 hD1
  have hK := (hK.sub (tys' := [(y5, .object RX8)]) [1] rfl).app hK1
  generalize H1 = H at hP hS ⊢
  have hP : va_P (dC, dI) vwCl [(q1, .inr (13, [.ref q2, .int 0, .int 0, .ref q4, .ref q6, .ref q8, .ref q22, .ref q37, .ref q39, .ref q41, .int 0, .ref q43])), (q4, .inl (y5, 4, .inr (.inr (.inr (.inr (fun _ => none)))))), (q77, .inr (20, [.int 0, .ref q78, .int 0, .int 0, .ref q80, .ref q82, .ref q84, .ref q86, .ref q88, .ref q90, .ref q91, .ref q93, .ref q94, .ref q105, .ref q106, .ref q124, .ref q131, .int 0, .int 0, .int 0, .int 0, .int 0, .int 0, .int 0, .int 0, .int 0, .ref q132, .ref q133, .ref q134, .ref q135, .ref q136, .ref q137, .ref q138, .ref q139, .ref q140, .int 0])), (q80, .inl (y81, 4, .inl (fun _ => 0)))] H := hP
  have hD : va_D A [(q1, .inr (13, [.ref q2, .int 0, .int 0, .ref q4, .ref q6, .ref q8, .ref q22, .ref q37, .ref q39, .ref q41, .int 0, .ref q43])), (q4, .inl (y5, 4, .inr (.inr (.inr (.inr (fun _ => none)))))), (q77, .inr (20, [.int 0, .ref q78, .int 0, .int 0, .ref q80, .ref q82, .ref q84, .ref q86, .ref q88, .ref q90, .ref q91, .ref q93, .ref q94, .ref q105, .ref q106, .ref q124, .ref q131, .int 0, .int 0, .int 0, .int 0, .int 0, .int 0, .int 0, .int 0, .int 0, .ref q132, .ref q133, .ref q134, .ref q135, .ref q136, .ref q137, .ref q138, .ref q139, .ref q140, .int 0])), (q80, .inl (y81, 4, .inl (fun _ => 0)))] := hD
  have hK : va_K (dC, dI) vwCl [(y5, .object RX8), (y81, .boolean)] s := hK
  refine W.widen (k := 455) (n := 2511899) (by decide +kernel) (by decide +kernel) ?_
  refine lv_icmp_eq (tgt := 1493) hx hb dL_law_514 (by decide) (fun _ => ?_) (fun h9 => absurd (by decide) h9)
  refine lv_iinc (v := 6) (lv' := [(4, .int 6), (3, .ref q143), (2, .ref q77), (1, .ref q1), (0, .ref b)]) hx hb dL_law_1493 hl (k := 0) rfl (by decide) (by decide) rfl (fun ls hl => ?_)
  refine lv_goto (tgt := 23) hx hb dL_law_1496 (by decide) ?_
  refine W.widen (k := 600002) (n := 7302232) (by decide +kernel) (by decide +kernel) ?_
  exact kkE _ _ _ hS (lv_sub hl [0, 4] rfl)
set_option maxHeartbeats 40000000 in
set_option maxRecDepth 100000 in
theorem law_c8 {p : Program} {l : Launch} {e : Env} {s : State} {m : MethodId} {below : List Frame} {meth : Method} {c : Code} {Q : State → Prop} {A : Nat → Prop} {b : Nat} (hlt : l.stackTraces = false) (hx : p.tables.exec = Jvm.exec) (hb : c.code = code) (hml : c.maxLocals = 8) (hown : s.vm.findClass RL = some m.cls) (hts : ∀ w ∈ lw_tbl, w.before #[Value.ref b] s = true) (hN : nv_E A s) (hA : ∀ q : Nat, s.heap.size ≤ q → A q) (hDe : nv_Dc s) (dC : Nat → ClassId) (dI : Nat → Nat → Nat) (q1 : Nat) (q2 : Nat) (q4 : Nat) (y5 : ClassId) (q6 : Nat) (q8 : Nat) (q22 : Nat) (q37 : Nat) (q39 : Nat) (q41 : Nat) (q43 : Nat) (q77 : Nat) (q78 : Nat) (q80 : Nat) (y81 : ClassId) (q82 : Nat) (q84 : Nat) (q86 : Nat) (q88 : Nat) (q90 : Nat) (q91 : Nat) (q93 : Nat) (q94 : Nat) (q105 : Nat) (q106 : Nat) (q124 : Nat) (q131 : Nat) (q132 : Nat) (q133 : Nat) (q134 : Nat) (q135 : Nat) (q136 : Nat) (q137 : Nat) (q138 : Nat) (q139 : Nat) (q140 : Nat) (q143 : Nat) {xs : Nat → Int32} (hX : va_X b 6 xs s s.heap) (hbl : b < s.heap.size) (hbA : ¬ A b) (x0 : Int32) (es0 : xs (Int32.toNatClampNeg 0) = x0) (x1 : Int32) (es1 : xs (Int32.toNatClampNeg 1) = x1) (x2 : Int32) (es2 : xs (Int32.toNatClampNeg 2) = x2) (x3 : Int32) (es3 : xs (Int32.toNatClampNeg 3) = x3) (x4 : Int32) (es4 : xs (Int32.toNatClampNeg 4) = x4) (x5 : Int32) (es5 : xs (Int32.toNatClampNeg 5) = x5) {H : Heap} {locs : List Loc} {ls : Array Slot} (hK : va_K (dC, dI) vwCl [(y5, .object RX8), (y81, .boolean)] s) (hP : va_P (dC, dI) vwCl [(q1, .inr (13, [.ref q2, .int 0, .int 0, .ref q4, .ref q6, .ref q8, .ref q22, .ref q37, .ref q39, .ref q41, .int 0, .ref q43])), (q4, .inl (y5, 4, .inr (.inr (.inr (.inr (fun _ => none)))))), (q77, .inr (20, [.int 0, .ref q78, .int 0, .int 0, .ref q80, .ref q82, .ref q84, .ref q86, .ref q88, .ref q90, .ref q91, .ref q93, .ref q94, .ref q105, .ref q106, .ref q124, .ref q131, .int 0, .int 0, .int 0, .int 0, .int 0, .int 0, .int 0, .int 0, .int 0, .ref q132, .ref q133, .ref q134, .ref q135, .ref q136, .ref q137, .ref q138, .ref q139, .ref q140, .int 0])), (q80, .inl (y81, 4, .inl (fun _ => 0)))] H) (hD : va_D A [(q1, .inr (13, [.ref q2, .int 0, .int 0, .ref q4, .ref q6, .ref q8, .ref q22, .ref q37, .ref q39, .ref q41, .int 0, .ref q43])), (q4, .inl (y5, 4, .inr (.inr (.inr (.inr (fun _ => none)))))), (q77, .inr (20, [.int 0, .ref q78, .int 0, .int 0, .ref q80, .ref q82, .ref q84, .ref q86, .ref q88, .ref q90, .ref q91, .ref q93, .ref q94, .ref q105, .ref q106, .ref q124, .ref q131, .int 0, .int 0, .int 0, .int 0, .int 0, .int 0, .int 0, .int 0, .int 0, .ref q132, .ref q133, .ref q134, .ref q135, .ref q136, .ref q137, .ref q138, .ref q139, .ref q140, .int 0])), (q80, .inl (y81, 4, .inl (fun _ => 0)))]) (hS : va_S A s.heap H locs) (hl : lv_has ls 8 [(4, .int 0), (3, .ref q143), (2, .ref q77), (1, .ref q1), (0, .ref b)]) (kkE : ∀ (H : Heap) (locs : List Loc) (ls : Array Slot), va_S A s.heap H locs → lv_has ls 8 [(4, .int 6), (0, .ref b)] → W p l e room_1 s m #[Value.ref b] below meth c H locs 600002 7302232 Q (F0 m 23 ls [])) : W p l e room_1 s m #[Value.ref b] below meth c H locs 455 2511899 Q (F0 m 519 ls []) := by
  refine lv_aload_n hx hb dL_law_519 rfl (lv_at hl 3 rfl) ?_
  refine lv_aload_n hx hb dL_law_520 rfl (lv_at hl 4 rfl) ?_
  refine lv_iload hx hb dL_law_521 (lv_at hl 0 rfl) ?_
  refine lv_iconst (v := 1) hx hb dL_law_523 (by decide) ?_
  refine lv_iadd hx hb dL_law_524 ?_
  refine lv_topi (fun z501 ez501 => ?_)
  obtain rfl : z501 = 1 := ez501.trans (by decide)
  refine va_sld (i := 1) hx hb hX hbl hbA hS (vp_in_iff.mpr ⟨by decide, by decide⟩) dL_law_525 ?_
  rw [es1]
  have hPc := hP.sub (ws' := [(q1, .inr (13, [.ref q2, .int 0, .int 0, .ref q4, .ref q6, .ref q8, .ref q22, .ref q37, .ref q39, .ref q41, .int 0, .ref q43])), (q4, .inl (y5, 4, .inr (.inr (.inr (.inr (fun _ => none))))))]) [0, 1] rfl
  have hDc := hD.sub (ws' := [(q1, .inr (13, [.ref q2, .int 0, .int 0, .ref q4, .ref q6, .ref q8, .ref q22, .ref q37, .ref q39, .ref q41, .int 0, .ref q43])), (q4, .inl (y5, 4, .inr (.inr (.inr (.inr (fun _ => none))))))]) [0, 1] (by decide) rfl
  have hKc := hK.sub (tys' := [(y5, .object RX8)]) [0] rfl
  have hFc := va_free (wc := [(q1, .inr (13, [.ref q2, .int 0, .int 0, .ref q4, .ref q6, .ref q8, .ref q22, .ref q37, .ref q39, .ref q41, .int 0, .ref q43])), (q4, .inl (y5, 4, .inr (.inr (.inr (.inr (fun _ => none))))))]) hD hS hA [0, 1] rfl
  refine va_calli (vx_runSW (As := [.ref q1, .int x1]) (rest := []) ⟨hx, hb, hml, hown, hts⟩ (k_L_boot l hlt dC dI q1 q4 y5 x1 q2 q6 q8 q22 q37 q39 q41 q43  H.size) (vx_cwSW 2 hts gl_20 rfl rfl rfl (by decide +kernel) ⟨Nat.le_of_ble_eq_true rfl, Nat.le_of_ble_eq_true rfl⟩) ⟨fun a U g mk q => by obtain ⟨q0, q1, qP, qK, qD, qN, qE⟩ := q; exact ⟨q0, q1, qP, va_K.moved (u := U) (U := U.calling g mk a) (Vm.Alike.refl U.vm) qK, qD, nv_same rfl rfl qN, nv_Dsame rfl qE⟩, fun U hU hW => ⟨rfl, by rw [hU], by rw [hU]; exact hPc, va_K.moved hW.alike hKc, hDc.weaken (fun _ _ _ _ => trivial), nv_call hS hFc hU hW hN, nv_Dcall hW hDe⟩⟩ rfl rfl hl.1 rfl (lv_room (Nat.le_of_ble_eq_true rfl)) dL_law_526 ⟨by decide +kernel, by decide +kernel⟩) hS (fun q _ h => hFc q h) hFc (fun r502 u t H1 locs ht hvm hw hB hz1 hk1 hS => ?_)
  rcases hw with ⟨c_1_0, h9⟩ | ⟨c_1_0, c_1_1, h9⟩ | ⟨c_1_0, c_1_1, h9⟩ | h9
  · subst h9
    have hK1 := hK.sub (tys' := []) [] rfl
    obtain ⟨hP, hD⟩ := va_join (wr := [(q77, .inr (20, [.int 0, .ref q78, .int 0, .int 0, .ref q80, .ref q82, .ref q84, .ref q86, .ref q88, .ref q90, .ref q91, .ref q93, .ref q94, .ref q105, .ref q106, .ref q124, .ref q131, .int 0, .int 0, .int 0, .int 0, .int 0, .int 0, .int 0, .int 0, .int 0, .ref q132, .ref q133, .ref q134, .ref q135, .ref q136, .ref q137, .ref q138, .ref q139, .ref q140, .int 0])), (q80, .inl (y81, 4, .inl (fun _ => 0)))]) (w1 := []) hP hD [0, 1] [2, 3] rfl rfl (by decide) (by decide) hk1 hFc nv_P0 nv_D0
    have hK := (hK.sub (tys' := [(y81, .boolean)]) [1] rfl).app hK1
    generalize H1 = H at hP hS ⊢
    have hP : va_P (dC, dI) vwCl [(q77, .inr (20, [.int 0, .ref q78, .int 0, .int 0, .ref q80, .ref q82, .ref q84, .ref q86, .ref q88, .ref q90, .ref q91, .ref q93, .ref q94, .ref q105, .ref q106, .ref q124, .ref q131, .int 0, .int 0, .int 0, .int 0, .int 0, .int 0, .int 0, .int 0, .int 0, .ref q132, .ref q133, .ref q134, .ref q135, .ref q136, .ref q137, .ref q138, .ref q139, .ref q140, .int 0])), (q80, .inl (y81, 4, .inl (fun _ => 0)))] H := hP
    have hD : va_D A [(q77, .inr (20, [.int 0, .ref q78, .int 0, .int 0, .ref q80, .ref q82, .ref q84, .ref q86, .ref q88, .ref q90, .ref q91, .ref q93, .ref q94, .ref q105, .ref q106, .ref q124, .ref q131, .int 0, .int 0, .int 0, .int 0, .int 0, .int 0, .int 0, .int 0, .int 0, .ref q132, .ref q133, .ref q134, .ref q135, .ref q136, .ref q137, .ref q138, .ref q139, .ref q140, .int 0])), (q80, .inl (y81, 4, .inl (fun _ => 0)))] := hD
    have hK : va_K (dC, dI) vwCl [(y81, .boolean)] s := hK
    refine W.widen (k := 456) (n := 2511905) (by decide +kernel) (by decide +kernel) ?_
    refine lv_istore (lv' := [(5, .int 1), (4, .int 0), (3, .ref q143), (2, .ref q77), (1, .ref q1), (0, .ref b)]) hx hb dL_law_529 hl (by decide) rfl (fun ls hl => ?_)
    refine lv_aload_n hx hb dL_law_531 rfl (lv_at hl 3 rfl) ?_
    refine lv_aload_n hx hb dL_law_532 rfl (lv_at hl 5 rfl) ?_
    refine lv_iload hx hb dL_law_533 (lv_at hl 1 rfl) ?_
    refine lv_iconst (v := 1) hx hb dL_law_535 (by decide) ?_
    refine lv_iadd hx hb dL_law_536 ?_
    refine lv_topi (fun z503 ez503 => ?_)
    obtain rfl : z503 = 1 := ez503.trans (by decide)
    refine va_sld (i := 1) hx hb hX hbl hbA hS (vp_in_iff.mpr ⟨by decide, by decide⟩) dL_law_537 ?_
    rw [es1]
    have hPc := hP.sub (ws' := [(q77, .inr (20, [.int 0, .ref q78, .int 0, .int 0, .ref q80, .ref q82, .ref q84, .ref q86, .ref q88, .ref q90, .ref q91, .ref q93, .ref q94, .ref q105, .ref q106, .ref q124, .ref q131, .int 0, .int 0, .int 0, .int 0, .int 0, .int 0, .int 0, .int 0, .int 0, .ref q132, .ref q133, .ref q134, .ref q135, .ref q136, .ref q137, .ref q138, .ref q139, .ref q140, .int 0])), (q80, .inl (y81, 4, .inl (fun _ => 0)))]) [0, 1] rfl
    have hDc := hD.sub (ws' := [(q77, .inr (20, [.int 0, .ref q78, .int 0, .int 0, .ref q80, .ref q82, .ref q84, .ref q86, .ref q88, .ref q90, .ref q91, .ref q93, .ref q94, .ref q105, .ref q106, .ref q124, .ref q131, .int 0, .int 0, .int 0, .int 0, .int 0, .int 0, .int 0, .int 0, .int 0, .ref q132, .ref q133, .ref q134, .ref q135, .ref q136, .ref q137, .ref q138, .ref q139, .ref q140, .int 0])), (q80, .inl (y81, 4, .inl (fun _ => 0)))]) [0, 1] (by decide) rfl
    have hKc := hK.sub (tys' := [(y81, .boolean)]) [0] rfl
    have hFc := va_free (wc := [(q77, .inr (20, [.int 0, .ref q78, .int 0, .int 0, .ref q80, .ref q82, .ref q84, .ref q86, .ref q88, .ref q90, .ref q91, .ref q93, .ref q94, .ref q105, .ref q106, .ref q124, .ref q131, .int 0, .int 0, .int 0, .int 0, .int 0, .int 0, .int 0, .int 0, .int 0, .ref q132, .ref q133, .ref q134, .ref q135, .ref q136, .ref q137, .ref q138, .ref q139, .ref q140, .int 0])), (q80, .inl (y81, 4, .inl (fun _ => 0)))]) hD hS hA [0, 1] rfl
    refine va_callv (va_runV (As := [.int x1]) (rest := []) ⟨hx, hb, hml, hown, hts⟩ (k_X19_boot l hlt dC dI q77 q80 y81 x1 q78 q82 q84 q86 q88 q90 q91 q93 q94 q105 q106 q124 q131 q132 q133 q134 q135 q136 q137 q138 q139 q140  H.size) (cwV 1 hts gl_21 rfl rfl rfl (by decide +kernel) ⟨Nat.le_of_ble_eq_true rfl, Nat.le_of_ble_eq_true rfl⟩) ⟨fun a U g mk q => by obtain ⟨q0, q1, qP, qK, qD, qN⟩ := q; exact ⟨q0, q1, qP, va_K.moved (u := U) (U := U.calling g mk a) (Vm.Alike.refl U.vm) qK, qD, nv_same rfl rfl qN⟩, va_recv hKc hPc (ci := 20) (q0 := 0) rfl rfl, fun U hU hW => ⟨rfl, by rw [hU], by rw [hU]; exact hPc, va_K.moved hW.alike hKc, hDc.weaken (fun _ _ _ _ => trivial), nv_call hS hFc hU hW hN⟩⟩ rfl rfl hl.1 rfl (lv_room (Nat.le_of_ble_eq_true rfl)) dL_law_538 ⟨by decide +kernel, by decide +kernel⟩) hS (fun q _ h => hFc q h) hFc (fun u t H1 locs ht hvm hw hB hz1 hk1 hS => ?_)
    rcases hw with ⟨c_2_0, c_2_1, h9, h8⟩ | ⟨c_2_0, c_2_1, c_2_2, c_2_3, h9, h8⟩ | ⟨c_2_0, c_2_1, c_2_2, c_2_3, h9, h8⟩ | h9
    · subst h8
      obtain ⟨hP1, hK1, hD1⟩ := hB
      rw [ht] at hP1
      have hK1 := va_K.moved hvm.symm hK1
      obtain ⟨hP, hD⟩ := va_join (wr := []) (w1 := [(q77, .inr (20, [.int 1, .ref q78, .int 0, .int 0, .ref q80, .ref q82, .ref q84, .ref q86, .ref q88, .ref q90, .ref q91, .ref q93, .ref q94, .ref q105, .ref q106, .ref q124, .ref q131, .int 0, .int 0, .int 0, .int 0, .int 0, .int 0, .int 0, .int 0, .int 0, .ref q132, .ref q133, .ref q134, .ref q135, .ref q136, .ref q137, .ref q138, .ref q139, .ref q140, .int 0]))]) hP hD [0, 1] [] rfl rfl (by decide) (by decide) hk1 hFc hP1 hD1
      have hK := (hK.sub (tys' := []) [] rfl).app hK1
      generalize H1 = H at hP hS ⊢
      have hP : va_P (dC, dI) vwCl [(q77, .inr (20, [.int 1, .ref q78, .int 0, .int 0, .ref q80, .ref q82, .ref q84, .ref q86, .ref q88, .ref q90, .ref q91, .ref q93, .ref q94, .ref q105, .ref q106, .ref q124, .ref q131, .int 0, .int 0, .int 0, .int 0, .int 0, .int 0, .int 0, .int 0, .int 0, .ref q132, .ref q133, .ref q134, .ref q135, .ref q136, .ref q137, .ref q138, .ref q139, .ref q140, .int 0]))] H := hP
      have hD : va_D A [(q77, .inr (20, [.int 1, .ref q78, .int 0, .int 0, .ref q80, .ref q82, .ref q84, .ref q86, .ref q88, .ref q90, .ref q91, .ref q93, .ref q94, .ref q105, .ref q106, .ref q124, .ref q131, .int 0, .int 0, .int 0, .int 0, .int 0, .int 0, .int 0, .int 0, .int 0, .ref q132, .ref q133, .ref q134, .ref q135, .ref q136, .ref q137, .ref q138, .ref q139, .ref q140, .int 0]))] := hD
      have hK : va_K (dC, dI) vwCl [] s := hK
      refine W.widen (k := 456) (n := 2511905) (by decide +kernel) (by decide +kernel) ?_
      refine lv_aload_n hx hb dL_law_541 rfl (lv_at hl 3 rfl) ?_
      have hPc := hP.sub (ws' := [(q77, .inr (20, [.int 1, .ref q78, .int 0, .int 0, .ref q80, .ref q82, .ref q84, .ref q86, .ref q88, .ref q90, .ref q91, .ref q93, .ref q94, .ref q105, .ref q106, .ref q124, .ref q131, .int 0, .int 0, .int 0, .int 0, .int 0, .int 0, .int 0, .int 0, .int 0, .ref q132, .ref q133, .ref q134, .ref q135, .ref q136, .ref q137, .ref q138, .ref q139, .ref q140, .int 0]))]) [0] rfl
      have hDc := hD.sub (ws' := [(q77, .inr (20, [.int 1, .ref q78, .int 0, .int 0, .ref q80, .ref q82, .ref q84, .ref q86, .ref q88, .ref q90, .ref q91, .ref q93, .ref q94, .ref q105, .ref q106, .ref q124, .ref q131, .int 0, .int 0, .int 0, .int 0, .int 0, .int 0, .int 0, .int 0, .int 0, .ref q132, .ref q133, .ref q134, .ref q135, .ref q136, .ref q137, .ref q138, .ref q139, .ref q140, .int 0]))]) [0] (by decide) rfl
      have hKc := hK.sub (tys' := []) [] rfl
      have hFc := va_free (wc := [(q77, .inr (20, [.int 1, .ref q78, .int 0, .int 0, .ref q80, .ref q82, .ref q84, .ref q86, .ref q88, .ref q90, .ref q91, .ref q93, .ref q94, .ref q105, .ref q106, .ref q124, .ref q131, .int 0, .int 0, .int 0, .int 0, .int 0, .int 0, .int 0, .int 0, .int 0, .ref q132, .ref q133, .ref q134, .ref q135, .ref q136, .ref q137, .ref q138, .ref q139, .ref q140, .int 0]))]) hD hS hA [0] rfl
      refine va_calli (va_runV (As := []) (rest := []) ⟨hx, hb, hml, hown, hts⟩ (k_X19_thrown l hlt dC dI q77 q78 q80 q82 q84 q86 q88 q90 q91 q93 q94 q105 q106 q124 q131 q132 q133 q134 q135 q136 q137 q138 q139 q140  H.size) (cwV 0 hts gl_8 rfl rfl rfl (by decide +kernel) ⟨Nat.le_of_ble_eq_true rfl, Nat.le_of_ble_eq_true rfl⟩) ⟨fun a U g mk q => by obtain ⟨q0, q1, qP, qK, qD, qN⟩ := q; exact ⟨q0, q1, qP, va_K.moved (u := U) (U := U.calling g mk a) (Vm.Alike.refl U.vm) qK, qD, nv_same rfl rfl qN⟩, va_recv hKc hPc (ci := 20) (q0 := 0) rfl rfl, fun U hU hW => ⟨rfl, by rw [hU], by rw [hU]; exact hPc, va_K.moved hW.alike hKc, hDc.weaken (fun _ _ _ _ => trivial), nv_call hS hFc hU hW hN⟩⟩ rfl rfl hl.1 rfl (lv_room (Nat.le_of_ble_eq_true rfl)) dL_law_542 ⟨by decide +kernel, by decide +kernel⟩) hS (fun q _ h => hFc q h) hFc (fun r505 u t H1 locs ht hvm hw hB hz1 hk1 hS => ?_)
      obtain ⟨hP1, hK1, hD1⟩ := hB
      rw [ht] at hP1
      have hK1 := va_K.moved hvm.symm hK1
      obtain rfl : r505 = 1 := hw
      obtain ⟨hP, hD⟩ := va_join (wr := []) (w1 := [(q77, .inr (20, [.int 1, .ref q78, .int 0, .int 0, .ref q80, .ref q82, .ref q84, .ref q86, .ref q88, .ref q90, .ref q91, .ref q93, .ref q94, .ref q105, .ref q106, .ref q124, .ref q131, .int 0, .int 0, .int 0, .int 0, .int 0, .int 0, .int 0, .int 0, .int 0, .ref q132, .ref q133, .ref q134, .ref q135, .ref q136, .ref q137, .ref q138, .ref q139, .ref q140, .int 0]))]) hP hD [0] [] rfl rfl (by decide) (by decide) hk1 hFc hP1 hD1
      have hK := (hK.sub (tys' := []) [] rfl).app hK1
      generalize H1 = H at hP hS ⊢
      have hP : va_P (dC, dI) vwCl [(q77, .inr (20, [.int 1, .ref q78, .int 0, .int 0, .ref q80, .ref q82, .ref q84, .ref q86, .ref q88, .ref q90, .ref q91, .ref q93, .ref q94, .ref q105, .ref q106, .ref q124, .ref q131, .int 0, .int 0, .int 0, .int 0, .int 0, .int 0, .int 0, .int 0, .int 0, .ref q132, .ref q133, .ref q134, .ref q135, .ref q136, .ref q137, .ref q138, .ref q139, .ref q140, .int 0]))] H := hP
      have hD : va_D A [(q77, .inr (20, [.int 1, .ref q78, .int 0, .int 0, .ref q80, .ref q82, .ref q84, .ref q86, .ref q88, .ref q90, .ref q91, .ref q93, .ref q94, .ref q105, .ref q106, .ref q124, .ref q131, .int 0, .int 0, .int 0, .int 0, .int 0, .int 0, .int 0, .int 0, .int 0, .ref q132, .ref q133, .ref q134, .ref q135, .ref q136, .ref q137, .ref q138, .ref q139, .ref q140, .int 0]))] := hD
      have hK : va_K (dC, dI) vwCl [] s := hK
      refine W.widen (k := 456) (n := 2511905) (by decide +kernel) (by decide +kernel) ?_
      refine lv_iload hx hb dL_law_545 (lv_at hl 0 rfl) ?_
      refine lv_icmp_eq (tgt := 552) hx hb dL_law_547 (by decide) (fun _ => ?_) (fun h9 => absurd (by decide) h9)
      refine lv_goto (tgt := 1493) hx hb dL_law_552 (by decide) ?_
      refine lv_iinc (v := 6) (lv' := [(4, .int 6), (5, .int 1), (3, .ref q143), (2, .ref q77), (1, .ref q1), (0, .ref b)]) hx hb dL_law_1493 hl (k := 1) rfl (by decide) (by decide) rfl (fun ls hl => ?_)
      refine lv_goto (tgt := 23) hx hb dL_law_1496 (by decide) ?_
      refine W.widen (k := 600002) (n := 7302232) (by decide +kernel) (by decide +kernel) ?_
      exact kkE _ _ _ hS (lv_sub hl [0, 5] rfl)
    · exact absurd c_1_0 c_2_0
    · exact absurd c_1_0 c_2_0
    · exact h9.elim
  · subst h9
    have hK1 := hK.sub (tys' := []) [] rfl
    obtain ⟨hP, hD⟩ := va_join (wr := [(q77, .inr (20, [.int 0, .ref q78, .int 0, .int 0, .ref q80, .ref q82, .ref q84, .ref q86, .ref q88, .ref q90, .ref q91, .ref q93, .ref q94, .ref q105, .ref q106, .ref q124, .ref q131, .int 0, .int 0, .int 0, .int 0, .int 0, .int 0, .int 0, .int 0, .int 0, .ref q132, .ref q133, .ref q134, .ref q135, .ref q136, .ref q137, .ref q138, .ref q139, .ref q140, .int 0])), (q80, .inl (y81, 4, .inl (fun _ => 0)))]) (w1 := []) hP hD [0, 1] [2, 3] rfl rfl (by decide) (by decide) hk1 hFc nv_P0 nv_D0
    have hK := (hK.sub (tys' := [(y81, .boolean)]) [1] rfl).app hK1
    generalize H1 = H at hP hS ⊢
    have hP : va_P (dC, dI) vwCl [(q77, .inr (20, [.int 0, .ref q78, .int 0, .int 0, .ref q80, .ref q82, .ref q84, .ref q86, .ref q88, .ref q90, .ref q91, .ref q93, .ref q94, .ref q105, .ref q106, .ref q124, .ref q131, .int 0, .int 0, .int 0, .int 0, .int 0, .int 0, .int 0, .int 0, .int 0, .ref q132, .ref q133, .ref q134, .ref q135, .ref q136, .ref q137, .ref q138, .ref q139, .ref q140, .int 0])), (q80, .inl (y81, 4, .inl (fun _ => 0)))] H := hP
    have hD : va_D A [(q77, .inr (20, [.int 0, .ref q78, .int 0, .int 0, .ref q80, .ref q82, .ref q84, .ref q86, .ref q88, .ref q90, .ref q91, .ref q93, .ref q94, .ref q105, .ref q106, .ref q124, .ref q131, .int 0, .int 0, .int 0, .int 0, .int 0, .int 0, .int 0, .int 0, .int 0, .ref q132, .ref q133, .ref q134, .ref q135, .ref q136, .ref q137, .ref q138, .ref q139, .ref q140, .int 0])), (q80, .inl (y81, 4, .inl (fun _ => 0)))] := hD
    have hK : va_K (dC, dI) vwCl [(y81, .boolean)] s := hK
    refine W.widen (k := 456) (n := 2511905) (by decide +kernel) (by decide +kernel) ?_
    refine lv_istore (lv' := [(5, .int 2), (4, .int 0), (3, .ref q143), (2, .ref q77), (1, .ref q1), (0, .ref b)]) hx hb dL_law_529 hl (by decide) rfl (fun ls hl => ?_)
    refine lv_aload_n hx hb dL_law_531 rfl (lv_at hl 3 rfl) ?_
    refine lv_aload_n hx hb dL_law_532 rfl (lv_at hl 5 rfl) ?_
    refine lv_iload hx hb dL_law_533 (lv_at hl 1 rfl) ?_
    refine lv_iconst (v := 1) hx hb dL_law_535 (by decide) ?_
    refine lv_iadd hx hb dL_law_536 ?_
    refine lv_topi (fun z506 ez506 => ?_)
    obtain rfl : z506 = 1 := ez506.trans (by decide)
    refine va_sld (i := 1) hx hb hX hbl hbA hS (vp_in_iff.mpr ⟨by decide, by decide⟩) dL_law_537 ?_
    rw [es1]
    have hPc := hP.sub (ws' := [(q77, .inr (20, [.int 0, .ref q78, .int 0, .int 0, .ref q80, .ref q82, .ref q84, .ref q86, .ref q88, .ref q90, .ref q91, .ref q93, .ref q94, .ref q105, .ref q106, .ref q124, .ref q131, .int 0, .int 0, .int 0, .int 0, .int 0, .int 0, .int 0, .int 0, .int 0, .ref q132, .ref q133, .ref q134, .ref q135, .ref q136, .ref q137, .ref q138, .ref q139, .ref q140, .int 0])), (q80, .inl (y81, 4, .inl (fun _ => 0)))]) [0, 1] rfl
    have hDc := hD.sub (ws' := [(q77, .inr (20, [.int 0, .ref q78, .int 0, .int 0, .ref q80, .ref q82, .ref q84, .ref q86, .ref q88, .ref q90, .ref q91, .ref q93, .ref q94, .ref q105, .ref q106, .ref q124, .ref q131, .int 0, .int 0, .int 0, .int 0, .int 0, .int 0, .int 0, .int 0, .int 0, .ref q132, .ref q133, .ref q134, .ref q135, .ref q136, .ref q137, .ref q138, .ref q139, .ref q140, .int 0])), (q80, .inl (y81, 4, .inl (fun _ => 0)))]) [0, 1] (by decide) rfl
    have hKc := hK.sub (tys' := [(y81, .boolean)]) [0] rfl
    have hFc := va_free (wc := [(q77, .inr (20, [.int 0, .ref q78, .int 0, .int 0, .ref q80, .ref q82, .ref q84, .ref q86, .ref q88, .ref q90, .ref q91, .ref q93, .ref q94, .ref q105, .ref q106, .ref q124, .ref q131, .int 0, .int 0, .int 0, .int 0, .int 0, .int 0, .int 0, .int 0, .int 0, .ref q132, .ref q133, .ref q134, .ref q135, .ref q136, .ref q137, .ref q138, .ref q139, .ref q140, .int 0])), (q80, .inl (y81, 4, .inl (fun _ => 0)))]) hD hS hA [0, 1] rfl
    refine va_callv (va_runV (As := [.int x1]) (rest := []) ⟨hx, hb, hml, hown, hts⟩ (k_X19_boot l hlt dC dI q77 q80 y81 x1 q78 q82 q84 q86 q88 q90 q91 q93 q94 q105 q106 q124 q131 q132 q133 q134 q135 q136 q137 q138 q139 q140  H.size) (cwV 1 hts gl_21 rfl rfl rfl (by decide +kernel) ⟨Nat.le_of_ble_eq_true rfl, Nat.le_of_ble_eq_true rfl⟩) ⟨fun a U g mk q => by obtain ⟨q0, q1, qP, qK, qD, qN⟩ := q; exact ⟨q0, q1, qP, va_K.moved (u := U) (U := U.calling g mk a) (Vm.Alike.refl U.vm) qK, qD, nv_same rfl rfl qN⟩, va_recv hKc hPc (ci := 20) (q0 := 0) rfl rfl, fun U hU hW => ⟨rfl, by rw [hU], by rw [hU]; exact hPc, va_K.moved hW.alike hKc, hDc.weaken (fun _ _ _ _ => trivial), nv_call hS hFc hU hW hN⟩⟩ rfl rfl hl.1 rfl (lv_room (Nat.le_of_ble_eq_true rfl)) dL_law_538 ⟨by decide +kernel, by decide +kernel⟩) hS (fun q _ h => hFc q h) hFc (fun u t H1 locs ht hvm hw hB hz1 hk1 hS => ?_)
    rcases hw with ⟨c_3_0, c_3_1, h9, h8⟩ | ⟨c_3_0, c_3_1, c_3_2, c_3_3, h9, h8⟩ | ⟨c_3_0, c_3_1, c_3_2, c_3_3, h9, h8⟩ | h9
    · exact absurd c_3_0 c_1_0
    · exact (cz_1 x1 c_1_0 c_1_1 c_3_1).elim
    · subst h8
      obtain ⟨hP1, hK1, hD1⟩ := hB
      rw [ht] at hP1
      have hK1 := va_K.moved hvm.symm hK1
      obtain ⟨hP, hD⟩ := va_join (wr := []) (w1 := [(q77, .inr (20, [.int 2, .ref q78, .int 0, .int 0, .ref q80, .ref q82, .ref q84, .ref q86, .ref q88, .ref q90, .ref q91, .ref q93, .ref q94, .ref q105, .ref q106, .ref q124, .ref q131, .int 0, .int 0, .int 0, .int 0, .int 0, .int 0, .int 0, .int 0, .int 0, .ref q132, .ref q133, .ref q134, .ref q135, .ref q136, .ref q137, .ref q138, .ref q139, .ref q140, .int 0]))]) hP hD [0, 1] [] rfl rfl (by decide) (by decide) hk1 hFc hP1 hD1
      have hK := (hK.sub (tys' := []) [] rfl).app hK1
      generalize H1 = H at hP hS ⊢
      have hP : va_P (dC, dI) vwCl [(q77, .inr (20, [.int 2, .ref q78, .int 0, .int 0, .ref q80, .ref q82, .ref q84, .ref q86, .ref q88, .ref q90, .ref q91, .ref q93, .ref q94, .ref q105, .ref q106, .ref q124, .ref q131, .int 0, .int 0, .int 0, .int 0, .int 0, .int 0, .int 0, .int 0, .int 0, .ref q132, .ref q133, .ref q134, .ref q135, .ref q136, .ref q137, .ref q138, .ref q139, .ref q140, .int 0]))] H := hP
      have hD : va_D A [(q77, .inr (20, [.int 2, .ref q78, .int 0, .int 0, .ref q80, .ref q82, .ref q84, .ref q86, .ref q88, .ref q90, .ref q91, .ref q93, .ref q94, .ref q105, .ref q106, .ref q124, .ref q131, .int 0, .int 0, .int 0, .int 0, .int 0, .int 0, .int 0, .int 0, .int 0, .ref q132, .ref q133, .ref q134, .ref q135, .ref q136, .ref q137, .ref q138, .ref q139, .ref q140, .int 0]))] := hD
      have hK : va_K (dC, dI) vwCl [] s := hK
      refine W.widen (k := 456) (n := 2511905) (by decide +kernel) (by decide +kernel) ?_
      refine lv_aload_n hx hb dL_law_541 rfl (lv_at hl 3 rfl) ?_
      have hPc := hP.sub (ws' := [(q77, .inr (20, [.int 2, .ref q78, .int 0, .int 0, .ref q80, .ref q82, .ref q84, .ref q86, .ref q88, .ref q90, .ref q91, .ref q93, .ref q94, .ref q105, .ref q106, .ref q124, .ref q131, .int 0, .int 0, .int 0, .int 0, .int 0, .int 0, .int 0, .int 0, .int 0, .ref q132, .ref q133, .ref q134, .ref q135, .ref q136, .ref q137, .ref q138, .ref q139, .ref q140, .int 0]))]) [0] rfl
      have hDc := hD.sub (ws' := [(q77, .inr (20, [.int 2, .ref q78, .int 0, .int 0, .ref q80, .ref q82, .ref q84, .ref q86, .ref q88, .ref q90, .ref q91, .ref q93, .ref q94, .ref q105, .ref q106, .ref q124, .ref q131, .int 0, .int 0, .int 0, .int 0, .int 0, .int 0, .int 0, .int 0, .int 0, .ref q132, .ref q133, .ref q134, .ref q135, .ref q136, .ref q137, .ref q138, .ref q139, .ref q140, .int 0]))]) [0] (by decide) rfl
      have hKc := hK.sub (tys' := []) [] rfl
      have hFc := va_free (wc := [(q77, .inr (20, [.int 2, .ref q78, .int 0, .int 0, .ref q80, .ref q82, .ref q84, .ref q86, .ref q88, .ref q90, .ref q91, .ref q93, .ref q94, .ref q105, .ref q106, .ref q124, .ref q131, .int 0, .int 0, .int 0, .int 0, .int 0, .int 0, .int 0, .int 0, .int 0, .ref q132, .ref q133, .ref q134, .ref q135, .ref q136, .ref q137, .ref q138, .ref q139, .ref q140, .int 0]))]) hD hS hA [0] rfl
      refine va_calli (va_runV (As := []) (rest := []) ⟨hx, hb, hml, hown, hts⟩ (k_X19_thrown_v2 l hlt dC dI q77 q78 q80 q82 q84 q86 q88 q90 q91 q93 q94 q105 q106 q124 q131 q132 q133 q134 q135 q136 q137 q138 q139 q140  H.size) (cwV 0 hts gl_22 rfl rfl rfl (by decide +kernel) ⟨Nat.le_of_ble_eq_true rfl, Nat.le_of_ble_eq_true rfl⟩) ⟨fun a U g mk q => by obtain ⟨q0, q1, qP, qK, qD, qN⟩ := q; exact ⟨q0, q1, qP, va_K.moved (u := U) (U := U.calling g mk a) (Vm.Alike.refl U.vm) qK, qD, nv_same rfl rfl qN⟩, va_recv hKc hPc (ci := 20) (q0 := 0) rfl rfl, fun U hU hW => ⟨rfl, by rw [hU], by rw [hU]; exact hPc, va_K.moved hW.alike hKc, hDc.weaken (fun _ _ _ _ => trivial), nv_call hS hFc hU hW hN⟩⟩ rfl rfl hl.1 rfl (lv_room (Nat.le_of_ble_eq_true rfl)) dL_law_542 ⟨by decide +kernel, by decide +kernel⟩) hS (fun q _ h => hFc q h) hFc (fun r508 u t H1 locs ht hvm hw hB hz1 hk1 hS => ?_)
      obtain ⟨hP1, hK1, hD1⟩ := hB
      rw [ht] at hP1
      have hK1 := va_K.moved hvm.symm hK1
      obtain rfl : r508 = 2 := hw
      obtain ⟨hP, hD⟩ := va_join (wr := []) (w1 := [(q77, .inr (20, [.int 2, .ref q78, .int 0, .int 0, .ref q80, .ref q82, .ref q84, .ref q86, .ref q88, .ref q90, .ref q91, .ref q93, .ref q94, .ref q105, .ref q106, .ref q124, .ref q131, .int 0, .int 0, .int 0, .int 0, .int 0, .int 0, .int 0, .int 0, .int 0, .ref q132, .ref q133, .ref q134, .ref q135, .ref q136, .ref q137, .ref q138, .ref q139, .ref q140, .int 0]))]) hP hD [0] [] rfl rfl (by decide) (by decide) hk1 hFc hP1 hD1
      have hK := (hK.sub (tys' := []) [] rfl).app hK1
      generalize H1 = H at hP hS ⊢
      have hP : va_P (dC, dI) vwCl [(q77, .inr (20, [.int 2, .ref q78, .int 0, .int 0, .ref q80, .ref q82, .ref q84, .ref q86, .ref q88, .ref q90, .ref q91, .ref q93, .ref q94, .ref q105, .ref q106, .ref q124, .ref q131, .int 0, .int 0, .int 0, .int 0, .int 0, .int 0, .int 0, .int 0, .int 0, .ref q132, .ref q133, .ref q134, .ref q135, .ref q136, .ref q137, .ref q138, .ref q139, .ref q140, .int 0]))] H := hP
      have hD : va_D A [(q77, .inr (20, [.int 2, .ref q78, .int 0, .int 0, .ref q80, .ref q82, .ref q84, .ref q86, .ref q88, .ref q90, .ref q91, .ref q93, .ref q94, .ref q105, .ref q106, .ref q124, .ref q131, .int 0, .int 0, .int 0, .int 0, .int 0, .int 0, .int 0, .int 0, .int 0, .ref q132, .ref q133, .ref q134, .ref q135, .ref q136, .ref q137, .ref q138, .ref q139, .ref q140, .int 0]))] := hD
      have hK : va_K (dC, dI) vwCl [] s := hK
      refine W.widen (k := 456) (n := 2511905) (by decide +kernel) (by decide +kernel) ?_
      refine lv_iload hx hb dL_law_545 (lv_at hl 0 rfl) ?_
      refine lv_icmp_eq (tgt := 552) hx hb dL_law_547 (by decide) (fun _ => ?_) (fun h9 => absurd (by decide) h9)
      refine lv_goto (tgt := 1493) hx hb dL_law_552 (by decide) ?_
      refine lv_iinc (v := 6) (lv' := [(4, .int 6), (5, .int 2), (3, .ref q143), (2, .ref q77), (1, .ref q1), (0, .ref b)]) hx hb dL_law_1493 hl (k := 1) rfl (by decide) (by decide) rfl (fun ls hl => ?_)
      refine lv_goto (tgt := 23) hx hb dL_law_1496 (by decide) ?_
      refine W.widen (k := 600002) (n := 7302232) (by decide +kernel) (by decide +kernel) ?_
      exact kkE _ _ _ hS (lv_sub hl [0, 5] rfl)
    · exact h9.elim
  · subst h9
    have hK1 := hK.sub (tys' := []) [] rfl
    obtain ⟨hP, hD⟩ := va_join (wr := [(q77, .inr (20, [.int 0, .ref q78, .int 0, .int 0, .ref q80, .ref q82, .ref q84, .ref q86, .ref q88, .ref q90, .ref q91, .ref q93, .ref q94, .ref q105, .ref q106, .ref q124, .ref q131, .int 0, .int 0, .int 0, .int 0, .int 0, .int 0, .int 0, .int 0, .int 0, .ref q132, .ref q133, .ref q134, .ref q135, .ref q136, .ref q137, .ref q138, .ref q139, .ref q140, .int 0])), (q80, .inl (y81, 4, .inl (fun _ => 0)))]) (w1 := []) hP hD [0, 1] [2, 3] rfl rfl (by decide) (by decide) hk1 hFc nv_P0 nv_D0
    have hK := (hK.sub (tys' := [(y81, .boolean)]) [1] rfl).app hK1
    generalize H1 = H at hP hS ⊢
    have hP : va_P (dC, dI) vwCl [(q77, .inr (20, [.int 0, .ref q78, .int 0, .int 0, .ref q80, .ref q82, .ref q84, .ref q86, .ref q88, .ref q90, .ref q91, .ref q93, .ref q94, .ref q105, .ref q106, .ref q124, .ref q131, .int 0, .int 0, .int 0, .int 0, .int 0, .int 0, .int 0, .int 0, .int 0, .ref q132, .ref q133, .ref q134, .ref q135, .ref q136, .ref q137, .ref q138, .ref q139, .ref q140, .int 0])), (q80, .inl (y81, 4, .inl (fun _ => 0)))] H := hP
    have hD : va_D A [(q77, .inr (20, [.int 0, .ref q78, .int 0, .int 0, .ref q80, .ref q82, .ref q84, .ref q86, .ref q88, .ref q90, .ref q91, .ref q93, .ref q94, .ref q105, .ref q106, .ref q124, .ref q131, .int 0, .int 0, .int 0, .int 0, .int 0, .int 0, .int 0, .int 0, .int 0, .ref q132, .ref q133, .ref q134, .ref q135, .ref q136, .ref q137, .ref q138, .ref q139, .ref q140, .int 0])), (q80, .inl (y81, 4, .inl (fun _ => 0)))] := hD
    have hK : va_K (dC, dI) vwCl [(y81, .boolean)] s := hK
    refine W.widen (k := 456) (n := 2511905) (by decide +kernel) (by decide +kernel) ?_
    refine lv_istore (lv' := [(5, .int 1), (4, .int 0), (3, .ref q143), (2, .ref q77), (1, .ref q1), (0, .ref b)]) hx hb dL_law_529 hl (by decide) rfl (fun ls hl => ?_)
    refine lv_aload_n hx hb dL_law_531 rfl (lv_at hl 3 rfl) ?_
    refine lv_aload_n hx hb dL_law_532 rfl (lv_at hl 5 rfl) ?_
    refine lv_iload hx hb dL_law_533 (lv_at hl 1 rfl) ?_
    refine lv_iconst (v := 1) hx hb dL_law_535 (by decide) ?_
    refine lv_iadd hx hb dL_law_536 ?_
    refine lv_topi (fun z509 ez509 => ?_)
    obtain rfl : z509 = 1 := ez509.trans (by decide)
    refine va_sld (i := 1) hx hb hX hbl hbA hS (vp_in_iff.mpr ⟨by decide, by decide⟩) dL_law_537 ?_
    rw [es1]
    have hPc := hP.sub (ws' := [(q77, .inr (20, [.int 0, .ref q78, .int 0, .int 0, .ref q80, .ref q82, .ref q84, .ref q86, .ref q88, .ref q90, .ref q91, .ref q93, .ref q94, .ref q105, .ref q106, .ref q124, .ref q131, .int 0, .int 0, .int 0, .int 0, .int 0, .int 0, .int 0, .int 0, .int 0, .ref q132, .ref q133, .ref q134, .ref q135, .ref q136, .ref q137, .ref q138, .ref q139, .ref q140, .int 0])), (q80, .inl (y81, 4, .inl (fun _ => 0)))]) [0, 1] rfl
    have hDc := hD.sub (ws' := [(q77, .inr (20, [.int 0, .ref q78, .int 0, .int 0, .ref q80, .ref q82, .ref q84, .ref q86, .ref q88, .ref q90, .ref q91, .ref q93, .ref q94, .ref q105, .ref q106, .ref q124, .ref q131, .int 0, .int 0, .int 0, .int 0, .int 0, .int 0, .int 0, .int 0, .int 0, .ref q132, .ref q133, .ref q134, .ref q135, .ref q136, .ref q137, .ref q138, .ref q139, .ref q140, .int 0])), (q80, .inl (y81, 4, .inl (fun _ => 0)))]) [0, 1] (by decide) rfl
    have hKc := hK.sub (tys' := [(y81, .boolean)]) [0] rfl
    have hFc := va_free (wc := [(q77, .inr (20, [.int 0, .ref q78, .int 0, .int 0, .ref q80, .ref q82, .ref q84, .ref q86, .ref q88, .ref q90, .ref q91, .ref q93, .ref q94, .ref q105, .ref q106, .ref q124, .ref q131, .int 0, .int 0, .int 0, .int 0, .int 0, .int 0, .int 0, .int 0, .int 0, .ref q132, .ref q133, .ref q134, .ref q135, .ref q136, .ref q137, .ref q138, .ref q139, .ref q140, .int 0])), (q80, .inl (y81, 4, .inl (fun _ => 0)))]) hD hS hA [0, 1] rfl
    refine va_callv (va_runV (As := [.int x1]) (rest := []) ⟨hx, hb, hml, hown, hts⟩ (k_X19_boot l hlt dC dI q77 q80 y81 x1 q78 q82 q84 q86 q88 q90 q91 q93 q94 q105 q106 q124 q131 q132 q133 q134 q135 q136 q137 q138 q139 q140  H.size) (cwV 1 hts gl_21 rfl rfl rfl (by decide +kernel) ⟨Nat.le_of_ble_eq_true rfl, Nat.le_of_ble_eq_true rfl⟩) ⟨fun a U g mk q => by obtain ⟨q0, q1, qP, qK, qD, qN⟩ := q; exact ⟨q0, q1, qP, va_K.moved (u := U) (U := U.calling g mk a) (Vm.Alike.refl U.vm) qK, qD, nv_same rfl rfl qN⟩, va_recv hKc hPc (ci := 20) (q0 := 0) rfl rfl, fun U hU hW => ⟨rfl, by rw [hU], by rw [hU]; exact hPc, va_K.moved hW.alike hKc, hDc.weaken (fun _ _ _ _ => trivial), nv_call hS hFc hU hW hN⟩⟩ rfl rfl hl.1 rfl (lv_room (Nat.le_of_ble_eq_true rfl)) dL_law_538 ⟨by decide +kernel, by decide +kernel⟩) hS (fun q _ h => hFc q h) hFc (fun u t H1 locs ht hvm hw hB hz1 hk1 hS => ?_)
    rcases hw with ⟨c_4_0, c_4_1, h9, h8⟩ | ⟨c_4_0, c_4_1, c_4_2, c_4_3, h9, h8⟩ | ⟨c_4_0, c_4_1, c_4_2, c_4_3, h9, h8⟩ | h9
    · exact absurd c_4_0 c_1_0
    · subst h8
      obtain ⟨hP1, hK1, hD1⟩ := hB
      rw [ht] at hP1
      have hK1 := va_K.moved hvm.symm hK1
      obtain ⟨hP, hD⟩ := va_join (wr := []) (w1 := [(q77, .inr (20, [.int 1, .ref q78, .int 0, .int 0, .ref q80, .ref q82, .ref q84, .ref q86, .ref q88, .ref q90, .ref q91, .ref q93, .ref q94, .ref q105, .ref q106, .ref q124, .ref q131, .int 0, .int 0, .int 0, .int 0, .int 0, .int 0, .int 0, .int 0, .int 0, .ref q132, .ref q133, .ref q134, .ref q135, .ref q136, .ref q137, .ref q138, .ref q139, .ref q140, .int 0]))]) hP hD [0, 1] [] rfl rfl (by decide) (by decide) hk1 hFc hP1 hD1
      have hK := (hK.sub (tys' := []) [] rfl).app hK1
      generalize H1 = H at hP hS ⊢
      have hP : va_P (dC, dI) vwCl [(q77, .inr (20, [.int 1, .ref q78, .int 0, .int 0, .ref q80, .ref q82, .ref q84, .ref q86, .ref q88, .ref q90, .ref q91, .ref q93, .ref q94, .ref q105, .ref q106, .ref q124, .ref q131, .int 0, .int 0, .int 0, .int 0, .int 0, .int 0, .int 0, .int 0, .int 0, .ref q132, .ref q133, .ref q134, .ref q135, .ref q136, .ref q137, .ref q138, .ref q139, .ref q140, .int 0]))] H := hP
      have hD : va_D A [(q77, .inr (20, [.int 1, .ref q78, .int 0, .int 0, .ref q80, .ref q82, .ref q84, .ref q86, .ref q88, .ref q90, .ref q91, .ref q93, .ref q94, .ref q105, .ref q106, .ref q124, .ref q131, .int 0, .int 0, .int 0, .int 0, .int 0, .int 0, .int 0, .int 0, .int 0, .ref q132, .ref q133, .ref q134, .ref q135, .ref q136, .ref q137, .ref q138, .ref q139, .ref q140, .int 0]))] := hD
      have hK : va_K (dC, dI) vwCl [] s := hK
      refine W.widen (k := 456) (n := 2511905) (by decide +kernel) (by decide +kernel) ?_
      refine lv_aload_n hx hb dL_law_541 rfl (lv_at hl 3 rfl) ?_
      have hPc := hP.sub (ws' := [(q77, .inr (20, [.int 1, .ref q78, .int 0, .int 0, .ref q80, .ref q82, .ref q84, .ref q86, .ref q88, .ref q90, .ref q91, .ref q93, .ref q94, .ref q105, .ref q106, .ref q124, .ref q131, .int 0, .int 0, .int 0, .int 0, .int 0, .int 0, .int 0, .int 0, .int 0, .ref q132, .ref q133, .ref q134, .ref q135, .ref q136, .ref q137, .ref q138, .ref q139, .ref q140, .int 0]))]) [0] rfl
      have hDc := hD.sub (ws' := [(q77, .inr (20, [.int 1, .ref q78, .int 0, .int 0, .ref q80, .ref q82, .ref q84, .ref q86, .ref q88, .ref q90, .ref q91, .ref q93, .ref q94, .ref q105, .ref q106, .ref q124, .ref q131, .int 0, .int 0, .int 0, .int 0, .int 0, .int 0, .int 0, .int 0, .int 0, .ref q132, .ref q133, .ref q134, .ref q135, .ref q136, .ref q137, .ref q138, .ref q139, .ref q140, .int 0]))]) [0] (by decide) rfl
      have hKc := hK.sub (tys' := []) [] rfl
      have hFc := va_free (wc := [(q77, .inr (20, [.int 1, .ref q78, .int 0, .int 0, .ref q80, .ref q82, .ref q84, .ref q86, .ref q88, .ref q90, .ref q91, .ref q93, .ref q94, .ref q105, .ref q106, .ref q124, .ref q131, .int 0, .int 0, .int 0, .int 0, .int 0, .int 0, .int 0, .int 0, .int 0, .ref q132, .ref q133, .ref q134, .ref q135, .ref q136, .ref q137, .ref q138, .ref q139, .ref q140, .int 0]))]) hD hS hA [0] rfl
      refine va_calli (va_runV (As := []) (rest := []) ⟨hx, hb, hml, hown, hts⟩ (k_X19_thrown l hlt dC dI q77 q78 q80 q82 q84 q86 q88 q90 q91 q93 q94 q105 q106 q124 q131 q132 q133 q134 q135 q136 q137 q138 q139 q140  H.size) (cwV 0 hts gl_8 rfl rfl rfl (by decide +kernel) ⟨Nat.le_of_ble_eq_true rfl, Nat.le_of_ble_eq_true rfl⟩) ⟨fun a U g mk q => by obtain ⟨q0, q1, qP, qK, qD, qN⟩ := q; exact ⟨q0, q1, qP, va_K.moved (u := U) (U := U.calling g mk a) (Vm.Alike.refl U.vm) qK, qD, nv_same rfl rfl qN⟩, va_recv hKc hPc (ci := 20) (q0 := 0) rfl rfl, fun U hU hW => ⟨rfl, by rw [hU], by rw [hU]; exact hPc, va_K.moved hW.alike hKc, hDc.weaken (fun _ _ _ _ => trivial), nv_call hS hFc hU hW hN⟩⟩ rfl rfl hl.1 rfl (lv_room (Nat.le_of_ble_eq_true rfl)) dL_law_542 ⟨by decide +kernel, by decide +kernel⟩) hS (fun q _ h => hFc q h) hFc (fun r511 u t H1 locs ht hvm hw hB hz1 hk1 hS => ?_)
      obtain ⟨hP1, hK1, hD1⟩ := hB
      rw [ht] at hP1
      have hK1 := va_K.moved hvm.symm hK1
      obtain rfl : r511 = 1 := hw
      obtain ⟨hP, hD⟩ := va_join (wr := []) (w1 := [(q77, .inr (20, [.int 1, .ref q78, .int 0, .int 0, .ref q80, .ref q82, .ref q84, .ref q86, .ref q88, .ref q90, .ref q91, .ref q93, .ref q94, .ref q105, .ref q106, .ref q124, .ref q131, .int 0, .int 0, .int 0, .int 0, .int 0, .int 0, .int 0, .int 0, .int 0, .ref q132, .ref q133, .ref q134, .ref q135, .ref q136, .ref q137, .ref q138, .ref q139, .ref q140, .int 0]))]) hP hD [0] [] rfl rfl (by decide) (by decide) hk1 hFc hP1 hD1
      have hK := (hK.sub (tys' := []) [] rfl).app hK1
      generalize H1 = H at hP hS ⊢
      have hP : va_P (dC, dI) vwCl [(q77, .inr (20, [.int 1, .ref q78, .int 0, .int 0, .ref q80, .ref q82, .ref q84, .ref q86, .ref q88, .ref q90, .ref q91, .ref q93, .ref q94, .ref q105, .ref q106, .ref q124, .ref q131, .int 0, .int 0, .int 0, .int 0, .int 0, .int 0, .int 0, .int 0, .int 0, .ref q132, .ref q133, .ref q134, .ref q135, .ref q136, .ref q137, .ref q138, .ref q139, .ref q140, .int 0]))] H := hP
      have hD : va_D A [(q77, .inr (20, [.int 1, .ref q78, .int 0, .int 0, .ref q80, .ref q82, .ref q84, .ref q86, .ref q88, .ref q90, .ref q91, .ref q93, .ref q94, .ref q105, .ref q106, .ref q124, .ref q131, .int 0, .int 0, .int 0, .int 0, .int 0, .int 0, .int 0, .int 0, .int 0, .ref q132, .ref q133, .ref q134, .ref q135, .ref q136, .ref q137, .ref q138, .ref q139, .ref q140, .int 0]))] := hD
      have hK : va_K (dC, dI) vwCl [] s := hK
      refine W.widen (k := 456) (n := 2511905) (by decide +kernel) (by decide +kernel) ?_
      refine lv_iload hx hb dL_law_545 (lv_at hl 0 rfl) ?_
      refine lv_icmp_eq (tgt := 552) hx hb dL_law_547 (by decide) (fun _ => ?_) (fun h9 => absurd (by decide) h9)
      refine lv_goto (tgt := 1493) hx hb dL_law_552 (by decide) ?_
      refine lv_iinc (v := 6) (lv' := [(4, .int 6), (5, .int 1), (3, .ref q143), (2, .ref q77), (1, .ref q1), (0, .ref b)]) hx hb dL_law_1493 hl (k := 1) rfl (by decide) (by decide) rfl (fun ls hl => ?_)
      refine lv_goto (tgt := 23) hx hb dL_law_1496 (by decide) ?_
      refine W.widen (k := 600002) (n := 7302232) (by decide +kernel) (by decide +kernel) ?_
      exact kkE _ _ _ hS (lv_sub hl [0, 5] rfl)
    · exact (cz_0 x1 c_1_0 c_1_1 c_4_1).elim
    · exact h9.elim
  · exact h9.elim
set_option maxHeartbeats 40000000 in
set_option maxRecDepth 100000 in
theorem law_c9 {p : Program} {l : Launch} {e : Env} {s : State} {m : MethodId} {below : List Frame} {meth : Method} {c : Code} {Q : State → Prop} {A : Nat → Prop} {b : Nat} (hlt : l.stackTraces = false) (hx : p.tables.exec = Jvm.exec) (hb : c.code = code) (hml : c.maxLocals = 8) (hown : s.vm.findClass RL = some m.cls) (hts : ∀ w ∈ lw_tbl, w.before #[Value.ref b] s = true) (hN : nv_E A s) (hA : ∀ q : Nat, s.heap.size ≤ q → A q) (hDe : nv_Dc s) (dC : Nat → ClassId) (dI : Nat → Nat → Nat) (q1 : Nat) (q2 : Nat) (q4 : Nat) (y5 : ClassId) (q6 : Nat) (q8 : Nat) (q22 : Nat) (q37 : Nat) (q39 : Nat) (q41 : Nat) (q43 : Nat) (q77 : Nat) (q78 : Nat) (q80 : Nat) (y81 : ClassId) (q82 : Nat) (q84 : Nat) (q86 : Nat) (q88 : Nat) (q90 : Nat) (q91 : Nat) (q93 : Nat) (q94 : Nat) (q105 : Nat) (q106 : Nat) (q124 : Nat) (q131 : Nat) (q132 : Nat) (q133 : Nat) (q134 : Nat) (q135 : Nat) (q136 : Nat) (q137 : Nat) (q138 : Nat) (q139 : Nat) (q140 : Nat) (q143 : Nat) (y144 : ClassId) {xs : Nat → Int32} (hX : va_X b 6 xs s s.heap) (hbl : b < s.heap.size) (hbA : ¬ A b) (x0 : Int32) (es0 : xs (Int32.toNatClampNeg 0) = x0) (x1 : Int32) (es1 : xs (Int32.toNatClampNeg 1) = x1) (x2 : Int32) (es2 : xs (Int32.toNatClampNeg 2) = x2) (x3 : Int32) (es3 : xs (Int32.toNatClampNeg 3) = x3) (x4 : Int32) (es4 : xs (Int32.toNatClampNeg 4) = x4) (x5 : Int32) (es5 : xs (Int32.toNatClampNeg 5) = x5) {H : Heap} {locs : List Loc} {ls : Array Slot} (hK : va_K (dC, dI) vwCl [(y5, .object RX8), (y81, .boolean), (y144, .long)] s) (hP : va_P (dC, dI) vwCl [(q1, .inr (13, [.ref q2, .int 0, .int 0, .ref q4, .ref q6, .ref q8, .ref q22, .ref q37, .ref q39, .ref q41, .int 0, .ref q43])), (q4, .inl (y5, 4, .inr (.inr (.inr (.inr (fun _ => none)))))), (q77, .inr (20, [.int 0, .ref q78, .int 0, .int 0, .ref q80, .ref q82, .ref q84, .ref q86, .ref q88, .ref q90, .ref q91, .ref q93, .ref q94, .ref q105, .ref q106, .ref q124, .ref q131, .int 0, .int 0, .int 0, .int 0, .int 0, .int 0, .int 0, .int 0, .int 0, .ref q132, .ref q133, .ref q134, .ref q135, .ref q136, .ref q137, .ref q138, .ref q139, .ref q140, .int 0])), (q80, .inl (y81, 4, .inl (fun _ => 0))), (q143, .inl (y144, 1, .inr (.inl (fun _ => 0))))] H) (hD : va_D A [(q1, .inr (13, [.ref q2, .int 0, .int 0, .ref q4, .ref q6, .ref q8, .ref q22, .ref q37, .ref q39, .ref q41, .int 0, .ref q43])), (q4, .inl (y5, 4, .inr (.inr (.inr (.inr (fun _ => none)))))), (q77, .inr (20, [.int 0, .ref q78, .int 0, .int 0, .ref q80, .ref q82, .ref q84, .ref q86, .ref q88, .ref q90, .ref q91, .ref q93, .ref q94, .ref q105, .ref q106, .ref q124, .ref q131, .int 0, .int 0, .int 0, .int 0, .int 0, .int 0, .int 0, .int 0, .int 0, .ref q132, .ref q133, .ref q134, .ref q135, .ref q136, .ref q137, .ref q138, .ref q139, .ref q140, .int 0])), (q80, .inl (y81, 4, .inl (fun _ => 0))), (q143, .inl (y144, 1, .inr (.inl (fun _ => 0))))]) (hS : va_S A s.heap H locs) (hl : lv_has ls 8 [(4, .int 0), (3, .ref q143), (2, .ref q77), (1, .ref q1), (0, .ref b)]) (kkE : ∀ (H : Heap) (locs : List Loc) (ls : Array Slot), va_S A s.heap H locs → lv_has ls 8 [(4, .int 6), (0, .ref b)] → W p l e room_1 s m #[Value.ref b] below meth c H locs 600002 7302232 Q (F0 m 23 ls [])) : W p l e room_1 s m #[Value.ref b] below meth c H locs 455 2511899 Q (F0 m 555 ls []) := by
  refine lv_aload_n hx hb dL_law_555 rfl (lv_at hl 3 rfl) ?_
  refine lv_aload_n hx hb dL_law_556 rfl (lv_at hl 4 rfl) ?_
  refine lv_iload hx hb dL_law_557 (lv_at hl 0 rfl) ?_
  refine lv_iconst (v := 1) hx hb dL_law_559 (by decide) ?_
  refine lv_iadd hx hb dL_law_560 ?_
  refine lv_topi (fun z501 ez501 => ?_)
  obtain rfl : z501 = 1 := ez501.trans (by decide)
  refine va_sld (i := 1) hx hb hX hbl hbA hS (vp_in_iff.mpr ⟨by decide, by decide⟩) dL_law_561 ?_
  rw [es1]
  refine lv_aload_n hx hb dL_law_562 rfl (lv_at hl 1 rfl) ?_
  have hPc := hP.sub (ws' := [(q1, .inr (13, [.ref q2, .int 0, .int 0, .ref q4, .ref q6, .ref q8, .ref q22, .ref q37, .ref q39, .ref q41, .int 0, .ref q43])), (q4, .inl (y5, 4, .inr (.inr (.inr (.inr (fun _ => none)))))), (q143, .inl (y144, 1, .inr (.inl (fun _ => 0))))]) [0, 1, 4] rfl
  have hDc := hD.sub (ws' := [(q1, .inr (13, [.ref q2, .int 0, .int 0, .ref q4, .ref q6, .ref q8, .ref q22, .ref q37, .ref q39, .ref q41, .int 0, .ref q43])), (q4, .inl (y5, 4, .inr (.inr (.inr (.inr (fun _ => none)))))), (q143, .inl (y144, 1, .inr (.inl (fun _ => 0))))]) [0, 1, 4] (by decide) rfl
  have hKc := hK.sub (tys' := [(y5, .object RX8), (y144, .long)]) [0, 2] rfl
  have hFc := va_free (wc := [(q1, .inr (13, [.ref q2, .int 0, .int 0, .ref q4, .ref q6, .ref q8, .ref q22, .ref q37, .ref q39, .ref q41, .int 0, .ref q43])), (q4, .inl (y5, 4, .inr (.inr (.inr (.inr (fun _ => none)))))), (q143, .inl (y144, 1, .inr (.inl (fun _ => 0))))]) hD hS hA [0, 1, 4] rfl
  refine va_calli (vx_runSW (As := [.ref q1, .int x1, .ref q143]) (rest := []) ⟨hx, hb, hml, hown, hts⟩ (k_L_replay l hlt dC dI q1 q4 y5 q143 y144 x1 q2 q6 q8 q22 q37 q39 q41 q43  H.size) (vx_cwSW 3 hts gl_23 rfl rfl rfl (by decide +kernel) ⟨Nat.le_of_ble_eq_true rfl, Nat.le_of_ble_eq_true rfl⟩) ⟨fun a U g mk q => by obtain ⟨q0, q1, qP, qK, qD, qN, qE⟩ := q; exact ⟨q0, q1, qP, va_K.moved (u := U) (U := U.calling g mk a) (Vm.Alike.refl U.vm) qK, qD, nv_same rfl rfl qN, nv_Dsame rfl qE⟩, fun U hU hW => ⟨rfl, by rw [hU], by rw [hU]; exact hPc, va_K.moved hW.alike hKc, hDc.weaken (fun _ _ _ _ => trivial), nv_call hS hFc hU hW hN, nv_Dcall hW hDe⟩⟩ rfl rfl hl.1 rfl (lv_room (Nat.le_of_ble_eq_true rfl)) dL_law_563 ⟨by decide +kernel, by decide +kernel⟩) hS (fun q _ h => hFc q h) hFc (fun r502 u t H1 locs ht hvm hw hB hz1 hk1 hS => ?_)
  rcases hw with ⟨c_1_0, h9, h8⟩ | ⟨c_1_0, c_1_1, h9, h8⟩ | ⟨c_1_0, c_1_1, h9, h8⟩ | h9
  · subst h9
    subst h8
    obtain ⟨hP1, hK1, hD1⟩ := hB
    rw [ht] at hP1
    have hK1 := va_K.moved hvm.symm hK1
    obtain ⟨hP, hD⟩ := va_join (wr := [(q77, .inr (20, [.int 0, .ref q78, .int 0, .int 0, .ref q80, .ref q82, .ref q84, .ref q86, .ref q88, .ref q90, .ref q91, .ref q93, .ref q94, .ref q105, .ref q106, .ref q124, .ref q131, .int 0, .int 0, .int 0, .int 0, .int 0, .int 0, .int 0, .int 0, .int 0, .ref q132, .ref q133, .ref q134, .ref q135, .ref q136, .ref q137, .ref q138, .ref q139, .ref q140, .int 0])), (q80, .inl (y81, 4, .inl (fun _ => 0)))]) (w1 := [(q143, .inl (y144, 1, .inr (.inl (fun _ => 0))))]) hP hD [0, 1, 4] [2, 3] rfl rfl (by decide) (by decide) hk1 hFc hP1 hD1
    have hK := (hK.sub (tys' := [(y81, .boolean)]) [1] rfl).app hK1
    generalize H1 = H at hP hS ⊢
    have hP : va_P (dC, dI) vwCl [(q77, .inr (20, [.int 0, .ref q78, .int 0, .int 0, .ref q80, .ref q82, .ref q84, .ref q86, .ref q88, .ref q90, .ref q91, .ref q93, .ref q94, .ref q105, .ref q106, .ref q124, .ref q131, .int 0, .int 0, .int 0, .int 0, .int 0, .int 0, .int 0, .int 0, .int 0, .ref q132, .ref q133, .ref q134, .ref q135, .ref q136, .ref q137, .ref q138, .ref q139, .ref q140, .int 0])), (q80, .inl (y81, 4, .inl (fun _ => 0))), (q143, .inl (y144, 1, .inr (.inl (fun _ => 0))))] H := hP
    have hD : va_D A [(q77, .inr (20, [.int 0, .ref q78, .int 0, .int 0, .ref q80, .ref q82, .ref q84, .ref q86, .ref q88, .ref q90, .ref q91, .ref q93, .ref q94, .ref q105, .ref q106, .ref q124, .ref q131, .int 0, .int 0, .int 0, .int 0, .int 0, .int 0, .int 0, .int 0, .int 0, .ref q132, .ref q133, .ref q134, .ref q135, .ref q136, .ref q137, .ref q138, .ref q139, .ref q140, .int 0])), (q80, .inl (y81, 4, .inl (fun _ => 0))), (q143, .inl (y144, 1, .inr (.inl (fun _ => 0))))] := hD
    have hK : va_K (dC, dI) vwCl [(y81, .boolean), (y144, .long)] s := hK
    refine W.widen (k := 456) (n := 2511905) (by decide +kernel) (by decide +kernel) ?_
    refine lv_istore (lv' := [(5, .int 1), (4, .int 0), (3, .ref q143), (2, .ref q77), (1, .ref q1), (0, .ref b)]) hx hb dL_law_566 hl (by decide) rfl (fun ls hl => ?_)
    refine lv_aload_n hx hb dL_law_568 rfl (lv_at hl 3 rfl) ?_
    refine lv_aload_n hx hb dL_law_569 rfl (lv_at hl 5 rfl) ?_
    refine lv_iload hx hb dL_law_570 (lv_at hl 1 rfl) ?_
    refine lv_iconst (v := 1) hx hb dL_law_572 (by decide) ?_
    refine lv_iadd hx hb dL_law_573 ?_
    refine lv_topi (fun z503 ez503 => ?_)
    obtain rfl : z503 = 1 := ez503.trans (by decide)
    refine va_sld (i := 1) hx hb hX hbl hbA hS (vp_in_iff.mpr ⟨by decide, by decide⟩) dL_law_574 ?_
    rw [es1]
    have hPc := hP.sub (ws' := [(q77, .inr (20, [.int 0, .ref q78, .int 0, .int 0, .ref q80, .ref q82, .ref q84, .ref q86, .ref q88, .ref q90, .ref q91, .ref q93, .ref q94, .ref q105, .ref q106, .ref q124, .ref q131, .int 0, .int 0, .int 0, .int 0, .int 0, .int 0, .int 0, .int 0, .int 0, .ref q132, .ref q133, .ref q134, .ref q135, .ref q136, .ref q137, .ref q138, .ref q139, .ref q140, .int 0])), (q80, .inl (y81, 4, .inl (fun _ => 0)))]) [0, 1] rfl
    have hDc := hD.sub (ws' := [(q77, .inr (20, [.int 0, .ref q78, .int 0, .int 0, .ref q80, .ref q82, .ref q84, .ref q86, .ref q88, .ref q90, .ref q91, .ref q93, .ref q94, .ref q105, .ref q106, .ref q124, .ref q131, .int 0, .int 0, .int 0, .int 0, .int 0, .int 0, .int 0, .int 0, .int 0, .ref q132, .ref q133, .ref q134, .ref q135, .ref q136, .ref q137, .ref q138, .ref q139, .ref q140, .int 0])), (q80, .inl (y81, 4, .inl (fun _ => 0)))]) [0, 1] (by decide) rfl
    have hKc := hK.sub (tys' := [(y81, .boolean)]) [0] rfl
    have hFc := va_free (wc := [(q77, .inr (20, [.int 0, .ref q78, .int 0, .int 0, .ref q80, .ref q82, .ref q84, .ref q86, .ref q88, .ref q90, .ref q91, .ref q93, .ref q94, .ref q105, .ref q106, .ref q124, .ref q131, .int 0, .int 0, .int 0, .int 0, .int 0, .int 0, .int 0, .int 0, .int 0, .ref q132, .ref q133, .ref q134, .ref q135, .ref q136, .ref q137, .ref q138, .ref q139, .ref q140, .int 0])), (q80, .inl (y81, 4, .inl (fun _ => 0)))]) hD hS hA [0, 1] rfl
    refine va_calli (va_runV (As := [.int x1]) (rest := []) ⟨hx, hb, hml, hown, hts⟩ (k_X19_replay l hlt dC dI q77 q80 y81 x1 q78 q82 q84 q86 q88 q90 q91 q93 q94 q105 q106 q124 q131 q132 q133 q134 q135 q136 q137 q138 q139 q140  H.size) (cwV 1 hts gl_24 rfl rfl rfl (by decide +kernel) ⟨Nat.le_of_ble_eq_true rfl, Nat.le_of_ble_eq_true rfl⟩) ⟨fun a U g mk q => by obtain ⟨q0, q1, qP, qK, qD, qN⟩ := q; exact ⟨q0, q1, qP, va_K.moved (u := U) (U := U.calling g mk a) (Vm.Alike.refl U.vm) qK, qD, nv_same rfl rfl qN⟩, va_recv hKc hPc (ci := 20) (q0 := 0) rfl rfl, fun U hU hW => ⟨rfl, by rw [hU], by rw [hU]; exact hPc, va_K.moved hW.alike hKc, hDc.weaken (fun _ _ _ _ => trivial), nv_call hS hFc hU hW hN⟩⟩ rfl rfl hl.1 rfl (lv_room (Nat.le_of_ble_eq_true rfl)) dL_law_575 ⟨by decide +kernel, by decide +kernel⟩) hS (fun q _ h => hFc q h) hFc (fun r504 u t H1 locs ht hvm hw hB hz1 hk1 hS => ?_)
    rcases hw with ⟨c_2_0, c_2_1, h9, h8⟩ | ⟨c_2_0, c_2_1, c_2_2, c_2_3, h9, h8⟩ | ⟨c_2_0, c_2_1, c_2_2, c_2_3, h9, h8⟩ | h9
    · subst h9
      subst h8
      obtain ⟨hP1, hK1, hD1⟩ := hB
      rw [ht] at hP1
      have hK1 := va_K.moved hvm.symm hK1
      obtain ⟨hP, hD⟩ := va_join (wr := [(q143, .inl (y144, 1, .inr (.inl (fun _ => 0))))]) (w1 := [(q77, .inr (20, [.int 1, .ref q78, .int 0, .int 0, .ref q80, .ref q82, .ref q84, .ref q86, .ref q88, .ref q90, .ref q91, .ref q93, .ref q94, .ref q105, .ref q106, .ref q124, .ref q131, .int 0, .int 0, .int 0, .int 0, .int 0, .int 0, .int 0, .int 0, .int 0, .ref q132, .ref q133, .ref q134, .ref q135, .ref q136, .ref q137, .ref q138, .ref q139, .ref q140, .int 0]))]) hP hD [0, 1] [2] rfl rfl (by decide) (by decide) hk1 hFc hP1 hD1
      have hK := (hK.sub (tys' := [(y144, .long)]) [1] rfl).app hK1
      generalize H1 = H at hP hS ⊢
      have hP : va_P (dC, dI) vwCl [(q143, .inl (y144, 1, .inr (.inl (fun _ => 0)))), (q77, .inr (20, [.int 1, .ref q78, .int 0, .int 0, .ref q80, .ref q82, .ref q84, .ref q86, .ref q88, .ref q90, .ref q91, .ref q93, .ref q94, .ref q105, .ref q106, .ref q124, .ref q131, .int 0, .int 0, .int 0, .int 0, .int 0, .int 0, .int 0, .int 0, .int 0, .ref q132, .ref q133, .ref q134, .ref q135, .ref q136, .ref q137, .ref q138, .ref q139, .ref q140, .int 0]))] H := hP
      have hD : va_D A [(q143, .inl (y144, 1, .inr (.inl (fun _ => 0)))), (q77, .inr (20, [.int 1, .ref q78, .int 0, .int 0, .ref q80, .ref q82, .ref q84, .ref q86, .ref q88, .ref q90, .ref q91, .ref q93, .ref q94, .ref q105, .ref q106, .ref q124, .ref q131, .int 0, .int 0, .int 0, .int 0, .int 0, .int 0, .int 0, .int 0, .int 0, .ref q132, .ref q133, .ref q134, .ref q135, .ref q136, .ref q137, .ref q138, .ref q139, .ref q140, .int 0]))] := hD
      have hK : va_K (dC, dI) vwCl [(y144, .long)] s := hK
      refine W.widen (k := 456) (n := 2511905) (by decide +kernel) (by decide +kernel) ?_
      refine lv_istore (lv' := [(6, .int 0), (5, .int 1), (4, .int 0), (3, .ref q143), (2, .ref q77), (1, .ref q1), (0, .ref b)]) hx hb dL_law_578 hl (by decide) rfl (fun ls hl => ?_)
      refine lv_aload_n hx hb dL_law_580 rfl (lv_at hl 4 rfl) ?_
      have hPc := hP.sub (ws' := [(q77, .inr (20, [.int 1, .ref q78, .int 0, .int 0, .ref q80, .ref q82, .ref q84, .ref q86, .ref q88, .ref q90, .ref q91, .ref q93, .ref q94, .ref q105, .ref q106, .ref q124, .ref q131, .int 0, .int 0, .int 0, .int 0, .int 0, .int 0, .int 0, .int 0, .int 0, .ref q132, .ref q133, .ref q134, .ref q135, .ref q136, .ref q137, .ref q138, .ref q139, .ref q140, .int 0]))]) [1] rfl
      have hDc := hD.sub (ws' := [(q77, .inr (20, [.int 1, .ref q78, .int 0, .int 0, .ref q80, .ref q82, .ref q84, .ref q86, .ref q88, .ref q90, .ref q91, .ref q93, .ref q94, .ref q105, .ref q106, .ref q124, .ref q131, .int 0, .int 0, .int 0, .int 0, .int 0, .int 0, .int 0, .int 0, .int 0, .ref q132, .ref q133, .ref q134, .ref q135, .ref q136, .ref q137, .ref q138, .ref q139, .ref q140, .int 0]))]) [1] (by decide) rfl
      have hKc := hK.sub (tys' := []) [] rfl
      have hFc := va_free (wc := [(q77, .inr (20, [.int 1, .ref q78, .int 0, .int 0, .ref q80, .ref q82, .ref q84, .ref q86, .ref q88, .ref q90, .ref q91, .ref q93, .ref q94, .ref q105, .ref q106, .ref q124, .ref q131, .int 0, .int 0, .int 0, .int 0, .int 0, .int 0, .int 0, .int 0, .int 0, .ref q132, .ref q133, .ref q134, .ref q135, .ref q136, .ref q137, .ref q138, .ref q139, .ref q140, .int 0]))]) hD hS hA [1] rfl
      refine va_calli (va_runV (As := []) (rest := []) ⟨hx, hb, hml, hown, hts⟩ (k_X19_thrown l hlt dC dI q77 q78 q80 q82 q84 q86 q88 q90 q91 q93 q94 q105 q106 q124 q131 q132 q133 q134 q135 q136 q137 q138 q139 q140  H.size) (cwV 0 hts gl_8 rfl rfl rfl (by decide +kernel) ⟨Nat.le_of_ble_eq_true rfl, Nat.le_of_ble_eq_true rfl⟩) ⟨fun a U g mk q => by obtain ⟨q0, q1, qP, qK, qD, qN⟩ := q; exact ⟨q0, q1, qP, va_K.moved (u := U) (U := U.calling g mk a) (Vm.Alike.refl U.vm) qK, qD, nv_same rfl rfl qN⟩, va_recv hKc hPc (ci := 20) (q0 := 0) rfl rfl, fun U hU hW => ⟨rfl, by rw [hU], by rw [hU]; exact hPc, va_K.moved hW.alike hKc, hDc.weaken (fun _ _ _ _ => trivial), nv_call hS hFc hU hW hN⟩⟩ rfl rfl hl.1 rfl (lv_room (Nat.le_of_ble_eq_true rfl)) dL_law_581 ⟨by decide +kernel, by decide +kernel⟩) hS (fun q _ h => hFc q h) hFc (fun r505 u t H1 locs ht hvm hw hB hz1 hk1 hS => ?_)
      obtain ⟨hP1, hK1, hD1⟩ := hB
      rw [ht] at hP1
      have hK1 := va_K.moved hvm.symm hK1
      obtain rfl : r505 = 1 := hw
      obtain ⟨hP, hD⟩ := va_join (wr := [(q143, .inl (y144, 1, .inr (.inl (fun _ => 0))))]) (w1 := [(q77, .inr (20, [.int 1, .ref q78, .int 0, .int 0, .ref q80, .ref q82, .ref q84, .ref q86, .ref q88, .ref q90, .ref q91, .ref q93, .ref q94, .ref q105, .ref q106, .ref q124, .ref q131, .int 0, .int 0, .int 0, .int 0, .int 0, .int 0, .int 0, .int 0, .int 0, .ref q132, .ref q133, .ref q134, .ref q135, .ref q136, .ref q137, .ref q138, .ref q139, .ref q140, .int 0]))]) hP hD [1] [0] rfl rfl (by decide) (by decide) hk1 hFc hP1 hD1
      have hK := (hK.sub (tys' := [(y144, .long)]) [0] rfl).app hK1
      generalize H1 = H at hP hS ⊢
      have hP : va_P (dC, dI) vwCl [(q143, .inl (y144, 1, .inr (.inl (fun _ => 0)))), (q77, .inr (20, [.int 1, .ref q78, .int 0, .int 0, .ref q80, .ref q82, .ref q84, .ref q86, .ref q88, .ref q90, .ref q91, .ref q93, .ref q94, .ref q105, .ref q106, .ref q124, .ref q131, .int 0, .int 0, .int 0, .int 0, .int 0, .int 0, .int 0, .int 0, .int 0, .ref q132, .ref q133, .ref q134, .ref q135, .ref q136, .ref q137, .ref q138, .ref q139, .ref q140, .int 0]))] H := hP
      have hD : va_D A [(q143, .inl (y144, 1, .inr (.inl (fun _ => 0)))), (q77, .inr (20, [.int 1, .ref q78, .int 0, .int 0, .ref q80, .ref q82, .ref q84, .ref q86, .ref q88, .ref q90, .ref q91, .ref q93, .ref q94, .ref q105, .ref q106, .ref q124, .ref q131, .int 0, .int 0, .int 0, .int 0, .int 0, .int 0, .int 0, .int 0, .int 0, .ref q132, .ref q133, .ref q134, .ref q135, .ref q136, .ref q137, .ref q138, .ref q139, .ref q140, .int 0]))] := hD
      have hK : va_K (dC, dI) vwCl [(y144, .long)] s := hK
      refine W.widen (k := 456) (n := 2511905) (by decide +kernel) (by decide +kernel) ?_
      refine lv_iload hx hb dL_law_584 (lv_at hl 1 rfl) ?_
      refine lv_icmp_eq (tgt := 591) hx hb dL_law_586 (by decide) (fun _ => ?_) (fun h9 => absurd (by decide) h9)
      refine lv_iload hx hb dL_law_591 (lv_at hl 1 rfl) ?_
      refine lv_if_ne (tgt := 608) hx hb dL_law_593 (by decide) (fun _ => ?_) (fun h9 => absurd h9 (by decide))
      refine lv_goto (tgt := 1493) hx hb dL_law_608 (by decide) ?_
      refine lv_iinc (v := 6) (lv' := [(4, .int 6), (6, .int 0), (5, .int 1), (3, .ref q143), (2, .ref q77), (1, .ref q1), (0, .ref b)]) hx hb dL_law_1493 hl (k := 2) rfl (by decide) (by decide) rfl (fun ls hl => ?_)
      refine lv_goto (tgt := 23) hx hb dL_law_1496 (by decide) ?_
      refine W.widen (k := 600002) (n := 7302232) (by decide +kernel) (by decide +kernel) ?_
      exact kkE _ _ _ hS (lv_sub hl [0, 6] rfl)
    · exact absurd c_1_0 c_2_0
    · exact absurd c_1_0 c_2_0
    · exact h9.elim
  · subst h9
    subst h8
    obtain ⟨hP1, hK1, hD1⟩ := hB
    rw [ht] at hP1
    have hK1 := va_K.moved hvm.symm hK1
    obtain ⟨hP, hD⟩ := va_join (wr := [(q77, .inr (20, [.int 0, .ref q78, .int 0, .int 0, .ref q80, .ref q82, .ref q84, .ref q86, .ref q88, .ref q90, .ref q91, .ref q93, .ref q94, .ref q105, .ref q106, .ref q124, .ref q131, .int 0, .int 0, .int 0, .int 0, .int 0, .int 0, .int 0, .int 0, .int 0, .ref q132, .ref q133, .ref q134, .ref q135, .ref q136, .ref q137, .ref q138, .ref q139, .ref q140, .int 0])), (q80, .inl (y81, 4, .inl (fun _ => 0)))]) (w1 := [(q143, .inl (y144, 1, .inr (.inl (fun _ => 0))))]) hP hD [0, 1, 4] [2, 3] rfl rfl (by decide) (by decide) hk1 hFc hP1 hD1
    have hK := (hK.sub (tys' := [(y81, .boolean)]) [1] rfl).app hK1
    generalize H1 = H at hP hS ⊢
    have hP : va_P (dC, dI) vwCl [(q77, .inr (20, [.int 0, .ref q78, .int 0, .int 0, .ref q80, .ref q82, .ref q84, .ref q86, .ref q88, .ref q90, .ref q91, .ref q93, .ref q94, .ref q105, .ref q106, .ref q124, .ref q131, .int 0, .int 0, .int 0, .int 0, .int 0, .int 0, .int 0, .int 0, .int 0, .ref q132, .ref q133, .ref q134, .ref q135, .ref q136, .ref q137, .ref q138, .ref q139, .ref q140, .int 0])), (q80, .inl (y81, 4, .inl (fun _ => 0))), (q143, .inl (y144, 1, .inr (.inl (fun _ => 0))))] H := hP
    have hD : va_D A [(q77, .inr (20, [.int 0, .ref q78, .int 0, .int 0, .ref q80, .ref q82, .ref q84, .ref q86, .ref q88, .ref q90, .ref q91, .ref q93, .ref q94, .ref q105, .ref q106, .ref q124, .ref q131, .int 0, .int 0, .int 0, .int 0, .int 0, .int 0, .int 0, .int 0, .int 0, .ref q132, .ref q133, .ref q134, .ref q135, .ref q136, .ref q137, .ref q138, .ref q139, .ref q140, .int 0])), (q80, .inl (y81, 4, .inl (fun _ => 0))), (q143, .inl (y144, 1, .inr (.inl (fun _ => 0))))] := hD
    have hK : va_K (dC, dI) vwCl [(y81, .boolean), (y144, .long)] s := hK
    refine W.widen (k := 456) (n := 2511905) (by decide +kernel) (by decide +kernel) ?_
    refine lv_istore (lv' := [(5, .int 2), (4, .int 0), (3, .ref q143), (2, .ref q77), (1, .ref q1), (0, .ref b)]) hx hb dL_law_566 hl (by decide) rfl (fun ls hl => ?_)
    refine lv_aload_n hx hb dL_law_568 rfl (lv_at hl 3 rfl) ?_
    refine lv_aload_n hx hb dL_law_569 rfl (lv_at hl 5 rfl) ?_
    refine lv_iload hx hb dL_law_570 (lv_at hl 1 rfl) ?_
    refine lv_iconst (v := 1) hx hb dL_law_572 (by decide) ?_
    refine lv_iadd hx hb dL_law_573 ?_
    refine lv_topi (fun z506 ez506 => ?_)
    obtain rfl : z506 = 1 := ez506.trans (by decide)
    refine va_sld (i := 1) hx hb hX hbl hbA hS (vp_in_iff.mpr ⟨by decide, by decide⟩) dL_law_574 ?_
    rw [es1]
    have hPc := hP.sub (ws' := [(q77, .inr (20, [.int 0, .ref q78, .int 0, .int 0, .ref q80, .ref q82, .ref q84, .ref q86, .ref q88, .ref q90, .ref q91, .ref q93, .ref q94, .ref q105, .ref q106, .ref q124, .ref q131, .int 0, .int 0, .int 0, .int 0, .int 0, .int 0, .int 0, .int 0, .int 0, .ref q132, .ref q133, .ref q134, .ref q135, .ref q136, .ref q137, .ref q138, .ref q139, .ref q140, .int 0])), (q80, .inl (y81, 4, .inl (fun _ => 0)))]) [0, 1] rfl
    have hDc := hD.sub (ws' := [(q77, .inr (20, [.int 0, .ref q78, .int 0, .int 0, .ref q80, .ref q82, .ref q84, .ref q86, .ref q88, .ref q90, .ref q91, .ref q93, .ref q94, .ref q105, .ref q106, .ref q124, .ref q131, .int 0, .int 0, .int 0, .int 0, .int 0, .int 0, .int 0, .int 0, .int 0, .ref q132, .ref q133, .ref q134, .ref q135, .ref q136, .ref q137, .ref q138, .ref q139, .ref q140, .int 0])), (q80, .inl (y81, 4, .inl (fun _ => 0)))]) [0, 1] (by decide) rfl
    have hKc := hK.sub (tys' := [(y81, .boolean)]) [0] rfl
    have hFc := va_free (wc := [(q77, .inr (20, [.int 0, .ref q78, .int 0, .int 0, .ref q80, .ref q82, .ref q84, .ref q86, .ref q88, .ref q90, .ref q91, .ref q93, .ref q94, .ref q105, .ref q106, .ref q124, .ref q131, .int 0, .int 0, .int 0, .int 0, .int 0, .int 0, .int 0, .int 0, .int 0, .ref q132, .ref q133, .ref q134, .ref q135, .ref q136, .ref q137, .ref q138, .ref q139, .ref q140, .int 0])), (q80, .inl (y81, 4, .inl (fun _ => 0)))]) hD hS hA [0, 1] rfl
    refine va_calli (va_runV (As := [.int x1]) (rest := []) ⟨hx, hb, hml, hown, hts⟩ (k_X19_replay l hlt dC dI q77 q80 y81 x1 q78 q82 q84 q86 q88 q90 q91 q93 q94 q105 q106 q124 q131 q132 q133 q134 q135 q136 q137 q138 q139 q140  H.size) (cwV 1 hts gl_24 rfl rfl rfl (by decide +kernel) ⟨Nat.le_of_ble_eq_true rfl, Nat.le_of_ble_eq_true rfl⟩) ⟨fun a U g mk q => by obtain ⟨q0, q1, qP, qK, qD, qN⟩ := q; exact ⟨q0, q1, qP, va_K.moved (u := U) (U := U.calling g mk a) (Vm.Alike.refl U.vm) qK, qD, nv_same rfl rfl qN⟩, va_recv hKc hPc (ci := 20) (q0 := 0) rfl rfl, fun U hU hW => ⟨rfl, by rw [hU], by rw [hU]; exact hPc, va_K.moved hW.alike hKc, hDc.weaken (fun _ _ _ _ => trivial), nv_call hS hFc hU hW hN⟩⟩ rfl rfl hl.1 rfl (lv_room (Nat.le_of_ble_eq_true rfl)) dL_law_575 ⟨by decide +kernel, by decide +kernel⟩) hS (fun q _ h => hFc q h) hFc (fun r507 u t H1 locs ht hvm hw hB hz1 hk1 hS => ?_)
    rcases hw with ⟨c_3_0, c_3_1, h9, h8⟩ | ⟨c_3_0, c_3_1, c_3_2, c_3_3, h9, h8⟩ | ⟨c_3_0, c_3_1, c_3_2, c_3_3, h9, h8⟩ | h9
    · exact absurd c_3_0 c_1_0
    · exact (cz_1 x1 c_1_0 c_1_1 c_3_1).elim
    · subst h9
      subst h8
      obtain ⟨hP1, hK1, hD1⟩ := hB
      rw [ht] at hP1
      have hK1 := va_K.moved hvm.symm hK1
      obtain ⟨hP, hD⟩ := va_join (wr := [(q143, .inl (y144, 1, .inr (.inl (fun _ => 0))))]) (w1 := [(q77, .inr (20, [.int 2, .ref q78, .int 0, .int 0, .ref q80, .ref q82, .ref q84, .ref q86, .ref q88, .ref q90, .ref q91, .ref q93, .ref q94, .ref q105, .ref q106, .ref q124, .ref q131, .int 0, .int 0, .int 0, .int 0, .int 0, .int 0, .int 0, .int 0, .int 0, .ref q132, .ref q133, .ref q134, .ref q135, .ref q136, .ref q137, .ref q138, .ref q139, .ref q140, .int 0]))]) hP hD [0, 1] [2] rfl rfl (by decide) (by decide) hk1 hFc hP1 hD1
      have hK := (hK.sub (tys' := [(y144, .long)]) [1] rfl).app hK1
      generalize H1 = H at hP hS ⊢
      have hP : va_P (dC, dI) vwCl [(q143, .inl (y144, 1, .inr (.inl (fun _ => 0)))), (q77, .inr (20, [.int 2, .ref q78, .int 0, .int 0, .ref q80, .ref q82, .ref q84, .ref q86, .ref q88, .ref q90, .ref q91, .ref q93, .ref q94, .ref q105, .ref q106, .ref q124, .ref q131, .int 0, .int 0, .int 0, .int 0, .int 0, .int 0, .int 0, .int 0, .int 0, .ref q132, .ref q133, .ref q134, .ref q135, .ref q136, .ref q137, .ref q138, .ref q139, .ref q140, .int 0]))] H := hP
      have hD : va_D A [(q143, .inl (y144, 1, .inr (.inl (fun _ => 0)))), (q77, .inr (20, [.int 2, .ref q78, .int 0, .int 0, .ref q80, .ref q82, .ref q84, .ref q86, .ref q88, .ref q90, .ref q91, .ref q93, .ref q94, .ref q105, .ref q106, .ref q124, .ref q131, .int 0, .int 0, .int 0, .int 0, .int 0, .int 0, .int 0, .int 0, .int 0, .ref q132, .ref q133, .ref q134, .ref q135, .ref q136, .ref q137, .ref q138, .ref q139, .ref q140, .int 0]))] := hD
      have hK : va_K (dC, dI) vwCl [(y144, .long)] s := hK
      refine W.widen (k := 456) (n := 2511905) (by decide +kernel) (by decide +kernel) ?_
      refine lv_istore (lv' := [(6, .int 0), (5, .int 2), (4, .int 0), (3, .ref q143), (2, .ref q77), (1, .ref q1), (0, .ref b)]) hx hb dL_law_578 hl (by decide) rfl (fun ls hl => ?_)
      refine lv_aload_n hx hb dL_law_580 rfl (lv_at hl 4 rfl) ?_
      have hPc := hP.sub (ws' := [(q77, .inr (20, [.int 2, .ref q78, .int 0, .int 0, .ref q80, .ref q82, .ref q84, .ref q86, .ref q88, .ref q90, .ref q91, .ref q93, .ref q94, .ref q105, .ref q106, .ref q124, .ref q131, .int 0, .int 0, .int 0, .int 0, .int 0, .int 0, .int 0, .int 0, .int 0, .ref q132, .ref q133, .ref q134, .ref q135, .ref q136, .ref q137, .ref q138, .ref q139, .ref q140, .int 0]))]) [1] rfl
      have hDc := hD.sub (ws' := [(q77, .inr (20, [.int 2, .ref q78, .int 0, .int 0, .ref q80, .ref q82, .ref q84, .ref q86, .ref q88, .ref q90, .ref q91, .ref q93, .ref q94, .ref q105, .ref q106, .ref q124, .ref q131, .int 0, .int 0, .int 0, .int 0, .int 0, .int 0, .int 0, .int 0, .int 0, .ref q132, .ref q133, .ref q134, .ref q135, .ref q136, .ref q137, .ref q138, .ref q139, .ref q140, .int 0]))]) [1] (by decide) rfl
      have hKc := hK.sub (tys' := []) [] rfl
      have hFc := va_free (wc := [(q77, .inr (20, [.int 2, .ref q78, .int 0, .int 0, .ref q80, .ref q82, .ref q84, .ref q86, .ref q88, .ref q90, .ref q91, .ref q93, .ref q94, .ref q105, .ref q106, .ref q124, .ref q131, .int 0, .int 0, .int 0, .int 0, .int 0, .int 0, .int 0, .int 0, .int 0, .ref q132, .ref q133, .ref q134, .ref q135, .ref q136, .ref q137, .ref q138, .ref q139, .ref q140, .int 0]))]) hD hS hA [1] rfl
      refine va_calli (va_runV (As := []) (rest := []) ⟨hx, hb, hml, hown, hts⟩ (k_X19_thrown_v2 l hlt dC dI q77 q78 q80 q82 q84 q86 q88 q90 q91 q93 q94 q105 q106 q124 q131 q132 q133 q134 q135 q136 q137 q138 q139 q140  H.size) (cwV 0 hts gl_22 rfl rfl rfl (by decide +kernel) ⟨Nat.le_of_ble_eq_true rfl, Nat.le_of_ble_eq_true rfl⟩) ⟨fun a U g mk q => by obtain ⟨q0, q1, qP, qK, qD, qN⟩ := q; exact ⟨q0, q1, qP, va_K.moved (u := U) (U := U.calling g mk a) (Vm.Alike.refl U.vm) qK, qD, nv_same rfl rfl qN⟩, va_recv hKc hPc (ci := 20) (q0 := 0) rfl rfl, fun U hU hW => ⟨rfl, by rw [hU], by rw [hU]; exact hPc, va_K.moved hW.alike hKc, hDc.weaken (fun _ _ _ _ => trivial), nv_call hS hFc hU hW hN⟩⟩ rfl rfl hl.1 rfl (lv_room (Nat.le_of_ble_eq_true rfl)) dL_law_581 ⟨by decide +kernel, by decide +kernel⟩) hS (fun q _ h => hFc q h) hFc (fun r508 u t H1 locs ht hvm hw hB hz1 hk1 hS => ?_)
      obtain ⟨hP1, hK1, hD1⟩ := hB
      rw [ht] at hP1
      have hK1 := va_K.moved hvm.symm hK1
      obtain rfl : r508 = 2 := hw
      obtain ⟨hP, hD⟩ := va_join (wr := [(q143, .inl (y144, 1, .inr (.inl (fun _ => 0))))]) (w1 := [(q77, .inr (20, [.int 2, .ref q78, .int 0, .int 0, .ref q80, .ref q82, .ref q84, .ref q86, .ref q88, .ref q90, .ref q91, .ref q93, .ref q94, .ref q105, .ref q106, .ref q124, .ref q131, .int 0, .int 0, .int 0, .int 0, .int 0, .int 0, .int 0, .int 0, .int 0, .ref q132, .ref q133, .ref q134, .ref q135, .ref q136, .ref q137, .ref q138, .ref q139, .ref q140, .int 0]))]) hP hD [1] [0] rfl rfl (by decide) (by decide) hk1 hFc hP1 hD1
      have hK := (hK.sub (tys' := [(y144, .long)]) [0] rfl).app hK1
      generalize H1 = H at hP hS ⊢
      have hP : va_P (dC, dI) vwCl [(q143, .inl (y144, 1, .inr (.inl (fun _ => 0)))), (q77, .inr (20, [.int 2, .ref q78, .int 0, .int 0, .ref q80, .ref q82, .ref q84, .ref q86, .ref q88, .ref q90, .ref q91, .ref q93, .ref q94, .ref q105, .ref q106, .ref q124, .ref q131, .int 0, .int 0, .int 0, .int 0, .int 0, .int 0, .int 0, .int 0, .int 0, .ref q132, .ref q133, .ref q134, .ref q135, .ref q136, .ref q137, .ref q138, .ref q139, .ref q140, .int 0]))] H := hP
      have hD : va_D A [(q143, .inl (y144, 1, .inr (.inl (fun _ => 0)))), (q77, .inr (20, [.int 2, .ref q78, .int 0, .int 0, .ref q80, .ref q82, .ref q84, .ref q86, .ref q88, .ref q90, .ref q91, .ref q93, .ref q94, .ref q105, .ref q106, .ref q124, .ref q131, .int 0, .int 0, .int 0, .int 0, .int 0, .int 0, .int 0, .int 0, .int 0, .ref q132, .ref q133, .ref q134, .ref q135, .ref q136, .ref q137, .ref q138, .ref q139, .ref q140, .int 0]))] := hD
      have hK : va_K (dC, dI) vwCl [(y144, .long)] s := hK
      refine W.widen (k := 456) (n := 2511905) (by decide +kernel) (by decide +kernel) ?_
      refine lv_iload hx hb dL_law_584 (lv_at hl 1 rfl) ?_
      refine lv_icmp_eq (tgt := 591) hx hb dL_law_586 (by decide) (fun _ => ?_) (fun h9 => absurd (by decide) h9)
      refine lv_iload hx hb dL_law_591 (lv_at hl 1 rfl) ?_
      refine lv_if_ne (tgt := 608) hx hb dL_law_593 (by decide) (fun _ => ?_) (fun h9 => absurd h9 (by decide))
      refine lv_goto (tgt := 1493) hx hb dL_law_608 (by decide) ?_
      refine lv_iinc (v := 6) (lv' := [(4, .int 6), (6, .int 0), (5, .int 2), (3, .ref q143), (2, .ref q77), (1, .ref q1), (0, .ref b)]) hx hb dL_law_1493 hl (k := 2) rfl (by decide) (by decide) rfl (fun ls hl => ?_)
      refine lv_goto (tgt := 23) hx hb dL_law_1496 (by decide) ?_
      refine W.widen (k := 600002) (n := 7302232) (by decide +kernel) (by decide +kernel) ?_
      exact kkE _ _ _ hS (lv_sub hl [0, 6] rfl)
    · exact h9.elim
  · subst h9
    subst h8
    obtain ⟨hP1, hK1, hD1⟩ := hB
    rw [ht] at hP1
    have hK1 := va_K.moved hvm.symm hK1
    obtain ⟨hP, hD⟩ := va_join (wr := [(q77, .inr (20, [.int 0, .ref q78, .int 0, .int 0, .ref q80, .ref q82, .ref q84, .ref q86, .ref q88, .ref q90, .ref q91, .ref q93, .ref q94, .ref q105, .ref q106, .ref q124, .ref q131, .int 0, .int 0, .int 0, .int 0, .int 0, .int 0, .int 0, .int 0, .int 0, .ref q132, .ref q133, .ref q134, .ref q135, .ref q136, .ref q137, .ref q138, .ref q139, .ref q140, .int 0])), (q80, .inl (y81, 4, .inl (fun _ => 0)))]) (w1 := [(q143, .inl (y144, 1, .inr (.inl (fun _ => 0))))]) hP hD [0, 1, 4] [2, 3] rfl rfl (by decide) (by decide) hk1 hFc hP1 hD1
    have hK := (hK.sub (tys' := [(y81, .boolean)]) [1] rfl).app hK1
    generalize H1 = H at hP hS ⊢
    have hP : va_P (dC, dI) vwCl [(q77, .inr (20, [.int 0, .ref q78, .int 0, .int 0, .ref q80, .ref q82, .ref q84, .ref q86, .ref q88, .ref q90, .ref q91, .ref q93, .ref q94, .ref q105, .ref q106, .ref q124, .ref q131, .int 0, .int 0, .int 0, .int 0, .int 0, .int 0, .int 0, .int 0, .int 0, .ref q132, .ref q133, .ref q134, .ref q135, .ref q136, .ref q137, .ref q138, .ref q139, .ref q140, .int 0])), (q80, .inl (y81, 4, .inl (fun _ => 0))), (q143, .inl (y144, 1, .inr (.inl (fun _ => 0))))] H := hP
    have hD : va_D A [(q77, .inr (20, [.int 0, .ref q78, .int 0, .int 0, .ref q80, .ref q82, .ref q84, .ref q86, .ref q88, .ref q90, .ref q91, .ref q93, .ref q94, .ref q105, .ref q106, .ref q124, .ref q131, .int 0, .int 0, .int 0, .int 0, .int 0, .int 0, .int 0, .int 0, .int 0, .ref q132, .ref q133, .ref q134, .ref q135, .ref q136, .ref q137, .ref q138, .ref q139, .ref q140, .int 0])), (q80, .inl (y81, 4, .inl (fun _ => 0))), (q143, .inl (y144, 1, .inr (.inl (fun _ => 0))))] := hD
    have hK : va_K (dC, dI) vwCl [(y81, .boolean), (y144, .long)] s := hK
    refine W.widen (k := 456) (n := 2511905) (by decide +kernel) (by decide +kernel) ?_
    refine lv_istore (lv' := [(5, .int 1), (4, .int 0), (3, .ref q143), (2, .ref q77), (1, .ref q1), (0, .ref b)]) hx hb dL_law_566 hl (by decide) rfl (fun ls hl => ?_)
    refine lv_aload_n hx hb dL_law_568 rfl (lv_at hl 3 rfl) ?_
    refine lv_aload_n hx hb dL_law_569 rfl (lv_at hl 5 rfl) ?_
    refine lv_iload hx hb dL_law_570 (lv_at hl 1 rfl) ?_
    refine lv_iconst (v := 1) hx hb dL_law_572 (by decide) ?_
    refine lv_iadd hx hb dL_law_573 ?_
    refine lv_topi (fun z509 ez509 => ?_)
    obtain rfl : z509 = 1 := ez509.trans (by decide)
    refine va_sld (i := 1) hx hb hX hbl hbA hS (vp_in_iff.mpr ⟨by decide, by decide⟩) dL_law_574 ?_
    rw [es1]
    have hPc := hP.sub (ws' := [(q77, .inr (20, [.int 0, .ref q78, .int 0, .int 0, .ref q80, .ref q82, .ref q84, .ref q86, .ref q88, .ref q90, .ref q91, .ref q93, .ref q94, .ref q105, .ref q106, .ref q124, .ref q131, .int 0, .int 0, .int 0, .int 0, .int 0, .int 0, .int 0, .int 0, .int 0, .ref q132, .ref q133, .ref q134, .ref q135, .ref q136, .ref q137, .ref q138, .ref q139, .ref q140, .int 0])), (q80, .inl (y81, 4, .inl (fun _ => 0)))]) [0, 1] rfl
    have hDc := hD.sub (ws' := [(q77, .inr (20, [.int 0, .ref q78, .int 0, .int 0, .ref q80, .ref q82, .ref q84, .ref q86, .ref q88, .ref q90, .ref q91, .ref q93, .ref q94, .ref q105, .ref q106, .ref q124, .ref q131, .int 0, .int 0, .int 0, .int 0, .int 0, .int 0, .int 0, .int 0, .int 0, .ref q132, .ref q133, .ref q134, .ref q135, .ref q136, .ref q137, .ref q138, .ref q139, .ref q140, .int 0])), (q80, .inl (y81, 4, .inl (fun _ => 0)))]) [0, 1] (by decide) rfl
    have hKc := hK.sub (tys' := [(y81, .boolean)]) [0] rfl
    have hFc := va_free (wc := [(q77, .inr (20, [.int 0, .ref q78, .int 0, .int 0, .ref q80, .ref q82, .ref q84, .ref q86, .ref q88, .ref q90, .ref q91, .ref q93, .ref q94, .ref q105, .ref q106, .ref q124, .ref q131, .int 0, .int 0, .int 0, .int 0, .int 0, .int 0, .int 0, .int 0, .int 0, .ref q132, .ref q133, .ref q134, .ref q135, .ref q136, .ref q137, .ref q138, .ref q139, .ref q140, .int 0])), (q80, .inl (y81, 4, .inl (fun _ => 0)))]) hD hS hA [0, 1] rfl
    refine va_calli (va_runV (As := [.int x1]) (rest := []) ⟨hx, hb, hml, hown, hts⟩ (k_X19_replay l hlt dC dI q77 q80 y81 x1 q78 q82 q84 q86 q88 q90 q91 q93 q94 q105 q106 q124 q131 q132 q133 q134 q135 q136 q137 q138 q139 q140  H.size) (cwV 1 hts gl_24 rfl rfl rfl (by decide +kernel) ⟨Nat.le_of_ble_eq_true rfl, Nat.le_of_ble_eq_true rfl⟩) ⟨fun a U g mk q => by obtain ⟨q0, q1, qP, qK, qD, qN⟩ := q; exact ⟨q0, q1, qP, va_K.moved (u := U) (U := U.calling g mk a) (Vm.Alike.refl U.vm) qK, qD, nv_same rfl rfl qN⟩, va_recv hKc hPc (ci := 20) (q0 := 0) rfl rfl, fun U hU hW => ⟨rfl, by rw [hU], by rw [hU]; exact hPc, va_K.moved hW.alike hKc, hDc.weaken (fun _ _ _ _ => trivial), nv_call hS hFc hU hW hN⟩⟩ rfl rfl hl.1 rfl (lv_room (Nat.le_of_ble_eq_true rfl)) dL_law_575 ⟨by decide +kernel, by decide +kernel⟩) hS (fun q _ h => hFc q h) hFc (fun r510 u t H1 locs ht hvm hw hB hz1 hk1 hS => ?_)
    rcases hw with ⟨c_4_0, c_4_1, h9, h8⟩ | ⟨c_4_0, c_4_1, c_4_2, c_4_3, h9, h8⟩ | ⟨c_4_0, c_4_1, c_4_2, c_4_3, h9, h8⟩ | h9
    · exact absurd c_4_0 c_1_0
    · subst h9
      subst h8
      obtain ⟨hP1, hK1, hD1⟩ := hB
      rw [ht] at hP1
      have hK1 := va_K.moved hvm.symm hK1
      obtain ⟨hP, hD⟩ := va_join (wr := [(q143, .inl (y144, 1, .inr (.inl (fun _ => 0))))]) (w1 := [(q77, .inr (20, [.int 1, .ref q78, .int 0, .int 0, .ref q80, .ref q82, .ref q84, .ref q86, .ref q88, .ref q90, .ref q91, .ref q93, .ref q94, .ref q105, .ref q106, .ref q124, .ref q131, .int 0, .int 0, .int 0, .int 0, .int 0, .int 0, .int 0, .int 0, .int 0, .ref q132, .ref q133, .ref q134, .ref q135, .ref q136, .ref q137, .ref q138, .ref q139, .ref q140, .int 0]))]) hP hD [0, 1] [2] rfl rfl (by decide) (by decide) hk1 hFc hP1 hD1
      have hK := (hK.sub (tys' := [(y144, .long)]) [1] rfl).app hK1
      generalize H1 = H at hP hS ⊢
      have hP : va_P (dC, dI) vwCl [(q143, .inl (y144, 1, .inr (.inl (fun _ => 0)))), (q77, .inr (20, [.int 1, .ref q78, .int 0, .int 0, .ref q80, .ref q82, .ref q84, .ref q86, .ref q88, .ref q90, .ref q91, .ref q93, .ref q94, .ref q105, .ref q106, .ref q124, .ref q131, .int 0, .int 0, .int 0, .int 0, .int 0, .int 0, .int 0, .int 0, .int 0, .ref q132, .ref q133, .ref q134, .ref q135, .ref q136, .ref q137, .ref q138, .ref q139, .ref q140, .int 0]))] H := hP
      have hD : va_D A [(q143, .inl (y144, 1, .inr (.inl (fun _ => 0)))), (q77, .inr (20, [.int 1, .ref q78, .int 0, .int 0, .ref q80, .ref q82, .ref q84, .ref q86, .ref q88, .ref q90, .ref q91, .ref q93, .ref q94, .ref q105, .ref q106, .ref q124, .ref q131, .int 0, .int 0, .int 0, .int 0, .int 0, .int 0, .int 0, .int 0, .int 0, .ref q132, .ref q133, .ref q134, .ref q135, .ref q136, .ref q137, .ref q138, .ref q139, .ref q140, .int 0]))] := hD
      have hK : va_K (dC, dI) vwCl [(y144, .long)] s := hK
      refine W.widen (k := 456) (n := 2511905) (by decide +kernel) (by decide +kernel) ?_
      refine lv_istore (lv' := [(6, .int 0), (5, .int 1), (4, .int 0), (3, .ref q143), (2, .ref q77), (1, .ref q1), (0, .ref b)]) hx hb dL_law_578 hl (by decide) rfl (fun ls hl => ?_)
      refine lv_aload_n hx hb dL_law_580 rfl (lv_at hl 4 rfl) ?_
      have hPc := hP.sub (ws' := [(q77, .inr (20, [.int 1, .ref q78, .int 0, .int 0, .ref q80, .ref q82, .ref q84, .ref q86, .ref q88, .ref q90, .ref q91, .ref q93, .ref q94, .ref q105, .ref q106, .ref q124, .ref q131, .int 0, .int 0, .int 0, .int 0, .int 0, .int 0, .int 0, .int 0, .int 0, .ref q132, .ref q133, .ref q134, .ref q135, .ref q136, .ref q137, .ref q138, .ref q139, .ref q140, .int 0]))]) [1] rfl
      have hDc := hD.sub (ws' := [(q77, .inr (20, [.int 1, .ref q78, .int 0, .int 0, .ref q80, .ref q82, .ref q84, .ref q86, .ref q88, .ref q90, .ref q91, .ref q93, .ref q94, .ref q105, .ref q106, .ref q124, .ref q131, .int 0, .int 0, .int 0, .int 0, .int 0, .int 0, .int 0, .int 0, .int 0, .ref q132, .ref q133, .ref q134, .ref q135, .ref q136, .ref q137, .ref q138, .ref q139, .ref q140, .int 0]))]) [1] (by decide) rfl
      have hKc := hK.sub (tys' := []) [] rfl
      have hFc := va_free (wc := [(q77, .inr (20, [.int 1, .ref q78, .int 0, .int 0, .ref q80, .ref q82, .ref q84, .ref q86, .ref q88, .ref q90, .ref q91, .ref q93, .ref q94, .ref q105, .ref q106, .ref q124, .ref q131, .int 0, .int 0, .int 0, .int 0, .int 0, .int 0, .int 0, .int 0, .int 0, .ref q132, .ref q133, .ref q134, .ref q135, .ref q136, .ref q137, .ref q138, .ref q139, .ref q140, .int 0]))]) hD hS hA [1] rfl
      refine va_calli (va_runV (As := []) (rest := []) ⟨hx, hb, hml, hown, hts⟩ (k_X19_thrown l hlt dC dI q77 q78 q80 q82 q84 q86 q88 q90 q91 q93 q94 q105 q106 q124 q131 q132 q133 q134 q135 q136 q137 q138 q139 q140  H.size) (cwV 0 hts gl_8 rfl rfl rfl (by decide +kernel) ⟨Nat.le_of_ble_eq_true rfl, Nat.le_of_ble_eq_true rfl⟩) ⟨fun a U g mk q => by obtain ⟨q0, q1, qP, qK, qD, qN⟩ := q; exact ⟨q0, q1, qP, va_K.moved (u := U) (U := U.calling g mk a) (Vm.Alike.refl U.vm) qK, qD, nv_same rfl rfl qN⟩, va_recv hKc hPc (ci := 20) (q0 := 0) rfl rfl, fun U hU hW => ⟨rfl, by rw [hU], by rw [hU]; exact hPc, va_K.moved hW.alike hKc, hDc.weaken (fun _ _ _ _ => trivial), nv_call hS hFc hU hW hN⟩⟩ rfl rfl hl.1 rfl (lv_room (Nat.le_of_ble_eq_true rfl)) dL_law_581 ⟨by decide +kernel, by decide +kernel⟩) hS (fun q _ h => hFc q h) hFc (fun r511 u t H1 locs ht hvm hw hB hz1 hk1 hS => ?_)
      obtain ⟨hP1, hK1, hD1⟩ := hB
      rw [ht] at hP1
      have hK1 := va_K.moved hvm.symm hK1
      obtain rfl : r511 = 1 := hw
      obtain ⟨hP, hD⟩ := va_join (wr := [(q143, .inl (y144, 1, .inr (.inl (fun _ => 0))))]) (w1 := [(q77, .inr (20, [.int 1, .ref q78, .int 0, .int 0, .ref q80, .ref q82, .ref q84, .ref q86, .ref q88, .ref q90, .ref q91, .ref q93, .ref q94, .ref q105, .ref q106, .ref q124, .ref q131, .int 0, .int 0, .int 0, .int 0, .int 0, .int 0, .int 0, .int 0, .int 0, .ref q132, .ref q133, .ref q134, .ref q135, .ref q136, .ref q137, .ref q138, .ref q139, .ref q140, .int 0]))]) hP hD [1] [0] rfl rfl (by decide) (by decide) hk1 hFc hP1 hD1
      have hK := (hK.sub (tys' := [(y144, .long)]) [0] rfl).app hK1
      generalize H1 = H at hP hS ⊢
      have hP : va_P (dC, dI) vwCl [(q143, .inl (y144, 1, .inr (.inl (fun _ => 0)))), (q77, .inr (20, [.int 1, .ref q78, .int 0, .int 0, .ref q80, .ref q82, .ref q84, .ref q86, .ref q88, .ref q90, .ref q91, .ref q93, .ref q94, .ref q105, .ref q106, .ref q124, .ref q131, .int 0, .int 0, .int 0, .int 0, .int 0, .int 0, .int 0, .int 0, .int 0, .ref q132, .ref q133, .ref q134, .ref q135, .ref q136, .ref q137, .ref q138, .ref q139, .ref q140, .int 0]))] H := hP
      have hD : va_D A [(q143, .inl (y144, 1, .inr (.inl (fun _ => 0)))), (q77, .inr (20, [.int 1, .ref q78, .int 0, .int 0, .ref q80, .ref q82, .ref q84, .ref q86, .ref q88, .ref q90, .ref q91, .ref q93, .ref q94, .ref q105, .ref q106, .ref q124, .ref q131, .int 0, .int 0, .int 0, .int 0, .int 0, .int 0, .int 0, .int 0, .int 0, .ref q132, .ref q133, .ref q134, .ref q135, .ref q136, .ref q137, .ref q138, .ref q139, .ref q140, .int 0]))] := hD
      have hK : va_K (dC, dI) vwCl [(y144, .long)] s := hK
      refine W.widen (k := 456) (n := 2511905) (by decide +kernel) (by decide +kernel) ?_
      refine lv_iload hx hb dL_law_584 (lv_at hl 1 rfl) ?_
      refine lv_icmp_eq (tgt := 591) hx hb dL_law_586 (by decide) (fun _ => ?_) (fun h9 => absurd (by decide) h9)
      refine lv_iload hx hb dL_law_591 (lv_at hl 1 rfl) ?_
      refine lv_if_ne (tgt := 608) hx hb dL_law_593 (by decide) (fun _ => ?_) (fun h9 => absurd h9 (by decide))
      refine lv_goto (tgt := 1493) hx hb dL_law_608 (by decide) ?_
      refine lv_iinc (v := 6) (lv' := [(4, .int 6), (6, .int 0), (5, .int 1), (3, .ref q143), (2, .ref q77), (1, .ref q1), (0, .ref b)]) hx hb dL_law_1493 hl (k := 2) rfl (by decide) (by decide) rfl (fun ls hl => ?_)
      refine lv_goto (tgt := 23) hx hb dL_law_1496 (by decide) ?_
      refine W.widen (k := 600002) (n := 7302232) (by decide +kernel) (by decide +kernel) ?_
      exact kkE _ _ _ hS (lv_sub hl [0, 6] rfl)
    · exact (cz_0 x1 c_1_0 c_1_1 c_4_1).elim
    · exact h9.elim
  · exact h9.elim
