set_option maxHeartbeats 40000000 in
set_option maxRecDepth 100000 in
theorem law_c27 {p : Program} {l : Launch} {e : Env} {s : State} {m : MethodId} {below : List Frame} {meth : Method} {c : Code} {Q : State → Prop} {A : Nat → Prop} {b : Nat} (hlt : l.stackTraces = false) (hx : p.tables.exec = Jvm.exec) (hb : c.code = code) (hml : c.maxLocals = 8) (hown : s.vm.findClass RL = some m.cls) (hts : ∀ w ∈ lw_tbl, w.before #[Value.ref b] s = true) (hN : nv_E A s) (hA : ∀ q : Nat, s.heap.size ≤ q → A q) (hDe : nv_Dc s) (dC : Nat → ClassId) (dI : Nat → Nat → Nat) (q1 : Nat) (q2 : Nat) (q4 : Nat) (q6 : Nat) (q8 : Nat) (q22 : Nat) (q23 : Nat) (q25 : Nat) (q31 : Nat) (q32 : Nat) (q33 : Nat) (q34 : Nat) (q35 : Nat) (q36 : Nat) (q37 : Nat) (y38 : ClassId) (q39 : Nat) (q41 : Nat) (q43 : Nat) (q77 : Nat) (q78 : Nat) (q80 : Nat) (q82 : Nat) (q84 : Nat) (q86 : Nat) (q88 : Nat) (q90 : Nat) (q91 : Nat) (q93 : Nat) (q94 : Nat) (q105 : Nat) (q106 : Nat) (q107 : Nat) (q108 : Nat) (y109 : ClassId) (q110 : Nat) (q111 : Nat) (q112 : Nat) (q113 : Nat) (q114 : Nat) (q115 : Nat) (q116 : Nat) (q117 : Nat) (q118 : Nat) (q119 : Nat) (q120 : Nat) (q121 : Nat) (q122 : Nat) (q123 : Nat) (q124 : Nat) (q131 : Nat) (q132 : Nat) (q133 : Nat) (q134 : Nat) (q135 : Nat) (q136 : Nat) (q137 : Nat) (q138 : Nat) (q139 : Nat) (q140 : Nat) (q143 : Nat) {xs : Nat → Int32} (hX : va_X b 6 xs s s.heap) (hbl : b < s.heap.size) (hbA : ¬ A b) (x0 : Int32) (es0 : xs (Int32.toNatClampNeg 0) = x0) (x1 : Int32) (es1 : xs (Int32.toNatClampNeg 1) = x1) (x2 : Int32) (es2 : xs (Int32.toNatClampNeg 2) = x2) (x3 : Int32) (es3 : xs (Int32.toNatClampNeg 3) = x3) (x4 : Int32) (es4 : xs (Int32.toNatClampNeg 4) = x4) (x5 : Int32) (es5 : xs (Int32.toNatClampNeg 5) = x5) {H : Heap} {locs : List Loc} {ls : Array Slot} (hK : va_K (dC, dI) vwCl [(y38, .object RX2), (y109, .boolean)] s) (hP : va_P (dC, dI) vwCl [(q1, .inr (13, [.ref q2, .int 0, .int 0, .ref q4, .ref q6, .ref q8, .ref q22, .ref q37, .ref q39, .ref q41, .int 0, .ref q43])), (q22, .inr (12, [.ref q23, .ref q25, .ref q31, .ref q32, .ref q33, .ref q34, .int 0, .ref q35, .ref q36, .int 0, .int 0, .int 0, .int 0, .int 0, .int 0, .int 0])), (q37, .inl (y38, 8, .inr (.inr (.inr (.inr (fun _ => none)))))), (q77, .inr (20, [.int 0, .ref q78, .int 0, .int 0, .ref q80, .ref q82, .ref q84, .ref q86, .ref q88, .ref q90, .ref q91, .ref q93, .ref q94, .ref q105, .ref q106, .ref q124, .ref q131, .int 0, .int 0, .int 0, .int 0, .int 0, .int 0, .int 0, .int 0, .int 0, .ref q132, .ref q133, .ref q134, .ref q135, .ref q136, .ref q137, .ref q138, .ref q139, .ref q140, .int 0])), (q106, .inr (16, [.ref q105, .int 0, .ref q107, .ref q108, .ref q110, .ref q111, .ref q112, .ref q113, .ref q114, .int 0, .int 0, .int 0, .int 0, .int 0, .int 0, .long 0, .ref q115, .ref q116, .ref q117, .ref q118, .int 0, .int 0, .long 0, .ref q119, .ref q120, .ref q121, .ref q122, .ref q123])), (q108, .inl (y109, 8, .inl (fun _ => 0)))] H) (hD : va_D A [(q1, .inr (13, [.ref q2, .int 0, .int 0, .ref q4, .ref q6, .ref q8, .ref q22, .ref q37, .ref q39, .ref q41, .int 0, .ref q43])), (q22, .inr (12, [.ref q23, .ref q25, .ref q31, .ref q32, .ref q33, .ref q34, .int 0, .ref q35, .ref q36, .int 0, .int 0, .int 0, .int 0, .int 0, .int 0, .int 0])), (q37, .inl (y38, 8, .inr (.inr (.inr (.inr (fun _ => none)))))), (q77, .inr (20, [.int 0, .ref q78, .int 0, .int 0, .ref q80, .ref q82, .ref q84, .ref q86, .ref q88, .ref q90, .ref q91, .ref q93, .ref q94, .ref q105, .ref q106, .ref q124, .ref q131, .int 0, .int 0, .int 0, .int 0, .int 0, .int 0, .int 0, .int 0, .int 0, .ref q132, .ref q133, .ref q134, .ref q135, .ref q136, .ref q137, .ref q138, .ref q139, .ref q140, .int 0])), (q106, .inr (16, [.ref q105, .int 0, .ref q107, .ref q108, .ref q110, .ref q111, .ref q112, .ref q113, .ref q114, .int 0, .int 0, .int 0, .int 0, .int 0, .int 0, .long 0, .ref q115, .ref q116, .ref q117, .ref q118, .int 0, .int 0, .long 0, .ref q119, .ref q120, .ref q121, .ref q122, .ref q123])), (q108, .inl (y109, 8, .inl (fun _ => 0)))]) (hS : va_S A s.heap H locs) (hl : lv_has ls 8 [(4, .int 0), (3, .ref q143), (2, .ref q77), (1, .ref q1), (0, .ref b)]) (kkE : ∀ (H : Heap) (locs : List Loc) (ls : Array Slot), va_S A s.heap H locs → lv_has ls 8 [(4, .int 6), (0, .ref b)] → W p l e room_1 s m #[Value.ref b] below meth c H locs 600002 7302232 Q (F0 m 23 ls [])) : W p l e room_1 s m #[Value.ref b] below meth c H locs 455 2511899 Q (F0 m 1391 ls []) := by
  refine lv_aload_n hx hb dL_law_1391 rfl (lv_at hl 3 rfl) ?_
  refine lv_aload_n hx hb dL_law_1392 rfl (lv_at hl 4 rfl) ?_
  refine lv_iload hx hb dL_law_1393 (lv_at hl 0 rfl) ?_
  refine lv_iconst (v := 1) hx hb dL_law_1395 (by decide) ?_
  refine lv_iadd hx hb dL_law_1396 ?_
  refine lv_topi (fun z501 ez501 => ?_)
  obtain rfl : z501 = 1 := ez501.trans (by decide)
  refine va_sld (i := 1) hx hb hX hbl hbA hS (vp_in_iff.mpr ⟨by decide, by decide⟩) dL_law_1397 ?_
  rw [es1]
  have hPc := hP.sub (ws' := [(q1, .inr (13, [.ref q2, .int 0, .int 0, .ref q4, .ref q6, .ref q8, .ref q22, .ref q37, .ref q39, .ref q41, .int 0, .ref q43])), (q22, .inr (12, [.ref q23, .ref q25, .ref q31, .ref q32, .ref q33, .ref q34, .int 0, .ref q35, .ref q36, .int 0, .int 0, .int 0, .int 0, .int 0, .int 0, .int 0])), (q37, .inl (y38, 8, .inr (.inr (.inr (.inr (fun _ => none))))))]) [0, 1, 2] rfl
  have hDc := hD.sub (ws' := [(q1, .inr (13, [.ref q2, .int 0, .int 0, .ref q4, .ref q6, .ref q8, .ref q22, .ref q37, .ref q39, .ref q41, .int 0, .ref q43])), (q22, .inr (12, [.ref q23, .ref q25, .ref q31, .ref q32, .ref q33, .ref q34, .int 0, .ref q35, .ref q36, .int 0, .int 0, .int 0, .int 0, .int 0, .int 0, .int 0])), (q37, .inl (y38, 8, .inr (.inr (.inr (.inr (fun _ => none))))))]) [0, 1, 2] (by decide) rfl
  have hKc := hK.sub (tys' := [(y38, .object RX2)]) [0] rfl
  have hFc := va_free (wc := [(q1, .inr (13, [.ref q2, .int 0, .int 0, .ref q4, .ref q6, .ref q8, .ref q22, .ref q37, .ref q39, .ref q41, .int 0, .ref q43])), (q22, .inr (12, [.ref q23, .ref q25, .ref q31, .ref q32, .ref q33, .ref q34, .int 0, .ref q35, .ref q36, .int 0, .int 0, .int 0, .int 0, .int 0, .int 0, .int 0])), (q37, .inl (y38, 8, .inr (.inr (.inr (.inr (fun _ => none))))))]) hD hS hA [0, 1, 2] rfl
  refine va_calll (va_runV (As := [.int x1]) (rest := []) ⟨hx, hb, hml, hown, hts⟩ (k_X12_count l hlt dC dI q1 q22 q37 y38 x1 q2 q4 q6 q8 q39 q41 q43 q23 q25 q31 q32 q33 q34 q35 q36  H.size) (cwV 1 hts gl_59 rfl rfl rfl (by decide +kernel) ⟨Nat.le_of_ble_eq_true rfl, Nat.le_of_ble_eq_true rfl⟩) ⟨fun a U g mk q => by obtain ⟨q0, q1, qP, qK, qD, qN⟩ := q; exact ⟨q0, q1, qP, va_K.moved (u := U) (U := U.calling g mk a) (Vm.Alike.refl U.vm) qK, qD, nv_same rfl rfl qN⟩, va_recv hKc hPc (ci := 13) (q0 := 0) rfl rfl, fun U hU hW => ⟨rfl, by rw [hU], by rw [hU]; exact hPc, va_K.moved hW.alike hKc, hDc.weaken (fun _ _ _ _ => trivial), nv_call hS hFc hU hW hN⟩⟩ rfl rfl hl.1 rfl (lv_room (Nat.le_of_ble_eq_true rfl)) dL_law_1398 ⟨by decide +kernel, by decide +kernel⟩) hS (fun q _ h => hFc q h) hFc (fun r502 u t H1 locs ht hvm hw hB hz1 hk1 hS => ?_)
  rcases hw with ⟨c_1_0, c_1_1, c_1_2, h9⟩ | ⟨c_1_0, c_1_1, c_1_2, c_1_3, c_1_4, h9⟩ | ⟨c_1_0, c_1_1, c_1_2, c_1_3, c_1_4, h9⟩ | ⟨c_1_0, c_1_1, c_1_2, c_1_3, h9⟩ | ⟨c_1_0, c_1_1, h9⟩ | ⟨c_1_0, h9⟩ | h9
  · subst h9
    have hK1 := hK.sub (tys' := []) [] rfl
    obtain ⟨hP, hD⟩ := va_join (wr := [(q77, .inr (20, [.int 0, .ref q78, .int 0, .int 0, .ref q80, .ref q82, .ref q84, .ref q86, .ref q88, .ref q90, .ref q91, .ref q93, .ref q94, .ref q105, .ref q106, .ref q124, .ref q131, .int 0, .int 0, .int 0, .int 0, .int 0, .int 0, .int 0, .int 0, .int 0, .ref q132, .ref q133, .ref q134, .ref q135, .ref q136, .ref q137, .ref q138, .ref q139, .ref q140, .int 0])), (q106, .inr (16, [.ref q105, .int 0, .ref q107, .ref q108, .ref q110, .ref q111, .ref q112, .ref q113, .ref q114, .int 0, .int 0, .int 0, .int 0, .int 0, .int 0, .long 0, .ref q115, .ref q116, .ref q117, .ref q118, .int 0, .int 0, .long 0, .ref q119, .ref q120, .ref q121, .ref q122, .ref q123])), (q108, .inl (y109, 8, .inl (fun _ => 0)))]) (w1 := []) hP hD [0, 1, 2] [3, 4, 5] rfl rfl (by decide) (by decide) hk1 hFc nv_P0 nv_D0
    have hK := (hK.sub (tys' := [(y109, .boolean)]) [1] rfl).app hK1
    generalize H1 = H at hP hS ⊢
    have hP : va_P (dC, dI) vwCl [(q77, .inr (20, [.int 0, .ref q78, .int 0, .int 0, .ref q80, .ref q82, .ref q84, .ref q86, .ref q88, .ref q90, .ref q91, .ref q93, .ref q94, .ref q105, .ref q106, .ref q124, .ref q131, .int 0, .int 0, .int 0, .int 0, .int 0, .int 0, .int 0, .int 0, .int 0, .ref q132, .ref q133, .ref q134, .ref q135, .ref q136, .ref q137, .ref q138, .ref q139, .ref q140, .int 0])), (q106, .inr (16, [.ref q105, .int 0, .ref q107, .ref q108, .ref q110, .ref q111, .ref q112, .ref q113, .ref q114, .int 0, .int 0, .int 0, .int 0, .int 0, .int 0, .long 0, .ref q115, .ref q116, .ref q117, .ref q118, .int 0, .int 0, .long 0, .ref q119, .ref q120, .ref q121, .ref q122, .ref q123])), (q108, .inl (y109, 8, .inl (fun _ => 0)))] H := hP
    have hD : va_D A [(q77, .inr (20, [.int 0, .ref q78, .int 0, .int 0, .ref q80, .ref q82, .ref q84, .ref q86, .ref q88, .ref q90, .ref q91, .ref q93, .ref q94, .ref q105, .ref q106, .ref q124, .ref q131, .int 0, .int 0, .int 0, .int 0, .int 0, .int 0, .int 0, .int 0, .int 0, .ref q132, .ref q133, .ref q134, .ref q135, .ref q136, .ref q137, .ref q138, .ref q139, .ref q140, .int 0])), (q106, .inr (16, [.ref q105, .int 0, .ref q107, .ref q108, .ref q110, .ref q111, .ref q112, .ref q113, .ref q114, .int 0, .int 0, .int 0, .int 0, .int 0, .int 0, .long 0, .ref q115, .ref q116, .ref q117, .ref q118, .int 0, .int 0, .long 0, .ref q119, .ref q120, .ref q121, .ref q122, .ref q123])), (q108, .inl (y109, 8, .inl (fun _ => 0)))] := hD
    have hK : va_K (dC, dI) vwCl [(y109, .boolean)] s := hK
    refine W.widen (k := 455) (n := 2511899) (by decide +kernel) (by decide +kernel) ?_
    refine lv_aload_n hx hb dL_law_1401 rfl (lv_at hl 2 rfl) ?_
    refine lv_aload_n hx hb dL_law_1402 rfl (lv_at hl 4 rfl) ?_
    refine lv_iload hx hb dL_law_1403 (lv_at hl 0 rfl) ?_
    refine lv_iconst (v := 1) hx hb dL_law_1405 (by decide) ?_
    refine lv_iadd hx hb dL_law_1406 ?_
    refine lv_topi (fun z503 ez503 => ?_)
    obtain rfl : z503 = 1 := ez503.trans (by decide)
    refine va_sld (i := 1) hx hb hX hbl hbA hS (vp_in_iff.mpr ⟨by decide, by decide⟩) dL_law_1407 ?_
    rw [es1]
    have hPc := hP.sub (ws' := [(q77, .inr (20, [.int 0, .ref q78, .int 0, .int 0, .ref q80, .ref q82, .ref q84, .ref q86, .ref q88, .ref q90, .ref q91, .ref q93, .ref q94, .ref q105, .ref q106, .ref q124, .ref q131, .int 0, .int 0, .int 0, .int 0, .int 0, .int 0, .int 0, .int 0, .int 0, .ref q132, .ref q133, .ref q134, .ref q135, .ref q136, .ref q137, .ref q138, .ref q139, .ref q140, .int 0])), (q106, .inr (16, [.ref q105, .int 0, .ref q107, .ref q108, .ref q110, .ref q111, .ref q112, .ref q113, .ref q114, .int 0, .int 0, .int 0, .int 0, .int 0, .int 0, .long 0, .ref q115, .ref q116, .ref q117, .ref q118, .int 0, .int 0, .long 0, .ref q119, .ref q120, .ref q121, .ref q122, .ref q123])), (q108, .inl (y109, 8, .inl (fun _ => 0)))]) [0, 1, 2] rfl
    have hDc := hD.sub (ws' := [(q77, .inr (20, [.int 0, .ref q78, .int 0, .int 0, .ref q80, .ref q82, .ref q84, .ref q86, .ref q88, .ref q90, .ref q91, .ref q93, .ref q94, .ref q105, .ref q106, .ref q124, .ref q131, .int 0, .int 0, .int 0, .int 0, .int 0, .int 0, .int 0, .int 0, .int 0, .ref q132, .ref q133, .ref q134, .ref q135, .ref q136, .ref q137, .ref q138, .ref q139, .ref q140, .int 0])), (q106, .inr (16, [.ref q105, .int 0, .ref q107, .ref q108, .ref q110, .ref q111, .ref q112, .ref q113, .ref q114, .int 0, .int 0, .int 0, .int 0, .int 0, .int 0, .long 0, .ref q115, .ref q116, .ref q117, .ref q118, .int 0, .int 0, .long 0, .ref q119, .ref q120, .ref q121, .ref q122, .ref q123])), (q108, .inl (y109, 8, .inl (fun _ => 0)))]) [0, 1, 2] (by decide) rfl
    have hKc := hK.sub (tys' := [(y109, .boolean)]) [0] rfl
    have hFc := va_free (wc := [(q77, .inr (20, [.int 0, .ref q78, .int 0, .int 0, .ref q80, .ref q82, .ref q84, .ref q86, .ref q88, .ref q90, .ref q91, .ref q93, .ref q94, .ref q105, .ref q106, .ref q124, .ref q131, .int 0, .int 0, .int 0, .int 0, .int 0, .int 0, .int 0, .int 0, .int 0, .ref q132, .ref q133, .ref q134, .ref q135, .ref q136, .ref q137, .ref q138, .ref q139, .ref q140, .int 0])), (q106, .inr (16, [.ref q105, .int 0, .ref q107, .ref q108, .ref q110, .ref q111, .ref q112, .ref q113, .ref q114, .int 0, .int 0, .int 0, .int 0, .int 0, .int 0, .long 0, .ref q115, .ref q116, .ref q117, .ref q118, .int 0, .int 0, .long 0, .ref q119, .ref q120, .ref q121, .ref q122, .ref q123])), (q108, .inl (y109, 8, .inl (fun _ => 0)))]) hD hS hA [0, 1, 2] rfl
    refine va_calll (va_runV (As := [.int x1]) (rest := [.long (-1)]) ⟨hx, hb, hml, hown, hts⟩ (k_X19_count l hlt dC dI q77 q106 q108 y109 x1 q78 q80 q82 q84 q86 q88 q90 q91 q93 q94 q105 q124 q131 q132 q133 q134 q135 q136 q137 q138 q139 q140 q107 q110 q111 q112 q113 q114 q115 q116 q117 q118 q119 q120 q121 q122 q123  H.size) (cwV 1 hts gl_60 rfl rfl rfl (by decide +kernel) ⟨Nat.le_of_ble_eq_true rfl, Nat.le_of_ble_eq_true rfl⟩) ⟨fun a U g mk q => by obtain ⟨q0, q1, qP, qK, qD, qN⟩ := q; exact ⟨q0, q1, qP, va_K.moved (u := U) (U := U.calling g mk a) (Vm.Alike.refl U.vm) qK, qD, nv_same rfl rfl qN⟩, va_recv hKc hPc (ci := 20) (q0 := 0) rfl rfl, fun U hU hW => ⟨rfl, by rw [hU], by rw [hU]; exact hPc, va_K.moved hW.alike hKc, hDc.weaken (fun _ _ _ _ => trivial), nv_call hS hFc hU hW hN⟩⟩ rfl rfl hl.1 rfl (lv_room (Nat.le_of_ble_eq_true rfl)) dL_law_1408 ⟨by decide +kernel, by decide +kernel⟩) hS (fun q _ h => hFc q h) hFc (fun r504 u t H1 locs ht hvm hw hB hz1 hk1 hS => ?_)
    rcases hw with ⟨c_2_0, h9⟩ | ⟨c_2_0, c_2_1, c_2_2, h9⟩ | ⟨c_2_0, c_2_1, c_2_2, c_2_3, h9⟩ | ⟨c_2_0, c_2_1, c_2_2, c_2_3, c_2_4, h9⟩ | ⟨c_2_0, c_2_1, c_2_2, c_2_3, c_2_4, h9⟩ | ⟨c_2_0, c_2_1, h9⟩ | h9
    · exact absurd c_2_0 c_1_0
    · exact (cz_17 x1 c_1_0 c_1_1 c_1_2 c_2_2).elim
    · subst h9
      have hK1 := hK.sub (tys' := []) [] rfl
      obtain ⟨hP, hD⟩ := va_join (wr := []) (w1 := []) hP hD [0, 1, 2] [] rfl rfl (by decide) (by decide) hk1 hFc nv_P0 nv_D0
      have hK := (hK.sub (tys' := []) [] rfl).app hK1
      generalize H1 = H at hP hS ⊢
      have hP : va_P (dC, dI) vwCl [] H := hP
      have hD : va_D A [] := hD
      have hK : va_K (dC, dI) vwCl [] s := hK
      refine W.widen (k := 455) (n := 2511899) (by decide +kernel) (by decide +kernel) ?_
      refine W.lcmp hx hb dL_law_1411 ?_
      refine lv_topi (fun z505 ez505 => ?_)
      obtain rfl : z505 = 0 := ez505.trans (by decide)
      refine lv_if_eq (tgt := 1493) hx hb dL_law_1412 (by decide) (fun _ => ?_) (fun h9 => absurd (by decide) h9)
      refine lv_iinc (v := 6) (lv' := [(4, .int 6), (3, .ref q143), (2, .ref q77), (1, .ref q1), (0, .ref b)]) hx hb dL_law_1493 hl (k := 0) rfl (by decide) (by decide) rfl (fun ls hl => ?_)
      refine lv_goto (tgt := 23) hx hb dL_law_1496 (by decide) ?_
      refine W.widen (k := 600002) (n := 7302232) (by decide +kernel) (by decide +kernel) ?_
      exact kkE _ _ _ hS (lv_sub hl [0, 4] rfl)
    · exact absurd c_1_2 c_2_3
    · exact absurd c_1_2 c_2_3
    · exact absurd c_2_1 c_1_1
    · exact h9.elim
  · subst h9
    have hK1 := hK.sub (tys' := []) [] rfl
    obtain ⟨hP, hD⟩ := va_join (wr := [(q77, .inr (20, [.int 0, .ref q78, .int 0, .int 0, .ref q80, .ref q82, .ref q84, .ref q86, .ref q88, .ref q90, .ref q91, .ref q93, .ref q94, .ref q105, .ref q106, .ref q124, .ref q131, .int 0, .int 0, .int 0, .int 0, .int 0, .int 0, .int 0, .int 0, .int 0, .ref q132, .ref q133, .ref q134, .ref q135, .ref q136, .ref q137, .ref q138, .ref q139, .ref q140, .int 0])), (q106, .inr (16, [.ref q105, .int 0, .ref q107, .ref q108, .ref q110, .ref q111, .ref q112, .ref q113, .ref q114, .int 0, .int 0, .int 0, .int 0, .int 0, .int 0, .long 0, .ref q115, .ref q116, .ref q117, .ref q118, .int 0, .int 0, .long 0, .ref q119, .ref q120, .ref q121, .ref q122, .ref q123])), (q108, .inl (y109, 8, .inl (fun _ => 0)))]) (w1 := []) hP hD [0, 1, 2] [3, 4, 5] rfl rfl (by decide) (by decide) hk1 hFc nv_P0 nv_D0
    have hK := (hK.sub (tys' := [(y109, .boolean)]) [1] rfl).app hK1
    generalize H1 = H at hP hS ⊢
    have hP : va_P (dC, dI) vwCl [(q77, .inr (20, [.int 0, .ref q78, .int 0, .int 0, .ref q80, .ref q82, .ref q84, .ref q86, .ref q88, .ref q90, .ref q91, .ref q93, .ref q94, .ref q105, .ref q106, .ref q124, .ref q131, .int 0, .int 0, .int 0, .int 0, .int 0, .int 0, .int 0, .int 0, .int 0, .ref q132, .ref q133, .ref q134, .ref q135, .ref q136, .ref q137, .ref q138, .ref q139, .ref q140, .int 0])), (q106, .inr (16, [.ref q105, .int 0, .ref q107, .ref q108, .ref q110, .ref q111, .ref q112, .ref q113, .ref q114, .int 0, .int 0, .int 0, .int 0, .int 0, .int 0, .long 0, .ref q115, .ref q116, .ref q117, .ref q118, .int 0, .int 0, .long 0, .ref q119, .ref q120, .ref q121, .ref q122, .ref q123])), (q108, .inl (y109, 8, .inl (fun _ => 0)))] H := hP
    have hD : va_D A [(q77, .inr (20, [.int 0, .ref q78, .int 0, .int 0, .ref q80, .ref q82, .ref q84, .ref q86, .ref q88, .ref q90, .ref q91, .ref q93, .ref q94, .ref q105, .ref q106, .ref q124, .ref q131, .int 0, .int 0, .int 0, .int 0, .int 0, .int 0, .int 0, .int 0, .int 0, .ref q132, .ref q133, .ref q134, .ref q135, .ref q136, .ref q137, .ref q138, .ref q139, .ref q140, .int 0])), (q106, .inr (16, [.ref q105, .int 0, .ref q107, .ref q108, .ref q110, .ref q111, .ref q112, .ref q113, .ref q114, .int 0, .int 0, .int 0, .int 0, .int 0, .int 0, .long 0, .ref q115, .ref q116, .ref q117, .ref q118, .int 0, .int 0, .long 0, .ref q119, .ref q120, .ref q121, .ref q122, .ref q123])), (q108, .inl (y109, 8, .inl (fun _ => 0)))] := hD
    have hK : va_K (dC, dI) vwCl [(y109, .boolean)] s := hK
    refine W.widen (k := 455) (n := 2511899) (by decide +kernel) (by decide +kernel) ?_
    refine lv_aload_n hx hb dL_law_1401 rfl (lv_at hl 2 rfl) ?_
    refine lv_aload_n hx hb dL_law_1402 rfl (lv_at hl 4 rfl) ?_
    refine lv_iload hx hb dL_law_1403 (lv_at hl 0 rfl) ?_
    refine lv_iconst (v := 1) hx hb dL_law_1405 (by decide) ?_
    refine lv_iadd hx hb dL_law_1406 ?_
    refine lv_topi (fun z506 ez506 => ?_)
    obtain rfl : z506 = 1 := ez506.trans (by decide)
    refine va_sld (i := 1) hx hb hX hbl hbA hS (vp_in_iff.mpr ⟨by decide, by decide⟩) dL_law_1407 ?_
    rw [es1]
    have hPc := hP.sub (ws' := [(q77, .inr (20, [.int 0, .ref q78, .int 0, .int 0, .ref q80, .ref q82, .ref q84, .ref q86, .ref q88, .ref q90, .ref q91, .ref q93, .ref q94, .ref q105, .ref q106, .ref q124, .ref q131, .int 0, .int 0, .int 0, .int 0, .int 0, .int 0, .int 0, .int 0, .int 0, .ref q132, .ref q133, .ref q134, .ref q135, .ref q136, .ref q137, .ref q138, .ref q139, .ref q140, .int 0])), (q106, .inr (16, [.ref q105, .int 0, .ref q107, .ref q108, .ref q110, .ref q111, .ref q112, .ref q113, .ref q114, .int 0, .int 0, .int 0, .int 0, .int 0, .int 0, .long 0, .ref q115, .ref q116, .ref q117, .ref q118, .int 0, .int 0, .long 0, .ref q119, .ref q120, .ref q121, .ref q122, .ref q123])), (q108, .inl (y109, 8, .inl (fun _ => 0)))]) [0, 1, 2] rfl
    have hDc := hD.sub (ws' := [(q77, .inr (20, [.int 0, .ref q78, .int 0, .int 0, .ref q80, .ref q82, .ref q84, .ref q86, .ref q88, .ref q90, .ref q91, .ref q93, .ref q94, .ref q105, .ref q106, .ref q124, .ref q131, .int 0, .int 0, .int 0, .int 0, .int 0, .int 0, .int 0, .int 0, .int 0, .ref q132, .ref q133, .ref q134, .ref q135, .ref q136, .ref q137, .ref q138, .ref q139, .ref q140, .int 0])), (q106, .inr (16, [.ref q105, .int 0, .ref q107, .ref q108, .ref q110, .ref q111, .ref q112, .ref q113, .ref q114, .int 0, .int 0, .int 0, .int 0, .int 0, .int 0, .long 0, .ref q115, .ref q116, .ref q117, .ref q118, .int 0, .int 0, .long 0, .ref q119, .ref q120, .ref q121, .ref q122, .ref q123])), (q108, .inl (y109, 8, .inl (fun _ => 0)))]) [0, 1, 2] (by decide) rfl
    have hKc := hK.sub (tys' := [(y109, .boolean)]) [0] rfl
    have hFc := va_free (wc := [(q77, .inr (20, [.int 0, .ref q78, .int 0, .int 0, .ref q80, .ref q82, .ref q84, .ref q86, .ref q88, .ref q90, .ref q91, .ref q93, .ref q94, .ref q105, .ref q106, .ref q124, .ref q131, .int 0, .int 0, .int 0, .int 0, .int 0, .int 0, .int 0, .int 0, .int 0, .ref q132, .ref q133, .ref q134, .ref q135, .ref q136, .ref q137, .ref q138, .ref q139, .ref q140, .int 0])), (q106, .inr (16, [.ref q105, .int 0, .ref q107, .ref q108, .ref q110, .ref q111, .ref q112, .ref q113, .ref q114, .int 0, .int 0, .int 0, .int 0, .int 0, .int 0, .long 0, .ref q115, .ref q116, .ref q117, .ref q118, .int 0, .int 0, .long 0, .ref q119, .ref q120, .ref q121, .ref q122, .ref q123])), (q108, .inl (y109, 8, .inl (fun _ => 0)))]) hD hS hA [0, 1, 2] rfl
    refine va_calll (va_runV (As := [.int x1]) (rest := [.long 0]) ⟨hx, hb, hml, hown, hts⟩ (k_X19_count l hlt dC dI q77 q106 q108 y109 x1 q78 q80 q82 q84 q86 q88 q90 q91 q93 q94 q105 q124 q131 q132 q133 q134 q135 q136 q137 q138 q139 q140 q107 q110 q111 q112 q113 q114 q115 q116 q117 q118 q119 q120 q121 q122 q123  H.size) (cwV 1 hts gl_60 rfl rfl rfl (by decide +kernel) ⟨Nat.le_of_ble_eq_true rfl, Nat.le_of_ble_eq_true rfl⟩) ⟨fun a U g mk q => by obtain ⟨q0, q1, qP, qK, qD, qN⟩ := q; exact ⟨q0, q1, qP, va_K.moved (u := U) (U := U.calling g mk a) (Vm.Alike.refl U.vm) qK, qD, nv_same rfl rfl qN⟩, va_recv hKc hPc (ci := 20) (q0 := 0) rfl rfl, fun U hU hW => ⟨rfl, by rw [hU], by rw [hU]; exact hPc, va_K.moved hW.alike hKc, hDc.weaken (fun _ _ _ _ => trivial), nv_call hS hFc hU hW hN⟩⟩ rfl rfl hl.1 rfl (lv_room (Nat.le_of_ble_eq_true rfl)) dL_law_1408 ⟨by decide +kernel, by decide +kernel⟩) hS (fun q _ h => hFc q h) hFc (fun r507 u t H1 locs ht hvm hw hB hz1 hk1 hS => ?_)
    rcases hw with ⟨c_3_0, h9⟩ | ⟨c_3_0, c_3_1, c_3_2, h9⟩ | ⟨c_3_0, c_3_1, c_3_2, c_3_3, h9⟩ | ⟨c_3_0, c_3_1, c_3_2, c_3_3, c_3_4, h9⟩ | ⟨c_3_0, c_3_1, c_3_2, c_3_3, c_3_4, h9⟩ | ⟨c_3_0, c_3_1, h9⟩ | h9
    · exact absurd c_3_0 c_1_0
    · exact absurd c_3_2 c_1_4
    · exact absurd c_3_3 c_1_2
    · exact (cz_18 x1 c_1_0 c_1_1 c_1_2 c_1_3 c_1_4 c_3_4).elim
    · subst h9
      have hK1 := hK.sub (tys' := []) [] rfl
      obtain ⟨hP, hD⟩ := va_join (wr := []) (w1 := []) hP hD [0, 1, 2] [] rfl rfl (by decide) (by decide) hk1 hFc nv_P0 nv_D0
      have hK := (hK.sub (tys' := []) [] rfl).app hK1
      generalize H1 = H at hP hS ⊢
      have hP : va_P (dC, dI) vwCl [] H := hP
      have hD : va_D A [] := hD
      have hK : va_K (dC, dI) vwCl [] s := hK
      refine W.widen (k := 455) (n := 2511899) (by decide +kernel) (by decide +kernel) ?_
      refine W.lcmp hx hb dL_law_1411 ?_
      refine lv_topi (fun z508 ez508 => ?_)
      obtain rfl : z508 = 0 := ez508.trans (by decide)
      refine lv_if_eq (tgt := 1493) hx hb dL_law_1412 (by decide) (fun _ => ?_) (fun h9 => absurd (by decide) h9)
      refine lv_iinc (v := 6) (lv' := [(4, .int 6), (3, .ref q143), (2, .ref q77), (1, .ref q1), (0, .ref b)]) hx hb dL_law_1493 hl (k := 0) rfl (by decide) (by decide) rfl (fun ls hl => ?_)
      refine lv_goto (tgt := 23) hx hb dL_law_1496 (by decide) ?_
      refine W.widen (k := 600002) (n := 7302232) (by decide +kernel) (by decide +kernel) ?_
      exact kkE _ _ _ hS (lv_sub hl [0, 4] rfl)
    · exact absurd c_3_1 c_1_1
    · exact h9.elim
  · subst h9
    have hK1 := hK.sub (tys' := []) [] rfl
    obtain ⟨hP, hD⟩ := va_join (wr := [(q77, .inr (20, [.int 0, .ref q78, .int 0, .int 0, .ref q80, .ref q82, .ref q84, .ref q86, .ref q88, .ref q90, .ref q91, .ref q93, .ref q94, .ref q105, .ref q106, .ref q124, .ref q131, .int 0, .int 0, .int 0, .int 0, .int 0, .int 0, .int 0, .int 0, .int 0, .ref q132, .ref q133, .ref q134, .ref q135, .ref q136, .ref q137, .ref q138, .ref q139, .ref q140, .int 0])), (q106, .inr (16, [.ref q105, .int 0, .ref q107, .ref q108, .ref q110, .ref q111, .ref q112, .ref q113, .ref q114, .int 0, .int 0, .int 0, .int 0, .int 0, .int 0, .long 0, .ref q115, .ref q116, .ref q117, .ref q118, .int 0, .int 0, .long 0, .ref q119, .ref q120, .ref q121, .ref q122, .ref q123])), (q108, .inl (y109, 8, .inl (fun _ => 0)))]) (w1 := []) hP hD [0, 1, 2] [3, 4, 5] rfl rfl (by decide) (by decide) hk1 hFc nv_P0 nv_D0
    have hK := (hK.sub (tys' := [(y109, .boolean)]) [1] rfl).app hK1
    generalize H1 = H at hP hS ⊢
    have hP : va_P (dC, dI) vwCl [(q77, .inr (20, [.int 0, .ref q78, .int 0, .int 0, .ref q80, .ref q82, .ref q84, .ref q86, .ref q88, .ref q90, .ref q91, .ref q93, .ref q94, .ref q105, .ref q106, .ref q124, .ref q131, .int 0, .int 0, .int 0, .int 0, .int 0, .int 0, .int 0, .int 0, .int 0, .ref q132, .ref q133, .ref q134, .ref q135, .ref q136, .ref q137, .ref q138, .ref q139, .ref q140, .int 0])), (q106, .inr (16, [.ref q105, .int 0, .ref q107, .ref q108, .ref q110, .ref q111, .ref q112, .ref q113, .ref q114, .int 0, .int 0, .int 0, .int 0, .int 0, .int 0, .long 0, .ref q115, .ref q116, .ref q117, .ref q118, .int 0, .int 0, .long 0, .ref q119, .ref q120, .ref q121, .ref q122, .ref q123])), (q108, .inl (y109, 8, .inl (fun _ => 0)))] H := hP
    have hD : va_D A [(q77, .inr (20, [.int 0, .ref q78, .int 0, .int 0, .ref q80, .ref q82, .ref q84, .ref q86, .ref q88, .ref q90, .ref q91, .ref q93, .ref q94, .ref q105, .ref q106, .ref q124, .ref q131, .int 0, .int 0, .int 0, .int 0, .int 0, .int 0, .int 0, .int 0, .int 0, .ref q132, .ref q133, .ref q134, .ref q135, .ref q136, .ref q137, .ref q138, .ref q139, .ref q140, .int 0])), (q106, .inr (16, [.ref q105, .int 0, .ref q107, .ref q108, .ref q110, .ref q111, .ref q112, .ref q113, .ref q114, .int 0, .int 0, .int 0, .int 0, .int 0, .int 0, .long 0, .ref q115, .ref q116, .ref q117, .ref q118, .int 0, .int 0, .long 0, .ref q119, .ref q120, .ref q121, .ref q122, .ref q123])), (q108, .inl (y109, 8, .inl (fun _ => 0)))] := hD
    have hK : va_K (dC, dI) vwCl [(y109, .boolean)] s := hK
    refine W.widen (k := 455) (n := 2511899) (by decide +kernel) (by decide +kernel) ?_
    refine lv_aload_n hx hb dL_law_1401 rfl (lv_at hl 2 rfl) ?_
    refine lv_aload_n hx hb dL_law_1402 rfl (lv_at hl 4 rfl) ?_
    refine lv_iload hx hb dL_law_1403 (lv_at hl 0 rfl) ?_
    refine lv_iconst (v := 1) hx hb dL_law_1405 (by decide) ?_
    refine lv_iadd hx hb dL_law_1406 ?_
    refine lv_topi (fun z509 ez509 => ?_)
    obtain rfl : z509 = 1 := ez509.trans (by decide)
    refine va_sld (i := 1) hx hb hX hbl hbA hS (vp_in_iff.mpr ⟨by decide, by decide⟩) dL_law_1407 ?_
    rw [es1]
    have hPc := hP.sub (ws' := [(q77, .inr (20, [.int 0, .ref q78, .int 0, .int 0, .ref q80, .ref q82, .ref q84, .ref q86, .ref q88, .ref q90, .ref q91, .ref q93, .ref q94, .ref q105, .ref q106, .ref q124, .ref q131, .int 0, .int 0, .int 0, .int 0, .int 0, .int 0, .int 0, .int 0, .int 0, .ref q132, .ref q133, .ref q134, .ref q135, .ref q136, .ref q137, .ref q138, .ref q139, .ref q140, .int 0])), (q106, .inr (16, [.ref q105, .int 0, .ref q107, .ref q108, .ref q110, .ref q111, .ref q112, .ref q113, .ref q114, .int 0, .int 0, .int 0, .int 0, .int 0, .int 0, .long 0, .ref q115, .ref q116, .ref q117, .ref q118, .int 0, .int 0, .long 0, .ref q119, .ref q120, .ref q121, .ref q122, .ref q123])), (q108, .inl (y109, 8, .inl (fun _ => 0)))]) [0, 1, 2] rfl
    have hDc := hD.sub (ws' := [(q77, .inr (20, [.int 0, .ref q78, .int 0, .int 0, .ref q80, .ref q82, .ref q84, .ref q86, .ref q88, .ref q90, .ref q91, .ref q93, .ref q94, .ref q105, .ref q106, .ref q124, .ref q131, .int 0, .int 0, .int 0, .int 0, .int 0, .int 0, .int 0, .int 0, .int 0, .ref q132, .ref q133, .ref q134, .ref q135, .ref q136, .ref q137, .ref q138, .ref q139, .ref q140, .int 0])), (q106, .inr (16, [.ref q105, .int 0, .ref q107, .ref q108, .ref q110, .ref q111, .ref q112, .ref q113, .ref q114, .int 0, .int 0, .int 0, .int 0, .int 0, .int 0, .long 0, .ref q115, .ref q116, .ref q117, .ref q118, .int 0, .int 0, .long 0, .ref q119, .ref q120, .ref q121, .ref q122, .ref q123])), (q108, .inl (y109, 8, .inl (fun _ => 0)))]) [0, 1, 2] (by decide) rfl
    have hKc := hK.sub (tys' := [(y109, .boolean)]) [0] rfl
    have hFc := va_free (wc := [(q77, .inr (20, [.int 0, .ref q78, .int 0, .int 0, .ref q80, .ref q82, .ref q84, .ref q86, .ref q88, .ref q90, .ref q91, .ref q93, .ref q94, .ref q105, .ref q106, .ref q124, .ref q131, .int 0, .int 0, .int 0, .int 0, .int 0, .int 0, .int 0, .int 0, .int 0, .ref q132, .ref q133, .ref q134, .ref q135, .ref q136, .ref q137, .ref q138, .ref q139, .ref q140, .int 0])), (q106, .inr (16, [.ref q105, .int 0, .ref q107, .ref q108, .ref q110, .ref q111, .ref q112, .ref q113, .ref q114, .int 0, .int 0, .int 0, .int 0, .int 0, .int 0, .long 0, .ref q115, .ref q116, .ref q117, .ref q118, .int 0, .int 0, .long 0, .ref q119, .ref q120, .ref q121, .ref q122, .ref q123])), (q108, .inl (y109, 8, .inl (fun _ => 0)))]) hD hS hA [0, 1, 2] rfl
    refine va_calll (va_runV (As := [.int x1]) (rest := [.long (-1)]) ⟨hx, hb, hml, hown, hts⟩ (k_X19_count l hlt dC dI q77 q106 q108 y109 x1 q78 q80 q82 q84 q86 q88 q90 q91 q93 q94 q105 q124 q131 q132 q133 q134 q135 q136 q137 q138 q139 q140 q107 q110 q111 q112 q113 q114 q115 q116 q117 q118 q119 q120 q121 q122 q123  H.size) (cwV 1 hts gl_60 rfl rfl rfl (by decide +kernel) ⟨Nat.le_of_ble_eq_true rfl, Nat.le_of_ble_eq_true rfl⟩) ⟨fun a U g mk q => by obtain ⟨q0, q1, qP, qK, qD, qN⟩ := q; exact ⟨q0, q1, qP, va_K.moved (u := U) (U := U.calling g mk a) (Vm.Alike.refl U.vm) qK, qD, nv_same rfl rfl qN⟩, va_recv hKc hPc (ci := 20) (q0 := 0) rfl rfl, fun U hU hW => ⟨rfl, by rw [hU], by rw [hU]; exact hPc, va_K.moved hW.alike hKc, hDc.weaken (fun _ _ _ _ => trivial), nv_call hS hFc hU hW hN⟩⟩ rfl rfl hl.1 rfl (lv_room (Nat.le_of_ble_eq_true rfl)) dL_law_1408 ⟨by decide +kernel, by decide +kernel⟩) hS (fun q _ h => hFc q h) hFc (fun r510 u t H1 locs ht hvm hw hB hz1 hk1 hS => ?_)
    rcases hw with ⟨c_4_0, h9⟩ | ⟨c_4_0, c_4_1, c_4_2, h9⟩ | ⟨c_4_0, c_4_1, c_4_2, c_4_3, h9⟩ | ⟨c_4_0, c_4_1, c_4_2, c_4_3, c_4_4, h9⟩ | ⟨c_4_0, c_4_1, c_4_2, c_4_3, c_4_4, h9⟩ | ⟨c_4_0, c_4_1, h9⟩ | h9
    · exact absurd c_4_0 c_1_0
    · subst h9
      have hK1 := hK.sub (tys' := []) [] rfl
      obtain ⟨hP, hD⟩ := va_join (wr := []) (w1 := []) hP hD [0, 1, 2] [] rfl rfl (by decide) (by decide) hk1 hFc nv_P0 nv_D0
      have hK := (hK.sub (tys' := []) [] rfl).app hK1
      generalize H1 = H at hP hS ⊢
      have hP : va_P (dC, dI) vwCl [] H := hP
      have hD : va_D A [] := hD
      have hK : va_K (dC, dI) vwCl [] s := hK
      refine W.widen (k := 455) (n := 2511899) (by decide +kernel) (by decide +kernel) ?_
      refine W.lcmp hx hb dL_law_1411 ?_
      refine lv_topi (fun z511 ez511 => ?_)
      obtain rfl : z511 = 0 := ez511.trans (by decide)
      refine lv_if_eq (tgt := 1493) hx hb dL_law_1412 (by decide) (fun _ => ?_) (fun h9 => absurd (by decide) h9)
      refine lv_iinc (v := 6) (lv' := [(4, .int 6), (3, .ref q143), (2, .ref q77), (1, .ref q1), (0, .ref b)]) hx hb dL_law_1493 hl (k := 0) rfl (by decide) (by decide) rfl (fun ls hl => ?_)
      refine lv_goto (tgt := 23) hx hb dL_law_1496 (by decide) ?_
      refine W.widen (k := 600002) (n := 7302232) (by decide +kernel) (by decide +kernel) ?_
      exact kkE _ _ _ hS (lv_sub hl [0, 4] rfl)
    · exact absurd c_1_4 c_4_2
    · exact absurd c_1_4 c_4_2
    · exact absurd c_1_4 c_4_2
    · exact absurd c_4_1 c_1_1
    · exact h9.elim
  · subst h9
    have hK1 := hK.sub (tys' := []) [] rfl
    obtain ⟨hP, hD⟩ := va_join (wr := [(q77, .inr (20, [.int 0, .ref q78, .int 0, .int 0, .ref q80, .ref q82, .ref q84, .ref q86, .ref q88, .ref q90, .ref q91, .ref q93, .ref q94, .ref q105, .ref q106, .ref q124, .ref q131, .int 0, .int 0, .int 0, .int 0, .int 0, .int 0, .int 0, .int 0, .int 0, .ref q132, .ref q133, .ref q134, .ref q135, .ref q136, .ref q137, .ref q138, .ref q139, .ref q140, .int 0])), (q106, .inr (16, [.ref q105, .int 0, .ref q107, .ref q108, .ref q110, .ref q111, .ref q112, .ref q113, .ref q114, .int 0, .int 0, .int 0, .int 0, .int 0, .int 0, .long 0, .ref q115, .ref q116, .ref q117, .ref q118, .int 0, .int 0, .long 0, .ref q119, .ref q120, .ref q121, .ref q122, .ref q123])), (q108, .inl (y109, 8, .inl (fun _ => 0)))]) (w1 := []) hP hD [0, 1, 2] [3, 4, 5] rfl rfl (by decide) (by decide) hk1 hFc nv_P0 nv_D0
    have hK := (hK.sub (tys' := [(y109, .boolean)]) [1] rfl).app hK1
    generalize H1 = H at hP hS ⊢
    have hP : va_P (dC, dI) vwCl [(q77, .inr (20, [.int 0, .ref q78, .int 0, .int 0, .ref q80, .ref q82, .ref q84, .ref q86, .ref q88, .ref q90, .ref q91, .ref q93, .ref q94, .ref q105, .ref q106, .ref q124, .ref q131, .int 0, .int 0, .int 0, .int 0, .int 0, .int 0, .int 0, .int 0, .int 0, .ref q132, .ref q133, .ref q134, .ref q135, .ref q136, .ref q137, .ref q138, .ref q139, .ref q140, .int 0])), (q106, .inr (16, [.ref q105, .int 0, .ref q107, .ref q108, .ref q110, .ref q111, .ref q112, .ref q113, .ref q114, .int 0, .int 0, .int 0, .int 0, .int 0, .int 0, .long 0, .ref q115, .ref q116, .ref q117, .ref q118, .int 0, .int 0, .long 0, .ref q119, .ref q120, .ref q121, .ref q122, .ref q123])), (q108, .inl (y109, 8, .inl (fun _ => 0)))] H := hP
    have hD : va_D A [(q77, .inr (20, [.int 0, .ref q78, .int 0, .int 0, .ref q80, .ref q82, .ref q84, .ref q86, .ref q88, .ref q90, .ref q91, .ref q93, .ref q94, .ref q105, .ref q106, .ref q124, .ref q131, .int 0, .int 0, .int 0, .int 0, .int 0, .int 0, .int 0, .int 0, .int 0, .ref q132, .ref q133, .ref q134, .ref q135, .ref q136, .ref q137, .ref q138, .ref q139, .ref q140, .int 0])), (q106, .inr (16, [.ref q105, .int 0, .ref q107, .ref q108, .ref q110, .ref q111, .ref q112, .ref q113, .ref q114, .int 0, .int 0, .int 0, .int 0, .int 0, .int 0, .long 0, .ref q115, .ref q116, .ref q117, .ref q118, .int 0, .int 0, .long 0, .ref q119, .ref q120, .ref q121, .ref q122, .ref q123])), (q108, .inl (y109, 8, .inl (fun _ => 0)))] := hD
    have hK : va_K (dC, dI) vwCl [(y109, .boolean)] s := hK
    refine W.widen (k := 455) (n := 2511899) (by decide +kernel) (by decide +kernel) ?_
    refine lv_aload_n hx hb dL_law_1401 rfl (lv_at hl 2 rfl) ?_
    refine lv_aload_n hx hb dL_law_1402 rfl (lv_at hl 4 rfl) ?_
    refine lv_iload hx hb dL_law_1403 (lv_at hl 0 rfl) ?_
    refine lv_iconst (v := 1) hx hb dL_law_1405 (by decide) ?_
    refine lv_iadd hx hb dL_law_1406 ?_
    refine lv_topi (fun z512 ez512 => ?_)
    obtain rfl : z512 = 1 := ez512.trans (by decide)
    refine va_sld (i := 1) hx hb hX hbl hbA hS (vp_in_iff.mpr ⟨by decide, by decide⟩) dL_law_1407 ?_
    rw [es1]
    have hPc := hP.sub (ws' := [(q77, .inr (20, [.int 0, .ref q78, .int 0, .int 0, .ref q80, .ref q82, .ref q84, .ref q86, .ref q88, .ref q90, .ref q91, .ref q93, .ref q94, .ref q105, .ref q106, .ref q124, .ref q131, .int 0, .int 0, .int 0, .int 0, .int 0, .int 0, .int 0, .int 0, .int 0, .ref q132, .ref q133, .ref q134, .ref q135, .ref q136, .ref q137, .ref q138, .ref q139, .ref q140, .int 0])), (q106, .inr (16, [.ref q105, .int 0, .ref q107, .ref q108, .ref q110, .ref q111, .ref q112, .ref q113, .ref q114, .int 0, .int 0, .int 0, .int 0, .int 0, .int 0, .long 0, .ref q115, .ref q116, .ref q117, .ref q118, .int 0, .int 0, .long 0, .ref q119, .ref q120, .ref q121, .ref q122, .ref q123])), (q108, .inl (y109, 8, .inl (fun _ => 0)))]) [0, 1, 2] rfl
    have hDc := hD.sub (ws' := [(q77, .inr (20, [.int 0, .ref q78, .int 0, .int 0, .ref q80, .ref q82, .ref q84, .ref q86, .ref q88, .ref q90, .ref q91, .ref q93, .ref q94, .ref q105, .ref q106, .ref q124, .ref q131, .int 0, .int 0, .int 0, .int 0, .int 0, .int 0, .int 0, .int 0, .int 0, .ref q132, .ref q133, .ref q134, .ref q135, .ref q136, .ref q137, .ref q138, .ref q139, .ref q140, .int 0])), (q106, .inr (16, [.ref q105, .int 0, .ref q107, .ref q108, .ref q110, .ref q111, .ref q112, .ref q113, .ref q114, .int 0, .int 0, .int 0, .int 0, .int 0, .int 0, .long 0, .ref q115, .ref q116, .ref q117, .ref q118, .int 0, .int 0, .long 0, .ref q119, .ref q120, .ref q121, .ref q122, .ref q123])), (q108, .inl (y109, 8, .inl (fun _ => 0)))]) [0, 1, 2] (by decide) rfl
    have hKc := hK.sub (tys' := [(y109, .boolean)]) [0] rfl
    have hFc := va_free (wc := [(q77, .inr (20, [.int 0, .ref q78, .int 0, .int 0, .ref q80, .ref q82, .ref q84, .ref q86, .ref q88, .ref q90, .ref q91, .ref q93, .ref q94, .ref q105, .ref q106, .ref q124, .ref q131, .int 0, .int 0, .int 0, .int 0, .int 0, .int 0, .int 0, .int 0, .int 0, .ref q132, .ref q133, .ref q134, .ref q135, .ref q136, .ref q137, .ref q138, .ref q139, .ref q140, .int 0])), (q106, .inr (16, [.ref q105, .int 0, .ref q107, .ref q108, .ref q110, .ref q111, .ref q112, .ref q113, .ref q114, .int 0, .int 0, .int 0, .int 0, .int 0, .int 0, .long 0, .ref q115, .ref q116, .ref q117, .ref q118, .int 0, .int 0, .long 0, .ref q119, .ref q120, .ref q121, .ref q122, .ref q123])), (q108, .inl (y109, 8, .inl (fun _ => 0)))]) hD hS hA [0, 1, 2] rfl
    refine va_calll (va_runV (As := [.int x1]) (rest := [.long (-1)]) ⟨hx, hb, hml, hown, hts⟩ (k_X19_count l hlt dC dI q77 q106 q108 y109 x1 q78 q80 q82 q84 q86 q88 q90 q91 q93 q94 q105 q124 q131 q132 q133 q134 q135 q136 q137 q138 q139 q140 q107 q110 q111 q112 q113 q114 q115 q116 q117 q118 q119 q120 q121 q122 q123  H.size) (cwV 1 hts gl_60 rfl rfl rfl (by decide +kernel) ⟨Nat.le_of_ble_eq_true rfl, Nat.le_of_ble_eq_true rfl⟩) ⟨fun a U g mk q => by obtain ⟨q0, q1, qP, qK, qD, qN⟩ := q; exact ⟨q0, q1, qP, va_K.moved (u := U) (U := U.calling g mk a) (Vm.Alike.refl U.vm) qK, qD, nv_same rfl rfl qN⟩, va_recv hKc hPc (ci := 20) (q0 := 0) rfl rfl, fun U hU hW => ⟨rfl, by rw [hU], by rw [hU]; exact hPc, va_K.moved hW.alike hKc, hDc.weaken (fun _ _ _ _ => trivial), nv_call hS hFc hU hW hN⟩⟩ rfl rfl hl.1 rfl (lv_room (Nat.le_of_ble_eq_true rfl)) dL_law_1408 ⟨by decide +kernel, by decide +kernel⟩) hS (fun q _ h => hFc q h) hFc (fun r513 u t H1 locs ht hvm hw hB hz1 hk1 hS => ?_)
    rcases hw with ⟨c_5_0, h9⟩ | ⟨c_5_0, c_5_1, c_5_2, h9⟩ | ⟨c_5_0, c_5_1, c_5_2, c_5_3, h9⟩ | ⟨c_5_0, c_5_1, c_5_2, c_5_3, c_5_4, h9⟩ | ⟨c_5_0, c_5_1, c_5_2, c_5_3, c_5_4, h9⟩ | ⟨c_5_0, c_5_1, h9⟩ | h9
    · exact absurd c_5_0 c_1_0
    · exact (cz_19 x1 c_1_0 c_1_1 c_1_2 c_1_3 c_5_2).elim
    · exact absurd c_5_3 c_1_2
    · subst h9
      have hK1 := hK.sub (tys' := []) [] rfl
      obtain ⟨hP, hD⟩ := va_join (wr := []) (w1 := []) hP hD [0, 1, 2] [] rfl rfl (by decide) (by decide) hk1 hFc nv_P0 nv_D0
      have hK := (hK.sub (tys' := []) [] rfl).app hK1
      generalize H1 = H at hP hS ⊢
      have hP : va_P (dC, dI) vwCl [] H := hP
      have hD : va_D A [] := hD
      have hK : va_K (dC, dI) vwCl [] s := hK
      refine W.widen (k := 455) (n := 2511899) (by decide +kernel) (by decide +kernel) ?_
      refine W.lcmp hx hb dL_law_1411 ?_
      refine lv_topi (fun z514 ez514 => ?_)
      obtain rfl : z514 = 0 := ez514.trans (by decide)
      refine lv_if_eq (tgt := 1493) hx hb dL_law_1412 (by decide) (fun _ => ?_) (fun h9 => absurd (by decide) h9)
      refine lv_iinc (v := 6) (lv' := [(4, .int 6), (3, .ref q143), (2, .ref q77), (1, .ref q1), (0, .ref b)]) hx hb dL_law_1493 hl (k := 0) rfl (by decide) (by decide) rfl (fun ls hl => ?_)
      refine lv_goto (tgt := 23) hx hb dL_law_1496 (by decide) ?_
      refine W.widen (k := 600002) (n := 7302232) (by decide +kernel) (by decide +kernel) ?_
      exact kkE _ _ _ hS (lv_sub hl [0, 4] rfl)
    · exact (cz_20 x1 c_1_0 c_1_1 c_1_2 c_1_3 c_5_2 c_5_4).elim
    · exact absurd c_5_1 c_1_1
    · exact h9.elim
  · subst h9
    have hK1 := hK.sub (tys' := []) [] rfl
    obtain ⟨hP, hD⟩ := va_join (wr := [(q77, .inr (20, [.int 0, .ref q78, .int 0, .int 0, .ref q80, .ref q82, .ref q84, .ref q86, .ref q88, .ref q90, .ref q91, .ref q93, .ref q94, .ref q105, .ref q106, .ref q124, .ref q131, .int 0, .int 0, .int 0, .int 0, .int 0, .int 0, .int 0, .int 0, .int 0, .ref q132, .ref q133, .ref q134, .ref q135, .ref q136, .ref q137, .ref q138, .ref q139, .ref q140, .int 0])), (q106, .inr (16, [.ref q105, .int 0, .ref q107, .ref q108, .ref q110, .ref q111, .ref q112, .ref q113, .ref q114, .int 0, .int 0, .int 0, .int 0, .int 0, .int 0, .long 0, .ref q115, .ref q116, .ref q117, .ref q118, .int 0, .int 0, .long 0, .ref q119, .ref q120, .ref q121, .ref q122, .ref q123])), (q108, .inl (y109, 8, .inl (fun _ => 0)))]) (w1 := []) hP hD [0, 1, 2] [3, 4, 5] rfl rfl (by decide) (by decide) hk1 hFc nv_P0 nv_D0
    have hK := (hK.sub (tys' := [(y109, .boolean)]) [1] rfl).app hK1
    generalize H1 = H at hP hS ⊢
    have hP : va_P (dC, dI) vwCl [(q77, .inr (20, [.int 0, .ref q78, .int 0, .int 0, .ref q80, .ref q82, .ref q84, .ref q86, .ref q88, .ref q90, .ref q91, .ref q93, .ref q94, .ref q105, .ref q106, .ref q124, .ref q131, .int 0, .int 0, .int 0, .int 0, .int 0, .int 0, .int 0, .int 0, .int 0, .ref q132, .ref q133, .ref q134, .ref q135, .ref q136, .ref q137, .ref q138, .ref q139, .ref q140, .int 0])), (q106, .inr (16, [.ref q105, .int 0, .ref q107, .ref q108, .ref q110, .ref q111, .ref q112, .ref q113, .ref q114, .int 0, .int 0, .int 0, .int 0, .int 0, .int 0, .long 0, .ref q115, .ref q116, .ref q117, .ref q118, .int 0, .int 0, .long 0, .ref q119, .ref q120, .ref q121, .ref q122, .ref q123])), (q108, .inl (y109, 8, .inl (fun _ => 0)))] H := hP
    have hD : va_D A [(q77, .inr (20, [.int 0, .ref q78, .int 0, .int 0, .ref q80, .ref q82, .ref q84, .ref q86, .ref q88, .ref q90, .ref q91, .ref q93, .ref q94, .ref q105, .ref q106, .ref q124, .ref q131, .int 0, .int 0, .int 0, .int 0, .int 0, .int 0, .int 0, .int 0, .int 0, .ref q132, .ref q133, .ref q134, .ref q135, .ref q136, .ref q137, .ref q138, .ref q139, .ref q140, .int 0])), (q106, .inr (16, [.ref q105, .int 0, .ref q107, .ref q108, .ref q110, .ref q111, .ref q112, .ref q113, .ref q114, .int 0, .int 0, .int 0, .int 0, .int 0, .int 0, .long 0, .ref q115, .ref q116, .ref q117, .ref q118, .int 0, .int 0, .long 0, .ref q119, .ref q120, .ref q121, .ref q122, .ref q123])), (q108, .inl (y109, 8, .inl (fun _ => 0)))] := hD
    have hK : va_K (dC, dI) vwCl [(y109, .boolean)] s := hK
    refine W.widen (k := 455) (n := 2511899) (by decide +kernel) (by decide +kernel) ?_
    refine lv_aload_n hx hb dL_law_1401 rfl (lv_at hl 2 rfl) ?_
    refine lv_aload_n hx hb dL_law_1402 rfl (lv_at hl 4 rfl) ?_
    refine lv_iload hx hb dL_law_1403 (lv_at hl 0 rfl) ?_
    refine lv_iconst (v := 1) hx hb dL_law_1405 (by decide) ?_
    refine lv_iadd hx hb dL_law_1406 ?_
    refine lv_topi (fun z515 ez515 => ?_)
    obtain rfl : z515 = 1 := ez515.trans (by decide)
    refine va_sld (i := 1) hx hb hX hbl hbA hS (vp_in_iff.mpr ⟨by decide, by decide⟩) dL_law_1407 ?_
    rw [es1]
    have hPc := hP.sub (ws' := [(q77, .inr (20, [.int 0, .ref q78, .int 0, .int 0, .ref q80, .ref q82, .ref q84, .ref q86, .ref q88, .ref q90, .ref q91, .ref q93, .ref q94, .ref q105, .ref q106, .ref q124, .ref q131, .int 0, .int 0, .int 0, .int 0, .int 0, .int 0, .int 0, .int 0, .int 0, .ref q132, .ref q133, .ref q134, .ref q135, .ref q136, .ref q137, .ref q138, .ref q139, .ref q140, .int 0])), (q106, .inr (16, [.ref q105, .int 0, .ref q107, .ref q108, .ref q110, .ref q111, .ref q112, .ref q113, .ref q114, .int 0, .int 0, .int 0, .int 0, .int 0, .int 0, .long 0, .ref q115, .ref q116, .ref q117, .ref q118, .int 0, .int 0, .long 0, .ref q119, .ref q120, .ref q121, .ref q122, .ref q123])), (q108, .inl (y109, 8, .inl (fun _ => 0)))]) [0, 1, 2] rfl
    have hDc := hD.sub (ws' := [(q77, .inr (20, [.int 0, .ref q78, .int 0, .int 0, .ref q80, .ref q82, .ref q84, .ref q86, .ref q88, .ref q90, .ref q91, .ref q93, .ref q94, .ref q105, .ref q106, .ref q124, .ref q131, .int 0, .int 0, .int 0, .int 0, .int 0, .int 0, .int 0, .int 0, .int 0, .ref q132, .ref q133, .ref q134, .ref q135, .ref q136, .ref q137, .ref q138, .ref q139, .ref q140, .int 0])), (q106, .inr (16, [.ref q105, .int 0, .ref q107, .ref q108, .ref q110, .ref q111, .ref q112, .ref q113, .ref q114, .int 0, .int 0, .int 0, .int 0, .int 0, .int 0, .long 0, .ref q115, .ref q116, .ref q117, .ref q118, .int 0, .int 0, .long 0, .ref q119, .ref q120, .ref q121, .ref q122, .ref q123])), (q108, .inl (y109, 8, .inl (fun _ => 0)))]) [0, 1, 2] (by decide) rfl
    have hKc := hK.sub (tys' := [(y109, .boolean)]) [0] rfl
    have hFc := va_free (wc := [(q77, .inr (20, [.int 0, .ref q78, .int 0, .int 0, .ref q80, .ref q82, .ref q84, .ref q86, .ref q88, .ref q90, .ref q91, .ref q93, .ref q94, .ref q105, .ref q106, .ref q124, .ref q131, .int 0, .int 0, .int 0, .int 0, .int 0, .int 0, .int 0, .int 0, .int 0, .ref q132, .ref q133, .ref q134, .ref q135, .ref q136, .ref q137, .ref q138, .ref q139, .ref q140, .int 0])), (q106, .inr (16, [.ref q105, .int 0, .ref q107, .ref q108, .ref q110, .ref q111, .ref q112, .ref q113, .ref q114, .int 0, .int 0, .int 0, .int 0, .int 0, .int 0, .long 0, .ref q115, .ref q116, .ref q117, .ref q118, .int 0, .int 0, .long 0, .ref q119, .ref q120, .ref q121, .ref q122, .ref q123])), (q108, .inl (y109, 8, .inl (fun _ => 0)))]) hD hS hA [0, 1, 2] rfl
    refine va_calll (va_runV (As := [.int x1]) (rest := [.long 0]) ⟨hx, hb, hml, hown, hts⟩ (k_X19_count l hlt dC dI q77 q106 q108 y109 x1 q78 q80 q82 q84 q86 q88 q90 q91 q93 q94 q105 q124 q131 q132 q133 q134 q135 q136 q137 q138 q139 q140 q107 q110 q111 q112 q113 q114 q115 q116 q117 q118 q119 q120 q121 q122 q123  H.size) (cwV 1 hts gl_60 rfl rfl rfl (by decide +kernel) ⟨Nat.le_of_ble_eq_true rfl, Nat.le_of_ble_eq_true rfl⟩) ⟨fun a U g mk q => by obtain ⟨q0, q1, qP, qK, qD, qN⟩ := q; exact ⟨q0, q1, qP, va_K.moved (u := U) (U := U.calling g mk a) (Vm.Alike.refl U.vm) qK, qD, nv_same rfl rfl qN⟩, va_recv hKc hPc (ci := 20) (q0 := 0) rfl rfl, fun U hU hW => ⟨rfl, by rw [hU], by rw [hU]; exact hPc, va_K.moved hW.alike hKc, hDc.weaken (fun _ _ _ _ => trivial), nv_call hS hFc hU hW hN⟩⟩ rfl rfl hl.1 rfl (lv_room (Nat.le_of_ble_eq_true rfl)) dL_law_1408 ⟨by decide +kernel, by decide +kernel⟩) hS (fun q _ h => hFc q h) hFc (fun r516 u t H1 locs ht hvm hw hB hz1 hk1 hS => ?_)
    rcases hw with ⟨c_6_0, h9⟩ | ⟨c_6_0, c_6_1, c_6_2, h9⟩ | ⟨c_6_0, c_6_1, c_6_2, c_6_3, h9⟩ | ⟨c_6_0, c_6_1, c_6_2, c_6_3, c_6_4, h9⟩ | ⟨c_6_0, c_6_1, c_6_2, c_6_3, c_6_4, h9⟩ | ⟨c_6_0, c_6_1, h9⟩ | h9
    · exact absurd c_6_0 c_1_0
    · exact absurd c_1_1 c_6_1
    · exact absurd c_1_1 c_6_1
    · exact absurd c_1_1 c_6_1
    · exact absurd c_1_1 c_6_1
    · subst h9
      have hK1 := hK.sub (tys' := []) [] rfl
      obtain ⟨hP, hD⟩ := va_join (wr := []) (w1 := []) hP hD [0, 1, 2] [] rfl rfl (by decide) (by decide) hk1 hFc nv_P0 nv_D0
      have hK := (hK.sub (tys' := []) [] rfl).app hK1
      generalize H1 = H at hP hS ⊢
      have hP : va_P (dC, dI) vwCl [] H := hP
      have hD : va_D A [] := hD
      have hK : va_K (dC, dI) vwCl [] s := hK
      refine W.widen (k := 455) (n := 2511899) (by decide +kernel) (by decide +kernel) ?_
      refine W.lcmp hx hb dL_law_1411 ?_
      refine lv_topi (fun z517 ez517 => ?_)
      obtain rfl : z517 = 0 := ez517.trans (by decide)
      refine lv_if_eq (tgt := 1493) hx hb dL_law_1412 (by decide) (fun _ => ?_) (fun h9 => absurd (by decide) h9)
      refine lv_iinc (v := 6) (lv' := [(4, .int 6), (3, .ref q143), (2, .ref q77), (1, .ref q1), (0, .ref b)]) hx hb dL_law_1493 hl (k := 0) rfl (by decide) (by decide) rfl (fun ls hl => ?_)
      refine lv_goto (tgt := 23) hx hb dL_law_1496 (by decide) ?_
      refine W.widen (k := 600002) (n := 7302232) (by decide +kernel) (by decide +kernel) ?_
      exact kkE _ _ _ hS (lv_sub hl [0, 4] rfl)
    · exact h9.elim
  · subst h9
    have hK1 := hK.sub (tys' := []) [] rfl
    obtain ⟨hP, hD⟩ := va_join (wr := [(q77, .inr (20, [.int 0, .ref q78, .int 0, .int 0, .ref q80, .ref q82, .ref q84, .ref q86, .ref q88, .ref q90, .ref q91, .ref q93, .ref q94, .ref q105, .ref q106, .ref q124, .ref q131, .int 0, .int 0, .int 0, .int 0, .int 0, .int 0, .int 0, .int 0, .int 0, .ref q132, .ref q133, .ref q134, .ref q135, .ref q136, .ref q137, .ref q138, .ref q139, .ref q140, .int 0])), (q106, .inr (16, [.ref q105, .int 0, .ref q107, .ref q108, .ref q110, .ref q111, .ref q112, .ref q113, .ref q114, .int 0, .int 0, .int 0, .int 0, .int 0, .int 0, .long 0, .ref q115, .ref q116, .ref q117, .ref q118, .int 0, .int 0, .long 0, .ref q119, .ref q120, .ref q121, .ref q122, .ref q123])), (q108, .inl (y109, 8, .inl (fun _ => 0)))]) (w1 := []) hP hD [0, 1, 2] [3, 4, 5] rfl rfl (by decide) (by decide) hk1 hFc nv_P0 nv_D0
    have hK := (hK.sub (tys' := [(y109, .boolean)]) [1] rfl).app hK1
    generalize H1 = H at hP hS ⊢
    have hP : va_P (dC, dI) vwCl [(q77, .inr (20, [.int 0, .ref q78, .int 0, .int 0, .ref q80, .ref q82, .ref q84, .ref q86, .ref q88, .ref q90, .ref q91, .ref q93, .ref q94, .ref q105, .ref q106, .ref q124, .ref q131, .int 0, .int 0, .int 0, .int 0, .int 0, .int 0, .int 0, .int 0, .int 0, .ref q132, .ref q133, .ref q134, .ref q135, .ref q136, .ref q137, .ref q138, .ref q139, .ref q140, .int 0])), (q106, .inr (16, [.ref q105, .int 0, .ref q107, .ref q108, .ref q110, .ref q111, .ref q112, .ref q113, .ref q114, .int 0, .int 0, .int 0, .int 0, .int 0, .int 0, .long 0, .ref q115, .ref q116, .ref q117, .ref q118, .int 0, .int 0, .long 0, .ref q119, .ref q120, .ref q121, .ref q122, .ref q123])), (q108, .inl (y109, 8, .inl (fun _ => 0)))] H := hP
    have hD : va_D A [(q77, .inr (20, [.int 0, .ref q78, .int 0, .int 0, .ref q80, .ref q82, .ref q84, .ref q86, .ref q88, .ref q90, .ref q91, .ref q93, .ref q94, .ref q105, .ref q106, .ref q124, .ref q131, .int 0, .int 0, .int 0, .int 0, .int 0, .int 0, .int 0, .int 0, .int 0, .ref q132, .ref q133, .ref q134, .ref q135, .ref q136, .ref q137, .ref q138, .ref q139, .ref q140, .int 0])), (q106, .inr (16, [.ref q105, .int 0, .ref q107, .ref q108, .ref q110, .ref q111, .ref q112, .ref q113, .ref q114, .int 0, .int 0, .int 0, .int 0, .int 0, .int 0, .long 0, .ref q115, .ref q116, .ref q117, .ref q118, .int 0, .int 0, .long 0, .ref q119, .ref q120, .ref q121, .ref q122, .ref q123])), (q108, .inl (y109, 8, .inl (fun _ => 0)))] := hD
    have hK : va_K (dC, dI) vwCl [(y109, .boolean)] s := hK
    refine W.widen (k := 455) (n := 2511899) (by decide +kernel) (by decide +kernel) ?_
    refine lv_aload_n hx hb dL_law_1401 rfl (lv_at hl 2 rfl) ?_
    refine lv_aload_n hx hb dL_law_1402 rfl (lv_at hl 4 rfl) ?_
    refine lv_iload hx hb dL_law_1403 (lv_at hl 0 rfl) ?_
    refine lv_iconst (v := 1) hx hb dL_law_1405 (by decide) ?_
    refine lv_iadd hx hb dL_law_1406 ?_
    refine lv_topi (fun z518 ez518 => ?_)
    obtain rfl : z518 = 1 := ez518.trans (by decide)
    refine va_sld (i := 1) hx hb hX hbl hbA hS (vp_in_iff.mpr ⟨by decide, by decide⟩) dL_law_1407 ?_
    rw [es1]
    have hPc := hP.sub (ws' := [(q77, .inr (20, [.int 0, .ref q78, .int 0, .int 0, .ref q80, .ref q82, .ref q84, .ref q86, .ref q88, .ref q90, .ref q91, .ref q93, .ref q94, .ref q105, .ref q106, .ref q124, .ref q131, .int 0, .int 0, .int 0, .int 0, .int 0, .int 0, .int 0, .int 0, .int 0, .ref q132, .ref q133, .ref q134, .ref q135, .ref q136, .ref q137, .ref q138, .ref q139, .ref q140, .int 0])), (q106, .inr (16, [.ref q105, .int 0, .ref q107, .ref q108, .ref q110, .ref q111, .ref q112, .ref q113, .ref q114, .int 0, .int 0, .int 0, .int 0, .int 0, .int 0, .long 0, .ref q115, .ref q116, .ref q117, .ref q118, .int 0, .int 0, .long 0, .ref q119, .ref q120, .ref q121, .ref q122, .ref q123])), (q108, .inl (y109, 8, .inl (fun _ => 0)))]) [0, 1, 2] rfl
    have hDc := hD.sub (ws' := [(q77, .inr (20, [.int 0, .ref q78, .int 0, .int 0, .ref q80, .ref q82, .ref q84, .ref q86, .ref q88, .ref q90, .ref q91, .ref q93, .ref q94, .ref q105, .ref q106, .ref q124, .ref q131, .int 0, .int 0, .int 0, .int 0, .int 0, .int 0, .int 0, .int 0, .int 0, .ref q132, .ref q133, .ref q134, .ref q135, .ref q136, .ref q137, .ref q138, .ref q139, .ref q140, .int 0])), (q106, .inr (16, [.ref q105, .int 0, .ref q107, .ref q108, .ref q110, .ref q111, .ref q112, .ref q113, .ref q114, .int 0, .int 0, .int 0, .int 0, .int 0, .int 0, .long 0, .ref q115, .ref q116, .ref q117, .ref q118, .int 0, .int 0, .long 0, .ref q119, .ref q120, .ref q121, .ref q122, .ref q123])), (q108, .inl (y109, 8, .inl (fun _ => 0)))]) [0, 1, 2] (by decide) rfl
    have hKc := hK.sub (tys' := [(y109, .boolean)]) [0] rfl
    have hFc := va_free (wc := [(q77, .inr (20, [.int 0, .ref q78, .int 0, .int 0, .ref q80, .ref q82, .ref q84, .ref q86, .ref q88, .ref q90, .ref q91, .ref q93, .ref q94, .ref q105, .ref q106, .ref q124, .ref q131, .int 0, .int 0, .int 0, .int 0, .int 0, .int 0, .int 0, .int 0, .int 0, .ref q132, .ref q133, .ref q134, .ref q135, .ref q136, .ref q137, .ref q138, .ref q139, .ref q140, .int 0])), (q106, .inr (16, [.ref q105, .int 0, .ref q107, .ref q108, .ref q110, .ref q111, .ref q112, .ref q113, .ref q114, .int 0, .int 0, .int 0, .int 0, .int 0, .int 0, .long 0, .ref q115, .ref q116, .ref q117, .ref q118, .int 0, .int 0, .long 0, .ref q119, .ref q120, .ref q121, .ref q122, .ref q123])), (q108, .inl (y109, 8, .inl (fun _ => 0)))]) hD hS hA [0, 1, 2] rfl
    refine va_calll (va_runV (As := [.int x1]) (rest := [.long 0]) ⟨hx, hb, hml, hown, hts⟩ (k_X19_count l hlt dC dI q77 q106 q108 y109 x1 q78 q80 q82 q84 q86 q88 q90 q91 q93 q94 q105 q124 q131 q132 q133 q134 q135 q136 q137 q138 q139 q140 q107 q110 q111 q112 q113 q114 q115 q116 q117 q118 q119 q120 q121 q122 q123  H.size) (cwV 1 hts gl_60 rfl rfl rfl (by decide +kernel) ⟨Nat.le_of_ble_eq_true rfl, Nat.le_of_ble_eq_true rfl⟩) ⟨fun a U g mk q => by obtain ⟨q0, q1, qP, qK, qD, qN⟩ := q; exact ⟨q0, q1, qP, va_K.moved (u := U) (U := U.calling g mk a) (Vm.Alike.refl U.vm) qK, qD, nv_same rfl rfl qN⟩, va_recv hKc hPc (ci := 20) (q0 := 0) rfl rfl, fun U hU hW => ⟨rfl, by rw [hU], by rw [hU]; exact hPc, va_K.moved hW.alike hKc, hDc.weaken (fun _ _ _ _ => trivial), nv_call hS hFc hU hW hN⟩⟩ rfl rfl hl.1 rfl (lv_room (Nat.le_of_ble_eq_true rfl)) dL_law_1408 ⟨by decide +kernel, by decide +kernel⟩) hS (fun q _ h => hFc q h) hFc (fun r519 u t H1 locs ht hvm hw hB hz1 hk1 hS => ?_)
    rcases hw with ⟨c_7_0, h9⟩ | ⟨c_7_0, c_7_1, c_7_2, h9⟩ | ⟨c_7_0, c_7_1, c_7_2, c_7_3, h9⟩ | ⟨c_7_0, c_7_1, c_7_2, c_7_3, c_7_4, h9⟩ | ⟨c_7_0, c_7_1, c_7_2, c_7_3, c_7_4, h9⟩ | ⟨c_7_0, c_7_1, h9⟩ | h9
    · subst h9
      have hK1 := hK.sub (tys' := []) [] rfl
      obtain ⟨hP, hD⟩ := va_join (wr := []) (w1 := []) hP hD [0, 1, 2] [] rfl rfl (by decide) (by decide) hk1 hFc nv_P0 nv_D0
      have hK := (hK.sub (tys' := []) [] rfl).app hK1
      generalize H1 = H at hP hS ⊢
      have hP : va_P (dC, dI) vwCl [] H := hP
      have hD : va_D A [] := hD
      have hK : va_K (dC, dI) vwCl [] s := hK
      refine W.widen (k := 455) (n := 2511899) (by decide +kernel) (by decide +kernel) ?_
      refine W.lcmp hx hb dL_law_1411 ?_
      refine lv_topi (fun z520 ez520 => ?_)
      obtain rfl : z520 = 0 := ez520.trans (by decide)
      refine lv_if_eq (tgt := 1493) hx hb dL_law_1412 (by decide) (fun _ => ?_) (fun h9 => absurd (by decide) h9)
      refine lv_iinc (v := 6) (lv' := [(4, .int 6), (3, .ref q143), (2, .ref q77), (1, .ref q1), (0, .ref b)]) hx hb dL_law_1493 hl (k := 0) rfl (by decide) (by decide) rfl (fun ls hl => ?_)
      refine lv_goto (tgt := 23) hx hb dL_law_1496 (by decide) ?_
      refine W.widen (k := 600002) (n := 7302232) (by decide +kernel) (by decide +kernel) ?_
      exact kkE _ _ _ hS (lv_sub hl [0, 4] rfl)
    · exact absurd c_1_0 c_7_0
    · exact absurd c_1_0 c_7_0
    · exact absurd c_1_0 c_7_0
    · exact absurd c_1_0 c_7_0
    · exact absurd c_1_0 c_7_0
    · exact h9.elim
  · exact h9.elim
set_option maxHeartbeats 40000000 in
set_option maxRecDepth 100000 in
theorem law_c28 {p : Program} {l : Launch} {e : Env} {s : State} {m : MethodId} {below : List Frame} {meth : Method} {c : Code} {Q : State → Prop} {A : Nat → Prop} {b : Nat} (hlt : l.stackTraces = false) (hx : p.tables.exec = Jvm.exec) (hb : c.code = code) (hml : c.maxLocals = 8) (hown : s.vm.findClass RL = some m.cls) (hts : ∀ w ∈ lw_tbl, w.before #[Value.ref b] s = true) (hN : nv_E A s) (hA : ∀ q : Nat, s.heap.size ≤ q → A q) (hDe : nv_Dc s) (dC : Nat → ClassId) (dI : Nat → Nat → Nat) (q1 : Nat) (q2 : Nat) (q4 : Nat) (q6 : Nat) (q8 : Nat) (q22 : Nat) (q23 : Nat) (q25 : Nat) (q26 : Nat) (q27 : Nat) (q28 : Nat) (q29 : Nat) (q30 : Nat) (q31 : Nat) (q32 : Nat) (q33 : Nat) (q34 : Nat) (q35 : Nat) (q36 : Nat) (q37 : Nat) (q39 : Nat) (q41 : Nat) (y42 : ClassId) (q43 : Nat) (q77 : Nat) (q78 : Nat) (q80 : Nat) (q82 : Nat) (q84 : Nat) (q86 : Nat) (q88 : Nat) (q90 : Nat) (q91 : Nat) (q93 : Nat) (q94 : Nat) (q105 : Nat) (q106 : Nat) (q124 : Nat) (q125 : Nat) (q126 : Nat) (q127 : Nat) (q128 : Nat) (q129 : Nat) (y130 : ClassId) (q131 : Nat) (q132 : Nat) (q133 : Nat) (q134 : Nat) (q135 : Nat) (q136 : Nat) (q137 : Nat) (q138 : Nat) (q139 : Nat) (q140 : Nat) (y141 : ClassId) (q143 : Nat) {xs : Nat → Int32} (hX : va_X b 6 xs s s.heap) (hbl : b < s.heap.size) (hbA : ¬ A b) (x0 : Int32) (es0 : xs (Int32.toNatClampNeg 0) = x0) (x1 : Int32) (es1 : xs (Int32.toNatClampNeg 1) = x1) (x2 : Int32) (es2 : xs (Int32.toNatClampNeg 2) = x2) (x3 : Int32) (es3 : xs (Int32.toNatClampNeg 3) = x3) (x4 : Int32) (es4 : xs (Int32.toNatClampNeg 4) = x4) (x5 : Int32) (es5 : xs (Int32.toNatClampNeg 5) = x5) {H : Heap} {locs : List Loc} {ls : Array Slot} (hK : va_K (dC, dI) vwCl [(y42, .byte), (y130, .int), (y141, .int)] s) (hP : va_P (dC, dI) vwCl [(q1, .inr (13, [.ref q2, .int 0, .int 0, .ref q4, .ref q6, .ref q8, .ref q22, .ref q37, .ref q39, .ref q41, .int 0, .ref q43])), (q22, .inr (12, [.ref q23, .ref q25, .ref q31, .ref q32, .ref q33, .ref q34, .int 0, .ref q35, .ref q36, .int 0, .int 0, .int 0, .int 0, .int 0, .int 0, .int 0])), (q25, .inr (4, [.ref q26, .ref q27, .ref q28, .ref q29, .int 0, .int 0, .ref q30, .int 0, .int 0, .int 0, .int 0])), (q41, .inl (y42, 32768, .inl (fun _ => 0))), (q77, .inr (20, [.int 0, .ref q78, .int 0, .int 0, .ref q80, .ref q82, .ref q84, .ref q86, .ref q88, .ref q90, .ref q91, .ref q93, .ref q94, .ref q105, .ref q106, .ref q124, .ref q131, .int 0, .int 0, .int 0, .int 0, .int 0, .int 0, .int 0, .int 0, .int 0, .ref q132, .ref q133, .ref q134, .ref q135, .ref q136, .ref q137, .ref q138, .ref q139, .ref q140, .int 0])), (q124, .inr (15, [.int 0, .ref q125, .ref q126, .ref q127, .ref q128, .ref q129, .int 0, .null, .int 0, .int 0, .int 0])), (q129, .inl (y130, 32768, .inl (fun _ => 0))), (q140, .inl (y141, 32768, .inl (fun _ => 0)))] H) (hD : va_D A [(q1, .inr (13, [.ref q2, .int 0, .int 0, .ref q4, .ref q6, .ref q8, .ref q22, .ref q37, .ref q39, .ref q41, .int 0, .ref q43])), (q22, .inr (12, [.ref q23, .ref q25, .ref q31, .ref q32, .ref q33, .ref q34, .int 0, .ref q35, .ref q36, .int 0, .int 0, .int 0, .int 0, .int 0, .int 0, .int 0])), (q25, .inr (4, [.ref q26, .ref q27, .ref q28, .ref q29, .int 0, .int 0, .ref q30, .int 0, .int 0, .int 0, .int 0])), (q41, .inl (y42, 32768, .inl (fun _ => 0))), (q77, .inr (20, [.int 0, .ref q78, .int 0, .int 0, .ref q80, .ref q82, .ref q84, .ref q86, .ref q88, .ref q90, .ref q91, .ref q93, .ref q94, .ref q105, .ref q106, .ref q124, .ref q131, .int 0, .int 0, .int 0, .int 0, .int 0, .int 0, .int 0, .int 0, .int 0, .ref q132, .ref q133, .ref q134, .ref q135, .ref q136, .ref q137, .ref q138, .ref q139, .ref q140, .int 0])), (q124, .inr (15, [.int 0, .ref q125, .ref q126, .ref q127, .ref q128, .ref q129, .int 0, .null, .int 0, .int 0, .int 0])), (q129, .inl (y130, 32768, .inl (fun _ => 0))), (q140, .inl (y141, 32768, .inl (fun _ => 0)))]) (hS : va_S A s.heap H locs) (hl : lv_has ls 8 [(4, .int 0), (3, .ref q143), (2, .ref q77), (1, .ref q1), (0, .ref b)]) (kkE : ∀ (H : Heap) (locs : List Loc) (ls : Array Slot), va_S A s.heap H locs → lv_has ls 8 [(4, .int 6), (0, .ref b)] → W p l e room_1 s m #[Value.ref b] below meth c H locs 600002 7302232 Q (F0 m 23 ls [])) : W p l e room_1 s m #[Value.ref b] below meth c H locs 455 2511899 Q (F0 m 1417 ls []) := by
  refine lv_aload_n hx hb dL_law_1417 rfl (lv_at hl 3 rfl) ?_
  have hPc := hP.sub (ws' := [(q1, .inr (13, [.ref q2, .int 0, .int 0, .ref q4, .ref q6, .ref q8, .ref q22, .ref q37, .ref q39, .ref q41, .int 0, .ref q43])), (q22, .inr (12, [.ref q23, .ref q25, .ref q31, .ref q32, .ref q33, .ref q34, .int 0, .ref q35, .ref q36, .int 0, .int 0, .int 0, .int 0, .int 0, .int 0, .int 0])), (q25, .inr (4, [.ref q26, .ref q27, .ref q28, .ref q29, .int 0, .int 0, .ref q30, .int 0, .int 0, .int 0, .int 0])), (q41, .inl (y42, 32768, .inl (fun _ => 0)))]) [0, 1, 2, 3] rfl
  have hDc := hD.sub (ws' := [(q1, .inr (13, [.ref q2, .int 0, .int 0, .ref q4, .ref q6, .ref q8, .ref q22, .ref q37, .ref q39, .ref q41, .int 0, .ref q43])), (q22, .inr (12, [.ref q23, .ref q25, .ref q31, .ref q32, .ref q33, .ref q34, .int 0, .ref q35, .ref q36, .int 0, .int 0, .int 0, .int 0, .int 0, .int 0, .int 0])), (q25, .inr (4, [.ref q26, .ref q27, .ref q28, .ref q29, .int 0, .int 0, .ref q30, .int 0, .int 0, .int 0, .int 0])), (q41, .inl (y42, 32768, .inl (fun _ => 0)))]) [0, 1, 2, 3] (by decide) rfl
  have hKc := hK.sub (tys' := [(y42, .byte)]) [0] rfl
  have hFc := va_free (wc := [(q1, .inr (13, [.ref q2, .int 0, .int 0, .ref q4, .ref q6, .ref q8, .ref q22, .ref q37, .ref q39, .ref q41, .int 0, .ref q43])), (q22, .inr (12, [.ref q23, .ref q25, .ref q31, .ref q32, .ref q33, .ref q34, .int 0, .ref q35, .ref q36, .int 0, .int 0, .int 0, .int 0, .int 0, .int 0, .int 0])), (q25, .inr (4, [.ref q26, .ref q27, .ref q28, .ref q29, .int 0, .int 0, .ref q30, .int 0, .int 0, .int 0, .int 0])), (q41, .inl (y42, 32768, .inl (fun _ => 0)))]) hD hS hA [0, 1, 2, 3] rfl
  refine va_calli (va_runV (As := []) (rest := []) ⟨hx, hb, hml, hown, hts⟩ (k_X12_pack l hlt dC dI q1 q22 q25 q41 y42 q2 q4 q6 q8 q37 q39 q43 q23 q31 q32 q33 q34 q35 q36 q26 q27 q28 q29 q30  H.size) (cwV 0 hts gl_61 rfl rfl rfl (by decide +kernel) ⟨Nat.le_of_ble_eq_true rfl, Nat.le_of_ble_eq_true rfl⟩) ⟨fun a U g mk q => by obtain ⟨q0, q1, qP, qK, qD, qN⟩ := q; exact ⟨q0, q1, qP, va_K.moved (u := U) (U := U.calling g mk a) (Vm.Alike.refl U.vm) qK, qD, nv_same rfl rfl qN⟩, va_recv hKc hPc (ci := 13) (q0 := 0) rfl rfl, fun U hU hW => ⟨rfl, by rw [hU], by rw [hU]; exact hPc, va_K.moved hW.alike hKc, hDc.weaken (fun _ _ _ _ => trivial), nv_call hS hFc hU hW hN⟩⟩ rfl rfl hl.1 rfl (lv_room (Nat.le_of_ble_eq_true rfl)) dL_law_1418 ⟨by decide +kernel, by decide +kernel⟩) hS (fun q _ h => hFc q h) hFc (fun r502 u t H1 locs ht hvm hw hB hz1 hk1 hS => ?_)
  obtain ⟨f501, hP1, hK1, hD1⟩ := hB
  rw [ht] at hP1
  have hK1 := va_K.moved hvm.symm hK1
  obtain rfl : r502 = 1 := hw
  obtain ⟨hP, hD⟩ := va_join (wr := [(q77, .inr (20, [.int 0, .ref q78, .int 0, .int 0, .ref q80, .ref q82, .ref q84, .ref q86, .ref q88, .ref q90, .ref q91, .ref q93, .ref q94, .ref q105, .ref q106, .ref q124, .ref q131, .int 0, .int 0, .int 0, .int 0, .int 0, .int 0, .int 0, .int 0, .int 0, .ref q132, .ref q133, .ref q134, .ref q135, .ref q136, .ref q137, .ref q138, .ref q139, .ref q140, .int 0])), (q124, .inr (15, [.int 0, .ref q125, .ref q126, .ref q127, .ref q128, .ref q129, .int 0, .null, .int 0, .int 0, .int 0])), (q129, .inl (y130, 32768, .inl (fun _ => 0))), (q140, .inl (y141, 32768, .inl (fun _ => 0)))]) (w1 := [(q1, .inr (13, [.ref q2, .int 0, .int 0, .ref q4, .ref q6, .ref q8, .ref q22, .ref q37, .ref q39, .ref q41, .int 1, .ref q43])), (q22, .inr (12, [.ref q23, .ref q25, .ref q31, .ref q32, .ref q33, .ref q34, .int 0, .ref q35, .ref q36, .int 0, .int 0, .int 0, .int 0, .int 0, .int 0, .int 0])), (q25, .inr (4, [.ref q26, .ref q27, .ref q28, .ref q29, .int 0, .int 0, .ref q41, .int 1, .int 0, .int 0, .int 0])), (q41, .inl (y42, 32768, .inl f501))]) hP hD [0, 1, 2, 3] [4, 5, 6, 7] rfl rfl (by decide) (by decide) hk1 hFc hP1 hD1
  have hK := (hK.sub (tys' := [(y130, .int), (y141, .int)]) [1, 2] rfl).app hK1
  generalize H1 = H at hP hS ⊢
  have hP : va_P (dC, dI) vwCl [(q77, .inr (20, [.int 0, .ref q78, .int 0, .int 0, .ref q80, .ref q82, .ref q84, .ref q86, .ref q88, .ref q90, .ref q91, .ref q93, .ref q94, .ref q105, .ref q106, .ref q124, .ref q131, .int 0, .int 0, .int 0, .int 0, .int 0, .int 0, .int 0, .int 0, .int 0, .ref q132, .ref q133, .ref q134, .ref q135, .ref q136, .ref q137, .ref q138, .ref q139, .ref q140, .int 0])), (q124, .inr (15, [.int 0, .ref q125, .ref q126, .ref q127, .ref q128, .ref q129, .int 0, .null, .int 0, .int 0, .int 0])), (q129, .inl (y130, 32768, .inl (fun _ => 0))), (q140, .inl (y141, 32768, .inl (fun _ => 0))), (q1, .inr (13, [.ref q2, .int 0, .int 0, .ref q4, .ref q6, .ref q8, .ref q22, .ref q37, .ref q39, .ref q41, .int 1, .ref q43])), (q22, .inr (12, [.ref q23, .ref q25, .ref q31, .ref q32, .ref q33, .ref q34, .int 0, .ref q35, .ref q36, .int 0, .int 0, .int 0, .int 0, .int 0, .int 0, .int 0])), (q25, .inr (4, [.ref q26, .ref q27, .ref q28, .ref q29, .int 0, .int 0, .ref q41, .int 1, .int 0, .int 0, .int 0])), (q41, .inl (y42, 32768, .inl f501))] H := hP
  have hD : va_D A [(q77, .inr (20, [.int 0, .ref q78, .int 0, .int 0, .ref q80, .ref q82, .ref q84, .ref q86, .ref q88, .ref q90, .ref q91, .ref q93, .ref q94, .ref q105, .ref q106, .ref q124, .ref q131, .int 0, .int 0, .int 0, .int 0, .int 0, .int 0, .int 0, .int 0, .int 0, .ref q132, .ref q133, .ref q134, .ref q135, .ref q136, .ref q137, .ref q138, .ref q139, .ref q140, .int 0])), (q124, .inr (15, [.int 0, .ref q125, .ref q126, .ref q127, .ref q128, .ref q129, .int 0, .null, .int 0, .int 0, .int 0])), (q129, .inl (y130, 32768, .inl (fun _ => 0))), (q140, .inl (y141, 32768, .inl (fun _ => 0))), (q1, .inr (13, [.ref q2, .int 0, .int 0, .ref q4, .ref q6, .ref q8, .ref q22, .ref q37, .ref q39, .ref q41, .int 1, .ref q43])), (q22, .inr (12, [.ref q23, .ref q25, .ref q31, .ref q32, .ref q33, .ref q34, .int 0, .ref q35, .ref q36, .int 0, .int 0, .int 0, .int 0, .int 0, .int 0, .int 0])), (q25, .inr (4, [.ref q26, .ref q27, .ref q28, .ref q29, .int 0, .int 0, .ref q41, .int 1, .int 0, .int 0, .int 0])), (q41, .inl (y42, 32768, .inl f501))] := hD
  have hK : va_K (dC, dI) vwCl [(y130, .int), (y141, .int), (y42, .byte)] s := hK
  refine W.widen (k := 455) (n := 2511899) (by decide +kernel) (by decide +kernel) ?_
  refine lv_aload_n hx hb dL_law_1421 rfl (lv_at hl 2 rfl) ?_
  have hPc := hP.sub (ws' := [(q77, .inr (20, [.int 0, .ref q78, .int 0, .int 0, .ref q80, .ref q82, .ref q84, .ref q86, .ref q88, .ref q90, .ref q91, .ref q93, .ref q94, .ref q105, .ref q106, .ref q124, .ref q131, .int 0, .int 0, .int 0, .int 0, .int 0, .int 0, .int 0, .int 0, .int 0, .ref q132, .ref q133, .ref q134, .ref q135, .ref q136, .ref q137, .ref q138, .ref q139, .ref q140, .int 0])), (q124, .inr (15, [.int 0, .ref q125, .ref q126, .ref q127, .ref q128, .ref q129, .int 0, .null, .int 0, .int 0, .int 0])), (q129, .inl (y130, 32768, .inl (fun _ => 0))), (q140, .inl (y141, 32768, .inl (fun _ => 0)))]) [0, 1, 2, 3] rfl
  have hDc := hD.sub (ws' := [(q77, .inr (20, [.int 0, .ref q78, .int 0, .int 0, .ref q80, .ref q82, .ref q84, .ref q86, .ref q88, .ref q90, .ref q91, .ref q93, .ref q94, .ref q105, .ref q106, .ref q124, .ref q131, .int 0, .int 0, .int 0, .int 0, .int 0, .int 0, .int 0, .int 0, .int 0, .ref q132, .ref q133, .ref q134, .ref q135, .ref q136, .ref q137, .ref q138, .ref q139, .ref q140, .int 0])), (q124, .inr (15, [.int 0, .ref q125, .ref q126, .ref q127, .ref q128, .ref q129, .int 0, .null, .int 0, .int 0, .int 0])), (q129, .inl (y130, 32768, .inl (fun _ => 0))), (q140, .inl (y141, 32768, .inl (fun _ => 0)))]) [0, 1, 2, 3] (by decide) rfl
  have hKc := hK.sub (tys' := [(y130, .int), (y141, .int)]) [0, 1] rfl
  have hFc := va_free (wc := [(q77, .inr (20, [.int 0, .ref q78, .int 0, .int 0, .ref q80, .ref q82, .ref q84, .ref q86, .ref q88, .ref q90, .ref q91, .ref q93, .ref q94, .ref q105, .ref q106, .ref q124, .ref q131, .int 0, .int 0, .int 0, .int 0, .int 0, .int 0, .int 0, .int 0, .int 0, .ref q132, .ref q133, .ref q134, .ref q135, .ref q136, .ref q137, .ref q138, .ref q139, .ref q140, .int 0])), (q124, .inr (15, [.int 0, .ref q125, .ref q126, .ref q127, .ref q128, .ref q129, .int 0, .null, .int 0, .int 0, .int 0])), (q129, .inl (y130, 32768, .inl (fun _ => 0))), (q140, .inl (y141, 32768, .inl (fun _ => 0)))]) hD hS hA [0, 1, 2, 3] rfl
  refine va_calli (va_runV (As := []) (rest := [.int 1]) ⟨hx, hb, hml, hown, hts⟩ (k_X19_pack l hlt dC dI q77 q124 q129 y130 q140 y141 q78 q80 q82 q84 q86 q88 q90 q91 q93 q94 q105 q106 q131 q132 q133 q134 q135 q136 q137 q138 q139 q125 q126 q127 q128  H.size) (cwV 0 hts gl_62 rfl rfl rfl (by decide +kernel) ⟨Nat.le_of_ble_eq_true rfl, Nat.le_of_ble_eq_true rfl⟩) ⟨fun a U g mk q => by obtain ⟨q0, q1, qP, qK, qD, qN⟩ := q; exact ⟨q0, q1, qP, va_K.moved (u := U) (U := U.calling g mk a) (Vm.Alike.refl U.vm) qK, qD, nv_same rfl rfl qN⟩, va_recv hKc hPc (ci := 20) (q0 := 0) rfl rfl, fun U hU hW => ⟨rfl, by rw [hU], by rw [hU]; exact hPc, va_K.moved hW.alike hKc, hDc.weaken (fun _ _ _ _ => trivial), nv_call hS hFc hU hW hN⟩⟩ rfl rfl hl.1 rfl (lv_room (Nat.le_of_ble_eq_true rfl)) dL_law_1422 ⟨by decide +kernel, by decide +kernel⟩) hS (fun q _ h => hFc q h) hFc (fun r505 u t H1 locs ht hvm hw hB hz1 hk1 hS => ?_)
  obtain ⟨f503, f504, hP1, hK1, hD1⟩ := hB
  rw [ht] at hP1
  have hK1 := va_K.moved hvm.symm hK1
  obtain rfl : r505 = 1 := hw
  obtain ⟨hP, hD⟩ := va_join (wr := [(q1, .inr (13, [.ref q2, .int 0, .int 0, .ref q4, .ref q6, .ref q8, .ref q22, .ref q37, .ref q39, .ref q41, .int 1, .ref q43])), (q22, .inr (12, [.ref q23, .ref q25, .ref q31, .ref q32, .ref q33, .ref q34, .int 0, .ref q35, .ref q36, .int 0, .int 0, .int 0, .int 0, .int 0, .int 0, .int 0])), (q25, .inr (4, [.ref q26, .ref q27, .ref q28, .ref q29, .int 0, .int 0, .ref q41, .int 1, .int 0, .int 0, .int 0])), (q41, .inl (y42, 32768, .inl f501))]) (w1 := [(q77, .inr (20, [.int 0, .ref q78, .int 0, .int 0, .ref q80, .ref q82, .ref q84, .ref q86, .ref q88, .ref q90, .ref q91, .ref q93, .ref q94, .ref q105, .ref q106, .ref q124, .ref q131, .int 0, .int 0, .int 0, .int 0, .int 0, .int 0, .int 0, .int 0, .int 0, .ref q132, .ref q133, .ref q134, .ref q135, .ref q136, .ref q137, .ref q138, .ref q139, .ref q140, .int 1])), (q140, .inl (y141, 32768, .inl f504)), (q129, .inl (y130, 32768, .inl f503)), (q124, .inr (15, [.int 0, .ref q125, .ref q126, .ref q127, .ref q128, .ref q129, .int 1, .null, .int 0, .int 0, .int 0]))]) hP hD [0, 1, 2, 3] [4, 5, 6, 7] rfl rfl (by decide) (by decide) hk1 hFc hP1 hD1
  have hK := (hK.sub (tys' := [(y42, .byte)]) [2] rfl).app hK1
  generalize H1 = H at hP hS ⊢
  have hP : va_P (dC, dI) vwCl [(q1, .inr (13, [.ref q2, .int 0, .int 0, .ref q4, .ref q6, .ref q8, .ref q22, .ref q37, .ref q39, .ref q41, .int 1, .ref q43])), (q22, .inr (12, [.ref q23, .ref q25, .ref q31, .ref q32, .ref q33, .ref q34, .int 0, .ref q35, .ref q36, .int 0, .int 0, .int 0, .int 0, .int 0, .int 0, .int 0])), (q25, .inr (4, [.ref q26, .ref q27, .ref q28, .ref q29, .int 0, .int 0, .ref q41, .int 1, .int 0, .int 0, .int 0])), (q41, .inl (y42, 32768, .inl f501)), (q77, .inr (20, [.int 0, .ref q78, .int 0, .int 0, .ref q80, .ref q82, .ref q84, .ref q86, .ref q88, .ref q90, .ref q91, .ref q93, .ref q94, .ref q105, .ref q106, .ref q124, .ref q131, .int 0, .int 0, .int 0, .int 0, .int 0, .int 0, .int 0, .int 0, .int 0, .ref q132, .ref q133, .ref q134, .ref q135, .ref q136, .ref q137, .ref q138, .ref q139, .ref q140, .int 1])), (q140, .inl (y141, 32768, .inl f504)), (q129, .inl (y130, 32768, .inl f503)), (q124, .inr (15, [.int 0, .ref q125, .ref q126, .ref q127, .ref q128, .ref q129, .int 1, .null, .int 0, .int 0, .int 0]))] H := hP
  have hD : va_D A [(q1, .inr (13, [.ref q2, .int 0, .int 0, .ref q4, .ref q6, .ref q8, .ref q22, .ref q37, .ref q39, .ref q41, .int 1, .ref q43])), (q22, .inr (12, [.ref q23, .ref q25, .ref q31, .ref q32, .ref q33, .ref q34, .int 0, .ref q35, .ref q36, .int 0, .int 0, .int 0, .int 0, .int 0, .int 0, .int 0])), (q25, .inr (4, [.ref q26, .ref q27, .ref q28, .ref q29, .int 0, .int 0, .ref q41, .int 1, .int 0, .int 0, .int 0])), (q41, .inl (y42, 32768, .inl f501)), (q77, .inr (20, [.int 0, .ref q78, .int 0, .int 0, .ref q80, .ref q82, .ref q84, .ref q86, .ref q88, .ref q90, .ref q91, .ref q93, .ref q94, .ref q105, .ref q106, .ref q124, .ref q131, .int 0, .int 0, .int 0, .int 0, .int 0, .int 0, .int 0, .int 0, .int 0, .ref q132, .ref q133, .ref q134, .ref q135, .ref q136, .ref q137, .ref q138, .ref q139, .ref q140, .int 1])), (q140, .inl (y141, 32768, .inl f504)), (q129, .inl (y130, 32768, .inl f503)), (q124, .inr (15, [.int 0, .ref q125, .ref q126, .ref q127, .ref q128, .ref q129, .int 1, .null, .int 0, .int 0, .int 0]))] := hD
  have hK : va_K (dC, dI) vwCl [(y42, .byte), (y141, .int), (y130, .int)] s := hK
  refine W.widen (k := 455) (n := 2511899) (by decide +kernel) (by decide +kernel) ?_
  refine lv_icmp_eq (tgt := 1493) hx hb dL_law_1425 (by decide) (fun _ => ?_) (fun h9 => absurd (by decide) h9)
  refine lv_iinc (v := 6) (lv' := [(4, .int 6), (3, .ref q143), (2, .ref q77), (1, .ref q1), (0, .ref b)]) hx hb dL_law_1493 hl (k := 0) rfl (by decide) (by decide) rfl (fun ls hl => ?_)
  refine lv_goto (tgt := 23) hx hb dL_law_1496 (by decide) ?_
  refine W.widen (k := 600002) (n := 7302232) (by decide +kernel) (by decide +kernel) ?_
  exact kkE _ _ _ hS (lv_sub hl [0, 4] rfl)
set_option maxHeartbeats 40000000 in
set_option maxRecDepth 100000 in
theorem law_c29 {p : Program} {l : Launch} {e : Env} {s : State} {m : MethodId} {below : List Frame} {meth : Method} {c : Code} {Q : State → Prop} {A : Nat → Prop} {b : Nat} (hlt : l.stackTraces = false) (hx : p.tables.exec = Jvm.exec) (hb : c.code = code) (hml : c.maxLocals = 8) (hown : s.vm.findClass RL = some m.cls) (hts : ∀ w ∈ lw_tbl, w.before #[Value.ref b] s = true) (hN : nv_E A s) (hA : ∀ q : Nat, s.heap.size ≤ q → A q) (hDe : nv_Dc s) (dC : Nat → ClassId) (dI : Nat → Nat → Nat) (q1 : Nat) (q2 : Nat) (q4 : Nat) (q6 : Nat) (q8 : Nat) (q22 : Nat) (q37 : Nat) (q39 : Nat) (q41 : Nat) (q43 : Nat) (q77 : Nat) (q78 : Nat) (q80 : Nat) (q82 : Nat) (q84 : Nat) (q86 : Nat) (q88 : Nat) (q90 : Nat) (q91 : Nat) (q93 : Nat) (q94 : Nat) (q105 : Nat) (q106 : Nat) (q124 : Nat) (q131 : Nat) (q132 : Nat) (q133 : Nat) (q134 : Nat) (q135 : Nat) (q136 : Nat) (q137 : Nat) (q138 : Nat) (q139 : Nat) (q140 : Nat) (q143 : Nat) {xs : Nat → Int32} (hX : va_X b 6 xs s s.heap) (hbl : b < s.heap.size) (hbA : ¬ A b) (x0 : Int32) (es0 : xs (Int32.toNatClampNeg 0) = x0) (x1 : Int32) (es1 : xs (Int32.toNatClampNeg 1) = x1) (x2 : Int32) (es2 : xs (Int32.toNatClampNeg 2) = x2) (x3 : Int32) (es3 : xs (Int32.toNatClampNeg 3) = x3) (x4 : Int32) (es4 : xs (Int32.toNatClampNeg 4) = x4) (x5 : Int32) (es5 : xs (Int32.toNatClampNeg 5) = x5) {H : Heap} {locs : List Loc} {ls : Array Slot} (hK : va_K (dC, dI) vwCl [] s) (hP : va_P (dC, dI) vwCl [(q1, .inr (13, [.ref q2, .int 0, .int 0, .ref q4, .ref q6, .ref q8, .ref q22, .ref q37, .ref q39, .ref q41, .int 0, .ref q43])), (q77, .inr (20, [.int 0, .ref q78, .int 0, .int 0, .ref q80, .ref q82, .ref q84, .ref q86, .ref q88, .ref q90, .ref q91, .ref q93, .ref q94, .ref q105, .ref q106, .ref q124, .ref q131, .int 0, .int 0, .int 0, .int 0, .int 0, .int 0, .int 0, .int 0, .int 0, .ref q132, .ref q133, .ref q134, .ref q135, .ref q136, .ref q137, .ref q138, .ref q139, .ref q140, .int 0]))] H) (hD : va_D A [(q1, .inr (13, [.ref q2, .int 0, .int 0, .ref q4, .ref q6, .ref q8, .ref q22, .ref q37, .ref q39, .ref q41, .int 0, .ref q43])), (q77, .inr (20, [.int 0, .ref q78, .int 0, .int 0, .ref q80, .ref q82, .ref q84, .ref q86, .ref q88, .ref q90, .ref q91, .ref q93, .ref q94, .ref q105, .ref q106, .ref q124, .ref q131, .int 0, .int 0, .int 0, .int 0, .int 0, .int 0, .int 0, .int 0, .int 0, .ref q132, .ref q133, .ref q134, .ref q135, .ref q136, .ref q137, .ref q138, .ref q139, .ref q140, .int 0]))]) (hS : va_S A s.heap H locs) (hl : lv_has ls 8 [(4, .int 0), (3, .ref q143), (2, .ref q77), (1, .ref q1), (0, .ref b)]) (kkE : ∀ (H : Heap) (locs : List Loc) (ls : Array Slot), va_S A s.heap H locs → lv_has ls 8 [(4, .int 6), (0, .ref b)] → W p l e room_1 s m #[Value.ref b] below meth c H locs 600002 7302232 Q (F0 m 23 ls [])) : W p l e room_1 s m #[Value.ref b] below meth c H locs 455 2511899 Q (F0 m 1430 ls []) := by
  refine lv_aload_n hx hb dL_law_1430 rfl (lv_at hl 3 rfl) ?_
  refine lv_aload_n hx hb dL_law_1431 rfl (lv_at hl 4 rfl) ?_
  refine lv_iload hx hb dL_law_1432 (lv_at hl 0 rfl) ?_
  refine lv_iconst (v := 1) hx hb dL_law_1434 (by decide) ?_
  refine lv_iadd hx hb dL_law_1435 ?_
  refine lv_topi (fun z501 ez501 => ?_)
  obtain rfl : z501 = 1 := ez501.trans (by decide)
  refine va_sld (i := 1) hx hb hX hbl hbA hS (vp_in_iff.mpr ⟨by decide, by decide⟩) dL_law_1436 ?_
  rw [es1]
  have hPc := hP.sub (ws' := [(q1, .inr (13, [.ref q2, .int 0, .int 0, .ref q4, .ref q6, .ref q8, .ref q22, .ref q37, .ref q39, .ref q41, .int 0, .ref q43]))]) [0] rfl
  have hDc := hD.sub (ws' := [(q1, .inr (13, [.ref q2, .int 0, .int 0, .ref q4, .ref q6, .ref q8, .ref q22, .ref q37, .ref q39, .ref q41, .int 0, .ref q43]))]) [0] (by decide) rfl
  have hKc := hK.sub (tys' := []) [] rfl
  have hFc := va_free (wc := [(q1, .inr (13, [.ref q2, .int 0, .int 0, .ref q4, .ref q6, .ref q8, .ref q22, .ref q37, .ref q39, .ref q41, .int 0, .ref q43]))]) hD hS hA [0] rfl
  refine va_calli (va_runV (As := [.int x1]) (rest := []) ⟨hx, hb, hml, hown, hts⟩ (k_X12_logByte l hlt dC dI q1 x1 q2 q4 q6 q8 q22 q37 q39 q41 q43  H.size) (cwV 1 hts gl_63 rfl rfl rfl (by decide +kernel) ⟨Nat.le_of_ble_eq_true rfl, Nat.le_of_ble_eq_true rfl⟩) ⟨fun a U g mk q => by obtain ⟨q0, q1, qP, qK, qD, qN⟩ := q; exact ⟨q0, q1, qP, va_K.moved (u := U) (U := U.calling g mk a) (Vm.Alike.refl U.vm) qK, qD, nv_same rfl rfl qN⟩, va_recv hKc hPc (ci := 13) (q0 := 0) rfl rfl, fun U hU hW => ⟨rfl, by rw [hU], by rw [hU]; exact hPc, va_K.moved hW.alike hKc, hDc.weaken (fun _ _ _ _ => trivial), nv_call hS hFc hU hW hN⟩⟩ rfl rfl hl.1 rfl (lv_room (Nat.le_of_ble_eq_true rfl)) dL_law_1437 ⟨by decide +kernel, by decide +kernel⟩) hS (fun q _ h => hFc q h) hFc (fun r502 u t H1 locs ht hvm hw hB hz1 hk1 hS => ?_)
  rcases hw with ⟨c_1_0, h9⟩ | ⟨c_1_0, h9⟩ | h9
  · subst h9
    have hK1 := hK.sub (tys' := []) [] rfl
    obtain ⟨hP, hD⟩ := va_join (wr := [(q77, .inr (20, [.int 0, .ref q78, .int 0, .int 0, .ref q80, .ref q82, .ref q84, .ref q86, .ref q88, .ref q90, .ref q91, .ref q93, .ref q94, .ref q105, .ref q106, .ref q124, .ref q131, .int 0, .int 0, .int 0, .int 0, .int 0, .int 0, .int 0, .int 0, .int 0, .ref q132, .ref q133, .ref q134, .ref q135, .ref q136, .ref q137, .ref q138, .ref q139, .ref q140, .int 0]))]) (w1 := []) hP hD [0] [1] rfl rfl (by decide) (by decide) hk1 hFc nv_P0 nv_D0
    have hK := (hK.sub (tys' := []) [] rfl).app hK1
    generalize H1 = H at hP hS ⊢
    have hP : va_P (dC, dI) vwCl [(q77, .inr (20, [.int 0, .ref q78, .int 0, .int 0, .ref q80, .ref q82, .ref q84, .ref q86, .ref q88, .ref q90, .ref q91, .ref q93, .ref q94, .ref q105, .ref q106, .ref q124, .ref q131, .int 0, .int 0, .int 0, .int 0, .int 0, .int 0, .int 0, .int 0, .int 0, .ref q132, .ref q133, .ref q134, .ref q135, .ref q136, .ref q137, .ref q138, .ref q139, .ref q140, .int 0]))] H := hP
    have hD : va_D A [(q77, .inr (20, [.int 0, .ref q78, .int 0, .int 0, .ref q80, .ref q82, .ref q84, .ref q86, .ref q88, .ref q90, .ref q91, .ref q93, .ref q94, .ref q105, .ref q106, .ref q124, .ref q131, .int 0, .int 0, .int 0, .int 0, .int 0, .int 0, .int 0, .int 0, .int 0, .ref q132, .ref q133, .ref q134, .ref q135, .ref q136, .ref q137, .ref q138, .ref q139, .ref q140, .int 0]))] := hD
    have hK : va_K (dC, dI) vwCl [] s := hK
    refine W.widen (k := 455) (n := 2511899) (by decide +kernel) (by decide +kernel) ?_
    refine lv_aload_n hx hb dL_law_1440 rfl (lv_at hl 2 rfl) ?_
    refine lv_aload_n hx hb dL_law_1441 rfl (lv_at hl 4 rfl) ?_
    refine lv_iload hx hb dL_law_1442 (lv_at hl 0 rfl) ?_
    refine lv_iconst (v := 1) hx hb dL_law_1444 (by decide) ?_
    refine lv_iadd hx hb dL_law_1445 ?_
    refine lv_topi (fun z503 ez503 => ?_)
    obtain rfl : z503 = 1 := ez503.trans (by decide)
    refine va_sld (i := 1) hx hb hX hbl hbA hS (vp_in_iff.mpr ⟨by decide, by decide⟩) dL_law_1446 ?_
    rw [es1]
    have hPc := hP.sub (ws' := [(q77, .inr (20, [.int 0, .ref q78, .int 0, .int 0, .ref q80, .ref q82, .ref q84, .ref q86, .ref q88, .ref q90, .ref q91, .ref q93, .ref q94, .ref q105, .ref q106, .ref q124, .ref q131, .int 0, .int 0, .int 0, .int 0, .int 0, .int 0, .int 0, .int 0, .int 0, .ref q132, .ref q133, .ref q134, .ref q135, .ref q136, .ref q137, .ref q138, .ref q139, .ref q140, .int 0]))]) [0] rfl
    have hDc := hD.sub (ws' := [(q77, .inr (20, [.int 0, .ref q78, .int 0, .int 0, .ref q80, .ref q82, .ref q84, .ref q86, .ref q88, .ref q90, .ref q91, .ref q93, .ref q94, .ref q105, .ref q106, .ref q124, .ref q131, .int 0, .int 0, .int 0, .int 0, .int 0, .int 0, .int 0, .int 0, .int 0, .ref q132, .ref q133, .ref q134, .ref q135, .ref q136, .ref q137, .ref q138, .ref q139, .ref q140, .int 0]))]) [0] (by decide) rfl
    have hKc := hK.sub (tys' := []) [] rfl
    have hFc := va_free (wc := [(q77, .inr (20, [.int 0, .ref q78, .int 0, .int 0, .ref q80, .ref q82, .ref q84, .ref q86, .ref q88, .ref q90, .ref q91, .ref q93, .ref q94, .ref q105, .ref q106, .ref q124, .ref q131, .int 0, .int 0, .int 0, .int 0, .int 0, .int 0, .int 0, .int 0, .int 0, .ref q132, .ref q133, .ref q134, .ref q135, .ref q136, .ref q137, .ref q138, .ref q139, .ref q140, .int 0]))]) hD hS hA [0] rfl
    refine va_calli (va_runV (As := [.int x1]) (rest := [.int (-1)]) ⟨hx, hb, hml, hown, hts⟩ (k_X19_logByte l hlt dC dI q77 x1 q78 q80 q82 q84 q86 q88 q90 q91 q93 q94 q105 q106 q124 q131 q132 q133 q134 q135 q136 q137 q138 q139 q140  H.size) (cwV 1 hts gl_64 rfl rfl rfl (by decide +kernel) ⟨Nat.le_of_ble_eq_true rfl, Nat.le_of_ble_eq_true rfl⟩) ⟨fun a U g mk q => by obtain ⟨q0, q1, qP, qK, qD, qN⟩ := q; exact ⟨q0, q1, qP, va_K.moved (u := U) (U := U.calling g mk a) (Vm.Alike.refl U.vm) qK, qD, nv_same rfl rfl qN⟩, va_recv hKc hPc (ci := 20) (q0 := 0) rfl rfl, fun U hU hW => ⟨rfl, by rw [hU], by rw [hU]; exact hPc, va_K.moved hW.alike hKc, hDc.weaken (fun _ _ _ _ => trivial), nv_call hS hFc hU hW hN⟩⟩ rfl rfl hl.1 rfl (lv_room (Nat.le_of_ble_eq_true rfl)) dL_law_1447 ⟨by decide +kernel, by decide +kernel⟩) hS (fun q _ h => hFc q h) hFc (fun r504 u t H1 locs ht hvm hw hB hz1 hk1 hS => ?_)
    rcases hw with ⟨c_2_0, h9⟩ | ⟨c_2_0, h9⟩ | h9
    · subst h9
      have hK1 := hK.sub (tys' := []) [] rfl
      obtain ⟨hP, hD⟩ := va_join (wr := []) (w1 := []) hP hD [0] [] rfl rfl (by decide) (by decide) hk1 hFc nv_P0 nv_D0
      have hK := (hK.sub (tys' := []) [] rfl).app hK1
      generalize H1 = H at hP hS ⊢
      have hP : va_P (dC, dI) vwCl [] H := hP
      have hD : va_D A [] := hD
      have hK : va_K (dC, dI) vwCl [] s := hK
      refine W.widen (k := 455) (n := 2511899) (by decide +kernel) (by decide +kernel) ?_
      refine lv_icmp_eq (tgt := 1493) hx hb dL_law_1450 (by decide) (fun _ => ?_) (fun h9 => absurd (by decide) h9)
      refine lv_iinc (v := 6) (lv' := [(4, .int 6), (3, .ref q143), (2, .ref q77), (1, .ref q1), (0, .ref b)]) hx hb dL_law_1493 hl (k := 0) rfl (by decide) (by decide) rfl (fun ls hl => ?_)
      refine lv_goto (tgt := 23) hx hb dL_law_1496 (by decide) ?_
      refine W.widen (k := 600002) (n := 7302232) (by decide +kernel) (by decide +kernel) ?_
      exact kkE _ _ _ hS (lv_sub hl [0, 4] rfl)
    · exact absurd c_1_0 c_2_0
    · exact h9.elim
  · subst h9
    have hK1 := hK.sub (tys' := []) [] rfl
    obtain ⟨hP, hD⟩ := va_join (wr := [(q77, .inr (20, [.int 0, .ref q78, .int 0, .int 0, .ref q80, .ref q82, .ref q84, .ref q86, .ref q88, .ref q90, .ref q91, .ref q93, .ref q94, .ref q105, .ref q106, .ref q124, .ref q131, .int 0, .int 0, .int 0, .int 0, .int 0, .int 0, .int 0, .int 0, .int 0, .ref q132, .ref q133, .ref q134, .ref q135, .ref q136, .ref q137, .ref q138, .ref q139, .ref q140, .int 0]))]) (w1 := []) hP hD [0] [1] rfl rfl (by decide) (by decide) hk1 hFc nv_P0 nv_D0
    have hK := (hK.sub (tys' := []) [] rfl).app hK1
    generalize H1 = H at hP hS ⊢
    have hP : va_P (dC, dI) vwCl [(q77, .inr (20, [.int 0, .ref q78, .int 0, .int 0, .ref q80, .ref q82, .ref q84, .ref q86, .ref q88, .ref q90, .ref q91, .ref q93, .ref q94, .ref q105, .ref q106, .ref q124, .ref q131, .int 0, .int 0, .int 0, .int 0, .int 0, .int 0, .int 0, .int 0, .int 0, .ref q132, .ref q133, .ref q134, .ref q135, .ref q136, .ref q137, .ref q138, .ref q139, .ref q140, .int 0]))] H := hP
    have hD : va_D A [(q77, .inr (20, [.int 0, .ref q78, .int 0, .int 0, .ref q80, .ref q82, .ref q84, .ref q86, .ref q88, .ref q90, .ref q91, .ref q93, .ref q94, .ref q105, .ref q106, .ref q124, .ref q131, .int 0, .int 0, .int 0, .int 0, .int 0, .int 0, .int 0, .int 0, .int 0, .ref q132, .ref q133, .ref q134, .ref q135, .ref q136, .ref q137, .ref q138, .ref q139, .ref q140, .int 0]))] := hD
    have hK : va_K (dC, dI) vwCl [] s := hK
    refine W.widen (k := 455) (n := 2511899) (by decide +kernel) (by decide +kernel) ?_
    refine lv_aload_n hx hb dL_law_1440 rfl (lv_at hl 2 rfl) ?_
    refine lv_aload_n hx hb dL_law_1441 rfl (lv_at hl 4 rfl) ?_
    refine lv_iload hx hb dL_law_1442 (lv_at hl 0 rfl) ?_
    refine lv_iconst (v := 1) hx hb dL_law_1444 (by decide) ?_
    refine lv_iadd hx hb dL_law_1445 ?_
    refine lv_topi (fun z505 ez505 => ?_)
    obtain rfl : z505 = 1 := ez505.trans (by decide)
    refine va_sld (i := 1) hx hb hX hbl hbA hS (vp_in_iff.mpr ⟨by decide, by decide⟩) dL_law_1446 ?_
    rw [es1]
    have hPc := hP.sub (ws' := [(q77, .inr (20, [.int 0, .ref q78, .int 0, .int 0, .ref q80, .ref q82, .ref q84, .ref q86, .ref q88, .ref q90, .ref q91, .ref q93, .ref q94, .ref q105, .ref q106, .ref q124, .ref q131, .int 0, .int 0, .int 0, .int 0, .int 0, .int 0, .int 0, .int 0, .int 0, .ref q132, .ref q133, .ref q134, .ref q135, .ref q136, .ref q137, .ref q138, .ref q139, .ref q140, .int 0]))]) [0] rfl
    have hDc := hD.sub (ws' := [(q77, .inr (20, [.int 0, .ref q78, .int 0, .int 0, .ref q80, .ref q82, .ref q84, .ref q86, .ref q88, .ref q90, .ref q91, .ref q93, .ref q94, .ref q105, .ref q106, .ref q124, .ref q131, .int 0, .int 0, .int 0, .int 0, .int 0, .int 0, .int 0, .int 0, .int 0, .ref q132, .ref q133, .ref q134, .ref q135, .ref q136, .ref q137, .ref q138, .ref q139, .ref q140, .int 0]))]) [0] (by decide) rfl
    have hKc := hK.sub (tys' := []) [] rfl
    have hFc := va_free (wc := [(q77, .inr (20, [.int 0, .ref q78, .int 0, .int 0, .ref q80, .ref q82, .ref q84, .ref q86, .ref q88, .ref q90, .ref q91, .ref q93, .ref q94, .ref q105, .ref q106, .ref q124, .ref q131, .int 0, .int 0, .int 0, .int 0, .int 0, .int 0, .int 0, .int 0, .int 0, .ref q132, .ref q133, .ref q134, .ref q135, .ref q136, .ref q137, .ref q138, .ref q139, .ref q140, .int 0]))]) hD hS hA [0] rfl
    refine va_calli (va_runV (As := [.int x1]) (rest := [.int (-1)]) ⟨hx, hb, hml, hown, hts⟩ (k_X19_logByte l hlt dC dI q77 x1 q78 q80 q82 q84 q86 q88 q90 q91 q93 q94 q105 q106 q124 q131 q132 q133 q134 q135 q136 q137 q138 q139 q140  H.size) (cwV 1 hts gl_64 rfl rfl rfl (by decide +kernel) ⟨Nat.le_of_ble_eq_true rfl, Nat.le_of_ble_eq_true rfl⟩) ⟨fun a U g mk q => by obtain ⟨q0, q1, qP, qK, qD, qN⟩ := q; exact ⟨q0, q1, qP, va_K.moved (u := U) (U := U.calling g mk a) (Vm.Alike.refl U.vm) qK, qD, nv_same rfl rfl qN⟩, va_recv hKc hPc (ci := 20) (q0 := 0) rfl rfl, fun U hU hW => ⟨rfl, by rw [hU], by rw [hU]; exact hPc, va_K.moved hW.alike hKc, hDc.weaken (fun _ _ _ _ => trivial), nv_call hS hFc hU hW hN⟩⟩ rfl rfl hl.1 rfl (lv_room (Nat.le_of_ble_eq_true rfl)) dL_law_1447 ⟨by decide +kernel, by decide +kernel⟩) hS (fun q _ h => hFc q h) hFc (fun r506 u t H1 locs ht hvm hw hB hz1 hk1 hS => ?_)
    rcases hw with ⟨c_3_0, h9⟩ | ⟨c_3_0, h9⟩ | h9
    · exact absurd c_3_0 c_1_0
    · subst h9
      have hK1 := hK.sub (tys' := []) [] rfl
      obtain ⟨hP, hD⟩ := va_join (wr := []) (w1 := []) hP hD [0] [] rfl rfl (by decide) (by decide) hk1 hFc nv_P0 nv_D0
      have hK := (hK.sub (tys' := []) [] rfl).app hK1
      generalize H1 = H at hP hS ⊢
      have hP : va_P (dC, dI) vwCl [] H := hP
      have hD : va_D A [] := hD
      have hK : va_K (dC, dI) vwCl [] s := hK
      refine W.widen (k := 455) (n := 2511899) (by decide +kernel) (by decide +kernel) ?_
      refine lv_icmp_eq (tgt := 1493) hx hb dL_law_1450 (by decide) (fun _ => ?_) (fun h9 => absurd (by decide) h9)
      refine lv_iinc (v := 6) (lv' := [(4, .int 6), (3, .ref q143), (2, .ref q77), (1, .ref q1), (0, .ref b)]) hx hb dL_law_1493 hl (k := 0) rfl (by decide) (by decide) rfl (fun ls hl => ?_)
      refine lv_goto (tgt := 23) hx hb dL_law_1496 (by decide) ?_
      refine W.widen (k := 600002) (n := 7302232) (by decide +kernel) (by decide +kernel) ?_
      exact kkE _ _ _ hS (lv_sub hl [0, 4] rfl)
    · exact h9.elim
  · exact h9.elim
set_option maxHeartbeats 40000000 in
set_option maxRecDepth 100000 in
theorem law_c30 {p : Program} {l : Launch} {e : Env} {s : State} {m : MethodId} {below : List Frame} {meth : Method} {c : Code} {Q : State → Prop} {A : Nat → Prop} {b : Nat} (hlt : l.stackTraces = false) (hx : p.tables.exec = Jvm.exec) (hb : c.code = code) (hml : c.maxLocals = 8) (hown : s.vm.findClass RL = some m.cls) (hts : ∀ w ∈ lw_tbl, w.before #[Value.ref b] s = true) (hN : nv_E A s) (hA : ∀ q : Nat, s.heap.size ≤ q → A q) (hDe : nv_Dc s) (dC : Nat → ClassId) (dI : Nat → Nat → Nat) (q1 : Nat) (q2 : Nat) (q4 : Nat) (q6 : Nat) (q8 : Nat) (q22 : Nat) (q23 : Nat) (q25 : Nat) (q26 : Nat) (q27 : Nat) (q28 : Nat) (q29 : Nat) (q30 : Nat) (q31 : Nat) (q32 : Nat) (q33 : Nat) (q34 : Nat) (q35 : Nat) (q36 : Nat) (q37 : Nat) (q39 : Nat) (q41 : Nat) (q43 : Nat) (q77 : Nat) (q78 : Nat) (q80 : Nat) (q82 : Nat) (q84 : Nat) (q86 : Nat) (q88 : Nat) (q90 : Nat) (q91 : Nat) (q93 : Nat) (q94 : Nat) (q105 : Nat) (q106 : Nat) (q124 : Nat) (q131 : Nat) (q132 : Nat) (q133 : Nat) (q134 : Nat) (q135 : Nat) (q136 : Nat) (q137 : Nat) (q138 : Nat) (q139 : Nat) (q140 : Nat) (q143 : Nat) {xs : Nat → Int32} (hX : va_X b 6 xs s s.heap) (hbl : b < s.heap.size) (hbA : ¬ A b) (x0 : Int32) (es0 : xs (Int32.toNatClampNeg 0) = x0) (x1 : Int32) (es1 : xs (Int32.toNatClampNeg 1) = x1) (x2 : Int32) (es2 : xs (Int32.toNatClampNeg 2) = x2) (x3 : Int32) (es3 : xs (Int32.toNatClampNeg 3) = x3) (x4 : Int32) (es4 : xs (Int32.toNatClampNeg 4) = x4) (x5 : Int32) (es5 : xs (Int32.toNatClampNeg 5) = x5) {H : Heap} {locs : List Loc} {ls : Array Slot} (hK : va_K (dC, dI) vwCl [] s) (hP : va_P (dC, dI) vwCl [(q1, .inr (13, [.ref q2, .int 0, .int 0, .ref q4, .ref q6, .ref q8, .ref q22, .ref q37, .ref q39, .ref q41, .int 0, .ref q43])), (q22, .inr (12, [.ref q23, .ref q25, .ref q31, .ref q32, .ref q33, .ref q34, .int 0, .ref q35, .ref q36, .int 0, .int 0, .int 0, .int 0, .int 0, .int 0, .int 0])), (q25, .inr (4, [.ref q26, .ref q27, .ref q28, .ref q29, .int 0, .int 0, .ref q30, .int 0, .int 0, .int 0, .int 0])), (q77, .inr (20, [.int 0, .ref q78, .int 0, .int 0, .ref q80, .ref q82, .ref q84, .ref q86, .ref q88, .ref q90, .ref q91, .ref q93, .ref q94, .ref q105, .ref q106, .ref q124, .ref q131, .int 0, .int 0, .int 0, .int 0, .int 0, .int 0, .int 0, .int 0, .int 0, .ref q132, .ref q133, .ref q134, .ref q135, .ref q136, .ref q137, .ref q138, .ref q139, .ref q140, .int 0]))] H) (hD : va_D A [(q1, .inr (13, [.ref q2, .int 0, .int 0, .ref q4, .ref q6, .ref q8, .ref q22, .ref q37, .ref q39, .ref q41, .int 0, .ref q43])), (q22, .inr (12, [.ref q23, .ref q25, .ref q31, .ref q32, .ref q33, .ref q34, .int 0, .ref q35, .ref q36, .int 0, .int 0, .int 0, .int 0, .int 0, .int 0, .int 0])), (q25, .inr (4, [.ref q26, .ref q27, .ref q28, .ref q29, .int 0, .int 0, .ref q30, .int 0, .int 0, .int 0, .int 0])), (q77, .inr (20, [.int 0, .ref q78, .int 0, .int 0, .ref q80, .ref q82, .ref q84, .ref q86, .ref q88, .ref q90, .ref q91, .ref q93, .ref q94, .ref q105, .ref q106, .ref q124, .ref q131, .int 0, .int 0, .int 0, .int 0, .int 0, .int 0, .int 0, .int 0, .int 0, .ref q132, .ref q133, .ref q134, .ref q135, .ref q136, .ref q137, .ref q138, .ref q139, .ref q140, .int 0]))]) (hS : va_S A s.heap H locs) (hl : lv_has ls 8 [(4, .int 0), (3, .ref q143), (2, .ref q77), (1, .ref q1), (0, .ref b)]) (kkE : ∀ (H : Heap) (locs : List Loc) (ls : Array Slot), va_S A s.heap H locs → lv_has ls 8 [(4, .int 6), (0, .ref b)] → W p l e room_1 s m #[Value.ref b] below meth c H locs 600002 7302232 Q (F0 m 23 ls [])) : W p l e room_1 s m #[Value.ref b] below meth c H locs 455 2511899 Q (F0 m 1455 ls []) := by
  refine lv_aload_n hx hb dL_law_1455 rfl (lv_at hl 3 rfl) ?_
  refine lv_aload_n hx hb dL_law_1456 rfl (lv_at hl 4 rfl) ?_
  refine lv_iload hx hb dL_law_1457 (lv_at hl 0 rfl) ?_
  refine lv_iconst (v := 1) hx hb dL_law_1459 (by decide) ?_
  refine lv_iadd hx hb dL_law_1460 ?_
  refine lv_topi (fun z501 ez501 => ?_)
  obtain rfl : z501 = 1 := ez501.trans (by decide)
  refine va_sld (i := 1) hx hb hX hbl hbA hS (vp_in_iff.mpr ⟨by decide, by decide⟩) dL_law_1461 ?_
  rw [es1]
  refine lv_aload_n hx hb dL_law_1462 rfl (lv_at hl 4 rfl) ?_
  refine lv_iload hx hb dL_law_1463 (lv_at hl 0 rfl) ?_
  refine lv_iconst (v := 2) hx hb dL_law_1465 (by decide) ?_
  refine lv_iadd hx hb dL_law_1466 ?_
  refine lv_topi (fun z502 ez502 => ?_)
  obtain rfl : z502 = 2 := ez502.trans (by decide)
  refine va_sld (i := 2) hx hb hX hbl hbA hS (vp_in_iff.mpr ⟨by decide, by decide⟩) dL_law_1467 ?_
  rw [es2]
  have hPc := hP.sub (ws' := [(q1, .inr (13, [.ref q2, .int 0, .int 0, .ref q4, .ref q6, .ref q8, .ref q22, .ref q37, .ref q39, .ref q41, .int 0, .ref q43])), (q22, .inr (12, [.ref q23, .ref q25, .ref q31, .ref q32, .ref q33, .ref q34, .int 0, .ref q35, .ref q36, .int 0, .int 0, .int 0, .int 0, .int 0, .int 0, .int 0])), (q25, .inr (4, [.ref q26, .ref q27, .ref q28, .ref q29, .int 0, .int 0, .ref q30, .int 0, .int 0, .int 0, .int 0]))]) [0, 1, 2] rfl
  have hDc := hD.sub (ws' := [(q1, .inr (13, [.ref q2, .int 0, .int 0, .ref q4, .ref q6, .ref q8, .ref q22, .ref q37, .ref q39, .ref q41, .int 0, .ref q43])), (q22, .inr (12, [.ref q23, .ref q25, .ref q31, .ref q32, .ref q33, .ref q34, .int 0, .ref q35, .ref q36, .int 0, .int 0, .int 0, .int 0, .int 0, .int 0, .int 0])), (q25, .inr (4, [.ref q26, .ref q27, .ref q28, .ref q29, .int 0, .int 0, .ref q30, .int 0, .int 0, .int 0, .int 0]))]) [0, 1, 2] (by decide) rfl
  have hKc := hK.sub (tys' := []) [] rfl
  have hFc := va_free (wc := [(q1, .inr (13, [.ref q2, .int 0, .int 0, .ref q4, .ref q6, .ref q8, .ref q22, .ref q37, .ref q39, .ref q41, .int 0, .ref q43])), (q22, .inr (12, [.ref q23, .ref q25, .ref q31, .ref q32, .ref q33, .ref q34, .int 0, .ref q35, .ref q36, .int 0, .int 0, .int 0, .int 0, .int 0, .int 0, .int 0])), (q25, .inr (4, [.ref q26, .ref q27, .ref q28, .ref q29, .int 0, .int 0, .ref q30, .int 0, .int 0, .int 0, .int 0]))]) hD hS hA [0, 1, 2] rfl
  refine va_calll (va_runV (As := [.int x1, .int x2]) (rest := []) ⟨hx, hb, hml, hown, hts⟩ (k_X12_event l hlt dC dI q1 q22 q25 x1 x2 q2 q4 q6 q8 q37 q39 q41 q43 q23 q31 q32 q33 q34 q35 q36 q26 q27 q28 q29 q30  H.size) (cwV 2 hts gl_65 rfl rfl rfl (by decide +kernel) ⟨Nat.le_of_ble_eq_true rfl, Nat.le_of_ble_eq_true rfl⟩) ⟨fun a U g mk q => by obtain ⟨q0, q1, qP, qK, qD, qN⟩ := q; exact ⟨q0, q1, qP, va_K.moved (u := U) (U := U.calling g mk a) (Vm.Alike.refl U.vm) qK, qD, nv_same rfl rfl qN⟩, va_recv hKc hPc (ci := 13) (q0 := 0) rfl rfl, fun U hU hW => ⟨rfl, by rw [hU], by rw [hU]; exact hPc, va_K.moved hW.alike hKc, hDc.weaken (fun _ _ _ _ => trivial), nv_call hS hFc hU hW hN⟩⟩ rfl rfl hl.1 rfl (lv_room (Nat.le_of_ble_eq_true rfl)) dL_law_1468 ⟨by decide +kernel, by decide +kernel⟩) hS (fun q _ h => hFc q h) hFc (fun r503 u t H1 locs ht hvm hw hB hz1 hk1 hS => ?_)
  obtain ⟨hP1, hK1, hD1⟩ := hB
  rw [ht] at hP1
  have hK1 := va_K.moved hvm.symm hK1
  obtain rfl : r503 = (-1) := hw
  obtain ⟨hP, hD⟩ := va_join (wr := [(q77, .inr (20, [.int 0, .ref q78, .int 0, .int 0, .ref q80, .ref q82, .ref q84, .ref q86, .ref q88, .ref q90, .ref q91, .ref q93, .ref q94, .ref q105, .ref q106, .ref q124, .ref q131, .int 0, .int 0, .int 0, .int 0, .int 0, .int 0, .int 0, .int 0, .int 0, .ref q132, .ref q133, .ref q134, .ref q135, .ref q136, .ref q137, .ref q138, .ref q139, .ref q140, .int 0]))]) (w1 := [(q1, .inr (13, [.ref q2, .int 0, .int 0, .ref q4, .ref q6, .ref q8, .ref q22, .ref q37, .ref q39, .ref q41, .int 0, .ref q43])), (q22, .inr (12, [.ref q23, .ref q25, .ref q31, .ref q32, .ref q33, .ref q34, .int 0, .ref q35, .ref q36, .int 0, .int 0, .int 0, .int 0, .int 0, .int 0, .int 0])), (q25, .inr (4, [.ref q26, .ref q27, .ref q28, .ref q29, .int 0, .int 0, .ref q30, .int 0, .int 0, .int 0, .int 0]))]) hP hD [0, 1, 2] [3] rfl rfl (by decide) (by decide) hk1 hFc hP1 hD1
  have hK := (hK.sub (tys' := []) [] rfl).app hK1
  generalize H1 = H at hP hS ⊢
  have hP : va_P (dC, dI) vwCl [(q77, .inr (20, [.int 0, .ref q78, .int 0, .int 0, .ref q80, .ref q82, .ref q84, .ref q86, .ref q88, .ref q90, .ref q91, .ref q93, .ref q94, .ref q105, .ref q106, .ref q124, .ref q131, .int 0, .int 0, .int 0, .int 0, .int 0, .int 0, .int 0, .int 0, .int 0, .ref q132, .ref q133, .ref q134, .ref q135, .ref q136, .ref q137, .ref q138, .ref q139, .ref q140, .int 0])), (q1, .inr (13, [.ref q2, .int 0, .int 0, .ref q4, .ref q6, .ref q8, .ref q22, .ref q37, .ref q39, .ref q41, .int 0, .ref q43])), (q22, .inr (12, [.ref q23, .ref q25, .ref q31, .ref q32, .ref q33, .ref q34, .int 0, .ref q35, .ref q36, .int 0, .int 0, .int 0, .int 0, .int 0, .int 0, .int 0])), (q25, .inr (4, [.ref q26, .ref q27, .ref q28, .ref q29, .int 0, .int 0, .ref q30, .int 0, .int 0, .int 0, .int 0]))] H := hP
  have hD : va_D A [(q77, .inr (20, [.int 0, .ref q78, .int 0, .int 0, .ref q80, .ref q82, .ref q84, .ref q86, .ref q88, .ref q90, .ref q91, .ref q93, .ref q94, .ref q105, .ref q106, .ref q124, .ref q131, .int 0, .int 0, .int 0, .int 0, .int 0, .int 0, .int 0, .int 0, .int 0, .ref q132, .ref q133, .ref q134, .ref q135, .ref q136, .ref q137, .ref q138, .ref q139, .ref q140, .int 0])), (q1, .inr (13, [.ref q2, .int 0, .int 0, .ref q4, .ref q6, .ref q8, .ref q22, .ref q37, .ref q39, .ref q41, .int 0, .ref q43])), (q22, .inr (12, [.ref q23, .ref q25, .ref q31, .ref q32, .ref q33, .ref q34, .int 0, .ref q35, .ref q36, .int 0, .int 0, .int 0, .int 0, .int 0, .int 0, .int 0])), (q25, .inr (4, [.ref q26, .ref q27, .ref q28, .ref q29, .int 0, .int 0, .ref q30, .int 0, .int 0, .int 0, .int 0]))] := hD
  have hK : va_K (dC, dI) vwCl [] s := hK
  refine W.widen (k := 455) (n := 2511899) (by decide +kernel) (by decide +kernel) ?_
  refine lv_aload_n hx hb dL_law_1471 rfl (lv_at hl 2 rfl) ?_
  refine lv_aload_n hx hb dL_law_1472 rfl (lv_at hl 4 rfl) ?_
  refine lv_iload hx hb dL_law_1473 (lv_at hl 0 rfl) ?_
  refine lv_iconst (v := 1) hx hb dL_law_1475 (by decide) ?_
  refine lv_iadd hx hb dL_law_1476 ?_
  refine lv_topi (fun z504 ez504 => ?_)
  obtain rfl : z504 = 1 := ez504.trans (by decide)
  refine va_sld (i := 1) hx hb hX hbl hbA hS (vp_in_iff.mpr ⟨by decide, by decide⟩) dL_law_1477 ?_
  rw [es1]
  refine lv_aload_n hx hb dL_law_1478 rfl (lv_at hl 4 rfl) ?_
  refine lv_iload hx hb dL_law_1479 (lv_at hl 0 rfl) ?_
  refine lv_iconst (v := 2) hx hb dL_law_1481 (by decide) ?_
  refine lv_iadd hx hb dL_law_1482 ?_
  refine lv_topi (fun z505 ez505 => ?_)
  obtain rfl : z505 = 2 := ez505.trans (by decide)
  refine va_sld (i := 2) hx hb hX hbl hbA hS (vp_in_iff.mpr ⟨by decide, by decide⟩) dL_law_1483 ?_
  rw [es2]
  have hPc := hP.sub (ws' := [(q77, .inr (20, [.int 0, .ref q78, .int 0, .int 0, .ref q80, .ref q82, .ref q84, .ref q86, .ref q88, .ref q90, .ref q91, .ref q93, .ref q94, .ref q105, .ref q106, .ref q124, .ref q131, .int 0, .int 0, .int 0, .int 0, .int 0, .int 0, .int 0, .int 0, .int 0, .ref q132, .ref q133, .ref q134, .ref q135, .ref q136, .ref q137, .ref q138, .ref q139, .ref q140, .int 0]))]) [0] rfl
  have hDc := hD.sub (ws' := [(q77, .inr (20, [.int 0, .ref q78, .int 0, .int 0, .ref q80, .ref q82, .ref q84, .ref q86, .ref q88, .ref q90, .ref q91, .ref q93, .ref q94, .ref q105, .ref q106, .ref q124, .ref q131, .int 0, .int 0, .int 0, .int 0, .int 0, .int 0, .int 0, .int 0, .int 0, .ref q132, .ref q133, .ref q134, .ref q135, .ref q136, .ref q137, .ref q138, .ref q139, .ref q140, .int 0]))]) [0] (by decide) rfl
  have hKc := hK.sub (tys' := []) [] rfl
  have hFc := va_free (wc := [(q77, .inr (20, [.int 0, .ref q78, .int 0, .int 0, .ref q80, .ref q82, .ref q84, .ref q86, .ref q88, .ref q90, .ref q91, .ref q93, .ref q94, .ref q105, .ref q106, .ref q124, .ref q131, .int 0, .int 0, .int 0, .int 0, .int 0, .int 0, .int 0, .int 0, .int 0, .ref q132, .ref q133, .ref q134, .ref q135, .ref q136, .ref q137, .ref q138, .ref q139, .ref q140, .int 0]))]) hD hS hA [0] rfl
  refine va_calll (va_runV (As := [.int x1, .int x2]) (rest := [.long (-1)]) ⟨hx, hb, hml, hown, hts⟩ (k_X19_event l hlt dC dI q77 x1 x2 q78 q80 q82 q84 q86 q88 q90 q91 q93 q94 q105 q106 q124 q131 q132 q133 q134 q135 q136 q137 q138 q139 q140  H.size) (cwV 2 hts gl_66 rfl rfl rfl (by decide +kernel) ⟨Nat.le_of_ble_eq_true rfl, Nat.le_of_ble_eq_true rfl⟩) ⟨fun a U g mk q => by obtain ⟨q0, q1, qP, qK, qD, qN⟩ := q; exact ⟨q0, q1, qP, va_K.moved (u := U) (U := U.calling g mk a) (Vm.Alike.refl U.vm) qK, qD, nv_same rfl rfl qN⟩, va_recv hKc hPc (ci := 20) (q0 := 0) rfl rfl, fun U hU hW => ⟨rfl, by rw [hU], by rw [hU]; exact hPc, va_K.moved hW.alike hKc, hDc.weaken (fun _ _ _ _ => trivial), nv_call hS hFc hU hW hN⟩⟩ rfl rfl hl.1 rfl (lv_room (Nat.le_of_ble_eq_true rfl)) dL_law_1484 ⟨by decide +kernel, by decide +kernel⟩) hS (fun q _ h => hFc q h) hFc (fun r506 u t H1 locs ht hvm hw hB hz1 hk1 hS => ?_)
  rcases hw with ⟨c_1_0, h9⟩ | ⟨c_1_0, h9⟩ | h9
  · subst h9
    have hK1 := hK.sub (tys' := []) [] rfl
    obtain ⟨hP, hD⟩ := va_join (wr := [(q1, .inr (13, [.ref q2, .int 0, .int 0, .ref q4, .ref q6, .ref q8, .ref q22, .ref q37, .ref q39, .ref q41, .int 0, .ref q43])), (q22, .inr (12, [.ref q23, .ref q25, .ref q31, .ref q32, .ref q33, .ref q34, .int 0, .ref q35, .ref q36, .int 0, .int 0, .int 0, .int 0, .int 0, .int 0, .int 0])), (q25, .inr (4, [.ref q26, .ref q27, .ref q28, .ref q29, .int 0, .int 0, .ref q30, .int 0, .int 0, .int 0, .int 0]))]) (w1 := []) hP hD [0] [1, 2, 3] rfl rfl (by decide) (by decide) hk1 hFc nv_P0 nv_D0
    have hK := (hK.sub (tys' := []) [] rfl).app hK1
    generalize H1 = H at hP hS ⊢
    have hP : va_P (dC, dI) vwCl [(q1, .inr (13, [.ref q2, .int 0, .int 0, .ref q4, .ref q6, .ref q8, .ref q22, .ref q37, .ref q39, .ref q41, .int 0, .ref q43])), (q22, .inr (12, [.ref q23, .ref q25, .ref q31, .ref q32, .ref q33, .ref q34, .int 0, .ref q35, .ref q36, .int 0, .int 0, .int 0, .int 0, .int 0, .int 0, .int 0])), (q25, .inr (4, [.ref q26, .ref q27, .ref q28, .ref q29, .int 0, .int 0, .ref q30, .int 0, .int 0, .int 0, .int 0]))] H := hP
    have hD : va_D A [(q1, .inr (13, [.ref q2, .int 0, .int 0, .ref q4, .ref q6, .ref q8, .ref q22, .ref q37, .ref q39, .ref q41, .int 0, .ref q43])), (q22, .inr (12, [.ref q23, .ref q25, .ref q31, .ref q32, .ref q33, .ref q34, .int 0, .ref q35, .ref q36, .int 0, .int 0, .int 0, .int 0, .int 0, .int 0, .int 0])), (q25, .inr (4, [.ref q26, .ref q27, .ref q28, .ref q29, .int 0, .int 0, .ref q30, .int 0, .int 0, .int 0, .int 0]))] := hD
    have hK : va_K (dC, dI) vwCl [] s := hK
    refine W.widen (k := 455) (n := 2511899) (by decide +kernel) (by decide +kernel) ?_
    refine W.lcmp hx hb dL_law_1487 ?_
    refine lv_topi (fun z507 ez507 => ?_)
    obtain rfl : z507 = 0 := ez507.trans (by decide)
    refine lv_if_eq (tgt := 1493) hx hb dL_law_1488 (by decide) (fun _ => ?_) (fun h9 => absurd (by decide) h9)
    refine lv_iinc (v := 6) (lv' := [(4, .int 6), (3, .ref q143), (2, .ref q77), (1, .ref q1), (0, .ref b)]) hx hb dL_law_1493 hl (k := 0) rfl (by decide) (by decide) rfl (fun ls hl => ?_)
    refine lv_goto (tgt := 23) hx hb dL_law_1496 (by decide) ?_
    refine W.widen (k := 600002) (n := 7302232) (by decide +kernel) (by decide +kernel) ?_
    exact kkE _ _ _ hS (lv_sub hl [0, 4] rfl)
  · subst h9
    have hK1 := hK.sub (tys' := []) [] rfl
    obtain ⟨hP, hD⟩ := va_join (wr := [(q1, .inr (13, [.ref q2, .int 0, .int 0, .ref q4, .ref q6, .ref q8, .ref q22, .ref q37, .ref q39, .ref q41, .int 0, .ref q43])), (q22, .inr (12, [.ref q23, .ref q25, .ref q31, .ref q32, .ref q33, .ref q34, .int 0, .ref q35, .ref q36, .int 0, .int 0, .int 0, .int 0, .int 0, .int 0, .int 0])), (q25, .inr (4, [.ref q26, .ref q27, .ref q28, .ref q29, .int 0, .int 0, .ref q30, .int 0, .int 0, .int 0, .int 0]))]) (w1 := []) hP hD [0] [1, 2, 3] rfl rfl (by decide) (by decide) hk1 hFc nv_P0 nv_D0
    have hK := (hK.sub (tys' := []) [] rfl).app hK1
    generalize H1 = H at hP hS ⊢
    have hP : va_P (dC, dI) vwCl [(q1, .inr (13, [.ref q2, .int 0, .int 0, .ref q4, .ref q6, .ref q8, .ref q22, .ref q37, .ref q39, .ref q41, .int 0, .ref q43])), (q22, .inr (12, [.ref q23, .ref q25, .ref q31, .ref q32, .ref q33, .ref q34, .int 0, .ref q35, .ref q36, .int 0, .int 0, .int 0, .int 0, .int 0, .int 0, .int 0])), (q25, .inr (4, [.ref q26, .ref q27, .ref q28, .ref q29, .int 0, .int 0, .ref q30, .int 0, .int 0, .int 0, .int 0]))] H := hP
    have hD : va_D A [(q1, .inr (13, [.ref q2, .int 0, .int 0, .ref q4, .ref q6, .ref q8, .ref q22, .ref q37, .ref q39, .ref q41, .int 0, .ref q43])), (q22, .inr (12, [.ref q23, .ref q25, .ref q31, .ref q32, .ref q33, .ref q34, .int 0, .ref q35, .ref q36, .int 0, .int 0, .int 0, .int 0, .int 0, .int 0, .int 0])), (q25, .inr (4, [.ref q26, .ref q27, .ref q28, .ref q29, .int 0, .int 0, .ref q30, .int 0, .int 0, .int 0, .int 0]))] := hD
    have hK : va_K (dC, dI) vwCl [] s := hK
    refine W.widen (k := 455) (n := 2511899) (by decide +kernel) (by decide +kernel) ?_
    refine W.lcmp hx hb dL_law_1487 ?_
    refine lv_topi (fun z508 ez508 => ?_)
    obtain rfl : z508 = 0 := ez508.trans (by decide)
    refine lv_if_eq (tgt := 1493) hx hb dL_law_1488 (by decide) (fun _ => ?_) (fun h9 => absurd (by decide) h9)
    refine lv_iinc (v := 6) (lv' := [(4, .int 6), (3, .ref q143), (2, .ref q77), (1, .ref q1), (0, .ref b)]) hx hb dL_law_1493 hl (k := 0) rfl (by decide) (by decide) rfl (fun ls hl => ?_)
    refine lv_goto (tgt := 23) hx hb dL_law_1496 (by decide) ?_
    refine W.widen (k := 600002) (n := 7302232) (by decide +kernel) (by decide +kernel) ?_
    exact kkE _ _ _ hS (lv_sub hl [0, 4] rfl)
  · exact h9.elim
