set_option maxHeartbeats 40000000 in
set_option maxRecDepth 100000 in
theorem law_c16 {p : Program} {l : Launch} {e : Env} {s : State} {m : MethodId} {below : List Frame} {meth : Method} {c : Code} {Q : State → Prop} {A : Nat → Prop} {b : Nat} (hlt : l.stackTraces = false) (hx : p.tables.exec = Jvm.exec) (hb : c.code = code) (hml : c.maxLocals = 8) (hown : s.vm.findClass RL = some m.cls) (hts : ∀ w ∈ lw_tbl, w.before #[Value.ref b] s = true) (hN : nv_E A s) (hA : ∀ q : Nat, s.heap.size ≤ q → A q) (hDe : nv_Dc s) (dC : Nat → ClassId) (dI : Nat → Nat → Nat) (q1 : Nat) (q2 : Nat) (q4 : Nat) (q6 : Nat) (q8 : Nat) (q22 : Nat) (q37 : Nat) (y38 : ClassId) (q39 : Nat) (q41 : Nat) (q43 : Nat) (q77 : Nat) (q78 : Nat) (q80 : Nat) (q82 : Nat) (q84 : Nat) (q86 : Nat) (q88 : Nat) (q90 : Nat) (q91 : Nat) (q93 : Nat) (q94 : Nat) (q105 : Nat) (q106 : Nat) (q107 : Nat) (q108 : Nat) (y109 : ClassId) (q110 : Nat) (q111 : Nat) (q112 : Nat) (q113 : Nat) (q114 : Nat) (q115 : Nat) (q116 : Nat) (q117 : Nat) (q118 : Nat) (q119 : Nat) (q120 : Nat) (q121 : Nat) (q122 : Nat) (q123 : Nat) (q124 : Nat) (q131 : Nat) (q132 : Nat) (q133 : Nat) (q134 : Nat) (q135 : Nat) (q136 : Nat) (q137 : Nat) (q138 : Nat) (q139 : Nat) (q140 : Nat) (q143 : Nat) (y144 : ClassId) {xs : Nat → Int32} (hX : va_X b 6 xs s s.heap) (hbl : b < s.heap.size) (hbA : ¬ A b) (x0 : Int32) (es0 : xs (Int32.toNatClampNeg 0) = x0) (x1 : Int32) (es1 : xs (Int32.toNatClampNeg 1) = x1) (x2 : Int32) (es2 : xs (Int32.toNatClampNeg 2) = x2) (x3 : Int32) (es3 : xs (Int32.toNatClampNeg 3) = x3) (x4 : Int32) (es4 : xs (Int32.toNatClampNeg 4) = x4) (x5 : Int32) (es5 : xs (Int32.toNatClampNeg 5) = x5) {H : Heap} {locs : List Loc} {ls : Array Slot} (hK : va_K (dC, dI) vwCl [(y38, .object RX2), (y109, .boolean), (y144, .long)] s) (hP : va_P (dC, dI) vwCl [(q1, .inr (13, [.ref q2, .int 0, .int 0, .ref q4, .ref q6, .ref q8, .ref q22, .ref q37, .ref q39, .ref q41, .int 0, .ref q43])), (q37, .inl (y38, 8, .inr (.inr (.inr (.inr (fun _ => none)))))), (q77, .inr (20, [.int 0, .ref q78, .int 0, .int 0, .ref q80, .ref q82, .ref q84, .ref q86, .ref q88, .ref q90, .ref q91, .ref q93, .ref q94, .ref q105, .ref q106, .ref q124, .ref q131, .int 0, .int 0, .int 0, .int 0, .int 0, .int 0, .int 0, .int 0, .int 0, .ref q132, .ref q133, .ref q134, .ref q135, .ref q136, .ref q137, .ref q138, .ref q139, .ref q140, .int 0])), (q106, .inr (16, [.ref q105, .int 0, .ref q107, .ref q108, .ref q110, .ref q111, .ref q112, .ref q113, .ref q114, .int 0, .int 0, .int 0, .int 0, .int 0, .int 0, .long 0, .ref q115, .ref q116, .ref q117, .ref q118, .int 0, .int 0, .long 0, .ref q119, .ref q120, .ref q121, .ref q122, .ref q123])), (q108, .inl (y109, 8, .inl (fun _ => 0))), (q143, .inl (y144, 1, .inr (.inl (fun _ => 0))))] H) (hD : va_D A [(q1, .inr (13, [.ref q2, .int 0, .int 0, .ref q4, .ref q6, .ref q8, .ref q22, .ref q37, .ref q39, .ref q41, .int 0, .ref q43])), (q37, .inl (y38, 8, .inr (.inr (.inr (.inr (fun _ => none)))))), (q77, .inr (20, [.int 0, .ref q78, .int 0, .int 0, .ref q80, .ref q82, .ref q84, .ref q86, .ref q88, .ref q90, .ref q91, .ref q93, .ref q94, .ref q105, .ref q106, .ref q124, .ref q131, .int 0, .int 0, .int 0, .int 0, .int 0, .int 0, .int 0, .int 0, .int 0, .ref q132, .ref q133, .ref q134, .ref q135, .ref q136, .ref q137, .ref q138, .ref q139, .ref q140, .int 0])), (q106, .inr (16, [.ref q105, .int 0, .ref q107, .ref q108, .ref q110, .ref q111, .ref q112, .ref q113, .ref q114, .int 0, .int 0, .int 0, .int 0, .int 0, .int 0, .long 0, .ref q115, .ref q116, .ref q117, .ref q118, .int 0, .int 0, .long 0, .ref q119, .ref q120, .ref q121, .ref q122, .ref q123])), (q108, .inl (y109, 8, .inl (fun _ => 0))), (q143, .inl (y144, 1, .inr (.inl (fun _ => 0))))]) (hS : va_S A s.heap H locs) (hl : lv_has ls 8 [(4, .int 0), (3, .ref q143), (2, .ref q77), (1, .ref q1), (0, .ref b)]) (kkE : ∀ (H : Heap) (locs : List Loc) (ls : Array Slot), va_S A s.heap H locs → lv_has ls 8 [(4, .int 6), (0, .ref b)] → W p l e room_1 s m #[Value.ref b] below meth c H locs 600002 7302232 Q (F0 m 23 ls [])) : W p l e room_1 s m #[Value.ref b] below meth c H locs 455 2511899 Q (F0 m 897 ls []) := by
  refine lv_aload_n hx hb dL_law_897 rfl (lv_at hl 3 rfl) ?_
  refine lv_aload_n hx hb dL_law_898 rfl (lv_at hl 4 rfl) ?_
  refine lv_iload hx hb dL_law_899 (lv_at hl 0 rfl) ?_
  refine lv_iconst (v := 1) hx hb dL_law_901 (by decide) ?_
  refine lv_iadd hx hb dL_law_902 ?_
  refine lv_topi (fun z501 ez501 => ?_)
  obtain rfl : z501 = 1 := ez501.trans (by decide)
  refine va_sld (i := 1) hx hb hX hbl hbA hS (vp_in_iff.mpr ⟨by decide, by decide⟩) dL_law_903 ?_
  rw [es1]
  refine lv_aload_n hx hb dL_law_904 rfl (lv_at hl 1 rfl) ?_
  have hPc := hP.sub (ws' := [(q1, .inr (13, [.ref q2, .int 0, .int 0, .ref q4, .ref q6, .ref q8, .ref q22, .ref q37, .ref q39, .ref q41, .int 0, .ref q43])), (q37, .inl (y38, 8, .inr (.inr (.inr (.inr (fun _ => none)))))), (q143, .inl (y144, 1, .inr (.inl (fun _ => 0))))]) [0, 1, 5] rfl
  have hDc := hD.sub (ws' := [(q1, .inr (13, [.ref q2, .int 0, .int 0, .ref q4, .ref q6, .ref q8, .ref q22, .ref q37, .ref q39, .ref q41, .int 0, .ref q43])), (q37, .inl (y38, 8, .inr (.inr (.inr (.inr (fun _ => none)))))), (q143, .inl (y144, 1, .inr (.inl (fun _ => 0))))]) [0, 1, 5] (by decide) rfl
  have hKc := hK.sub (tys' := [(y38, .object RX2), (y144, .long)]) [0, 2] rfl
  have hFc := va_free (wc := [(q1, .inr (13, [.ref q2, .int 0, .int 0, .ref q4, .ref q6, .ref q8, .ref q22, .ref q37, .ref q39, .ref q41, .int 0, .ref q43])), (q37, .inl (y38, 8, .inr (.inr (.inr (.inr (fun _ => none)))))), (q143, .inl (y144, 1, .inr (.inl (fun _ => 0))))]) hD hS hA [0, 1, 5] rfl
  refine va_calli (vx_runSW (As := [.ref q1, .int x1, .ref q143]) (rest := []) ⟨hx, hb, hml, hown, hts⟩ (k_L_drop l hlt dC dI q1 q37 y38 q143 y144 x1 q2 q4 q6 q8 q22 q39 q41 q43  H.size) (vx_cwSW 3 hts gl_37 rfl rfl rfl (by decide +kernel) ⟨Nat.le_of_ble_eq_true rfl, Nat.le_of_ble_eq_true rfl⟩) ⟨fun a U g mk q => by obtain ⟨q0, q1, qP, qK, qD, qN, qE⟩ := q; exact ⟨q0, q1, qP, va_K.moved (u := U) (U := U.calling g mk a) (Vm.Alike.refl U.vm) qK, qD, nv_same rfl rfl qN, nv_Dsame rfl qE⟩, fun U hU hW => ⟨rfl, by rw [hU], by rw [hU]; exact hPc, va_K.moved hW.alike hKc, hDc.weaken (fun _ _ _ _ => trivial), nv_call hS hFc hU hW hN, nv_Dcall hW hDe⟩⟩ rfl rfl hl.1 rfl (lv_room (Nat.le_of_ble_eq_true rfl)) dL_law_905 ⟨by decide +kernel, by decide +kernel⟩) hS (fun q _ h => hFc q h) hFc (fun r502 u t H1 locs ht hvm hw hB hz1 hk1 hS => ?_)
  rcases hw with ⟨c_1_0, h9, h8⟩ | ⟨c_1_0, c_1_1, h9, h8⟩ | ⟨c_1_0, c_1_1, h9, h8⟩ | h9
  · subst h9
    subst h8
    obtain ⟨hP1, hK1, hD1⟩ := hB
    rw [ht] at hP1
    have hK1 := va_K.moved hvm.symm hK1
    obtain ⟨hP, hD⟩ := va_join (wr := [(q77, .inr (20, [.int 0, .ref q78, .int 0, .int 0, .ref q80, .ref q82, .ref q84, .ref q86, .ref q88, .ref q90, .ref q91, .ref q93, .ref q94, .ref q105, .ref q106, .ref q124, .ref q131, .int 0, .int 0, .int 0, .int 0, .int 0, .int 0, .int 0, .int 0, .int 0, .ref q132, .ref q133, .ref q134, .ref q135, .ref q136, .ref q137, .ref q138, .ref q139, .ref q140, .int 0])), (q106, .inr (16, [.ref q105, .int 0, .ref q107, .ref q108, .ref q110, .ref q111, .ref q112, .ref q113, .ref q114, .int 0, .int 0, .int 0, .int 0, .int 0, .int 0, .long 0, .ref q115, .ref q116, .ref q117, .ref q118, .int 0, .int 0, .long 0, .ref q119, .ref q120, .ref q121, .ref q122, .ref q123])), (q108, .inl (y109, 8, .inl (fun _ => 0)))]) (w1 := [(q143, .inl (y144, 1, .inr (.inl (fun _ => 0))))]) hP hD [0, 1, 5] [2, 3, 4] rfl rfl (by decide) (by decide) hk1 hFc hP1 hD1
    have hK := (hK.sub (tys' := [(y109, .boolean)]) [1] rfl).app hK1
    generalize H1 = H at hP hS ⊢
    have hP : va_P (dC, dI) vwCl [(q77, .inr (20, [.int 0, .ref q78, .int 0, .int 0, .ref q80, .ref q82, .ref q84, .ref q86, .ref q88, .ref q90, .ref q91, .ref q93, .ref q94, .ref q105, .ref q106, .ref q124, .ref q131, .int 0, .int 0, .int 0, .int 0, .int 0, .int 0, .int 0, .int 0, .int 0, .ref q132, .ref q133, .ref q134, .ref q135, .ref q136, .ref q137, .ref q138, .ref q139, .ref q140, .int 0])), (q106, .inr (16, [.ref q105, .int 0, .ref q107, .ref q108, .ref q110, .ref q111, .ref q112, .ref q113, .ref q114, .int 0, .int 0, .int 0, .int 0, .int 0, .int 0, .long 0, .ref q115, .ref q116, .ref q117, .ref q118, .int 0, .int 0, .long 0, .ref q119, .ref q120, .ref q121, .ref q122, .ref q123])), (q108, .inl (y109, 8, .inl (fun _ => 0))), (q143, .inl (y144, 1, .inr (.inl (fun _ => 0))))] H := hP
    have hD : va_D A [(q77, .inr (20, [.int 0, .ref q78, .int 0, .int 0, .ref q80, .ref q82, .ref q84, .ref q86, .ref q88, .ref q90, .ref q91, .ref q93, .ref q94, .ref q105, .ref q106, .ref q124, .ref q131, .int 0, .int 0, .int 0, .int 0, .int 0, .int 0, .int 0, .int 0, .int 0, .ref q132, .ref q133, .ref q134, .ref q135, .ref q136, .ref q137, .ref q138, .ref q139, .ref q140, .int 0])), (q106, .inr (16, [.ref q105, .int 0, .ref q107, .ref q108, .ref q110, .ref q111, .ref q112, .ref q113, .ref q114, .int 0, .int 0, .int 0, .int 0, .int 0, .int 0, .long 0, .ref q115, .ref q116, .ref q117, .ref q118, .int 0, .int 0, .long 0, .ref q119, .ref q120, .ref q121, .ref q122, .ref q123])), (q108, .inl (y109, 8, .inl (fun _ => 0))), (q143, .inl (y144, 1, .inr (.inl (fun _ => 0))))] := hD
    have hK : va_K (dC, dI) vwCl [(y109, .boolean), (y144, .long)] s := hK
    refine W.widen (k := 456) (n := 2511905) (by decide +kernel) (by decide +kernel) ?_
    refine lv_istore (lv' := [(5, .int 1), (4, .int 0), (3, .ref q143), (2, .ref q77), (1, .ref q1), (0, .ref b)]) hx hb dL_law_908 hl (by decide) rfl (fun ls hl => ?_)
    refine lv_aload_n hx hb dL_law_910 rfl (lv_at hl 3 rfl) ?_
    refine lv_aload_n hx hb dL_law_911 rfl (lv_at hl 5 rfl) ?_
    refine lv_iload hx hb dL_law_912 (lv_at hl 1 rfl) ?_
    refine lv_iconst (v := 1) hx hb dL_law_914 (by decide) ?_
    refine lv_iadd hx hb dL_law_915 ?_
    refine lv_topi (fun z503 ez503 => ?_)
    obtain rfl : z503 = 1 := ez503.trans (by decide)
    refine va_sld (i := 1) hx hb hX hbl hbA hS (vp_in_iff.mpr ⟨by decide, by decide⟩) dL_law_916 ?_
    rw [es1]
    have hPc := hP.sub (ws' := [(q77, .inr (20, [.int 0, .ref q78, .int 0, .int 0, .ref q80, .ref q82, .ref q84, .ref q86, .ref q88, .ref q90, .ref q91, .ref q93, .ref q94, .ref q105, .ref q106, .ref q124, .ref q131, .int 0, .int 0, .int 0, .int 0, .int 0, .int 0, .int 0, .int 0, .int 0, .ref q132, .ref q133, .ref q134, .ref q135, .ref q136, .ref q137, .ref q138, .ref q139, .ref q140, .int 0])), (q106, .inr (16, [.ref q105, .int 0, .ref q107, .ref q108, .ref q110, .ref q111, .ref q112, .ref q113, .ref q114, .int 0, .int 0, .int 0, .int 0, .int 0, .int 0, .long 0, .ref q115, .ref q116, .ref q117, .ref q118, .int 0, .int 0, .long 0, .ref q119, .ref q120, .ref q121, .ref q122, .ref q123])), (q108, .inl (y109, 8, .inl (fun _ => 0)))]) [0, 1, 2] rfl
    have hDc := hD.sub (ws' := [(q77, .inr (20, [.int 0, .ref q78, .int 0, .int 0, .ref q80, .ref q82, .ref q84, .ref q86, .ref q88, .ref q90, .ref q91, .ref q93, .ref q94, .ref q105, .ref q106, .ref q124, .ref q131, .int 0, .int 0, .int 0, .int 0, .int 0, .int 0, .int 0, .int 0, .int 0, .ref q132, .ref q133, .ref q134, .ref q135, .ref q136, .ref q137, .ref q138, .ref q139, .ref q140, .int 0])), (q106, .inr (16, [.ref q105, .int 0, .ref q107, .ref q108, .ref q110, .ref q111, .ref q112, .ref q113, .ref q114, .int 0, .int 0, .int 0, .int 0, .int 0, .int 0, .long 0, .ref q115, .ref q116, .ref q117, .ref q118, .int 0, .int 0, .long 0, .ref q119, .ref q120, .ref q121, .ref q122, .ref q123])), (q108, .inl (y109, 8, .inl (fun _ => 0)))]) [0, 1, 2] (by decide) rfl
    have hKc := hK.sub (tys' := [(y109, .boolean)]) [0] rfl
    have hFc := va_free (wc := [(q77, .inr (20, [.int 0, .ref q78, .int 0, .int 0, .ref q80, .ref q82, .ref q84, .ref q86, .ref q88, .ref q90, .ref q91, .ref q93, .ref q94, .ref q105, .ref q106, .ref q124, .ref q131, .int 0, .int 0, .int 0, .int 0, .int 0, .int 0, .int 0, .int 0, .int 0, .ref q132, .ref q133, .ref q134, .ref q135, .ref q136, .ref q137, .ref q138, .ref q139, .ref q140, .int 0])), (q106, .inr (16, [.ref q105, .int 0, .ref q107, .ref q108, .ref q110, .ref q111, .ref q112, .ref q113, .ref q114, .int 0, .int 0, .int 0, .int 0, .int 0, .int 0, .long 0, .ref q115, .ref q116, .ref q117, .ref q118, .int 0, .int 0, .long 0, .ref q119, .ref q120, .ref q121, .ref q122, .ref q123])), (q108, .inl (y109, 8, .inl (fun _ => 0)))]) hD hS hA [0, 1, 2] rfl
    refine va_calli (va_runV (As := [.int x1]) (rest := []) ⟨hx, hb, hml, hown, hts⟩ (k_X19_drop l hlt dC dI q77 q106 q108 y109 x1 q78 q80 q82 q84 q86 q88 q90 q91 q93 q94 q105 q124 q131 q132 q133 q134 q135 q136 q137 q138 q139 q140 q107 q110 q111 q112 q113 q114 q115 q116 q117 q118 q119 q120 q121 q122 q123  H.size) (cwV 1 hts gl_38 rfl rfl rfl (by decide +kernel) ⟨Nat.le_of_ble_eq_true rfl, Nat.le_of_ble_eq_true rfl⟩) ⟨fun a U g mk q => by obtain ⟨q0, q1, qP, qK, qD, qN⟩ := q; exact ⟨q0, q1, qP, va_K.moved (u := U) (U := U.calling g mk a) (Vm.Alike.refl U.vm) qK, qD, nv_same rfl rfl qN⟩, va_recv hKc hPc (ci := 20) (q0 := 0) rfl rfl, fun U hU hW => ⟨rfl, by rw [hU], by rw [hU]; exact hPc, va_K.moved hW.alike hKc, hDc.weaken (fun _ _ _ _ => trivial), nv_call hS hFc hU hW hN⟩⟩ rfl rfl hl.1 rfl (lv_room (Nat.le_of_ble_eq_true rfl)) dL_law_917 ⟨by decide +kernel, by decide +kernel⟩) hS (fun q _ h => hFc q h) hFc (fun r504 u t H1 locs ht hvm hw hB hz1 hk1 hS => ?_)
    rcases hw with ⟨c_2_0, h9, h8⟩ | ⟨c_2_0, c_2_1, h9, h8⟩ | ⟨c_2_0, c_2_1, h9, h8⟩ | h9
    · subst h9
      subst h8
      obtain ⟨hP1, hK1, hD1⟩ := hB
      rw [ht] at hP1
      have hK1 := va_K.moved hvm.symm hK1
      obtain ⟨hP, hD⟩ := va_join (wr := [(q143, .inl (y144, 1, .inr (.inl (fun _ => 0))))]) (w1 := [(q77, .inr (20, [.int 1, .ref q78, .int 0, .int 0, .ref q80, .ref q82, .ref q84, .ref q86, .ref q88, .ref q90, .ref q91, .ref q93, .ref q94, .ref q105, .ref q106, .ref q124, .ref q131, .int 0, .int 0, .int 0, .int 0, .int 0, .int 0, .int 0, .int 0, .int 0, .ref q132, .ref q133, .ref q134, .ref q135, .ref q136, .ref q137, .ref q138, .ref q139, .ref q140, .int 0]))]) hP hD [0, 1, 2] [3] rfl rfl (by decide) (by decide) hk1 hFc hP1 hD1
      have hK := (hK.sub (tys' := [(y144, .long)]) [1] rfl).app hK1
      generalize H1 = H at hP hS ⊢
      have hP : va_P (dC, dI) vwCl [(q143, .inl (y144, 1, .inr (.inl (fun _ => 0)))), (q77, .inr (20, [.int 1, .ref q78, .int 0, .int 0, .ref q80, .ref q82, .ref q84, .ref q86, .ref q88, .ref q90, .ref q91, .ref q93, .ref q94, .ref q105, .ref q106, .ref q124, .ref q131, .int 0, .int 0, .int 0, .int 0, .int 0, .int 0, .int 0, .int 0, .int 0, .ref q132, .ref q133, .ref q134, .ref q135, .ref q136, .ref q137, .ref q138, .ref q139, .ref q140, .int 0]))] H := hP
      have hD : va_D A [(q143, .inl (y144, 1, .inr (.inl (fun _ => 0)))), (q77, .inr (20, [.int 1, .ref q78, .int 0, .int 0, .ref q80, .ref q82, .ref q84, .ref q86, .ref q88, .ref q90, .ref q91, .ref q93, .ref q94, .ref q105, .ref q106, .ref q124, .ref q131, .int 0, .int 0, .int 0, .int 0, .int 0, .int 0, .int 0, .int 0, .int 0, .ref q132, .ref q133, .ref q134, .ref q135, .ref q136, .ref q137, .ref q138, .ref q139, .ref q140, .int 0]))] := hD
      have hK : va_K (dC, dI) vwCl [(y144, .long)] s := hK
      refine W.widen (k := 456) (n := 2511905) (by decide +kernel) (by decide +kernel) ?_
      refine lv_istore (lv' := [(6, .int 0), (5, .int 1), (4, .int 0), (3, .ref q143), (2, .ref q77), (1, .ref q1), (0, .ref b)]) hx hb dL_law_920 hl (by decide) rfl (fun ls hl => ?_)
      refine lv_aload_n hx hb dL_law_922 rfl (lv_at hl 4 rfl) ?_
      have hPc := hP.sub (ws' := [(q77, .inr (20, [.int 1, .ref q78, .int 0, .int 0, .ref q80, .ref q82, .ref q84, .ref q86, .ref q88, .ref q90, .ref q91, .ref q93, .ref q94, .ref q105, .ref q106, .ref q124, .ref q131, .int 0, .int 0, .int 0, .int 0, .int 0, .int 0, .int 0, .int 0, .int 0, .ref q132, .ref q133, .ref q134, .ref q135, .ref q136, .ref q137, .ref q138, .ref q139, .ref q140, .int 0]))]) [1] rfl
      have hDc := hD.sub (ws' := [(q77, .inr (20, [.int 1, .ref q78, .int 0, .int 0, .ref q80, .ref q82, .ref q84, .ref q86, .ref q88, .ref q90, .ref q91, .ref q93, .ref q94, .ref q105, .ref q106, .ref q124, .ref q131, .int 0, .int 0, .int 0, .int 0, .int 0, .int 0, .int 0, .int 0, .int 0, .ref q132, .ref q133, .ref q134, .ref q135, .ref q136, .ref q137, .ref q138, .ref q139, .ref q140, .int 0]))]) [1] (by decide) rfl
      have hKc := hK.sub (tys' := []) [] rfl
      have hFc := va_free (wc := [(q77, .inr (20, [.int 1, .ref q78, .int 0, .int 0, .ref q80, .ref q82, .ref q84, .ref q86, .ref q88, .ref q90, .ref q91, .ref q93, .ref q94, .ref q105, .ref q106, .ref q124, .ref q131, .int 0, .int 0, .int 0, .int 0, .int 0, .int 0, .int 0, .int 0, .int 0, .ref q132, .ref q133, .ref q134, .ref q135, .ref q136, .ref q137, .ref q138, .ref q139, .ref q140, .int 0]))]) hD hS hA [1] rfl
      refine va_calli (va_runV (As := []) (rest := []) ⟨hx, hb, hml, hown, hts⟩ (k_X19_thrown l hlt dC dI q77 q78 q80 q82 q84 q86 q88 q90 q91 q93 q94 q105 q106 q124 q131 q132 q133 q134 q135 q136 q137 q138 q139 q140  H.size) (cwV 0 hts gl_8 rfl rfl rfl (by decide +kernel) ⟨Nat.le_of_ble_eq_true rfl, Nat.le_of_ble_eq_true rfl⟩) ⟨fun a U g mk q => by obtain ⟨q0, q1, qP, qK, qD, qN⟩ := q; exact ⟨q0, q1, qP, va_K.moved (u := U) (U := U.calling g mk a) (Vm.Alike.refl U.vm) qK, qD, nv_same rfl rfl qN⟩, va_recv hKc hPc (ci := 20) (q0 := 0) rfl rfl, fun U hU hW => ⟨rfl, by rw [hU], by rw [hU]; exact hPc, va_K.moved hW.alike hKc, hDc.weaken (fun _ _ _ _ => trivial), nv_call hS hFc hU hW hN⟩⟩ rfl rfl hl.1 rfl (lv_room (Nat.le_of_ble_eq_true rfl)) dL_law_923 ⟨by decide +kernel, by decide +kernel⟩) hS (fun q _ h => hFc q h) hFc (fun r505 u t H1 locs ht hvm hw hB hz1 hk1 hS => ?_)
      obtain ⟨hP1, hK1, hD1⟩ := hB
      rw [ht] at hP1
      have hK1 := va_K.moved hvm.symm hK1
      obtain rfl : r505 = 1 := hw
      obtain ⟨hP, hD⟩ := va_join (wr := [(q143, .inl (y144, 1, .inr (.inl (fun _ => 0))))]) (w1 := [(q77, .inr (20, [.int 1, .ref q78, .int 0, .int 0, .ref q80, .ref q82, .ref q84, .ref q86, .ref q88, .ref q90, .ref q91, .ref q93, .ref q94, .ref q105, .ref q106, .ref q124, .ref q131, .int 0, .int 0, .int 0, .int 0, .int 0, .int 0, .int 0, .int 0, .int 0, .ref q132, .ref q133, .ref q134, .ref q135, .ref q136, .ref q137, .ref q138, .ref q139, .ref q140, .int 0]))]) hP hD [1] [0] rfl rfl (by decide) (by decide) hk1 hFc hP1 hD1
      have hK := (hK.sub (tys' := [(y144, .long)]) [0] rfl).app hK1
      generalize H1 = H at hP hS ⊢
      have hP : va_P (dC, dI) vwCl [(q143, .inl (y144, 1, .inr (.inl (fun _ => 0)))), (q77, .inr (20, [.int 1, .ref q78, .int 0, .int 0, .ref q80, .ref q82, .ref q84, .ref q86, .ref q88, .ref q90, .ref q91, .ref q93, .ref q94, .ref q105, .ref q106, .ref q124, .ref q131, .int 0, .int 0, .int 0, .int 0, .int 0, .int 0, .int 0, .int 0, .int 0, .ref q132, .ref q133, .ref q134, .ref q135, .ref q136, .ref q137, .ref q138, .ref q139, .ref q140, .int 0]))] H := hP
      have hD : va_D A [(q143, .inl (y144, 1, .inr (.inl (fun _ => 0)))), (q77, .inr (20, [.int 1, .ref q78, .int 0, .int 0, .ref q80, .ref q82, .ref q84, .ref q86, .ref q88, .ref q90, .ref q91, .ref q93, .ref q94, .ref q105, .ref q106, .ref q124, .ref q131, .int 0, .int 0, .int 0, .int 0, .int 0, .int 0, .int 0, .int 0, .int 0, .ref q132, .ref q133, .ref q134, .ref q135, .ref q136, .ref q137, .ref q138, .ref q139, .ref q140, .int 0]))] := hD
      have hK : va_K (dC, dI) vwCl [(y144, .long)] s := hK
      refine W.widen (k := 456) (n := 2511905) (by decide +kernel) (by decide +kernel) ?_
      refine lv_iload hx hb dL_law_926 (lv_at hl 1 rfl) ?_
      refine lv_icmp_eq (tgt := 933) hx hb dL_law_928 (by decide) (fun _ => ?_) (fun h9 => absurd (by decide) h9)
      refine lv_iload hx hb dL_law_933 (lv_at hl 1 rfl) ?_
      refine lv_if_ne (tgt := 957) hx hb dL_law_935 (by decide) (fun _ => ?_) (fun h9 => absurd h9 (by decide))
      refine lv_goto (tgt := 1493) hx hb dL_law_957 (by decide) ?_
      refine lv_iinc (v := 6) (lv' := [(4, .int 6), (6, .int 0), (5, .int 1), (3, .ref q143), (2, .ref q77), (1, .ref q1), (0, .ref b)]) hx hb dL_law_1493 hl (k := 2) rfl (by decide) (by decide) rfl (fun ls hl => ?_)
      refine lv_goto (tgt := 23) hx hb dL_law_1496 (by decide) ?_
      refine W.widen (k := 600002) (n := 7302232) (by decide +kernel) (by decide +kernel) ?_
      exact kkE _ _ _ hS (lv_sub hl [0, 6] rfl)
    · exact absurd c_1_0 c_2_0
    · exact absurd c_1_0 c_2_0
    · exact h9.elim
  · subst h9
    subst h8
    obtain ⟨hP1, hK1, hD1⟩ := hB
    rw [ht] at hP1
    have hK1 := va_K.moved hvm.symm hK1
    obtain ⟨hP, hD⟩ := va_join (wr := [(q77, .inr (20, [.int 0, .ref q78, .int 0, .int 0, .ref q80, .ref q82, .ref q84, .ref q86, .ref q88, .ref q90, .ref q91, .ref q93, .ref q94, .ref q105, .ref q106, .ref q124, .ref q131, .int 0, .int 0, .int 0, .int 0, .int 0, .int 0, .int 0, .int 0, .int 0, .ref q132, .ref q133, .ref q134, .ref q135, .ref q136, .ref q137, .ref q138, .ref q139, .ref q140, .int 0])), (q106, .inr (16, [.ref q105, .int 0, .ref q107, .ref q108, .ref q110, .ref q111, .ref q112, .ref q113, .ref q114, .int 0, .int 0, .int 0, .int 0, .int 0, .int 0, .long 0, .ref q115, .ref q116, .ref q117, .ref q118, .int 0, .int 0, .long 0, .ref q119, .ref q120, .ref q121, .ref q122, .ref q123])), (q108, .inl (y109, 8, .inl (fun _ => 0)))]) (w1 := [(q143, .inl (y144, 1, .inr (.inl (fun _ => 0))))]) hP hD [0, 1, 5] [2, 3, 4] rfl rfl (by decide) (by decide) hk1 hFc hP1 hD1
    have hK := (hK.sub (tys' := [(y109, .boolean)]) [1] rfl).app hK1
    generalize H1 = H at hP hS ⊢
    have hP : va_P (dC, dI) vwCl [(q77, .inr (20, [.int 0, .ref q78, .int 0, .int 0, .ref q80, .ref q82, .ref q84, .ref q86, .ref q88, .ref q90, .ref q91, .ref q93, .ref q94, .ref q105, .ref q106, .ref q124, .ref q131, .int 0, .int 0, .int 0, .int 0, .int 0, .int 0, .int 0, .int 0, .int 0, .ref q132, .ref q133, .ref q134, .ref q135, .ref q136, .ref q137, .ref q138, .ref q139, .ref q140, .int 0])), (q106, .inr (16, [.ref q105, .int 0, .ref q107, .ref q108, .ref q110, .ref q111, .ref q112, .ref q113, .ref q114, .int 0, .int 0, .int 0, .int 0, .int 0, .int 0, .long 0, .ref q115, .ref q116, .ref q117, .ref q118, .int 0, .int 0, .long 0, .ref q119, .ref q120, .ref q121, .ref q122, .ref q123])), (q108, .inl (y109, 8, .inl (fun _ => 0))), (q143, .inl (y144, 1, .inr (.inl (fun _ => 0))))] H := hP
    have hD : va_D A [(q77, .inr (20, [.int 0, .ref q78, .int 0, .int 0, .ref q80, .ref q82, .ref q84, .ref q86, .ref q88, .ref q90, .ref q91, .ref q93, .ref q94, .ref q105, .ref q106, .ref q124, .ref q131, .int 0, .int 0, .int 0, .int 0, .int 0, .int 0, .int 0, .int 0, .int 0, .ref q132, .ref q133, .ref q134, .ref q135, .ref q136, .ref q137, .ref q138, .ref q139, .ref q140, .int 0])), (q106, .inr (16, [.ref q105, .int 0, .ref q107, .ref q108, .ref q110, .ref q111, .ref q112, .ref q113, .ref q114, .int 0, .int 0, .int 0, .int 0, .int 0, .int 0, .long 0, .ref q115, .ref q116, .ref q117, .ref q118, .int 0, .int 0, .long 0, .ref q119, .ref q120, .ref q121, .ref q122, .ref q123])), (q108, .inl (y109, 8, .inl (fun _ => 0))), (q143, .inl (y144, 1, .inr (.inl (fun _ => 0))))] := hD
    have hK : va_K (dC, dI) vwCl [(y109, .boolean), (y144, .long)] s := hK
    refine W.widen (k := 456) (n := 2511905) (by decide +kernel) (by decide +kernel) ?_
    refine lv_istore (lv' := [(5, .int 1), (4, .int 0), (3, .ref q143), (2, .ref q77), (1, .ref q1), (0, .ref b)]) hx hb dL_law_908 hl (by decide) rfl (fun ls hl => ?_)
    refine lv_aload_n hx hb dL_law_910 rfl (lv_at hl 3 rfl) ?_
    refine lv_aload_n hx hb dL_law_911 rfl (lv_at hl 5 rfl) ?_
    refine lv_iload hx hb dL_law_912 (lv_at hl 1 rfl) ?_
    refine lv_iconst (v := 1) hx hb dL_law_914 (by decide) ?_
    refine lv_iadd hx hb dL_law_915 ?_
    refine lv_topi (fun z506 ez506 => ?_)
    obtain rfl : z506 = 1 := ez506.trans (by decide)
    refine va_sld (i := 1) hx hb hX hbl hbA hS (vp_in_iff.mpr ⟨by decide, by decide⟩) dL_law_916 ?_
    rw [es1]
    have hPc := hP.sub (ws' := [(q77, .inr (20, [.int 0, .ref q78, .int 0, .int 0, .ref q80, .ref q82, .ref q84, .ref q86, .ref q88, .ref q90, .ref q91, .ref q93, .ref q94, .ref q105, .ref q106, .ref q124, .ref q131, .int 0, .int 0, .int 0, .int 0, .int 0, .int 0, .int 0, .int 0, .int 0, .ref q132, .ref q133, .ref q134, .ref q135, .ref q136, .ref q137, .ref q138, .ref q139, .ref q140, .int 0])), (q106, .inr (16, [.ref q105, .int 0, .ref q107, .ref q108, .ref q110, .ref q111, .ref q112, .ref q113, .ref q114, .int 0, .int 0, .int 0, .int 0, .int 0, .int 0, .long 0, .ref q115, .ref q116, .ref q117, .ref q118, .int 0, .int 0, .long 0, .ref q119, .ref q120, .ref q121, .ref q122, .ref q123])), (q108, .inl (y109, 8, .inl (fun _ => 0)))]) [0, 1, 2] rfl
    have hDc := hD.sub (ws' := [(q77, .inr (20, [.int 0, .ref q78, .int 0, .int 0, .ref q80, .ref q82, .ref q84, .ref q86, .ref q88, .ref q90, .ref q91, .ref q93, .ref q94, .ref q105, .ref q106, .ref q124, .ref q131, .int 0, .int 0, .int 0, .int 0, .int 0, .int 0, .int 0, .int 0, .int 0, .ref q132, .ref q133, .ref q134, .ref q135, .ref q136, .ref q137, .ref q138, .ref q139, .ref q140, .int 0])), (q106, .inr (16, [.ref q105, .int 0, .ref q107, .ref q108, .ref q110, .ref q111, .ref q112, .ref q113, .ref q114, .int 0, .int 0, .int 0, .int 0, .int 0, .int 0, .long 0, .ref q115, .ref q116, .ref q117, .ref q118, .int 0, .int 0, .long 0, .ref q119, .ref q120, .ref q121, .ref q122, .ref q123])), (q108, .inl (y109, 8, .inl (fun _ => 0)))]) [0, 1, 2] (by decide) rfl
    have hKc := hK.sub (tys' := [(y109, .boolean)]) [0] rfl
    have hFc := va_free (wc := [(q77, .inr (20, [.int 0, .ref q78, .int 0, .int 0, .ref q80, .ref q82, .ref q84, .ref q86, .ref q88, .ref q90, .ref q91, .ref q93, .ref q94, .ref q105, .ref q106, .ref q124, .ref q131, .int 0, .int 0, .int 0, .int 0, .int 0, .int 0, .int 0, .int 0, .int 0, .ref q132, .ref q133, .ref q134, .ref q135, .ref q136, .ref q137, .ref q138, .ref q139, .ref q140, .int 0])), (q106, .inr (16, [.ref q105, .int 0, .ref q107, .ref q108, .ref q110, .ref q111, .ref q112, .ref q113, .ref q114, .int 0, .int 0, .int 0, .int 0, .int 0, .int 0, .long 0, .ref q115, .ref q116, .ref q117, .ref q118, .int 0, .int 0, .long 0, .ref q119, .ref q120, .ref q121, .ref q122, .ref q123])), (q108, .inl (y109, 8, .inl (fun _ => 0)))]) hD hS hA [0, 1, 2] rfl
    refine va_calli (va_runV (As := [.int x1]) (rest := []) ⟨hx, hb, hml, hown, hts⟩ (k_X19_drop l hlt dC dI q77 q106 q108 y109 x1 q78 q80 q82 q84 q86 q88 q90 q91 q93 q94 q105 q124 q131 q132 q133 q134 q135 q136 q137 q138 q139 q140 q107 q110 q111 q112 q113 q114 q115 q116 q117 q118 q119 q120 q121 q122 q123  H.size) (cwV 1 hts gl_38 rfl rfl rfl (by decide +kernel) ⟨Nat.le_of_ble_eq_true rfl, Nat.le_of_ble_eq_true rfl⟩) ⟨fun a U g mk q => by obtain ⟨q0, q1, qP, qK, qD, qN⟩ := q; exact ⟨q0, q1, qP, va_K.moved (u := U) (U := U.calling g mk a) (Vm.Alike.refl U.vm) qK, qD, nv_same rfl rfl qN⟩, va_recv hKc hPc (ci := 20) (q0 := 0) rfl rfl, fun U hU hW => ⟨rfl, by rw [hU], by rw [hU]; exact hPc, va_K.moved hW.alike hKc, hDc.weaken (fun _ _ _ _ => trivial), nv_call hS hFc hU hW hN⟩⟩ rfl rfl hl.1 rfl (lv_room (Nat.le_of_ble_eq_true rfl)) dL_law_917 ⟨by decide +kernel, by decide +kernel⟩) hS (fun q _ h => hFc q h) hFc (fun r507 u t H1 locs ht hvm hw hB hz1 hk1 hS => ?_)
    rcases hw with ⟨c_3_0, h9, h8⟩ | ⟨c_3_0, c_3_1, h9, h8⟩ | ⟨c_3_0, c_3_1, h9, h8⟩ | h9
    · exact absurd c_3_0 c_1_0
    · subst h9
      subst h8
      obtain ⟨hP1, hK1, hD1⟩ := hB
      rw [ht] at hP1
      have hK1 := va_K.moved hvm.symm hK1
      obtain ⟨hP, hD⟩ := va_join (wr := [(q143, .inl (y144, 1, .inr (.inl (fun _ => 0))))]) (w1 := [(q77, .inr (20, [.int 1, .ref q78, .int 0, .int 0, .ref q80, .ref q82, .ref q84, .ref q86, .ref q88, .ref q90, .ref q91, .ref q93, .ref q94, .ref q105, .ref q106, .ref q124, .ref q131, .int 0, .int 0, .int 0, .int 0, .int 0, .int 0, .int 0, .int 0, .int 0, .ref q132, .ref q133, .ref q134, .ref q135, .ref q136, .ref q137, .ref q138, .ref q139, .ref q140, .int 0]))]) hP hD [0, 1, 2] [3] rfl rfl (by decide) (by decide) hk1 hFc hP1 hD1
      have hK := (hK.sub (tys' := [(y144, .long)]) [1] rfl).app hK1
      generalize H1 = H at hP hS ⊢
      have hP : va_P (dC, dI) vwCl [(q143, .inl (y144, 1, .inr (.inl (fun _ => 0)))), (q77, .inr (20, [.int 1, .ref q78, .int 0, .int 0, .ref q80, .ref q82, .ref q84, .ref q86, .ref q88, .ref q90, .ref q91, .ref q93, .ref q94, .ref q105, .ref q106, .ref q124, .ref q131, .int 0, .int 0, .int 0, .int 0, .int 0, .int 0, .int 0, .int 0, .int 0, .ref q132, .ref q133, .ref q134, .ref q135, .ref q136, .ref q137, .ref q138, .ref q139, .ref q140, .int 0]))] H := hP
      have hD : va_D A [(q143, .inl (y144, 1, .inr (.inl (fun _ => 0)))), (q77, .inr (20, [.int 1, .ref q78, .int 0, .int 0, .ref q80, .ref q82, .ref q84, .ref q86, .ref q88, .ref q90, .ref q91, .ref q93, .ref q94, .ref q105, .ref q106, .ref q124, .ref q131, .int 0, .int 0, .int 0, .int 0, .int 0, .int 0, .int 0, .int 0, .int 0, .ref q132, .ref q133, .ref q134, .ref q135, .ref q136, .ref q137, .ref q138, .ref q139, .ref q140, .int 0]))] := hD
      have hK : va_K (dC, dI) vwCl [(y144, .long)] s := hK
      refine W.widen (k := 456) (n := 2511905) (by decide +kernel) (by decide +kernel) ?_
      refine lv_istore (lv' := [(6, .int 0), (5, .int 1), (4, .int 0), (3, .ref q143), (2, .ref q77), (1, .ref q1), (0, .ref b)]) hx hb dL_law_920 hl (by decide) rfl (fun ls hl => ?_)
      refine lv_aload_n hx hb dL_law_922 rfl (lv_at hl 4 rfl) ?_
      have hPc := hP.sub (ws' := [(q77, .inr (20, [.int 1, .ref q78, .int 0, .int 0, .ref q80, .ref q82, .ref q84, .ref q86, .ref q88, .ref q90, .ref q91, .ref q93, .ref q94, .ref q105, .ref q106, .ref q124, .ref q131, .int 0, .int 0, .int 0, .int 0, .int 0, .int 0, .int 0, .int 0, .int 0, .ref q132, .ref q133, .ref q134, .ref q135, .ref q136, .ref q137, .ref q138, .ref q139, .ref q140, .int 0]))]) [1] rfl
      have hDc := hD.sub (ws' := [(q77, .inr (20, [.int 1, .ref q78, .int 0, .int 0, .ref q80, .ref q82, .ref q84, .ref q86, .ref q88, .ref q90, .ref q91, .ref q93, .ref q94, .ref q105, .ref q106, .ref q124, .ref q131, .int 0, .int 0, .int 0, .int 0, .int 0, .int 0, .int 0, .int 0, .int 0, .ref q132, .ref q133, .ref q134, .ref q135, .ref q136, .ref q137, .ref q138, .ref q139, .ref q140, .int 0]))]) [1] (by decide) rfl
      have hKc := hK.sub (tys' := []) [] rfl
      have hFc := va_free (wc := [(q77, .inr (20, [.int 1, .ref q78, .int 0, .int 0, .ref q80, .ref q82, .ref q84, .ref q86, .ref q88, .ref q90, .ref q91, .ref q93, .ref q94, .ref q105, .ref q106, .ref q124, .ref q131, .int 0, .int 0, .int 0, .int 0, .int 0, .int 0, .int 0, .int 0, .int 0, .ref q132, .ref q133, .ref q134, .ref q135, .ref q136, .ref q137, .ref q138, .ref q139, .ref q140, .int 0]))]) hD hS hA [1] rfl
      refine va_calli (va_runV (As := []) (rest := []) ⟨hx, hb, hml, hown, hts⟩ (k_X19_thrown l hlt dC dI q77 q78 q80 q82 q84 q86 q88 q90 q91 q93 q94 q105 q106 q124 q131 q132 q133 q134 q135 q136 q137 q138 q139 q140  H.size) (cwV 0 hts gl_8 rfl rfl rfl (by decide +kernel) ⟨Nat.le_of_ble_eq_true rfl, Nat.le_of_ble_eq_true rfl⟩) ⟨fun a U g mk q => by obtain ⟨q0, q1, qP, qK, qD, qN⟩ := q; exact ⟨q0, q1, qP, va_K.moved (u := U) (U := U.calling g mk a) (Vm.Alike.refl U.vm) qK, qD, nv_same rfl rfl qN⟩, va_recv hKc hPc (ci := 20) (q0 := 0) rfl rfl, fun U hU hW => ⟨rfl, by rw [hU], by rw [hU]; exact hPc, va_K.moved hW.alike hKc, hDc.weaken (fun _ _ _ _ => trivial), nv_call hS hFc hU hW hN⟩⟩ rfl rfl hl.1 rfl (lv_room (Nat.le_of_ble_eq_true rfl)) dL_law_923 ⟨by decide +kernel, by decide +kernel⟩) hS (fun q _ h => hFc q h) hFc (fun r508 u t H1 locs ht hvm hw hB hz1 hk1 hS => ?_)
      obtain ⟨hP1, hK1, hD1⟩ := hB
      rw [ht] at hP1
      have hK1 := va_K.moved hvm.symm hK1
      obtain rfl : r508 = 1 := hw
      obtain ⟨hP, hD⟩ := va_join (wr := [(q143, .inl (y144, 1, .inr (.inl (fun _ => 0))))]) (w1 := [(q77, .inr (20, [.int 1, .ref q78, .int 0, .int 0, .ref q80, .ref q82, .ref q84, .ref q86, .ref q88, .ref q90, .ref q91, .ref q93, .ref q94, .ref q105, .ref q106, .ref q124, .ref q131, .int 0, .int 0, .int 0, .int 0, .int 0, .int 0, .int 0, .int 0, .int 0, .ref q132, .ref q133, .ref q134, .ref q135, .ref q136, .ref q137, .ref q138, .ref q139, .ref q140, .int 0]))]) hP hD [1] [0] rfl rfl (by decide) (by decide) hk1 hFc hP1 hD1
      have hK := (hK.sub (tys' := [(y144, .long)]) [0] rfl).app hK1
      generalize H1 = H at hP hS ⊢
      have hP : va_P (dC, dI) vwCl [(q143, .inl (y144, 1, .inr (.inl (fun _ => 0)))), (q77, .inr (20, [.int 1, .ref q78, .int 0, .int 0, .ref q80, .ref q82, .ref q84, .ref q86, .ref q88, .ref q90, .ref q91, .ref q93, .ref q94, .ref q105, .ref q106, .ref q124, .ref q131, .int 0, .int 0, .int 0, .int 0, .int 0, .int 0, .int 0, .int 0, .int 0, .ref q132, .ref q133, .ref q134, .ref q135, .ref q136, .ref q137, .ref q138, .ref q139, .ref q140, .int 0]))] H := hP
      have hD : va_D A [(q143, .inl (y144, 1, .inr (.inl (fun _ => 0)))), (q77, .inr (20, [.int 1, .ref q78, .int 0, .int 0, .ref q80, .ref q82, .ref q84, .ref q86, .ref q88, .ref q90, .ref q91, .ref q93, .ref q94, .ref q105, .ref q106, .ref q124, .ref q131, .int 0, .int 0, .int 0, .int 0, .int 0, .int 0, .int 0, .int 0, .int 0, .ref q132, .ref q133, .ref q134, .ref q135, .ref q136, .ref q137, .ref q138, .ref q139, .ref q140, .int 0]))] := hD
      have hK : va_K (dC, dI) vwCl [(y144, .long)] s := hK
      refine W.widen (k := 456) (n := 2511905) (by decide +kernel) (by decide +kernel) ?_
      refine lv_iload hx hb dL_law_926 (lv_at hl 1 rfl) ?_
      refine lv_icmp_eq (tgt := 933) hx hb dL_law_928 (by decide) (fun _ => ?_) (fun h9 => absurd (by decide) h9)
      refine lv_iload hx hb dL_law_933 (lv_at hl 1 rfl) ?_
      refine lv_if_ne (tgt := 957) hx hb dL_law_935 (by decide) (fun _ => ?_) (fun h9 => absurd h9 (by decide))
      refine lv_goto (tgt := 1493) hx hb dL_law_957 (by decide) ?_
      refine lv_iinc (v := 6) (lv' := [(4, .int 6), (6, .int 0), (5, .int 1), (3, .ref q143), (2, .ref q77), (1, .ref q1), (0, .ref b)]) hx hb dL_law_1493 hl (k := 2) rfl (by decide) (by decide) rfl (fun ls hl => ?_)
      refine lv_goto (tgt := 23) hx hb dL_law_1496 (by decide) ?_
      refine W.widen (k := 600002) (n := 7302232) (by decide +kernel) (by decide +kernel) ?_
      exact kkE _ _ _ hS (lv_sub hl [0, 6] rfl)
    · exact (cz_6 x1 c_1_0 c_1_1 c_3_1).elim
    · exact h9.elim
  · subst h9
    subst h8
    obtain ⟨hP1, hK1, hD1⟩ := hB
    rw [ht] at hP1
    have hK1 := va_K.moved hvm.symm hK1
    obtain ⟨hP, hD⟩ := va_join (wr := [(q77, .inr (20, [.int 0, .ref q78, .int 0, .int 0, .ref q80, .ref q82, .ref q84, .ref q86, .ref q88, .ref q90, .ref q91, .ref q93, .ref q94, .ref q105, .ref q106, .ref q124, .ref q131, .int 0, .int 0, .int 0, .int 0, .int 0, .int 0, .int 0, .int 0, .int 0, .ref q132, .ref q133, .ref q134, .ref q135, .ref q136, .ref q137, .ref q138, .ref q139, .ref q140, .int 0])), (q106, .inr (16, [.ref q105, .int 0, .ref q107, .ref q108, .ref q110, .ref q111, .ref q112, .ref q113, .ref q114, .int 0, .int 0, .int 0, .int 0, .int 0, .int 0, .long 0, .ref q115, .ref q116, .ref q117, .ref q118, .int 0, .int 0, .long 0, .ref q119, .ref q120, .ref q121, .ref q122, .ref q123])), (q108, .inl (y109, 8, .inl (fun _ => 0)))]) (w1 := [(q143, .inl (y144, 1, .inr (.inl (vp_updL (fun _ => 0) (Int32.toNatClampNeg 0) 0))))]) hP hD [0, 1, 5] [2, 3, 4] rfl rfl (by decide) (by decide) hk1 hFc hP1 hD1
    have hK := (hK.sub (tys' := [(y109, .boolean)]) [1] rfl).app hK1
    generalize H1 = H at hP hS ⊢
    have hP : va_P (dC, dI) vwCl [(q77, .inr (20, [.int 0, .ref q78, .int 0, .int 0, .ref q80, .ref q82, .ref q84, .ref q86, .ref q88, .ref q90, .ref q91, .ref q93, .ref q94, .ref q105, .ref q106, .ref q124, .ref q131, .int 0, .int 0, .int 0, .int 0, .int 0, .int 0, .int 0, .int 0, .int 0, .ref q132, .ref q133, .ref q134, .ref q135, .ref q136, .ref q137, .ref q138, .ref q139, .ref q140, .int 0])), (q106, .inr (16, [.ref q105, .int 0, .ref q107, .ref q108, .ref q110, .ref q111, .ref q112, .ref q113, .ref q114, .int 0, .int 0, .int 0, .int 0, .int 0, .int 0, .long 0, .ref q115, .ref q116, .ref q117, .ref q118, .int 0, .int 0, .long 0, .ref q119, .ref q120, .ref q121, .ref q122, .ref q123])), (q108, .inl (y109, 8, .inl (fun _ => 0))), (q143, .inl (y144, 1, .inr (.inl (vp_updL (fun _ => 0) (Int32.toNatClampNeg 0) 0))))] H := hP
    have hD : va_D A [(q77, .inr (20, [.int 0, .ref q78, .int 0, .int 0, .ref q80, .ref q82, .ref q84, .ref q86, .ref q88, .ref q90, .ref q91, .ref q93, .ref q94, .ref q105, .ref q106, .ref q124, .ref q131, .int 0, .int 0, .int 0, .int 0, .int 0, .int 0, .int 0, .int 0, .int 0, .ref q132, .ref q133, .ref q134, .ref q135, .ref q136, .ref q137, .ref q138, .ref q139, .ref q140, .int 0])), (q106, .inr (16, [.ref q105, .int 0, .ref q107, .ref q108, .ref q110, .ref q111, .ref q112, .ref q113, .ref q114, .int 0, .int 0, .int 0, .int 0, .int 0, .int 0, .long 0, .ref q115, .ref q116, .ref q117, .ref q118, .int 0, .int 0, .long 0, .ref q119, .ref q120, .ref q121, .ref q122, .ref q123])), (q108, .inl (y109, 8, .inl (fun _ => 0))), (q143, .inl (y144, 1, .inr (.inl (vp_updL (fun _ => 0) (Int32.toNatClampNeg 0) 0))))] := hD
    have hK : va_K (dC, dI) vwCl [(y109, .boolean), (y144, .long)] s := hK
    refine W.widen (k := 456) (n := 2511905) (by decide +kernel) (by decide +kernel) ?_
    refine lv_istore (lv' := [(5, .int 0), (4, .int 0), (3, .ref q143), (2, .ref q77), (1, .ref q1), (0, .ref b)]) hx hb dL_law_908 hl (by decide) rfl (fun ls hl => ?_)
    refine lv_aload_n hx hb dL_law_910 rfl (lv_at hl 3 rfl) ?_
    refine lv_aload_n hx hb dL_law_911 rfl (lv_at hl 5 rfl) ?_
    refine lv_iload hx hb dL_law_912 (lv_at hl 1 rfl) ?_
    refine lv_iconst (v := 1) hx hb dL_law_914 (by decide) ?_
    refine lv_iadd hx hb dL_law_915 ?_
    refine lv_topi (fun z509 ez509 => ?_)
    obtain rfl : z509 = 1 := ez509.trans (by decide)
    refine va_sld (i := 1) hx hb hX hbl hbA hS (vp_in_iff.mpr ⟨by decide, by decide⟩) dL_law_916 ?_
    rw [es1]
    have hPc := hP.sub (ws' := [(q77, .inr (20, [.int 0, .ref q78, .int 0, .int 0, .ref q80, .ref q82, .ref q84, .ref q86, .ref q88, .ref q90, .ref q91, .ref q93, .ref q94, .ref q105, .ref q106, .ref q124, .ref q131, .int 0, .int 0, .int 0, .int 0, .int 0, .int 0, .int 0, .int 0, .int 0, .ref q132, .ref q133, .ref q134, .ref q135, .ref q136, .ref q137, .ref q138, .ref q139, .ref q140, .int 0])), (q106, .inr (16, [.ref q105, .int 0, .ref q107, .ref q108, .ref q110, .ref q111, .ref q112, .ref q113, .ref q114, .int 0, .int 0, .int 0, .int 0, .int 0, .int 0, .long 0, .ref q115, .ref q116, .ref q117, .ref q118, .int 0, .int 0, .long 0, .ref q119, .ref q120, .ref q121, .ref q122, .ref q123])), (q108, .inl (y109, 8, .inl (fun _ => 0)))]) [0, 1, 2] rfl
    have hDc := hD.sub (ws' := [(q77, .inr (20, [.int 0, .ref q78, .int 0, .int 0, .ref q80, .ref q82, .ref q84, .ref q86, .ref q88, .ref q90, .ref q91, .ref q93, .ref q94, .ref q105, .ref q106, .ref q124, .ref q131, .int 0, .int 0, .int 0, .int 0, .int 0, .int 0, .int 0, .int 0, .int 0, .ref q132, .ref q133, .ref q134, .ref q135, .ref q136, .ref q137, .ref q138, .ref q139, .ref q140, .int 0])), (q106, .inr (16, [.ref q105, .int 0, .ref q107, .ref q108, .ref q110, .ref q111, .ref q112, .ref q113, .ref q114, .int 0, .int 0, .int 0, .int 0, .int 0, .int 0, .long 0, .ref q115, .ref q116, .ref q117, .ref q118, .int 0, .int 0, .long 0, .ref q119, .ref q120, .ref q121, .ref q122, .ref q123])), (q108, .inl (y109, 8, .inl (fun _ => 0)))]) [0, 1, 2] (by decide) rfl
    have hKc := hK.sub (tys' := [(y109, .boolean)]) [0] rfl
    have hFc := va_free (wc := [(q77, .inr (20, [.int 0, .ref q78, .int 0, .int 0, .ref q80, .ref q82, .ref q84, .ref q86, .ref q88, .ref q90, .ref q91, .ref q93, .ref q94, .ref q105, .ref q106, .ref q124, .ref q131, .int 0, .int 0, .int 0, .int 0, .int 0, .int 0, .int 0, .int 0, .int 0, .ref q132, .ref q133, .ref q134, .ref q135, .ref q136, .ref q137, .ref q138, .ref q139, .ref q140, .int 0])), (q106, .inr (16, [.ref q105, .int 0, .ref q107, .ref q108, .ref q110, .ref q111, .ref q112, .ref q113, .ref q114, .int 0, .int 0, .int 0, .int 0, .int 0, .int 0, .long 0, .ref q115, .ref q116, .ref q117, .ref q118, .int 0, .int 0, .long 0, .ref q119, .ref q120, .ref q121, .ref q122, .ref q123])), (q108, .inl (y109, 8, .inl (fun _ => 0)))]) hD hS hA [0, 1, 2] rfl
    refine va_calli (va_runV (As := [.int x1]) (rest := []) ⟨hx, hb, hml, hown, hts⟩ (k_X19_drop l hlt dC dI q77 q106 q108 y109 x1 q78 q80 q82 q84 q86 q88 q90 q91 q93 q94 q105 q124 q131 q132 q133 q134 q135 q136 q137 q138 q139 q140 q107 q110 q111 q112 q113 q114 q115 q116 q117 q118 q119 q120 q121 q122 q123  H.size) (cwV 1 hts gl_38 rfl rfl rfl (by decide +kernel) ⟨Nat.le_of_ble_eq_true rfl, Nat.le_of_ble_eq_true rfl⟩) ⟨fun a U g mk q => by obtain ⟨q0, q1, qP, qK, qD, qN⟩ := q; exact ⟨q0, q1, qP, va_K.moved (u := U) (U := U.calling g mk a) (Vm.Alike.refl U.vm) qK, qD, nv_same rfl rfl qN⟩, va_recv hKc hPc (ci := 20) (q0 := 0) rfl rfl, fun U hU hW => ⟨rfl, by rw [hU], by rw [hU]; exact hPc, va_K.moved hW.alike hKc, hDc.weaken (fun _ _ _ _ => trivial), nv_call hS hFc hU hW hN⟩⟩ rfl rfl hl.1 rfl (lv_room (Nat.le_of_ble_eq_true rfl)) dL_law_917 ⟨by decide +kernel, by decide +kernel⟩) hS (fun q _ h => hFc q h) hFc (fun r510 u t H1 locs ht hvm hw hB hz1 hk1 hS => ?_)
    rcases hw with ⟨c_4_0, h9, h8⟩ | ⟨c_4_0, c_4_1, h9, h8⟩ | ⟨c_4_0, c_4_1, h9, h8⟩ | h9
    · exact absurd c_4_0 c_1_0
    · exact (cz_7 x1 c_1_0 c_1_1 c_4_1).elim
    · subst h9
      subst h8
      obtain ⟨hP1, hK1, hD1⟩ := hB
      rw [ht] at hP1
      have hK1 := va_K.moved hvm.symm hK1
      obtain ⟨hP, hD⟩ := va_join (wr := [(q143, .inl (y144, 1, .inr (.inl (vp_updL (fun _ => 0) (Int32.toNatClampNeg 0) 0))))]) (w1 := [(q77, .inr (20, [.int 0, .ref q78, .int 0, .int 0, .ref q80, .ref q82, .ref q84, .ref q86, .ref q88, .ref q90, .ref q91, .ref q93, .ref q94, .ref q105, .ref q106, .ref q124, .ref q131, .int 0, .int 0, .int 0, .int 0, .int 0, .int 0, .int 0, .int 0, .int 0, .ref q132, .ref q133, .ref q134, .ref q135, .ref q136, .ref q137, .ref q138, .ref q139, .ref q140, .int 0]))]) hP hD [0, 1, 2] [3] rfl rfl (by decide) (by decide) hk1 hFc hP1 hD1
      have hK := (hK.sub (tys' := [(y144, .long)]) [1] rfl).app hK1
      generalize H1 = H at hP hS ⊢
      have hP : va_P (dC, dI) vwCl [(q143, .inl (y144, 1, .inr (.inl (vp_updL (fun _ => 0) (Int32.toNatClampNeg 0) 0)))), (q77, .inr (20, [.int 0, .ref q78, .int 0, .int 0, .ref q80, .ref q82, .ref q84, .ref q86, .ref q88, .ref q90, .ref q91, .ref q93, .ref q94, .ref q105, .ref q106, .ref q124, .ref q131, .int 0, .int 0, .int 0, .int 0, .int 0, .int 0, .int 0, .int 0, .int 0, .ref q132, .ref q133, .ref q134, .ref q135, .ref q136, .ref q137, .ref q138, .ref q139, .ref q140, .int 0]))] H := hP
      have hD : va_D A [(q143, .inl (y144, 1, .inr (.inl (vp_updL (fun _ => 0) (Int32.toNatClampNeg 0) 0)))), (q77, .inr (20, [.int 0, .ref q78, .int 0, .int 0, .ref q80, .ref q82, .ref q84, .ref q86, .ref q88, .ref q90, .ref q91, .ref q93, .ref q94, .ref q105, .ref q106, .ref q124, .ref q131, .int 0, .int 0, .int 0, .int 0, .int 0, .int 0, .int 0, .int 0, .int 0, .ref q132, .ref q133, .ref q134, .ref q135, .ref q136, .ref q137, .ref q138, .ref q139, .ref q140, .int 0]))] := hD
      have hK : va_K (dC, dI) vwCl [(y144, .long)] s := hK
      refine W.widen (k := 456) (n := 2511905) (by decide +kernel) (by decide +kernel) ?_
      refine lv_istore (lv' := [(6, .int 0), (5, .int 0), (4, .int 0), (3, .ref q143), (2, .ref q77), (1, .ref q1), (0, .ref b)]) hx hb dL_law_920 hl (by decide) rfl (fun ls hl => ?_)
      refine lv_aload_n hx hb dL_law_922 rfl (lv_at hl 4 rfl) ?_
      have hPc := hP.sub (ws' := [(q77, .inr (20, [.int 0, .ref q78, .int 0, .int 0, .ref q80, .ref q82, .ref q84, .ref q86, .ref q88, .ref q90, .ref q91, .ref q93, .ref q94, .ref q105, .ref q106, .ref q124, .ref q131, .int 0, .int 0, .int 0, .int 0, .int 0, .int 0, .int 0, .int 0, .int 0, .ref q132, .ref q133, .ref q134, .ref q135, .ref q136, .ref q137, .ref q138, .ref q139, .ref q140, .int 0]))]) [1] rfl
      have hDc := hD.sub (ws' := [(q77, .inr (20, [.int 0, .ref q78, .int 0, .int 0, .ref q80, .ref q82, .ref q84, .ref q86, .ref q88, .ref q90, .ref q91, .ref q93, .ref q94, .ref q105, .ref q106, .ref q124, .ref q131, .int 0, .int 0, .int 0, .int 0, .int 0, .int 0, .int 0, .int 0, .int 0, .ref q132, .ref q133, .ref q134, .ref q135, .ref q136, .ref q137, .ref q138, .ref q139, .ref q140, .int 0]))]) [1] (by decide) rfl
      have hKc := hK.sub (tys' := []) [] rfl
      have hFc := va_free (wc := [(q77, .inr (20, [.int 0, .ref q78, .int 0, .int 0, .ref q80, .ref q82, .ref q84, .ref q86, .ref q88, .ref q90, .ref q91, .ref q93, .ref q94, .ref q105, .ref q106, .ref q124, .ref q131, .int 0, .int 0, .int 0, .int 0, .int 0, .int 0, .int 0, .int 0, .int 0, .ref q132, .ref q133, .ref q134, .ref q135, .ref q136, .ref q137, .ref q138, .ref q139, .ref q140, .int 0]))]) hD hS hA [1] rfl
      refine va_calli (va_runV (As := []) (rest := []) ⟨hx, hb, hml, hown, hts⟩ (k_X19_thrown_v1 l hlt dC dI q77 q78 q80 q82 q84 q86 q88 q90 q91 q93 q94 q105 q106 q124 q131 q132 q133 q134 q135 q136 q137 q138 q139 q140  H.size) (cwV 0 hts gl_9 rfl rfl rfl (by decide +kernel) ⟨Nat.le_of_ble_eq_true rfl, Nat.le_of_ble_eq_true rfl⟩) ⟨fun a U g mk q => by obtain ⟨q0, q1, qP, qK, qD, qN⟩ := q; exact ⟨q0, q1, qP, va_K.moved (u := U) (U := U.calling g mk a) (Vm.Alike.refl U.vm) qK, qD, nv_same rfl rfl qN⟩, va_recv hKc hPc (ci := 20) (q0 := 0) rfl rfl, fun U hU hW => ⟨rfl, by rw [hU], by rw [hU]; exact hPc, va_K.moved hW.alike hKc, hDc.weaken (fun _ _ _ _ => trivial), nv_call hS hFc hU hW hN⟩⟩ rfl rfl hl.1 rfl (lv_room (Nat.le_of_ble_eq_true rfl)) dL_law_923 ⟨by decide +kernel, by decide +kernel⟩) hS (fun q _ h => hFc q h) hFc (fun r511 u t H1 locs ht hvm hw hB hz1 hk1 hS => ?_)
      obtain ⟨hP1, hK1, hD1⟩ := hB
      rw [ht] at hP1
      have hK1 := va_K.moved hvm.symm hK1
      obtain rfl : r511 = 0 := hw
      obtain ⟨hP, hD⟩ := va_join (wr := [(q143, .inl (y144, 1, .inr (.inl (vp_updL (fun _ => 0) (Int32.toNatClampNeg 0) 0))))]) (w1 := [(q77, .inr (20, [.int 0, .ref q78, .int 0, .int 0, .ref q80, .ref q82, .ref q84, .ref q86, .ref q88, .ref q90, .ref q91, .ref q93, .ref q94, .ref q105, .ref q106, .ref q124, .ref q131, .int 0, .int 0, .int 0, .int 0, .int 0, .int 0, .int 0, .int 0, .int 0, .ref q132, .ref q133, .ref q134, .ref q135, .ref q136, .ref q137, .ref q138, .ref q139, .ref q140, .int 0]))]) hP hD [1] [0] rfl rfl (by decide) (by decide) hk1 hFc hP1 hD1
      have hK := (hK.sub (tys' := [(y144, .long)]) [0] rfl).app hK1
      generalize H1 = H at hP hS ⊢
      have hP : va_P (dC, dI) vwCl [(q143, .inl (y144, 1, .inr (.inl (vp_updL (fun _ => 0) (Int32.toNatClampNeg 0) 0)))), (q77, .inr (20, [.int 0, .ref q78, .int 0, .int 0, .ref q80, .ref q82, .ref q84, .ref q86, .ref q88, .ref q90, .ref q91, .ref q93, .ref q94, .ref q105, .ref q106, .ref q124, .ref q131, .int 0, .int 0, .int 0, .int 0, .int 0, .int 0, .int 0, .int 0, .int 0, .ref q132, .ref q133, .ref q134, .ref q135, .ref q136, .ref q137, .ref q138, .ref q139, .ref q140, .int 0]))] H := hP
      have hD : va_D A [(q143, .inl (y144, 1, .inr (.inl (vp_updL (fun _ => 0) (Int32.toNatClampNeg 0) 0)))), (q77, .inr (20, [.int 0, .ref q78, .int 0, .int 0, .ref q80, .ref q82, .ref q84, .ref q86, .ref q88, .ref q90, .ref q91, .ref q93, .ref q94, .ref q105, .ref q106, .ref q124, .ref q131, .int 0, .int 0, .int 0, .int 0, .int 0, .int 0, .int 0, .int 0, .int 0, .ref q132, .ref q133, .ref q134, .ref q135, .ref q136, .ref q137, .ref q138, .ref q139, .ref q140, .int 0]))] := hD
      have hK : va_K (dC, dI) vwCl [(y144, .long)] s := hK
      refine W.widen (k := 456) (n := 2511905) (by decide +kernel) (by decide +kernel) ?_
      refine lv_iload hx hb dL_law_926 (lv_at hl 1 rfl) ?_
      refine lv_icmp_eq (tgt := 933) hx hb dL_law_928 (by decide) (fun _ => ?_) (fun h9 => absurd (by decide) h9)
      refine lv_iload hx hb dL_law_933 (lv_at hl 1 rfl) ?_
      refine lv_if_ne (tgt := 957) hx hb dL_law_935 (by decide) (fun h9 => absurd h9 (by decide)) (fun _ => ?_)
      refine lv_aload_n hx hb dL_law_938 rfl (lv_at hl 3 rfl) ?_
      refine lv_iconst (v := 0) hx hb dL_law_939 (by decide) ?_
      refine va_lald (i := 0) hx hb hK hP 0 0 rfl rfl (vp_in_iff.mpr ⟨by decide, by decide⟩) dL_law_940 ?_
      refine lv_topl (fun z512 ez512 => ?_)
      obtain rfl : z512 = 0 := ez512.trans nv_upd0
      refine lv_iload hx hb dL_law_941 (lv_at hl 0 rfl) ?_
      refine lv_if_eq (tgt := 950) hx hb dL_law_943 (by decide) (fun _ => ?_) (fun h9 => absurd (by decide) h9)
      refine lv_lconst (v := 0) hx hb dL_law_950 (by decide) ?_
      refine W.lcmp hx hb dL_law_951 ?_
      refine lv_topi (fun z513 ez513 => ?_)
      obtain rfl : z513 = 0 := ez513.trans (by decide)
      refine lv_if_eq (tgt := 957) hx hb dL_law_952 (by decide) (fun _ => ?_) (fun h9 => absurd (by decide) h9)
      refine lv_goto (tgt := 1493) hx hb dL_law_957 (by decide) ?_
      refine lv_iinc (v := 6) (lv' := [(4, .int 6), (6, .int 0), (5, .int 0), (3, .ref q143), (2, .ref q77), (1, .ref q1), (0, .ref b)]) hx hb dL_law_1493 hl (k := 2) rfl (by decide) (by decide) rfl (fun ls hl => ?_)
      refine lv_goto (tgt := 23) hx hb dL_law_1496 (by decide) ?_
      refine W.widen (k := 600002) (n := 7302232) (by decide +kernel) (by decide +kernel) ?_
      exact kkE _ _ _ hS (lv_sub hl [0, 6] rfl)
    · exact h9.elim
  · exact h9.elim
set_option maxHeartbeats 40000000 in
set_option maxRecDepth 100000 in
theorem law_c17 {p : Program} {l : Launch} {e : Env} {s : State} {m : MethodId} {below : List Frame} {meth : Method} {c : Code} {Q : State → Prop} {A : Nat → Prop} {b : Nat} (hlt : l.stackTraces = false) (hx : p.tables.exec = Jvm.exec) (hb : c.code = code) (hml : c.maxLocals = 8) (hown : s.vm.findClass RL = some m.cls) (hts : ∀ w ∈ lw_tbl, w.before #[Value.ref b] s = true) (hN : nv_E A s) (hA : ∀ q : Nat, s.heap.size ≤ q → A q) (hDe : nv_Dc s) (dC : Nat → ClassId) (dI : Nat → Nat → Nat) (q1 : Nat) (q2 : Nat) (q4 : Nat) (q6 : Nat) (q8 : Nat) (q22 : Nat) (q37 : Nat) (y38 : ClassId) (q39 : Nat) (q41 : Nat) (q43 : Nat) (q77 : Nat) (q78 : Nat) (q80 : Nat) (q82 : Nat) (q84 : Nat) (q86 : Nat) (q88 : Nat) (q90 : Nat) (q91 : Nat) (q93 : Nat) (q94 : Nat) (q105 : Nat) (q106 : Nat) (q124 : Nat) (q131 : Nat) (q132 : Nat) (q133 : Nat) (q134 : Nat) (q135 : Nat) (q136 : Nat) (q137 : Nat) (q138 : Nat) (q139 : Nat) (q140 : Nat) (q143 : Nat) (y144 : ClassId) {xs : Nat → Int32} (hX : va_X b 6 xs s s.heap) (hbl : b < s.heap.size) (hbA : ¬ A b) (x0 : Int32) (es0 : xs (Int32.toNatClampNeg 0) = x0) (x1 : Int32) (es1 : xs (Int32.toNatClampNeg 1) = x1) (x2 : Int32) (es2 : xs (Int32.toNatClampNeg 2) = x2) (x3 : Int32) (es3 : xs (Int32.toNatClampNeg 3) = x3) (x4 : Int32) (es4 : xs (Int32.toNatClampNeg 4) = x4) (x5 : Int32) (es5 : xs (Int32.toNatClampNeg 5) = x5) {H : Heap} {locs : List Loc} {ls : Array Slot} (hK : va_K (dC, dI) vwCl [(y38, .object RX2), (y144, .long)] s) (hP : va_P (dC, dI) vwCl [(q1, .inr (13, [.ref q2, .int 0, .int 0, .ref q4, .ref q6, .ref q8, .ref q22, .ref q37, .ref q39, .ref q41, .int 0, .ref q43])), (q37, .inl (y38, 8, .inr (.inr (.inr (.inr (fun _ => none)))))), (q77, .inr (20, [.int 0, .ref q78, .int 0, .int 0, .ref q80, .ref q82, .ref q84, .ref q86, .ref q88, .ref q90, .ref q91, .ref q93, .ref q94, .ref q105, .ref q106, .ref q124, .ref q131, .int 0, .int 0, .int 0, .int 0, .int 0, .int 0, .int 0, .int 0, .int 0, .ref q132, .ref q133, .ref q134, .ref q135, .ref q136, .ref q137, .ref q138, .ref q139, .ref q140, .int 0])), (q143, .inl (y144, 1, .inr (.inl (fun _ => 0))))] H) (hD : va_D A [(q1, .inr (13, [.ref q2, .int 0, .int 0, .ref q4, .ref q6, .ref q8, .ref q22, .ref q37, .ref q39, .ref q41, .int 0, .ref q43])), (q37, .inl (y38, 8, .inr (.inr (.inr (.inr (fun _ => none)))))), (q77, .inr (20, [.int 0, .ref q78, .int 0, .int 0, .ref q80, .ref q82, .ref q84, .ref q86, .ref q88, .ref q90, .ref q91, .ref q93, .ref q94, .ref q105, .ref q106, .ref q124, .ref q131, .int 0, .int 0, .int 0, .int 0, .int 0, .int 0, .int 0, .int 0, .int 0, .ref q132, .ref q133, .ref q134, .ref q135, .ref q136, .ref q137, .ref q138, .ref q139, .ref q140, .int 0])), (q143, .inl (y144, 1, .inr (.inl (fun _ => 0))))]) (hS : va_S A s.heap H locs) (hl : lv_has ls 8 [(4, .int 0), (3, .ref q143), (2, .ref q77), (1, .ref q1), (0, .ref b)]) (kkE : ∀ (H : Heap) (locs : List Loc) (ls : Array Slot), va_S A s.heap H locs → lv_has ls 8 [(4, .int 6), (0, .ref b)] → W p l e room_1 s m #[Value.ref b] below meth c H locs 600002 7302232 Q (F0 m 23 ls [])) : W p l e room_1 s m #[Value.ref b] below meth c H locs 455 2511899 Q (F0 m 960 ls []) := by
  refine lv_aload_n hx hb dL_law_960 rfl (lv_at hl 3 rfl) ?_
  refine lv_aload_n hx hb dL_law_961 rfl (lv_at hl 4 rfl) ?_
  refine lv_iload hx hb dL_law_962 (lv_at hl 0 rfl) ?_
  refine lv_iconst (v := 1) hx hb dL_law_964 (by decide) ?_
  refine lv_iadd hx hb dL_law_965 ?_
  refine lv_topi (fun z501 ez501 => ?_)
  obtain rfl : z501 = 1 := ez501.trans (by decide)
  refine va_sld (i := 1) hx hb hX hbl hbA hS (vp_in_iff.mpr ⟨by decide, by decide⟩) dL_law_966 ?_
  rw [es1]
  refine lv_aload_n hx hb dL_law_967 rfl (lv_at hl 1 rfl) ?_
  have hPc := hP.sub (ws' := [(q1, .inr (13, [.ref q2, .int 0, .int 0, .ref q4, .ref q6, .ref q8, .ref q22, .ref q37, .ref q39, .ref q41, .int 0, .ref q43])), (q37, .inl (y38, 8, .inr (.inr (.inr (.inr (fun _ => none)))))), (q143, .inl (y144, 1, .inr (.inl (fun _ => 0))))]) [0, 1, 3] rfl
  have hDc := hD.sub (ws' := [(q1, .inr (13, [.ref q2, .int 0, .int 0, .ref q4, .ref q6, .ref q8, .ref q22, .ref q37, .ref q39, .ref q41, .int 0, .ref q43])), (q37, .inl (y38, 8, .inr (.inr (.inr (.inr (fun _ => none)))))), (q143, .inl (y144, 1, .inr (.inl (fun _ => 0))))]) [0, 1, 3] (by decide) rfl
  have hKc := hK.sub (tys' := [(y38, .object RX2), (y144, .long)]) [0, 1] rfl
  have hFc := va_free (wc := [(q1, .inr (13, [.ref q2, .int 0, .int 0, .ref q4, .ref q6, .ref q8, .ref q22, .ref q37, .ref q39, .ref q41, .int 0, .ref q43])), (q37, .inl (y38, 8, .inr (.inr (.inr (.inr (fun _ => none)))))), (q143, .inl (y144, 1, .inr (.inl (fun _ => 0))))]) hD hS hA [0, 1, 3] rfl
  refine va_calli (vx_runSW (As := [.ref q1, .int x1, .ref q143]) (rest := []) ⟨hx, hb, hml, hown, hts⟩ (k_L_value l hlt dC dI q1 q37 y38 q143 y144 x1 q2 q4 q6 q8 q22 q39 q41 q43  H.size) (vx_cwSW 3 hts gl_39 rfl rfl rfl (by decide +kernel) ⟨Nat.le_of_ble_eq_true rfl, Nat.le_of_ble_eq_true rfl⟩) ⟨fun a U g mk q => by obtain ⟨q0, q1, qP, qK, qD, qN, qE⟩ := q; exact ⟨q0, q1, qP, va_K.moved (u := U) (U := U.calling g mk a) (Vm.Alike.refl U.vm) qK, qD, nv_same rfl rfl qN, nv_Dsame rfl qE⟩, fun U hU hW => ⟨rfl, by rw [hU], by rw [hU]; exact hPc, va_K.moved hW.alike hKc, hDc.weaken (fun _ _ _ _ => trivial), nv_call hS hFc hU hW hN, nv_Dcall hW hDe⟩⟩ rfl rfl hl.1 rfl (lv_room (Nat.le_of_ble_eq_true rfl)) dL_law_968 ⟨by decide +kernel, by decide +kernel⟩) hS (fun q _ h => hFc q h) hFc (fun r502 u t H1 locs ht hvm hw hB hz1 hk1 hS => ?_)
  rcases hw with ⟨c_1_0, h9, h8⟩ | ⟨c_1_0, c_1_1, h9, h8⟩ | ⟨c_1_0, c_1_1, h9, h8⟩ | h9
  · subst h9
    subst h8
    obtain ⟨hP1, hK1, hD1⟩ := hB
    rw [ht] at hP1
    have hK1 := va_K.moved hvm.symm hK1
    obtain ⟨hP, hD⟩ := va_join (wr := [(q77, .inr (20, [.int 0, .ref q78, .int 0, .int 0, .ref q80, .ref q82, .ref q84, .ref q86, .ref q88, .ref q90, .ref q91, .ref q93, .ref q94, .ref q105, .ref q106, .ref q124, .ref q131, .int 0, .int 0, .int 0, .int 0, .int 0, .int 0, .int 0, .int 0, .int 0, .ref q132, .ref q133, .ref q134, .ref q135, .ref q136, .ref q137, .ref q138, .ref q139, .ref q140, .int 0]))]) (w1 := [(q143, .inl (y144, 1, .inr (.inl (fun _ => 0))))]) hP hD [0, 1, 3] [2] rfl rfl (by decide) (by decide) hk1 hFc hP1 hD1
    have hK := (hK.sub (tys' := []) [] rfl).app hK1
    generalize H1 = H at hP hS ⊢
    have hP : va_P (dC, dI) vwCl [(q77, .inr (20, [.int 0, .ref q78, .int 0, .int 0, .ref q80, .ref q82, .ref q84, .ref q86, .ref q88, .ref q90, .ref q91, .ref q93, .ref q94, .ref q105, .ref q106, .ref q124, .ref q131, .int 0, .int 0, .int 0, .int 0, .int 0, .int 0, .int 0, .int 0, .int 0, .ref q132, .ref q133, .ref q134, .ref q135, .ref q136, .ref q137, .ref q138, .ref q139, .ref q140, .int 0])), (q143, .inl (y144, 1, .inr (.inl (fun _ => 0))))] H := hP
    have hD : va_D A [(q77, .inr (20, [.int 0, .ref q78, .int 0, .int 0, .ref q80, .ref q82, .ref q84, .ref q86, .ref q88, .ref q90, .ref q91, .ref q93, .ref q94, .ref q105, .ref q106, .ref q124, .ref q131, .int 0, .int 0, .int 0, .int 0, .int 0, .int 0, .int 0, .int 0, .int 0, .ref q132, .ref q133, .ref q134, .ref q135, .ref q136, .ref q137, .ref q138, .ref q139, .ref q140, .int 0])), (q143, .inl (y144, 1, .inr (.inl (fun _ => 0))))] := hD
    have hK : va_K (dC, dI) vwCl [(y144, .long)] s := hK
    refine W.widen (k := 456) (n := 2511905) (by decide +kernel) (by decide +kernel) ?_
    refine lv_istore (lv' := [(5, .int 1), (4, .int 0), (3, .ref q143), (2, .ref q77), (1, .ref q1), (0, .ref b)]) hx hb dL_law_971 hl (by decide) rfl (fun ls hl => ?_)
    refine lv_aload_n hx hb dL_law_973 rfl (lv_at hl 3 rfl) ?_
    refine lv_aload_n hx hb dL_law_974 rfl (lv_at hl 5 rfl) ?_
    refine lv_iload hx hb dL_law_975 (lv_at hl 1 rfl) ?_
    refine lv_iconst (v := 1) hx hb dL_law_977 (by decide) ?_
    refine lv_iadd hx hb dL_law_978 ?_
    refine lv_topi (fun z503 ez503 => ?_)
    obtain rfl : z503 = 1 := ez503.trans (by decide)
    refine va_sld (i := 1) hx hb hX hbl hbA hS (vp_in_iff.mpr ⟨by decide, by decide⟩) dL_law_979 ?_
    rw [es1]
    have hPc := hP.sub (ws' := [(q77, .inr (20, [.int 0, .ref q78, .int 0, .int 0, .ref q80, .ref q82, .ref q84, .ref q86, .ref q88, .ref q90, .ref q91, .ref q93, .ref q94, .ref q105, .ref q106, .ref q124, .ref q131, .int 0, .int 0, .int 0, .int 0, .int 0, .int 0, .int 0, .int 0, .int 0, .ref q132, .ref q133, .ref q134, .ref q135, .ref q136, .ref q137, .ref q138, .ref q139, .ref q140, .int 0]))]) [0] rfl
    have hDc := hD.sub (ws' := [(q77, .inr (20, [.int 0, .ref q78, .int 0, .int 0, .ref q80, .ref q82, .ref q84, .ref q86, .ref q88, .ref q90, .ref q91, .ref q93, .ref q94, .ref q105, .ref q106, .ref q124, .ref q131, .int 0, .int 0, .int 0, .int 0, .int 0, .int 0, .int 0, .int 0, .int 0, .ref q132, .ref q133, .ref q134, .ref q135, .ref q136, .ref q137, .ref q138, .ref q139, .ref q140, .int 0]))]) [0] (by decide) rfl
    have hKc := hK.sub (tys' := []) [] rfl
    have hFc := va_free (wc := [(q77, .inr (20, [.int 0, .ref q78, .int 0, .int 0, .ref q80, .ref q82, .ref q84, .ref q86, .ref q88, .ref q90, .ref q91, .ref q93, .ref q94, .ref q105, .ref q106, .ref q124, .ref q131, .int 0, .int 0, .int 0, .int 0, .int 0, .int 0, .int 0, .int 0, .int 0, .ref q132, .ref q133, .ref q134, .ref q135, .ref q136, .ref q137, .ref q138, .ref q139, .ref q140, .int 0]))]) hD hS hA [0] rfl
    refine va_calll (va_runV (As := [.int x1]) (rest := []) ⟨hx, hb, hml, hown, hts⟩ (k_X19_value l hlt dC dI q77 x1 q78 q80 q82 q84 q86 q88 q90 q91 q93 q94 q105 q106 q124 q131 q132 q133 q134 q135 q136 q137 q138 q139 q140  H.size) (cwV 1 hts gl_40 rfl rfl rfl (by decide +kernel) ⟨Nat.le_of_ble_eq_true rfl, Nat.le_of_ble_eq_true rfl⟩) ⟨fun a U g mk q => by obtain ⟨q0, q1, qP, qK, qD, qN⟩ := q; exact ⟨q0, q1, qP, va_K.moved (u := U) (U := U.calling g mk a) (Vm.Alike.refl U.vm) qK, qD, nv_same rfl rfl qN⟩, va_recv hKc hPc (ci := 20) (q0 := 0) rfl rfl, fun U hU hW => ⟨rfl, by rw [hU], by rw [hU]; exact hPc, va_K.moved hW.alike hKc, hDc.weaken (fun _ _ _ _ => trivial), nv_call hS hFc hU hW hN⟩⟩ rfl rfl hl.1 rfl (lv_room (Nat.le_of_ble_eq_true rfl)) dL_law_980 ⟨by decide +kernel, by decide +kernel⟩) hS (fun q _ h => hFc q h) hFc (fun r504 u t H1 locs ht hvm hw hB hz1 hk1 hS => ?_)
    rcases hw with ⟨c_2_0, h9, h8⟩ | ⟨c_2_0, c_2_1, h9, h8⟩ | ⟨c_2_0, c_2_1, h9, h8⟩ | h9
    · subst h9
      subst h8
      obtain ⟨hP1, hK1, hD1⟩ := hB
      rw [ht] at hP1
      have hK1 := va_K.moved hvm.symm hK1
      obtain ⟨hP, hD⟩ := va_join (wr := [(q143, .inl (y144, 1, .inr (.inl (fun _ => 0))))]) (w1 := [(q77, .inr (20, [.int 1, .ref q78, .int 0, .int 0, .ref q80, .ref q82, .ref q84, .ref q86, .ref q88, .ref q90, .ref q91, .ref q93, .ref q94, .ref q105, .ref q106, .ref q124, .ref q131, .int 0, .int 0, .int 0, .int 0, .int 0, .int 0, .int 0, .int 0, .int 0, .ref q132, .ref q133, .ref q134, .ref q135, .ref q136, .ref q137, .ref q138, .ref q139, .ref q140, .int 0]))]) hP hD [0] [1] rfl rfl (by decide) (by decide) hk1 hFc hP1 hD1
      have hK := (hK.sub (tys' := [(y144, .long)]) [0] rfl).app hK1
      generalize H1 = H at hP hS ⊢
      have hP : va_P (dC, dI) vwCl [(q143, .inl (y144, 1, .inr (.inl (fun _ => 0)))), (q77, .inr (20, [.int 1, .ref q78, .int 0, .int 0, .ref q80, .ref q82, .ref q84, .ref q86, .ref q88, .ref q90, .ref q91, .ref q93, .ref q94, .ref q105, .ref q106, .ref q124, .ref q131, .int 0, .int 0, .int 0, .int 0, .int 0, .int 0, .int 0, .int 0, .int 0, .ref q132, .ref q133, .ref q134, .ref q135, .ref q136, .ref q137, .ref q138, .ref q139, .ref q140, .int 0]))] H := hP
      have hD : va_D A [(q143, .inl (y144, 1, .inr (.inl (fun _ => 0)))), (q77, .inr (20, [.int 1, .ref q78, .int 0, .int 0, .ref q80, .ref q82, .ref q84, .ref q86, .ref q88, .ref q90, .ref q91, .ref q93, .ref q94, .ref q105, .ref q106, .ref q124, .ref q131, .int 0, .int 0, .int 0, .int 0, .int 0, .int 0, .int 0, .int 0, .int 0, .ref q132, .ref q133, .ref q134, .ref q135, .ref q136, .ref q137, .ref q138, .ref q139, .ref q140, .int 0]))] := hD
      have hK : va_K (dC, dI) vwCl [(y144, .long)] s := hK
      refine W.widen (k := 456) (n := 2511905) (by decide +kernel) (by decide +kernel) ?_
      refine lv_lstore (lv' := [(6, .long 0), (5, .int 1), (4, .int 0), (3, .ref q143), (2, .ref q77), (1, .ref q1), (0, .ref b)]) hx hb dL_law_983 hl (by decide) rfl (fun ls hl => ?_)
      refine lv_aload_n hx hb dL_law_985 rfl (lv_at hl 4 rfl) ?_
      have hPc := hP.sub (ws' := [(q77, .inr (20, [.int 1, .ref q78, .int 0, .int 0, .ref q80, .ref q82, .ref q84, .ref q86, .ref q88, .ref q90, .ref q91, .ref q93, .ref q94, .ref q105, .ref q106, .ref q124, .ref q131, .int 0, .int 0, .int 0, .int 0, .int 0, .int 0, .int 0, .int 0, .int 0, .ref q132, .ref q133, .ref q134, .ref q135, .ref q136, .ref q137, .ref q138, .ref q139, .ref q140, .int 0]))]) [1] rfl
      have hDc := hD.sub (ws' := [(q77, .inr (20, [.int 1, .ref q78, .int 0, .int 0, .ref q80, .ref q82, .ref q84, .ref q86, .ref q88, .ref q90, .ref q91, .ref q93, .ref q94, .ref q105, .ref q106, .ref q124, .ref q131, .int 0, .int 0, .int 0, .int 0, .int 0, .int 0, .int 0, .int 0, .int 0, .ref q132, .ref q133, .ref q134, .ref q135, .ref q136, .ref q137, .ref q138, .ref q139, .ref q140, .int 0]))]) [1] (by decide) rfl
      have hKc := hK.sub (tys' := []) [] rfl
      have hFc := va_free (wc := [(q77, .inr (20, [.int 1, .ref q78, .int 0, .int 0, .ref q80, .ref q82, .ref q84, .ref q86, .ref q88, .ref q90, .ref q91, .ref q93, .ref q94, .ref q105, .ref q106, .ref q124, .ref q131, .int 0, .int 0, .int 0, .int 0, .int 0, .int 0, .int 0, .int 0, .int 0, .ref q132, .ref q133, .ref q134, .ref q135, .ref q136, .ref q137, .ref q138, .ref q139, .ref q140, .int 0]))]) hD hS hA [1] rfl
      refine va_calli (va_runV (As := []) (rest := []) ⟨hx, hb, hml, hown, hts⟩ (k_X19_thrown l hlt dC dI q77 q78 q80 q82 q84 q86 q88 q90 q91 q93 q94 q105 q106 q124 q131 q132 q133 q134 q135 q136 q137 q138 q139 q140  H.size) (cwV 0 hts gl_8 rfl rfl rfl (by decide +kernel) ⟨Nat.le_of_ble_eq_true rfl, Nat.le_of_ble_eq_true rfl⟩) ⟨fun a U g mk q => by obtain ⟨q0, q1, qP, qK, qD, qN⟩ := q; exact ⟨q0, q1, qP, va_K.moved (u := U) (U := U.calling g mk a) (Vm.Alike.refl U.vm) qK, qD, nv_same rfl rfl qN⟩, va_recv hKc hPc (ci := 20) (q0 := 0) rfl rfl, fun U hU hW => ⟨rfl, by rw [hU], by rw [hU]; exact hPc, va_K.moved hW.alike hKc, hDc.weaken (fun _ _ _ _ => trivial), nv_call hS hFc hU hW hN⟩⟩ rfl rfl hl.1 rfl (lv_room (Nat.le_of_ble_eq_true rfl)) dL_law_986 ⟨by decide +kernel, by decide +kernel⟩) hS (fun q _ h => hFc q h) hFc (fun r505 u t H1 locs ht hvm hw hB hz1 hk1 hS => ?_)
      obtain ⟨hP1, hK1, hD1⟩ := hB
      rw [ht] at hP1
      have hK1 := va_K.moved hvm.symm hK1
      obtain rfl : r505 = 1 := hw
      obtain ⟨hP, hD⟩ := va_join (wr := [(q143, .inl (y144, 1, .inr (.inl (fun _ => 0))))]) (w1 := [(q77, .inr (20, [.int 1, .ref q78, .int 0, .int 0, .ref q80, .ref q82, .ref q84, .ref q86, .ref q88, .ref q90, .ref q91, .ref q93, .ref q94, .ref q105, .ref q106, .ref q124, .ref q131, .int 0, .int 0, .int 0, .int 0, .int 0, .int 0, .int 0, .int 0, .int 0, .ref q132, .ref q133, .ref q134, .ref q135, .ref q136, .ref q137, .ref q138, .ref q139, .ref q140, .int 0]))]) hP hD [1] [0] rfl rfl (by decide) (by decide) hk1 hFc hP1 hD1
      have hK := (hK.sub (tys' := [(y144, .long)]) [0] rfl).app hK1
      generalize H1 = H at hP hS ⊢
      have hP : va_P (dC, dI) vwCl [(q143, .inl (y144, 1, .inr (.inl (fun _ => 0)))), (q77, .inr (20, [.int 1, .ref q78, .int 0, .int 0, .ref q80, .ref q82, .ref q84, .ref q86, .ref q88, .ref q90, .ref q91, .ref q93, .ref q94, .ref q105, .ref q106, .ref q124, .ref q131, .int 0, .int 0, .int 0, .int 0, .int 0, .int 0, .int 0, .int 0, .int 0, .ref q132, .ref q133, .ref q134, .ref q135, .ref q136, .ref q137, .ref q138, .ref q139, .ref q140, .int 0]))] H := hP
      have hD : va_D A [(q143, .inl (y144, 1, .inr (.inl (fun _ => 0)))), (q77, .inr (20, [.int 1, .ref q78, .int 0, .int 0, .ref q80, .ref q82, .ref q84, .ref q86, .ref q88, .ref q90, .ref q91, .ref q93, .ref q94, .ref q105, .ref q106, .ref q124, .ref q131, .int 0, .int 0, .int 0, .int 0, .int 0, .int 0, .int 0, .int 0, .int 0, .ref q132, .ref q133, .ref q134, .ref q135, .ref q136, .ref q137, .ref q138, .ref q139, .ref q140, .int 0]))] := hD
      have hK : va_K (dC, dI) vwCl [(y144, .long)] s := hK
      refine W.widen (k := 456) (n := 2511905) (by decide +kernel) (by decide +kernel) ?_
      refine lv_iload hx hb dL_law_989 (lv_at hl 1 rfl) ?_
      refine lv_icmp_eq (tgt := 996) hx hb dL_law_991 (by decide) (fun _ => ?_) (fun h9 => absurd (by decide) h9)
      refine lv_iload hx hb dL_law_996 (lv_at hl 1 rfl) ?_
      refine lv_if_ne (tgt := 1012) hx hb dL_law_998 (by decide) (fun _ => ?_) (fun h9 => absurd h9 (by decide))
      refine lv_goto (tgt := 1493) hx hb dL_law_1012 (by decide) ?_
      refine lv_iinc (v := 6) (lv' := [(4, .int 6), (6, .long 0), (5, .int 1), (3, .ref q143), (2, .ref q77), (1, .ref q1), (0, .ref b)]) hx hb dL_law_1493 hl (k := 2) rfl (by decide) (by decide) rfl (fun ls hl => ?_)
      refine lv_goto (tgt := 23) hx hb dL_law_1496 (by decide) ?_
      refine W.widen (k := 600002) (n := 7302232) (by decide +kernel) (by decide +kernel) ?_
      exact kkE _ _ _ hS (lv_sub hl [0, 6] rfl)
    · exact absurd c_1_0 c_2_0
    · exact absurd c_1_0 c_2_0
    · exact h9.elim
  · subst h9
    subst h8
    obtain ⟨hP1, hK1, hD1⟩ := hB
    rw [ht] at hP1
    have hK1 := va_K.moved hvm.symm hK1
    obtain ⟨hP, hD⟩ := va_join (wr := [(q77, .inr (20, [.int 0, .ref q78, .int 0, .int 0, .ref q80, .ref q82, .ref q84, .ref q86, .ref q88, .ref q90, .ref q91, .ref q93, .ref q94, .ref q105, .ref q106, .ref q124, .ref q131, .int 0, .int 0, .int 0, .int 0, .int 0, .int 0, .int 0, .int 0, .int 0, .ref q132, .ref q133, .ref q134, .ref q135, .ref q136, .ref q137, .ref q138, .ref q139, .ref q140, .int 0]))]) (w1 := [(q143, .inl (y144, 1, .inr (.inl (fun _ => 0))))]) hP hD [0, 1, 3] [2] rfl rfl (by decide) (by decide) hk1 hFc hP1 hD1
    have hK := (hK.sub (tys' := []) [] rfl).app hK1
    generalize H1 = H at hP hS ⊢
    have hP : va_P (dC, dI) vwCl [(q77, .inr (20, [.int 0, .ref q78, .int 0, .int 0, .ref q80, .ref q82, .ref q84, .ref q86, .ref q88, .ref q90, .ref q91, .ref q93, .ref q94, .ref q105, .ref q106, .ref q124, .ref q131, .int 0, .int 0, .int 0, .int 0, .int 0, .int 0, .int 0, .int 0, .int 0, .ref q132, .ref q133, .ref q134, .ref q135, .ref q136, .ref q137, .ref q138, .ref q139, .ref q140, .int 0])), (q143, .inl (y144, 1, .inr (.inl (fun _ => 0))))] H := hP
    have hD : va_D A [(q77, .inr (20, [.int 0, .ref q78, .int 0, .int 0, .ref q80, .ref q82, .ref q84, .ref q86, .ref q88, .ref q90, .ref q91, .ref q93, .ref q94, .ref q105, .ref q106, .ref q124, .ref q131, .int 0, .int 0, .int 0, .int 0, .int 0, .int 0, .int 0, .int 0, .int 0, .ref q132, .ref q133, .ref q134, .ref q135, .ref q136, .ref q137, .ref q138, .ref q139, .ref q140, .int 0])), (q143, .inl (y144, 1, .inr (.inl (fun _ => 0))))] := hD
    have hK : va_K (dC, dI) vwCl [(y144, .long)] s := hK
    refine W.widen (k := 456) (n := 2511905) (by decide +kernel) (by decide +kernel) ?_
    refine lv_istore (lv' := [(5, .int 2), (4, .int 0), (3, .ref q143), (2, .ref q77), (1, .ref q1), (0, .ref b)]) hx hb dL_law_971 hl (by decide) rfl (fun ls hl => ?_)
    refine lv_aload_n hx hb dL_law_973 rfl (lv_at hl 3 rfl) ?_
    refine lv_aload_n hx hb dL_law_974 rfl (lv_at hl 5 rfl) ?_
    refine lv_iload hx hb dL_law_975 (lv_at hl 1 rfl) ?_
    refine lv_iconst (v := 1) hx hb dL_law_977 (by decide) ?_
    refine lv_iadd hx hb dL_law_978 ?_
    refine lv_topi (fun z506 ez506 => ?_)
    obtain rfl : z506 = 1 := ez506.trans (by decide)
    refine va_sld (i := 1) hx hb hX hbl hbA hS (vp_in_iff.mpr ⟨by decide, by decide⟩) dL_law_979 ?_
    rw [es1]
    have hPc := hP.sub (ws' := [(q77, .inr (20, [.int 0, .ref q78, .int 0, .int 0, .ref q80, .ref q82, .ref q84, .ref q86, .ref q88, .ref q90, .ref q91, .ref q93, .ref q94, .ref q105, .ref q106, .ref q124, .ref q131, .int 0, .int 0, .int 0, .int 0, .int 0, .int 0, .int 0, .int 0, .int 0, .ref q132, .ref q133, .ref q134, .ref q135, .ref q136, .ref q137, .ref q138, .ref q139, .ref q140, .int 0]))]) [0] rfl
    have hDc := hD.sub (ws' := [(q77, .inr (20, [.int 0, .ref q78, .int 0, .int 0, .ref q80, .ref q82, .ref q84, .ref q86, .ref q88, .ref q90, .ref q91, .ref q93, .ref q94, .ref q105, .ref q106, .ref q124, .ref q131, .int 0, .int 0, .int 0, .int 0, .int 0, .int 0, .int 0, .int 0, .int 0, .ref q132, .ref q133, .ref q134, .ref q135, .ref q136, .ref q137, .ref q138, .ref q139, .ref q140, .int 0]))]) [0] (by decide) rfl
    have hKc := hK.sub (tys' := []) [] rfl
    have hFc := va_free (wc := [(q77, .inr (20, [.int 0, .ref q78, .int 0, .int 0, .ref q80, .ref q82, .ref q84, .ref q86, .ref q88, .ref q90, .ref q91, .ref q93, .ref q94, .ref q105, .ref q106, .ref q124, .ref q131, .int 0, .int 0, .int 0, .int 0, .int 0, .int 0, .int 0, .int 0, .int 0, .ref q132, .ref q133, .ref q134, .ref q135, .ref q136, .ref q137, .ref q138, .ref q139, .ref q140, .int 0]))]) hD hS hA [0] rfl
    refine va_calll (va_runV (As := [.int x1]) (rest := []) ⟨hx, hb, hml, hown, hts⟩ (k_X19_value l hlt dC dI q77 x1 q78 q80 q82 q84 q86 q88 q90 q91 q93 q94 q105 q106 q124 q131 q132 q133 q134 q135 q136 q137 q138 q139 q140  H.size) (cwV 1 hts gl_40 rfl rfl rfl (by decide +kernel) ⟨Nat.le_of_ble_eq_true rfl, Nat.le_of_ble_eq_true rfl⟩) ⟨fun a U g mk q => by obtain ⟨q0, q1, qP, qK, qD, qN⟩ := q; exact ⟨q0, q1, qP, va_K.moved (u := U) (U := U.calling g mk a) (Vm.Alike.refl U.vm) qK, qD, nv_same rfl rfl qN⟩, va_recv hKc hPc (ci := 20) (q0 := 0) rfl rfl, fun U hU hW => ⟨rfl, by rw [hU], by rw [hU]; exact hPc, va_K.moved hW.alike hKc, hDc.weaken (fun _ _ _ _ => trivial), nv_call hS hFc hU hW hN⟩⟩ rfl rfl hl.1 rfl (lv_room (Nat.le_of_ble_eq_true rfl)) dL_law_980 ⟨by decide +kernel, by decide +kernel⟩) hS (fun q _ h => hFc q h) hFc (fun r507 u t H1 locs ht hvm hw hB hz1 hk1 hS => ?_)
    rcases hw with ⟨c_3_0, h9, h8⟩ | ⟨c_3_0, c_3_1, h9, h8⟩ | ⟨c_3_0, c_3_1, h9, h8⟩ | h9
    · exact absurd c_3_0 c_1_0
    · exact (cz_7 x1 c_1_0 c_1_1 c_3_1).elim
    · subst h9
      subst h8
      obtain ⟨hP1, hK1, hD1⟩ := hB
      rw [ht] at hP1
      have hK1 := va_K.moved hvm.symm hK1
      obtain ⟨hP, hD⟩ := va_join (wr := [(q143, .inl (y144, 1, .inr (.inl (fun _ => 0))))]) (w1 := [(q77, .inr (20, [.int 2, .ref q78, .int 0, .int 0, .ref q80, .ref q82, .ref q84, .ref q86, .ref q88, .ref q90, .ref q91, .ref q93, .ref q94, .ref q105, .ref q106, .ref q124, .ref q131, .int 0, .int 0, .int 0, .int 0, .int 0, .int 0, .int 0, .int 0, .int 0, .ref q132, .ref q133, .ref q134, .ref q135, .ref q136, .ref q137, .ref q138, .ref q139, .ref q140, .int 0]))]) hP hD [0] [1] rfl rfl (by decide) (by decide) hk1 hFc hP1 hD1
      have hK := (hK.sub (tys' := [(y144, .long)]) [0] rfl).app hK1
      generalize H1 = H at hP hS ⊢
      have hP : va_P (dC, dI) vwCl [(q143, .inl (y144, 1, .inr (.inl (fun _ => 0)))), (q77, .inr (20, [.int 2, .ref q78, .int 0, .int 0, .ref q80, .ref q82, .ref q84, .ref q86, .ref q88, .ref q90, .ref q91, .ref q93, .ref q94, .ref q105, .ref q106, .ref q124, .ref q131, .int 0, .int 0, .int 0, .int 0, .int 0, .int 0, .int 0, .int 0, .int 0, .ref q132, .ref q133, .ref q134, .ref q135, .ref q136, .ref q137, .ref q138, .ref q139, .ref q140, .int 0]))] H := hP
      have hD : va_D A [(q143, .inl (y144, 1, .inr (.inl (fun _ => 0)))), (q77, .inr (20, [.int 2, .ref q78, .int 0, .int 0, .ref q80, .ref q82, .ref q84, .ref q86, .ref q88, .ref q90, .ref q91, .ref q93, .ref q94, .ref q105, .ref q106, .ref q124, .ref q131, .int 0, .int 0, .int 0, .int 0, .int 0, .int 0, .int 0, .int 0, .int 0, .ref q132, .ref q133, .ref q134, .ref q135, .ref q136, .ref q137, .ref q138, .ref q139, .ref q140, .int 0]))] := hD
      have hK : va_K (dC, dI) vwCl [(y144, .long)] s := hK
      refine W.widen (k := 456) (n := 2511905) (by decide +kernel) (by decide +kernel) ?_
      refine lv_lstore (lv' := [(6, .long 0), (5, .int 2), (4, .int 0), (3, .ref q143), (2, .ref q77), (1, .ref q1), (0, .ref b)]) hx hb dL_law_983 hl (by decide) rfl (fun ls hl => ?_)
      refine lv_aload_n hx hb dL_law_985 rfl (lv_at hl 4 rfl) ?_
      have hPc := hP.sub (ws' := [(q77, .inr (20, [.int 2, .ref q78, .int 0, .int 0, .ref q80, .ref q82, .ref q84, .ref q86, .ref q88, .ref q90, .ref q91, .ref q93, .ref q94, .ref q105, .ref q106, .ref q124, .ref q131, .int 0, .int 0, .int 0, .int 0, .int 0, .int 0, .int 0, .int 0, .int 0, .ref q132, .ref q133, .ref q134, .ref q135, .ref q136, .ref q137, .ref q138, .ref q139, .ref q140, .int 0]))]) [1] rfl
      have hDc := hD.sub (ws' := [(q77, .inr (20, [.int 2, .ref q78, .int 0, .int 0, .ref q80, .ref q82, .ref q84, .ref q86, .ref q88, .ref q90, .ref q91, .ref q93, .ref q94, .ref q105, .ref q106, .ref q124, .ref q131, .int 0, .int 0, .int 0, .int 0, .int 0, .int 0, .int 0, .int 0, .int 0, .ref q132, .ref q133, .ref q134, .ref q135, .ref q136, .ref q137, .ref q138, .ref q139, .ref q140, .int 0]))]) [1] (by decide) rfl
      have hKc := hK.sub (tys' := []) [] rfl
      have hFc := va_free (wc := [(q77, .inr (20, [.int 2, .ref q78, .int 0, .int 0, .ref q80, .ref q82, .ref q84, .ref q86, .ref q88, .ref q90, .ref q91, .ref q93, .ref q94, .ref q105, .ref q106, .ref q124, .ref q131, .int 0, .int 0, .int 0, .int 0, .int 0, .int 0, .int 0, .int 0, .int 0, .ref q132, .ref q133, .ref q134, .ref q135, .ref q136, .ref q137, .ref q138, .ref q139, .ref q140, .int 0]))]) hD hS hA [1] rfl
      refine va_calli (va_runV (As := []) (rest := []) ⟨hx, hb, hml, hown, hts⟩ (k_X19_thrown_v2 l hlt dC dI q77 q78 q80 q82 q84 q86 q88 q90 q91 q93 q94 q105 q106 q124 q131 q132 q133 q134 q135 q136 q137 q138 q139 q140  H.size) (cwV 0 hts gl_22 rfl rfl rfl (by decide +kernel) ⟨Nat.le_of_ble_eq_true rfl, Nat.le_of_ble_eq_true rfl⟩) ⟨fun a U g mk q => by obtain ⟨q0, q1, qP, qK, qD, qN⟩ := q; exact ⟨q0, q1, qP, va_K.moved (u := U) (U := U.calling g mk a) (Vm.Alike.refl U.vm) qK, qD, nv_same rfl rfl qN⟩, va_recv hKc hPc (ci := 20) (q0 := 0) rfl rfl, fun U hU hW => ⟨rfl, by rw [hU], by rw [hU]; exact hPc, va_K.moved hW.alike hKc, hDc.weaken (fun _ _ _ _ => trivial), nv_call hS hFc hU hW hN⟩⟩ rfl rfl hl.1 rfl (lv_room (Nat.le_of_ble_eq_true rfl)) dL_law_986 ⟨by decide +kernel, by decide +kernel⟩) hS (fun q _ h => hFc q h) hFc (fun r508 u t H1 locs ht hvm hw hB hz1 hk1 hS => ?_)
      obtain ⟨hP1, hK1, hD1⟩ := hB
      rw [ht] at hP1
      have hK1 := va_K.moved hvm.symm hK1
      obtain rfl : r508 = 2 := hw
      obtain ⟨hP, hD⟩ := va_join (wr := [(q143, .inl (y144, 1, .inr (.inl (fun _ => 0))))]) (w1 := [(q77, .inr (20, [.int 2, .ref q78, .int 0, .int 0, .ref q80, .ref q82, .ref q84, .ref q86, .ref q88, .ref q90, .ref q91, .ref q93, .ref q94, .ref q105, .ref q106, .ref q124, .ref q131, .int 0, .int 0, .int 0, .int 0, .int 0, .int 0, .int 0, .int 0, .int 0, .ref q132, .ref q133, .ref q134, .ref q135, .ref q136, .ref q137, .ref q138, .ref q139, .ref q140, .int 0]))]) hP hD [1] [0] rfl rfl (by decide) (by decide) hk1 hFc hP1 hD1
      have hK := (hK.sub (tys' := [(y144, .long)]) [0] rfl).app hK1
      generalize H1 = H at hP hS ⊢
      have hP : va_P (dC, dI) vwCl [(q143, .inl (y144, 1, .inr (.inl (fun _ => 0)))), (q77, .inr (20, [.int 2, .ref q78, .int 0, .int 0, .ref q80, .ref q82, .ref q84, .ref q86, .ref q88, .ref q90, .ref q91, .ref q93, .ref q94, .ref q105, .ref q106, .ref q124, .ref q131, .int 0, .int 0, .int 0, .int 0, .int 0, .int 0, .int 0, .int 0, .int 0, .ref q132, .ref q133, .ref q134, .ref q135, .ref q136, .ref q137, .ref q138, .ref q139, .ref q140, .int 0]))] H := hP
      have hD : va_D A [(q143, .inl (y144, 1, .inr (.inl (fun _ => 0)))), (q77, .inr (20, [.int 2, .ref q78, .int 0, .int 0, .ref q80, .ref q82, .ref q84, .ref q86, .ref q88, .ref q90, .ref q91, .ref q93, .ref q94, .ref q105, .ref q106, .ref q124, .ref q131, .int 0, .int 0, .int 0, .int 0, .int 0, .int 0, .int 0, .int 0, .int 0, .ref q132, .ref q133, .ref q134, .ref q135, .ref q136, .ref q137, .ref q138, .ref q139, .ref q140, .int 0]))] := hD
      have hK : va_K (dC, dI) vwCl [(y144, .long)] s := hK
      refine W.widen (k := 456) (n := 2511905) (by decide +kernel) (by decide +kernel) ?_
      refine lv_iload hx hb dL_law_989 (lv_at hl 1 rfl) ?_
      refine lv_icmp_eq (tgt := 996) hx hb dL_law_991 (by decide) (fun _ => ?_) (fun h9 => absurd (by decide) h9)
      refine lv_iload hx hb dL_law_996 (lv_at hl 1 rfl) ?_
      refine lv_if_ne (tgt := 1012) hx hb dL_law_998 (by decide) (fun _ => ?_) (fun h9 => absurd h9 (by decide))
      refine lv_goto (tgt := 1493) hx hb dL_law_1012 (by decide) ?_
      refine lv_iinc (v := 6) (lv' := [(4, .int 6), (6, .long 0), (5, .int 2), (3, .ref q143), (2, .ref q77), (1, .ref q1), (0, .ref b)]) hx hb dL_law_1493 hl (k := 2) rfl (by decide) (by decide) rfl (fun ls hl => ?_)
      refine lv_goto (tgt := 23) hx hb dL_law_1496 (by decide) ?_
      refine W.widen (k := 600002) (n := 7302232) (by decide +kernel) (by decide +kernel) ?_
      exact kkE _ _ _ hS (lv_sub hl [0, 6] rfl)
    · exact h9.elim
  · subst h9
    subst h8
    obtain ⟨hP1, hK1, hD1⟩ := hB
    rw [ht] at hP1
    have hK1 := va_K.moved hvm.symm hK1
    obtain ⟨hP, hD⟩ := va_join (wr := [(q77, .inr (20, [.int 0, .ref q78, .int 0, .int 0, .ref q80, .ref q82, .ref q84, .ref q86, .ref q88, .ref q90, .ref q91, .ref q93, .ref q94, .ref q105, .ref q106, .ref q124, .ref q131, .int 0, .int 0, .int 0, .int 0, .int 0, .int 0, .int 0, .int 0, .int 0, .ref q132, .ref q133, .ref q134, .ref q135, .ref q136, .ref q137, .ref q138, .ref q139, .ref q140, .int 0]))]) (w1 := [(q143, .inl (y144, 1, .inr (.inl (fun _ => 0))))]) hP hD [0, 1, 3] [2] rfl rfl (by decide) (by decide) hk1 hFc hP1 hD1
    have hK := (hK.sub (tys' := []) [] rfl).app hK1
    generalize H1 = H at hP hS ⊢
    have hP : va_P (dC, dI) vwCl [(q77, .inr (20, [.int 0, .ref q78, .int 0, .int 0, .ref q80, .ref q82, .ref q84, .ref q86, .ref q88, .ref q90, .ref q91, .ref q93, .ref q94, .ref q105, .ref q106, .ref q124, .ref q131, .int 0, .int 0, .int 0, .int 0, .int 0, .int 0, .int 0, .int 0, .int 0, .ref q132, .ref q133, .ref q134, .ref q135, .ref q136, .ref q137, .ref q138, .ref q139, .ref q140, .int 0])), (q143, .inl (y144, 1, .inr (.inl (fun _ => 0))))] H := hP
    have hD : va_D A [(q77, .inr (20, [.int 0, .ref q78, .int 0, .int 0, .ref q80, .ref q82, .ref q84, .ref q86, .ref q88, .ref q90, .ref q91, .ref q93, .ref q94, .ref q105, .ref q106, .ref q124, .ref q131, .int 0, .int 0, .int 0, .int 0, .int 0, .int 0, .int 0, .int 0, .int 0, .ref q132, .ref q133, .ref q134, .ref q135, .ref q136, .ref q137, .ref q138, .ref q139, .ref q140, .int 0])), (q143, .inl (y144, 1, .inr (.inl (fun _ => 0))))] := hD
    have hK : va_K (dC, dI) vwCl [(y144, .long)] s := hK
    refine W.widen (k := 456) (n := 2511905) (by decide +kernel) (by decide +kernel) ?_
    refine lv_istore (lv' := [(5, .int 1), (4, .int 0), (3, .ref q143), (2, .ref q77), (1, .ref q1), (0, .ref b)]) hx hb dL_law_971 hl (by decide) rfl (fun ls hl => ?_)
    refine lv_aload_n hx hb dL_law_973 rfl (lv_at hl 3 rfl) ?_
    refine lv_aload_n hx hb dL_law_974 rfl (lv_at hl 5 rfl) ?_
    refine lv_iload hx hb dL_law_975 (lv_at hl 1 rfl) ?_
    refine lv_iconst (v := 1) hx hb dL_law_977 (by decide) ?_
    refine lv_iadd hx hb dL_law_978 ?_
    refine lv_topi (fun z509 ez509 => ?_)
    obtain rfl : z509 = 1 := ez509.trans (by decide)
    refine va_sld (i := 1) hx hb hX hbl hbA hS (vp_in_iff.mpr ⟨by decide, by decide⟩) dL_law_979 ?_
    rw [es1]
    have hPc := hP.sub (ws' := [(q77, .inr (20, [.int 0, .ref q78, .int 0, .int 0, .ref q80, .ref q82, .ref q84, .ref q86, .ref q88, .ref q90, .ref q91, .ref q93, .ref q94, .ref q105, .ref q106, .ref q124, .ref q131, .int 0, .int 0, .int 0, .int 0, .int 0, .int 0, .int 0, .int 0, .int 0, .ref q132, .ref q133, .ref q134, .ref q135, .ref q136, .ref q137, .ref q138, .ref q139, .ref q140, .int 0]))]) [0] rfl
    have hDc := hD.sub (ws' := [(q77, .inr (20, [.int 0, .ref q78, .int 0, .int 0, .ref q80, .ref q82, .ref q84, .ref q86, .ref q88, .ref q90, .ref q91, .ref q93, .ref q94, .ref q105, .ref q106, .ref q124, .ref q131, .int 0, .int 0, .int 0, .int 0, .int 0, .int 0, .int 0, .int 0, .int 0, .ref q132, .ref q133, .ref q134, .ref q135, .ref q136, .ref q137, .ref q138, .ref q139, .ref q140, .int 0]))]) [0] (by decide) rfl
    have hKc := hK.sub (tys' := []) [] rfl
    have hFc := va_free (wc := [(q77, .inr (20, [.int 0, .ref q78, .int 0, .int 0, .ref q80, .ref q82, .ref q84, .ref q86, .ref q88, .ref q90, .ref q91, .ref q93, .ref q94, .ref q105, .ref q106, .ref q124, .ref q131, .int 0, .int 0, .int 0, .int 0, .int 0, .int 0, .int 0, .int 0, .int 0, .ref q132, .ref q133, .ref q134, .ref q135, .ref q136, .ref q137, .ref q138, .ref q139, .ref q140, .int 0]))]) hD hS hA [0] rfl
    refine va_calll (va_runV (As := [.int x1]) (rest := []) ⟨hx, hb, hml, hown, hts⟩ (k_X19_value l hlt dC dI q77 x1 q78 q80 q82 q84 q86 q88 q90 q91 q93 q94 q105 q106 q124 q131 q132 q133 q134 q135 q136 q137 q138 q139 q140  H.size) (cwV 1 hts gl_40 rfl rfl rfl (by decide +kernel) ⟨Nat.le_of_ble_eq_true rfl, Nat.le_of_ble_eq_true rfl⟩) ⟨fun a U g mk q => by obtain ⟨q0, q1, qP, qK, qD, qN⟩ := q; exact ⟨q0, q1, qP, va_K.moved (u := U) (U := U.calling g mk a) (Vm.Alike.refl U.vm) qK, qD, nv_same rfl rfl qN⟩, va_recv hKc hPc (ci := 20) (q0 := 0) rfl rfl, fun U hU hW => ⟨rfl, by rw [hU], by rw [hU]; exact hPc, va_K.moved hW.alike hKc, hDc.weaken (fun _ _ _ _ => trivial), nv_call hS hFc hU hW hN⟩⟩ rfl rfl hl.1 rfl (lv_room (Nat.le_of_ble_eq_true rfl)) dL_law_980 ⟨by decide +kernel, by decide +kernel⟩) hS (fun q _ h => hFc q h) hFc (fun r510 u t H1 locs ht hvm hw hB hz1 hk1 hS => ?_)
    rcases hw with ⟨c_4_0, h9, h8⟩ | ⟨c_4_0, c_4_1, h9, h8⟩ | ⟨c_4_0, c_4_1, h9, h8⟩ | h9
    · exact absurd c_4_0 c_1_0
    · subst h9
      subst h8
      obtain ⟨hP1, hK1, hD1⟩ := hB
      rw [ht] at hP1
      have hK1 := va_K.moved hvm.symm hK1
      obtain ⟨hP, hD⟩ := va_join (wr := [(q143, .inl (y144, 1, .inr (.inl (fun _ => 0))))]) (w1 := [(q77, .inr (20, [.int 1, .ref q78, .int 0, .int 0, .ref q80, .ref q82, .ref q84, .ref q86, .ref q88, .ref q90, .ref q91, .ref q93, .ref q94, .ref q105, .ref q106, .ref q124, .ref q131, .int 0, .int 0, .int 0, .int 0, .int 0, .int 0, .int 0, .int 0, .int 0, .ref q132, .ref q133, .ref q134, .ref q135, .ref q136, .ref q137, .ref q138, .ref q139, .ref q140, .int 0]))]) hP hD [0] [1] rfl rfl (by decide) (by decide) hk1 hFc hP1 hD1
      have hK := (hK.sub (tys' := [(y144, .long)]) [0] rfl).app hK1
      generalize H1 = H at hP hS ⊢
      have hP : va_P (dC, dI) vwCl [(q143, .inl (y144, 1, .inr (.inl (fun _ => 0)))), (q77, .inr (20, [.int 1, .ref q78, .int 0, .int 0, .ref q80, .ref q82, .ref q84, .ref q86, .ref q88, .ref q90, .ref q91, .ref q93, .ref q94, .ref q105, .ref q106, .ref q124, .ref q131, .int 0, .int 0, .int 0, .int 0, .int 0, .int 0, .int 0, .int 0, .int 0, .ref q132, .ref q133, .ref q134, .ref q135, .ref q136, .ref q137, .ref q138, .ref q139, .ref q140, .int 0]))] H := hP
      have hD : va_D A [(q143, .inl (y144, 1, .inr (.inl (fun _ => 0)))), (q77, .inr (20, [.int 1, .ref q78, .int 0, .int 0, .ref q80, .ref q82, .ref q84, .ref q86, .ref q88, .ref q90, .ref q91, .ref q93, .ref q94, .ref q105, .ref q106, .ref q124, .ref q131, .int 0, .int 0, .int 0, .int 0, .int 0, .int 0, .int 0, .int 0, .int 0, .ref q132, .ref q133, .ref q134, .ref q135, .ref q136, .ref q137, .ref q138, .ref q139, .ref q140, .int 0]))] := hD
      have hK : va_K (dC, dI) vwCl [(y144, .long)] s := hK
      refine W.widen (k := 456) (n := 2511905) (by decide +kernel) (by decide +kernel) ?_
      refine lv_lstore (lv' := [(6, .long 0), (5, .int 1), (4, .int 0), (3, .ref q143), (2, .ref q77), (1, .ref q1), (0, .ref b)]) hx hb dL_law_983 hl (by decide) rfl (fun ls hl => ?_)
      refine lv_aload_n hx hb dL_law_985 rfl (lv_at hl 4 rfl) ?_
      have hPc := hP.sub (ws' := [(q77, .inr (20, [.int 1, .ref q78, .int 0, .int 0, .ref q80, .ref q82, .ref q84, .ref q86, .ref q88, .ref q90, .ref q91, .ref q93, .ref q94, .ref q105, .ref q106, .ref q124, .ref q131, .int 0, .int 0, .int 0, .int 0, .int 0, .int 0, .int 0, .int 0, .int 0, .ref q132, .ref q133, .ref q134, .ref q135, .ref q136, .ref q137, .ref q138, .ref q139, .ref q140, .int 0]))]) [1] rfl
      have hDc := hD.sub (ws' := [(q77, .inr (20, [.int 1, .ref q78, .int 0, .int 0, .ref q80, .ref q82, .ref q84, .ref q86, .ref q88, .ref q90, .ref q91, .ref q93, .ref q94, .ref q105, .ref q106, .ref q124, .ref q131, .int 0, .int 0, .int 0, .int 0, .int 0, .int 0, .int 0, .int 0, .int 0, .ref q132, .ref q133, .ref q134, .ref q135, .ref q136, .ref q137, .ref q138, .ref q139, .ref q140, .int 0]))]) [1] (by decide) rfl
      have hKc := hK.sub (tys' := []) [] rfl
      have hFc := va_free (wc := [(q77, .inr (20, [.int 1, .ref q78, .int 0, .int 0, .ref q80, .ref q82, .ref q84, .ref q86, .ref q88, .ref q90, .ref q91, .ref q93, .ref q94, .ref q105, .ref q106, .ref q124, .ref q131, .int 0, .int 0, .int 0, .int 0, .int 0, .int 0, .int 0, .int 0, .int 0, .ref q132, .ref q133, .ref q134, .ref q135, .ref q136, .ref q137, .ref q138, .ref q139, .ref q140, .int 0]))]) hD hS hA [1] rfl
      refine va_calli (va_runV (As := []) (rest := []) ⟨hx, hb, hml, hown, hts⟩ (k_X19_thrown l hlt dC dI q77 q78 q80 q82 q84 q86 q88 q90 q91 q93 q94 q105 q106 q124 q131 q132 q133 q134 q135 q136 q137 q138 q139 q140  H.size) (cwV 0 hts gl_8 rfl rfl rfl (by decide +kernel) ⟨Nat.le_of_ble_eq_true rfl, Nat.le_of_ble_eq_true rfl⟩) ⟨fun a U g mk q => by obtain ⟨q0, q1, qP, qK, qD, qN⟩ := q; exact ⟨q0, q1, qP, va_K.moved (u := U) (U := U.calling g mk a) (Vm.Alike.refl U.vm) qK, qD, nv_same rfl rfl qN⟩, va_recv hKc hPc (ci := 20) (q0 := 0) rfl rfl, fun U hU hW => ⟨rfl, by rw [hU], by rw [hU]; exact hPc, va_K.moved hW.alike hKc, hDc.weaken (fun _ _ _ _ => trivial), nv_call hS hFc hU hW hN⟩⟩ rfl rfl hl.1 rfl (lv_room (Nat.le_of_ble_eq_true rfl)) dL_law_986 ⟨by decide +kernel, by decide +kernel⟩) hS (fun q _ h => hFc q h) hFc (fun r511 u t H1 locs ht hvm hw hB hz1 hk1 hS => ?_)
      obtain ⟨hP1, hK1, hD1⟩ := hB
      rw [ht] at hP1
      have hK1 := va_K.moved hvm.symm hK1
      obtain rfl : r511 = 1 := hw
      obtain ⟨hP, hD⟩ := va_join (wr := [(q143, .inl (y144, 1, .inr (.inl (fun _ => 0))))]) (w1 := [(q77, .inr (20, [.int 1, .ref q78, .int 0, .int 0, .ref q80, .ref q82, .ref q84, .ref q86, .ref q88, .ref q90, .ref q91, .ref q93, .ref q94, .ref q105, .ref q106, .ref q124, .ref q131, .int 0, .int 0, .int 0, .int 0, .int 0, .int 0, .int 0, .int 0, .int 0, .ref q132, .ref q133, .ref q134, .ref q135, .ref q136, .ref q137, .ref q138, .ref q139, .ref q140, .int 0]))]) hP hD [1] [0] rfl rfl (by decide) (by decide) hk1 hFc hP1 hD1
      have hK := (hK.sub (tys' := [(y144, .long)]) [0] rfl).app hK1
      generalize H1 = H at hP hS ⊢
      have hP : va_P (dC, dI) vwCl [(q143, .inl (y144, 1, .inr (.inl (fun _ => 0)))), (q77, .inr (20, [.int 1, .ref q78, .int 0, .int 0, .ref q80, .ref q82, .ref q84, .ref q86, .ref q88, .ref q90, .ref q91, .ref q93, .ref q94, .ref q105, .ref q106, .ref q124, .ref q131, .int 0, .int 0, .int 0, .int 0, .int 0, .int 0, .int 0, .int 0, .int 0, .ref q132, .ref q133, .ref q134, .ref q135, .ref q136, .ref q137, .ref q138, .ref q139, .ref q140, .int 0]))] H := hP
      have hD : va_D A [(q143, .inl (y144, 1, .inr (.inl (fun _ => 0)))), (q77, .inr (20, [.int 1, .ref q78, .int 0, .int 0, .ref q80, .ref q82, .ref q84, .ref q86, .ref q88, .ref q90, .ref q91, .ref q93, .ref q94, .ref q105, .ref q106, .ref q124, .ref q131, .int 0, .int 0, .int 0, .int 0, .int 0, .int 0, .int 0, .int 0, .int 0, .ref q132, .ref q133, .ref q134, .ref q135, .ref q136, .ref q137, .ref q138, .ref q139, .ref q140, .int 0]))] := hD
      have hK : va_K (dC, dI) vwCl [(y144, .long)] s := hK
      refine W.widen (k := 456) (n := 2511905) (by decide +kernel) (by decide +kernel) ?_
      refine lv_iload hx hb dL_law_989 (lv_at hl 1 rfl) ?_
      refine lv_icmp_eq (tgt := 996) hx hb dL_law_991 (by decide) (fun _ => ?_) (fun h9 => absurd (by decide) h9)
      refine lv_iload hx hb dL_law_996 (lv_at hl 1 rfl) ?_
      refine lv_if_ne (tgt := 1012) hx hb dL_law_998 (by decide) (fun _ => ?_) (fun h9 => absurd h9 (by decide))
      refine lv_goto (tgt := 1493) hx hb dL_law_1012 (by decide) ?_
      refine lv_iinc (v := 6) (lv' := [(4, .int 6), (6, .long 0), (5, .int 1), (3, .ref q143), (2, .ref q77), (1, .ref q1), (0, .ref b)]) hx hb dL_law_1493 hl (k := 2) rfl (by decide) (by decide) rfl (fun ls hl => ?_)
      refine lv_goto (tgt := 23) hx hb dL_law_1496 (by decide) ?_
      refine W.widen (k := 600002) (n := 7302232) (by decide +kernel) (by decide +kernel) ?_
      exact kkE _ _ _ hS (lv_sub hl [0, 6] rfl)
    · exact (cz_6 x1 c_1_0 c_1_1 c_4_1).elim
    · exact h9.elim
  · exact h9.elim
set_option maxHeartbeats 40000000 in
set_option maxRecDepth 100000 in
theorem law_c18 {p : Program} {l : Launch} {e : Env} {s : State} {m : MethodId} {below : List Frame} {meth : Method} {c : Code} {Q : State → Prop} {A : Nat → Prop} {b : Nat} (hlt : l.stackTraces = false) (hx : p.tables.exec = Jvm.exec) (hb : c.code = code) (hml : c.maxLocals = 8) (hown : s.vm.findClass RL = some m.cls) (hts : ∀ w ∈ lw_tbl, w.before #[Value.ref b] s = true) (hN : nv_E A s) (hA : ∀ q : Nat, s.heap.size ≤ q → A q) (hDe : nv_Dc s) (dC : Nat → ClassId) (dI : Nat → Nat → Nat) (q1 : Nat) (q2 : Nat) (q4 : Nat) (q6 : Nat) (q8 : Nat) (q22 : Nat) (q37 : Nat) (y38 : ClassId) (q39 : Nat) (q41 : Nat) (q43 : Nat) (q77 : Nat) (q78 : Nat) (q80 : Nat) (q82 : Nat) (q84 : Nat) (q86 : Nat) (q88 : Nat) (q90 : Nat) (q91 : Nat) (q93 : Nat) (q94 : Nat) (q105 : Nat) (q106 : Nat) (q124 : Nat) (q131 : Nat) (q132 : Nat) (q133 : Nat) (q134 : Nat) (q135 : Nat) (q136 : Nat) (q137 : Nat) (q138 : Nat) (q139 : Nat) (q140 : Nat) (q143 : Nat) (y144 : ClassId) {xs : Nat → Int32} (hX : va_X b 6 xs s s.heap) (hbl : b < s.heap.size) (hbA : ¬ A b) (x0 : Int32) (es0 : xs (Int32.toNatClampNeg 0) = x0) (x1 : Int32) (es1 : xs (Int32.toNatClampNeg 1) = x1) (x2 : Int32) (es2 : xs (Int32.toNatClampNeg 2) = x2) (x3 : Int32) (es3 : xs (Int32.toNatClampNeg 3) = x3) (x4 : Int32) (es4 : xs (Int32.toNatClampNeg 4) = x4) (x5 : Int32) (es5 : xs (Int32.toNatClampNeg 5) = x5) {H : Heap} {locs : List Loc} {ls : Array Slot} (hK : va_K (dC, dI) vwCl [(y38, .object RX2), (y144, .long)] s) (hP : va_P (dC, dI) vwCl [(q1, .inr (13, [.ref q2, .int 0, .int 0, .ref q4, .ref q6, .ref q8, .ref q22, .ref q37, .ref q39, .ref q41, .int 0, .ref q43])), (q37, .inl (y38, 8, .inr (.inr (.inr (.inr (fun _ => none)))))), (q77, .inr (20, [.int 0, .ref q78, .int 0, .int 0, .ref q80, .ref q82, .ref q84, .ref q86, .ref q88, .ref q90, .ref q91, .ref q93, .ref q94, .ref q105, .ref q106, .ref q124, .ref q131, .int 0, .int 0, .int 0, .int 0, .int 0, .int 0, .int 0, .int 0, .int 0, .ref q132, .ref q133, .ref q134, .ref q135, .ref q136, .ref q137, .ref q138, .ref q139, .ref q140, .int 0])), (q143, .inl (y144, 1, .inr (.inl (fun _ => 0))))] H) (hD : va_D A [(q1, .inr (13, [.ref q2, .int 0, .int 0, .ref q4, .ref q6, .ref q8, .ref q22, .ref q37, .ref q39, .ref q41, .int 0, .ref q43])), (q37, .inl (y38, 8, .inr (.inr (.inr (.inr (fun _ => none)))))), (q77, .inr (20, [.int 0, .ref q78, .int 0, .int 0, .ref q80, .ref q82, .ref q84, .ref q86, .ref q88, .ref q90, .ref q91, .ref q93, .ref q94, .ref q105, .ref q106, .ref q124, .ref q131, .int 0, .int 0, .int 0, .int 0, .int 0, .int 0, .int 0, .int 0, .int 0, .ref q132, .ref q133, .ref q134, .ref q135, .ref q136, .ref q137, .ref q138, .ref q139, .ref q140, .int 0])), (q143, .inl (y144, 1, .inr (.inl (fun _ => 0))))]) (hS : va_S A s.heap H locs) (hl : lv_has ls 8 [(4, .int 0), (3, .ref q143), (2, .ref q77), (1, .ref q1), (0, .ref b)]) (kkE : ∀ (H : Heap) (locs : List Loc) (ls : Array Slot), va_S A s.heap H locs → lv_has ls 8 [(4, .int 6), (0, .ref b)] → W p l e room_1 s m #[Value.ref b] below meth c H locs 600002 7302232 Q (F0 m 23 ls [])) : W p l e room_1 s m #[Value.ref b] below meth c H locs 455 2511899 Q (F0 m 1015 ls []) := by
  refine lv_aload_n hx hb dL_law_1015 rfl (lv_at hl 3 rfl) ?_
  refine lv_aload_n hx hb dL_law_1016 rfl (lv_at hl 4 rfl) ?_
  refine lv_iload hx hb dL_law_1017 (lv_at hl 0 rfl) ?_
  refine lv_iconst (v := 1) hx hb dL_law_1019 (by decide) ?_
  refine lv_iadd hx hb dL_law_1020 ?_
  refine lv_topi (fun z501 ez501 => ?_)
  obtain rfl : z501 = 1 := ez501.trans (by decide)
  refine va_sld (i := 1) hx hb hX hbl hbA hS (vp_in_iff.mpr ⟨by decide, by decide⟩) dL_law_1021 ?_
  rw [es1]
  refine lv_aload_n hx hb dL_law_1022 rfl (lv_at hl 1 rfl) ?_
  have hPc := hP.sub (ws' := [(q1, .inr (13, [.ref q2, .int 0, .int 0, .ref q4, .ref q6, .ref q8, .ref q22, .ref q37, .ref q39, .ref q41, .int 0, .ref q43])), (q37, .inl (y38, 8, .inr (.inr (.inr (.inr (fun _ => none)))))), (q143, .inl (y144, 1, .inr (.inl (fun _ => 0))))]) [0, 1, 3] rfl
  have hDc := hD.sub (ws' := [(q1, .inr (13, [.ref q2, .int 0, .int 0, .ref q4, .ref q6, .ref q8, .ref q22, .ref q37, .ref q39, .ref q41, .int 0, .ref q43])), (q37, .inl (y38, 8, .inr (.inr (.inr (.inr (fun _ => none)))))), (q143, .inl (y144, 1, .inr (.inl (fun _ => 0))))]) [0, 1, 3] (by decide) rfl
  have hKc := hK.sub (tys' := [(y38, .object RX2), (y144, .long)]) [0, 1] rfl
  have hFc := va_free (wc := [(q1, .inr (13, [.ref q2, .int 0, .int 0, .ref q4, .ref q6, .ref q8, .ref q22, .ref q37, .ref q39, .ref q41, .int 0, .ref q43])), (q37, .inl (y38, 8, .inr (.inr (.inr (.inr (fun _ => none)))))), (q143, .inl (y144, 1, .inr (.inl (fun _ => 0))))]) hD hS hA [0, 1, 3] rfl
  refine va_calli (vx_runSW (As := [.ref q1, .int x1, .ref q143]) (rest := []) ⟨hx, hb, hml, hown, hts⟩ (k_L_backTo l hlt dC dI q1 q37 y38 q143 y144 x1 q2 q4 q6 q8 q22 q39 q41 q43  H.size) (vx_cwSW 3 hts gl_41 rfl rfl rfl (by decide +kernel) ⟨Nat.le_of_ble_eq_true rfl, Nat.le_of_ble_eq_true rfl⟩) ⟨fun a U g mk q => by obtain ⟨q0, q1, qP, qK, qD, qN, qE⟩ := q; exact ⟨q0, q1, qP, va_K.moved (u := U) (U := U.calling g mk a) (Vm.Alike.refl U.vm) qK, qD, nv_same rfl rfl qN, nv_Dsame rfl qE⟩, fun U hU hW => ⟨rfl, by rw [hU], by rw [hU]; exact hPc, va_K.moved hW.alike hKc, hDc.weaken (fun _ _ _ _ => trivial), nv_call hS hFc hU hW hN, nv_Dcall hW hDe⟩⟩ rfl rfl hl.1 rfl (lv_room (Nat.le_of_ble_eq_true rfl)) dL_law_1023 ⟨by decide +kernel, by decide +kernel⟩) hS (fun q _ h => hFc q h) hFc (fun r502 u t H1 locs ht hvm hw hB hz1 hk1 hS => ?_)
  rcases hw with ⟨c_1_0, h9, h8⟩ | ⟨c_1_0, c_1_1, h9, h8⟩ | ⟨c_1_0, c_1_1, h9, h8⟩ | h9
  · subst h9
    subst h8
    obtain ⟨hP1, hK1, hD1⟩ := hB
    rw [ht] at hP1
    have hK1 := va_K.moved hvm.symm hK1
    obtain ⟨hP, hD⟩ := va_join (wr := [(q77, .inr (20, [.int 0, .ref q78, .int 0, .int 0, .ref q80, .ref q82, .ref q84, .ref q86, .ref q88, .ref q90, .ref q91, .ref q93, .ref q94, .ref q105, .ref q106, .ref q124, .ref q131, .int 0, .int 0, .int 0, .int 0, .int 0, .int 0, .int 0, .int 0, .int 0, .ref q132, .ref q133, .ref q134, .ref q135, .ref q136, .ref q137, .ref q138, .ref q139, .ref q140, .int 0]))]) (w1 := [(q143, .inl (y144, 1, .inr (.inl (fun _ => 0))))]) hP hD [0, 1, 3] [2] rfl rfl (by decide) (by decide) hk1 hFc hP1 hD1
    have hK := (hK.sub (tys' := []) [] rfl).app hK1
    generalize H1 = H at hP hS ⊢
    have hP : va_P (dC, dI) vwCl [(q77, .inr (20, [.int 0, .ref q78, .int 0, .int 0, .ref q80, .ref q82, .ref q84, .ref q86, .ref q88, .ref q90, .ref q91, .ref q93, .ref q94, .ref q105, .ref q106, .ref q124, .ref q131, .int 0, .int 0, .int 0, .int 0, .int 0, .int 0, .int 0, .int 0, .int 0, .ref q132, .ref q133, .ref q134, .ref q135, .ref q136, .ref q137, .ref q138, .ref q139, .ref q140, .int 0])), (q143, .inl (y144, 1, .inr (.inl (fun _ => 0))))] H := hP
    have hD : va_D A [(q77, .inr (20, [.int 0, .ref q78, .int 0, .int 0, .ref q80, .ref q82, .ref q84, .ref q86, .ref q88, .ref q90, .ref q91, .ref q93, .ref q94, .ref q105, .ref q106, .ref q124, .ref q131, .int 0, .int 0, .int 0, .int 0, .int 0, .int 0, .int 0, .int 0, .int 0, .ref q132, .ref q133, .ref q134, .ref q135, .ref q136, .ref q137, .ref q138, .ref q139, .ref q140, .int 0])), (q143, .inl (y144, 1, .inr (.inl (fun _ => 0))))] := hD
    have hK : va_K (dC, dI) vwCl [(y144, .long)] s := hK
    refine W.widen (k := 456) (n := 2511905) (by decide +kernel) (by decide +kernel) ?_
    refine lv_istore (lv' := [(5, .int 1), (4, .int 0), (3, .ref q143), (2, .ref q77), (1, .ref q1), (0, .ref b)]) hx hb dL_law_1026 hl (by decide) rfl (fun ls hl => ?_)
    refine lv_aload_n hx hb dL_law_1028 rfl (lv_at hl 3 rfl) ?_
    refine lv_aload_n hx hb dL_law_1029 rfl (lv_at hl 5 rfl) ?_
    refine lv_iload hx hb dL_law_1030 (lv_at hl 1 rfl) ?_
    refine lv_iconst (v := 1) hx hb dL_law_1032 (by decide) ?_
    refine lv_iadd hx hb dL_law_1033 ?_
    refine lv_topi (fun z503 ez503 => ?_)
    obtain rfl : z503 = 1 := ez503.trans (by decide)
    refine va_sld (i := 1) hx hb hX hbl hbA hS (vp_in_iff.mpr ⟨by decide, by decide⟩) dL_law_1034 ?_
    rw [es1]
    have hPc := hP.sub (ws' := [(q77, .inr (20, [.int 0, .ref q78, .int 0, .int 0, .ref q80, .ref q82, .ref q84, .ref q86, .ref q88, .ref q90, .ref q91, .ref q93, .ref q94, .ref q105, .ref q106, .ref q124, .ref q131, .int 0, .int 0, .int 0, .int 0, .int 0, .int 0, .int 0, .int 0, .int 0, .ref q132, .ref q133, .ref q134, .ref q135, .ref q136, .ref q137, .ref q138, .ref q139, .ref q140, .int 0]))]) [0] rfl
    have hDc := hD.sub (ws' := [(q77, .inr (20, [.int 0, .ref q78, .int 0, .int 0, .ref q80, .ref q82, .ref q84, .ref q86, .ref q88, .ref q90, .ref q91, .ref q93, .ref q94, .ref q105, .ref q106, .ref q124, .ref q131, .int 0, .int 0, .int 0, .int 0, .int 0, .int 0, .int 0, .int 0, .int 0, .ref q132, .ref q133, .ref q134, .ref q135, .ref q136, .ref q137, .ref q138, .ref q139, .ref q140, .int 0]))]) [0] (by decide) rfl
    have hKc := hK.sub (tys' := []) [] rfl
    have hFc := va_free (wc := [(q77, .inr (20, [.int 0, .ref q78, .int 0, .int 0, .ref q80, .ref q82, .ref q84, .ref q86, .ref q88, .ref q90, .ref q91, .ref q93, .ref q94, .ref q105, .ref q106, .ref q124, .ref q131, .int 0, .int 0, .int 0, .int 0, .int 0, .int 0, .int 0, .int 0, .int 0, .ref q132, .ref q133, .ref q134, .ref q135, .ref q136, .ref q137, .ref q138, .ref q139, .ref q140, .int 0]))]) hD hS hA [0] rfl
    refine va_calli (va_runV (As := [.int x1]) (rest := []) ⟨hx, hb, hml, hown, hts⟩ (k_X19_backTo l hlt dC dI q77 x1 q78 q80 q82 q84 q86 q88 q90 q91 q93 q94 q105 q106 q124 q131 q132 q133 q134 q135 q136 q137 q138 q139 q140  H.size) (cwV 1 hts gl_42 rfl rfl rfl (by decide +kernel) ⟨Nat.le_of_ble_eq_true rfl, Nat.le_of_ble_eq_true rfl⟩) ⟨fun a U g mk q => by obtain ⟨q0, q1, qP, qK, qD, qN⟩ := q; exact ⟨q0, q1, qP, va_K.moved (u := U) (U := U.calling g mk a) (Vm.Alike.refl U.vm) qK, qD, nv_same rfl rfl qN⟩, va_recv hKc hPc (ci := 20) (q0 := 0) rfl rfl, fun U hU hW => ⟨rfl, by rw [hU], by rw [hU]; exact hPc, va_K.moved hW.alike hKc, hDc.weaken (fun _ _ _ _ => trivial), nv_call hS hFc hU hW hN⟩⟩ rfl rfl hl.1 rfl (lv_room (Nat.le_of_ble_eq_true rfl)) dL_law_1035 ⟨by decide +kernel, by decide +kernel⟩) hS (fun q _ h => hFc q h) hFc (fun r504 u t H1 locs ht hvm hw hB hz1 hk1 hS => ?_)
    rcases hw with ⟨c_2_0, h9, h8⟩ | ⟨c_2_0, c_2_1, h9, h8⟩ | ⟨c_2_0, c_2_1, h9, h8⟩ | h9
    · subst h9
      subst h8
      obtain ⟨hP1, hK1, hD1⟩ := hB
      rw [ht] at hP1
      have hK1 := va_K.moved hvm.symm hK1
      obtain ⟨hP, hD⟩ := va_join (wr := [(q143, .inl (y144, 1, .inr (.inl (fun _ => 0))))]) (w1 := [(q77, .inr (20, [.int 1, .ref q78, .int 0, .int 0, .ref q80, .ref q82, .ref q84, .ref q86, .ref q88, .ref q90, .ref q91, .ref q93, .ref q94, .ref q105, .ref q106, .ref q124, .ref q131, .int 0, .int 0, .int 0, .int 0, .int 0, .int 0, .int 0, .int 0, .int 0, .ref q132, .ref q133, .ref q134, .ref q135, .ref q136, .ref q137, .ref q138, .ref q139, .ref q140, .int 0]))]) hP hD [0] [1] rfl rfl (by decide) (by decide) hk1 hFc hP1 hD1
      have hK := (hK.sub (tys' := [(y144, .long)]) [0] rfl).app hK1
      generalize H1 = H at hP hS ⊢
      have hP : va_P (dC, dI) vwCl [(q143, .inl (y144, 1, .inr (.inl (fun _ => 0)))), (q77, .inr (20, [.int 1, .ref q78, .int 0, .int 0, .ref q80, .ref q82, .ref q84, .ref q86, .ref q88, .ref q90, .ref q91, .ref q93, .ref q94, .ref q105, .ref q106, .ref q124, .ref q131, .int 0, .int 0, .int 0, .int 0, .int 0, .int 0, .int 0, .int 0, .int 0, .ref q132, .ref q133, .ref q134, .ref q135, .ref q136, .ref q137, .ref q138, .ref q139, .ref q140, .int 0]))] H := hP
      have hD : va_D A [(q143, .inl (y144, 1, .inr (.inl (fun _ => 0)))), (q77, .inr (20, [.int 1, .ref q78, .int 0, .int 0, .ref q80, .ref q82, .ref q84, .ref q86, .ref q88, .ref q90, .ref q91, .ref q93, .ref q94, .ref q105, .ref q106, .ref q124, .ref q131, .int 0, .int 0, .int 0, .int 0, .int 0, .int 0, .int 0, .int 0, .int 0, .ref q132, .ref q133, .ref q134, .ref q135, .ref q136, .ref q137, .ref q138, .ref q139, .ref q140, .int 0]))] := hD
      have hK : va_K (dC, dI) vwCl [(y144, .long)] s := hK
      refine W.widen (k := 456) (n := 2511905) (by decide +kernel) (by decide +kernel) ?_
      refine lv_istore (lv' := [(6, .int 0), (5, .int 1), (4, .int 0), (3, .ref q143), (2, .ref q77), (1, .ref q1), (0, .ref b)]) hx hb dL_law_1038 hl (by decide) rfl (fun ls hl => ?_)
      refine lv_aload_n hx hb dL_law_1040 rfl (lv_at hl 4 rfl) ?_
      have hPc := hP.sub (ws' := [(q77, .inr (20, [.int 1, .ref q78, .int 0, .int 0, .ref q80, .ref q82, .ref q84, .ref q86, .ref q88, .ref q90, .ref q91, .ref q93, .ref q94, .ref q105, .ref q106, .ref q124, .ref q131, .int 0, .int 0, .int 0, .int 0, .int 0, .int 0, .int 0, .int 0, .int 0, .ref q132, .ref q133, .ref q134, .ref q135, .ref q136, .ref q137, .ref q138, .ref q139, .ref q140, .int 0]))]) [1] rfl
      have hDc := hD.sub (ws' := [(q77, .inr (20, [.int 1, .ref q78, .int 0, .int 0, .ref q80, .ref q82, .ref q84, .ref q86, .ref q88, .ref q90, .ref q91, .ref q93, .ref q94, .ref q105, .ref q106, .ref q124, .ref q131, .int 0, .int 0, .int 0, .int 0, .int 0, .int 0, .int 0, .int 0, .int 0, .ref q132, .ref q133, .ref q134, .ref q135, .ref q136, .ref q137, .ref q138, .ref q139, .ref q140, .int 0]))]) [1] (by decide) rfl
      have hKc := hK.sub (tys' := []) [] rfl
      have hFc := va_free (wc := [(q77, .inr (20, [.int 1, .ref q78, .int 0, .int 0, .ref q80, .ref q82, .ref q84, .ref q86, .ref q88, .ref q90, .ref q91, .ref q93, .ref q94, .ref q105, .ref q106, .ref q124, .ref q131, .int 0, .int 0, .int 0, .int 0, .int 0, .int 0, .int 0, .int 0, .int 0, .ref q132, .ref q133, .ref q134, .ref q135, .ref q136, .ref q137, .ref q138, .ref q139, .ref q140, .int 0]))]) hD hS hA [1] rfl
      refine va_calli (va_runV (As := []) (rest := []) ⟨hx, hb, hml, hown, hts⟩ (k_X19_thrown l hlt dC dI q77 q78 q80 q82 q84 q86 q88 q90 q91 q93 q94 q105 q106 q124 q131 q132 q133 q134 q135 q136 q137 q138 q139 q140  H.size) (cwV 0 hts gl_8 rfl rfl rfl (by decide +kernel) ⟨Nat.le_of_ble_eq_true rfl, Nat.le_of_ble_eq_true rfl⟩) ⟨fun a U g mk q => by obtain ⟨q0, q1, qP, qK, qD, qN⟩ := q; exact ⟨q0, q1, qP, va_K.moved (u := U) (U := U.calling g mk a) (Vm.Alike.refl U.vm) qK, qD, nv_same rfl rfl qN⟩, va_recv hKc hPc (ci := 20) (q0 := 0) rfl rfl, fun U hU hW => ⟨rfl, by rw [hU], by rw [hU]; exact hPc, va_K.moved hW.alike hKc, hDc.weaken (fun _ _ _ _ => trivial), nv_call hS hFc hU hW hN⟩⟩ rfl rfl hl.1 rfl (lv_room (Nat.le_of_ble_eq_true rfl)) dL_law_1041 ⟨by decide +kernel, by decide +kernel⟩) hS (fun q _ h => hFc q h) hFc (fun r505 u t H1 locs ht hvm hw hB hz1 hk1 hS => ?_)
      obtain ⟨hP1, hK1, hD1⟩ := hB
      rw [ht] at hP1
      have hK1 := va_K.moved hvm.symm hK1
      obtain rfl : r505 = 1 := hw
      obtain ⟨hP, hD⟩ := va_join (wr := [(q143, .inl (y144, 1, .inr (.inl (fun _ => 0))))]) (w1 := [(q77, .inr (20, [.int 1, .ref q78, .int 0, .int 0, .ref q80, .ref q82, .ref q84, .ref q86, .ref q88, .ref q90, .ref q91, .ref q93, .ref q94, .ref q105, .ref q106, .ref q124, .ref q131, .int 0, .int 0, .int 0, .int 0, .int 0, .int 0, .int 0, .int 0, .int 0, .ref q132, .ref q133, .ref q134, .ref q135, .ref q136, .ref q137, .ref q138, .ref q139, .ref q140, .int 0]))]) hP hD [1] [0] rfl rfl (by decide) (by decide) hk1 hFc hP1 hD1
      have hK := (hK.sub (tys' := [(y144, .long)]) [0] rfl).app hK1
      generalize H1 = H at hP hS ⊢
      have hP : va_P (dC, dI) vwCl [(q143, .inl (y144, 1, .inr (.inl (fun _ => 0)))), (q77, .inr (20, [.int 1, .ref q78, .int 0, .int 0, .ref q80, .ref q82, .ref q84, .ref q86, .ref q88, .ref q90, .ref q91, .ref q93, .ref q94, .ref q105, .ref q106, .ref q124, .ref q131, .int 0, .int 0, .int 0, .int 0, .int 0, .int 0, .int 0, .int 0, .int 0, .ref q132, .ref q133, .ref q134, .ref q135, .ref q136, .ref q137, .ref q138, .ref q139, .ref q140, .int 0]))] H := hP
      have hD : va_D A [(q143, .inl (y144, 1, .inr (.inl (fun _ => 0)))), (q77, .inr (20, [.int 1, .ref q78, .int 0, .int 0, .ref q80, .ref q82, .ref q84, .ref q86, .ref q88, .ref q90, .ref q91, .ref q93, .ref q94, .ref q105, .ref q106, .ref q124, .ref q131, .int 0, .int 0, .int 0, .int 0, .int 0, .int 0, .int 0, .int 0, .int 0, .ref q132, .ref q133, .ref q134, .ref q135, .ref q136, .ref q137, .ref q138, .ref q139, .ref q140, .int 0]))] := hD
      have hK : va_K (dC, dI) vwCl [(y144, .long)] s := hK
      refine W.widen (k := 456) (n := 2511905) (by decide +kernel) (by decide +kernel) ?_
      refine lv_iload hx hb dL_law_1044 (lv_at hl 1 rfl) ?_
      refine lv_icmp_eq (tgt := 1051) hx hb dL_law_1046 (by decide) (fun _ => ?_) (fun h9 => absurd (by decide) h9)
      refine lv_iload hx hb dL_law_1051 (lv_at hl 1 rfl) ?_
      refine lv_if_ne (tgt := 1068) hx hb dL_law_1053 (by decide) (fun _ => ?_) (fun h9 => absurd h9 (by decide))
      refine lv_goto (tgt := 1493) hx hb dL_law_1068 (by decide) ?_
      refine lv_iinc (v := 6) (lv' := [(4, .int 6), (6, .int 0), (5, .int 1), (3, .ref q143), (2, .ref q77), (1, .ref q1), (0, .ref b)]) hx hb dL_law_1493 hl (k := 2) rfl (by decide) (by decide) rfl (fun ls hl => ?_)
      refine lv_goto (tgt := 23) hx hb dL_law_1496 (by decide) ?_
      refine W.widen (k := 600002) (n := 7302232) (by decide +kernel) (by decide +kernel) ?_
      exact kkE _ _ _ hS (lv_sub hl [0, 6] rfl)
    · exact absurd c_1_0 c_2_0
    · exact absurd c_1_0 c_2_0
    · exact h9.elim
  · subst h9
    subst h8
    obtain ⟨hP1, hK1, hD1⟩ := hB
    rw [ht] at hP1
    have hK1 := va_K.moved hvm.symm hK1
    obtain ⟨hP, hD⟩ := va_join (wr := [(q77, .inr (20, [.int 0, .ref q78, .int 0, .int 0, .ref q80, .ref q82, .ref q84, .ref q86, .ref q88, .ref q90, .ref q91, .ref q93, .ref q94, .ref q105, .ref q106, .ref q124, .ref q131, .int 0, .int 0, .int 0, .int 0, .int 0, .int 0, .int 0, .int 0, .int 0, .ref q132, .ref q133, .ref q134, .ref q135, .ref q136, .ref q137, .ref q138, .ref q139, .ref q140, .int 0]))]) (w1 := [(q143, .inl (y144, 1, .inr (.inl (fun _ => 0))))]) hP hD [0, 1, 3] [2] rfl rfl (by decide) (by decide) hk1 hFc hP1 hD1
    have hK := (hK.sub (tys' := []) [] rfl).app hK1
    generalize H1 = H at hP hS ⊢
    have hP : va_P (dC, dI) vwCl [(q77, .inr (20, [.int 0, .ref q78, .int 0, .int 0, .ref q80, .ref q82, .ref q84, .ref q86, .ref q88, .ref q90, .ref q91, .ref q93, .ref q94, .ref q105, .ref q106, .ref q124, .ref q131, .int 0, .int 0, .int 0, .int 0, .int 0, .int 0, .int 0, .int 0, .int 0, .ref q132, .ref q133, .ref q134, .ref q135, .ref q136, .ref q137, .ref q138, .ref q139, .ref q140, .int 0])), (q143, .inl (y144, 1, .inr (.inl (fun _ => 0))))] H := hP
    have hD : va_D A [(q77, .inr (20, [.int 0, .ref q78, .int 0, .int 0, .ref q80, .ref q82, .ref q84, .ref q86, .ref q88, .ref q90, .ref q91, .ref q93, .ref q94, .ref q105, .ref q106, .ref q124, .ref q131, .int 0, .int 0, .int 0, .int 0, .int 0, .int 0, .int 0, .int 0, .int 0, .ref q132, .ref q133, .ref q134, .ref q135, .ref q136, .ref q137, .ref q138, .ref q139, .ref q140, .int 0])), (q143, .inl (y144, 1, .inr (.inl (fun _ => 0))))] := hD
    have hK : va_K (dC, dI) vwCl [(y144, .long)] s := hK
    refine W.widen (k := 456) (n := 2511905) (by decide +kernel) (by decide +kernel) ?_
    refine lv_istore (lv' := [(5, .int 2), (4, .int 0), (3, .ref q143), (2, .ref q77), (1, .ref q1), (0, .ref b)]) hx hb dL_law_1026 hl (by decide) rfl (fun ls hl => ?_)
    refine lv_aload_n hx hb dL_law_1028 rfl (lv_at hl 3 rfl) ?_
    refine lv_aload_n hx hb dL_law_1029 rfl (lv_at hl 5 rfl) ?_
    refine lv_iload hx hb dL_law_1030 (lv_at hl 1 rfl) ?_
    refine lv_iconst (v := 1) hx hb dL_law_1032 (by decide) ?_
    refine lv_iadd hx hb dL_law_1033 ?_
    refine lv_topi (fun z506 ez506 => ?_)
    obtain rfl : z506 = 1 := ez506.trans (by decide)
    refine va_sld (i := 1) hx hb hX hbl hbA hS (vp_in_iff.mpr ⟨by decide, by decide⟩) dL_law_1034 ?_
    rw [es1]
    have hPc := hP.sub (ws' := [(q77, .inr (20, [.int 0, .ref q78, .int 0, .int 0, .ref q80, .ref q82, .ref q84, .ref q86, .ref q88, .ref q90, .ref q91, .ref q93, .ref q94, .ref q105, .ref q106, .ref q124, .ref q131, .int 0, .int 0, .int 0, .int 0, .int 0, .int 0, .int 0, .int 0, .int 0, .ref q132, .ref q133, .ref q134, .ref q135, .ref q136, .ref q137, .ref q138, .ref q139, .ref q140, .int 0]))]) [0] rfl
    have hDc := hD.sub (ws' := [(q77, .inr (20, [.int 0, .ref q78, .int 0, .int 0, .ref q80, .ref q82, .ref q84, .ref q86, .ref q88, .ref q90, .ref q91, .ref q93, .ref q94, .ref q105, .ref q106, .ref q124, .ref q131, .int 0, .int 0, .int 0, .int 0, .int 0, .int 0, .int 0, .int 0, .int 0, .ref q132, .ref q133, .ref q134, .ref q135, .ref q136, .ref q137, .ref q138, .ref q139, .ref q140, .int 0]))]) [0] (by decide) rfl
    have hKc := hK.sub (tys' := []) [] rfl
    have hFc := va_free (wc := [(q77, .inr (20, [.int 0, .ref q78, .int 0, .int 0, .ref q80, .ref q82, .ref q84, .ref q86, .ref q88, .ref q90, .ref q91, .ref q93, .ref q94, .ref q105, .ref q106, .ref q124, .ref q131, .int 0, .int 0, .int 0, .int 0, .int 0, .int 0, .int 0, .int 0, .int 0, .ref q132, .ref q133, .ref q134, .ref q135, .ref q136, .ref q137, .ref q138, .ref q139, .ref q140, .int 0]))]) hD hS hA [0] rfl
    refine va_calli (va_runV (As := [.int x1]) (rest := []) ⟨hx, hb, hml, hown, hts⟩ (k_X19_backTo l hlt dC dI q77 x1 q78 q80 q82 q84 q86 q88 q90 q91 q93 q94 q105 q106 q124 q131 q132 q133 q134 q135 q136 q137 q138 q139 q140  H.size) (cwV 1 hts gl_42 rfl rfl rfl (by decide +kernel) ⟨Nat.le_of_ble_eq_true rfl, Nat.le_of_ble_eq_true rfl⟩) ⟨fun a U g mk q => by obtain ⟨q0, q1, qP, qK, qD, qN⟩ := q; exact ⟨q0, q1, qP, va_K.moved (u := U) (U := U.calling g mk a) (Vm.Alike.refl U.vm) qK, qD, nv_same rfl rfl qN⟩, va_recv hKc hPc (ci := 20) (q0 := 0) rfl rfl, fun U hU hW => ⟨rfl, by rw [hU], by rw [hU]; exact hPc, va_K.moved hW.alike hKc, hDc.weaken (fun _ _ _ _ => trivial), nv_call hS hFc hU hW hN⟩⟩ rfl rfl hl.1 rfl (lv_room (Nat.le_of_ble_eq_true rfl)) dL_law_1035 ⟨by decide +kernel, by decide +kernel⟩) hS (fun q _ h => hFc q h) hFc (fun r507 u t H1 locs ht hvm hw hB hz1 hk1 hS => ?_)
    rcases hw with ⟨c_3_0, h9, h8⟩ | ⟨c_3_0, c_3_1, h9, h8⟩ | ⟨c_3_0, c_3_1, h9, h8⟩ | h9
    · exact absurd c_3_0 c_1_0
    · exact (cz_7 x1 c_1_0 c_1_1 c_3_1).elim
    · subst h9
      subst h8
      obtain ⟨hP1, hK1, hD1⟩ := hB
      rw [ht] at hP1
      have hK1 := va_K.moved hvm.symm hK1
      obtain ⟨hP, hD⟩ := va_join (wr := [(q143, .inl (y144, 1, .inr (.inl (fun _ => 0))))]) (w1 := [(q77, .inr (20, [.int 2, .ref q78, .int 0, .int 0, .ref q80, .ref q82, .ref q84, .ref q86, .ref q88, .ref q90, .ref q91, .ref q93, .ref q94, .ref q105, .ref q106, .ref q124, .ref q131, .int 0, .int 0, .int 0, .int 0, .int 0, .int 0, .int 0, .int 0, .int 0, .ref q132, .ref q133, .ref q134, .ref q135, .ref q136, .ref q137, .ref q138, .ref q139, .ref q140, .int 0]))]) hP hD [0] [1] rfl rfl (by decide) (by decide) hk1 hFc hP1 hD1
      have hK := (hK.sub (tys' := [(y144, .long)]) [0] rfl).app hK1
      generalize H1 = H at hP hS ⊢
      have hP : va_P (dC, dI) vwCl [(q143, .inl (y144, 1, .inr (.inl (fun _ => 0)))), (q77, .inr (20, [.int 2, .ref q78, .int 0, .int 0, .ref q80, .ref q82, .ref q84, .ref q86, .ref q88, .ref q90, .ref q91, .ref q93, .ref q94, .ref q105, .ref q106, .ref q124, .ref q131, .int 0, .int 0, .int 0, .int 0, .int 0, .int 0, .int 0, .int 0, .int 0, .ref q132, .ref q133, .ref q134, .ref q135, .ref q136, .ref q137, .ref q138, .ref q139, .ref q140, .int 0]))] H := hP
      have hD : va_D A [(q143, .inl (y144, 1, .inr (.inl (fun _ => 0)))), (q77, .inr (20, [.int 2, .ref q78, .int 0, .int 0, .ref q80, .ref q82, .ref q84, .ref q86, .ref q88, .ref q90, .ref q91, .ref q93, .ref q94, .ref q105, .ref q106, .ref q124, .ref q131, .int 0, .int 0, .int 0, .int 0, .int 0, .int 0, .int 0, .int 0, .int 0, .ref q132, .ref q133, .ref q134, .ref q135, .ref q136, .ref q137, .ref q138, .ref q139, .ref q140, .int 0]))] := hD
      have hK : va_K (dC, dI) vwCl [(y144, .long)] s := hK
      refine W.widen (k := 456) (n := 2511905) (by decide +kernel) (by decide +kernel) ?_
      refine lv_istore (lv' := [(6, .int 0), (5, .int 2), (4, .int 0), (3, .ref q143), (2, .ref q77), (1, .ref q1), (0, .ref b)]) hx hb dL_law_1038 hl (by decide) rfl (fun ls hl => ?_)
      refine lv_aload_n hx hb dL_law_1040 rfl (lv_at hl 4 rfl) ?_
      have hPc := hP.sub (ws' := [(q77, .inr (20, [.int 2, .ref q78, .int 0, .int 0, .ref q80, .ref q82, .ref q84, .ref q86, .ref q88, .ref q90, .ref q91, .ref q93, .ref q94, .ref q105, .ref q106, .ref q124, .ref q131, .int 0, .int 0, .int 0, .int 0, .int 0, .int 0, .int 0, .int 0, .int 0, .ref q132, .ref q133, .ref q134, .ref q135, .ref q136, .ref q137, .ref q138, .ref q139, .ref q140, .int 0]))]) [1] rfl
      have hDc := hD.sub (ws' := [(q77, .inr (20, [.int 2, .ref q78, .int 0, .int 0, .ref q80, .ref q82, .ref q84, .ref q86, .ref q88, .ref q90, .ref q91, .ref q93, .ref q94, .ref q105, .ref q106, .ref q124, .ref q131, .int 0, .int 0, .int 0, .int 0, .int 0, .int 0, .int 0, .int 0, .int 0, .ref q132, .ref q133, .ref q134, .ref q135, .ref q136, .ref q137, .ref q138, .ref q139, .ref q140, .int 0]))]) [1] (by decide) rfl
      have hKc := hK.sub (tys' := []) [] rfl
      have hFc := va_free (wc := [(q77, .inr (20, [.int 2, .ref q78, .int 0, .int 0, .ref q80, .ref q82, .ref q84, .ref q86, .ref q88, .ref q90, .ref q91, .ref q93, .ref q94, .ref q105, .ref q106, .ref q124, .ref q131, .int 0, .int 0, .int 0, .int 0, .int 0, .int 0, .int 0, .int 0, .int 0, .ref q132, .ref q133, .ref q134, .ref q135, .ref q136, .ref q137, .ref q138, .ref q139, .ref q140, .int 0]))]) hD hS hA [1] rfl
      refine va_calli (va_runV (As := []) (rest := []) ⟨hx, hb, hml, hown, hts⟩ (k_X19_thrown_v2 l hlt dC dI q77 q78 q80 q82 q84 q86 q88 q90 q91 q93 q94 q105 q106 q124 q131 q132 q133 q134 q135 q136 q137 q138 q139 q140  H.size) (cwV 0 hts gl_22 rfl rfl rfl (by decide +kernel) ⟨Nat.le_of_ble_eq_true rfl, Nat.le_of_ble_eq_true rfl⟩) ⟨fun a U g mk q => by obtain ⟨q0, q1, qP, qK, qD, qN⟩ := q; exact ⟨q0, q1, qP, va_K.moved (u := U) (U := U.calling g mk a) (Vm.Alike.refl U.vm) qK, qD, nv_same rfl rfl qN⟩, va_recv hKc hPc (ci := 20) (q0 := 0) rfl rfl, fun U hU hW => ⟨rfl, by rw [hU], by rw [hU]; exact hPc, va_K.moved hW.alike hKc, hDc.weaken (fun _ _ _ _ => trivial), nv_call hS hFc hU hW hN⟩⟩ rfl rfl hl.1 rfl (lv_room (Nat.le_of_ble_eq_true rfl)) dL_law_1041 ⟨by decide +kernel, by decide +kernel⟩) hS (fun q _ h => hFc q h) hFc (fun r508 u t H1 locs ht hvm hw hB hz1 hk1 hS => ?_)
      obtain ⟨hP1, hK1, hD1⟩ := hB
      rw [ht] at hP1
      have hK1 := va_K.moved hvm.symm hK1
      obtain rfl : r508 = 2 := hw
      obtain ⟨hP, hD⟩ := va_join (wr := [(q143, .inl (y144, 1, .inr (.inl (fun _ => 0))))]) (w1 := [(q77, .inr (20, [.int 2, .ref q78, .int 0, .int 0, .ref q80, .ref q82, .ref q84, .ref q86, .ref q88, .ref q90, .ref q91, .ref q93, .ref q94, .ref q105, .ref q106, .ref q124, .ref q131, .int 0, .int 0, .int 0, .int 0, .int 0, .int 0, .int 0, .int 0, .int 0, .ref q132, .ref q133, .ref q134, .ref q135, .ref q136, .ref q137, .ref q138, .ref q139, .ref q140, .int 0]))]) hP hD [1] [0] rfl rfl (by decide) (by decide) hk1 hFc hP1 hD1
      have hK := (hK.sub (tys' := [(y144, .long)]) [0] rfl).app hK1
      generalize H1 = H at hP hS ⊢
      have hP : va_P (dC, dI) vwCl [(q143, .inl (y144, 1, .inr (.inl (fun _ => 0)))), (q77, .inr (20, [.int 2, .ref q78, .int 0, .int 0, .ref q80, .ref q82, .ref q84, .ref q86, .ref q88, .ref q90, .ref q91, .ref q93, .ref q94, .ref q105, .ref q106, .ref q124, .ref q131, .int 0, .int 0, .int 0, .int 0, .int 0, .int 0, .int 0, .int 0, .int 0, .ref q132, .ref q133, .ref q134, .ref q135, .ref q136, .ref q137, .ref q138, .ref q139, .ref q140, .int 0]))] H := hP
      have hD : va_D A [(q143, .inl (y144, 1, .inr (.inl (fun _ => 0)))), (q77, .inr (20, [.int 2, .ref q78, .int 0, .int 0, .ref q80, .ref q82, .ref q84, .ref q86, .ref q88, .ref q90, .ref q91, .ref q93, .ref q94, .ref q105, .ref q106, .ref q124, .ref q131, .int 0, .int 0, .int 0, .int 0, .int 0, .int 0, .int 0, .int 0, .int 0, .ref q132, .ref q133, .ref q134, .ref q135, .ref q136, .ref q137, .ref q138, .ref q139, .ref q140, .int 0]))] := hD
      have hK : va_K (dC, dI) vwCl [(y144, .long)] s := hK
      refine W.widen (k := 456) (n := 2511905) (by decide +kernel) (by decide +kernel) ?_
      refine lv_iload hx hb dL_law_1044 (lv_at hl 1 rfl) ?_
      refine lv_icmp_eq (tgt := 1051) hx hb dL_law_1046 (by decide) (fun _ => ?_) (fun h9 => absurd (by decide) h9)
      refine lv_iload hx hb dL_law_1051 (lv_at hl 1 rfl) ?_
      refine lv_if_ne (tgt := 1068) hx hb dL_law_1053 (by decide) (fun _ => ?_) (fun h9 => absurd h9 (by decide))
      refine lv_goto (tgt := 1493) hx hb dL_law_1068 (by decide) ?_
      refine lv_iinc (v := 6) (lv' := [(4, .int 6), (6, .int 0), (5, .int 2), (3, .ref q143), (2, .ref q77), (1, .ref q1), (0, .ref b)]) hx hb dL_law_1493 hl (k := 2) rfl (by decide) (by decide) rfl (fun ls hl => ?_)
      refine lv_goto (tgt := 23) hx hb dL_law_1496 (by decide) ?_
      refine W.widen (k := 600002) (n := 7302232) (by decide +kernel) (by decide +kernel) ?_
      exact kkE _ _ _ hS (lv_sub hl [0, 6] rfl)
    · exact h9.elim
  · subst h9
    subst h8
    obtain ⟨hP1, hK1, hD1⟩ := hB
    rw [ht] at hP1
    have hK1 := va_K.moved hvm.symm hK1
    obtain ⟨hP, hD⟩ := va_join (wr := [(q77, .inr (20, [.int 0, .ref q78, .int 0, .int 0, .ref q80, .ref q82, .ref q84, .ref q86, .ref q88, .ref q90, .ref q91, .ref q93, .ref q94, .ref q105, .ref q106, .ref q124, .ref q131, .int 0, .int 0, .int 0, .int 0, .int 0, .int 0, .int 0, .int 0, .int 0, .ref q132, .ref q133, .ref q134, .ref q135, .ref q136, .ref q137, .ref q138, .ref q139, .ref q140, .int 0]))]) (w1 := [(q143, .inl (y144, 1, .inr (.inl (fun _ => 0))))]) hP hD [0, 1, 3] [2] rfl rfl (by decide) (by decide) hk1 hFc hP1 hD1
    have hK := (hK.sub (tys' := []) [] rfl).app hK1
    generalize H1 = H at hP hS ⊢
    have hP : va_P (dC, dI) vwCl [(q77, .inr (20, [.int 0, .ref q78, .int 0, .int 0, .ref q80, .ref q82, .ref q84, .ref q86, .ref q88, .ref q90, .ref q91, .ref q93, .ref q94, .ref q105, .ref q106, .ref q124, .ref q131, .int 0, .int 0, .int 0, .int 0, .int 0, .int 0, .int 0, .int 0, .int 0, .ref q132, .ref q133, .ref q134, .ref q135, .ref q136, .ref q137, .ref q138, .ref q139, .ref q140, .int 0])), (q143, .inl (y144, 1, .inr (.inl (fun _ => 0))))] H := hP
    have hD : va_D A [(q77, .inr (20, [.int 0, .ref q78, .int 0, .int 0, .ref q80, .ref q82, .ref q84, .ref q86, .ref q88, .ref q90, .ref q91, .ref q93, .ref q94, .ref q105, .ref q106, .ref q124, .ref q131, .int 0, .int 0, .int 0, .int 0, .int 0, .int 0, .int 0, .int 0, .int 0, .ref q132, .ref q133, .ref q134, .ref q135, .ref q136, .ref q137, .ref q138, .ref q139, .ref q140, .int 0])), (q143, .inl (y144, 1, .inr (.inl (fun _ => 0))))] := hD
    have hK : va_K (dC, dI) vwCl [(y144, .long)] s := hK
    refine W.widen (k := 456) (n := 2511905) (by decide +kernel) (by decide +kernel) ?_
    refine lv_istore (lv' := [(5, .int 1), (4, .int 0), (3, .ref q143), (2, .ref q77), (1, .ref q1), (0, .ref b)]) hx hb dL_law_1026 hl (by decide) rfl (fun ls hl => ?_)
    refine lv_aload_n hx hb dL_law_1028 rfl (lv_at hl 3 rfl) ?_
    refine lv_aload_n hx hb dL_law_1029 rfl (lv_at hl 5 rfl) ?_
    refine lv_iload hx hb dL_law_1030 (lv_at hl 1 rfl) ?_
    refine lv_iconst (v := 1) hx hb dL_law_1032 (by decide) ?_
    refine lv_iadd hx hb dL_law_1033 ?_
    refine lv_topi (fun z509 ez509 => ?_)
    obtain rfl : z509 = 1 := ez509.trans (by decide)
    refine va_sld (i := 1) hx hb hX hbl hbA hS (vp_in_iff.mpr ⟨by decide, by decide⟩) dL_law_1034 ?_
    rw [es1]
    have hPc := hP.sub (ws' := [(q77, .inr (20, [.int 0, .ref q78, .int 0, .int 0, .ref q80, .ref q82, .ref q84, .ref q86, .ref q88, .ref q90, .ref q91, .ref q93, .ref q94, .ref q105, .ref q106, .ref q124, .ref q131, .int 0, .int 0, .int 0, .int 0, .int 0, .int 0, .int 0, .int 0, .int 0, .ref q132, .ref q133, .ref q134, .ref q135, .ref q136, .ref q137, .ref q138, .ref q139, .ref q140, .int 0]))]) [0] rfl
    have hDc := hD.sub (ws' := [(q77, .inr (20, [.int 0, .ref q78, .int 0, .int 0, .ref q80, .ref q82, .ref q84, .ref q86, .ref q88, .ref q90, .ref q91, .ref q93, .ref q94, .ref q105, .ref q106, .ref q124, .ref q131, .int 0, .int 0, .int 0, .int 0, .int 0, .int 0, .int 0, .int 0, .int 0, .ref q132, .ref q133, .ref q134, .ref q135, .ref q136, .ref q137, .ref q138, .ref q139, .ref q140, .int 0]))]) [0] (by decide) rfl
    have hKc := hK.sub (tys' := []) [] rfl
    have hFc := va_free (wc := [(q77, .inr (20, [.int 0, .ref q78, .int 0, .int 0, .ref q80, .ref q82, .ref q84, .ref q86, .ref q88, .ref q90, .ref q91, .ref q93, .ref q94, .ref q105, .ref q106, .ref q124, .ref q131, .int 0, .int 0, .int 0, .int 0, .int 0, .int 0, .int 0, .int 0, .int 0, .ref q132, .ref q133, .ref q134, .ref q135, .ref q136, .ref q137, .ref q138, .ref q139, .ref q140, .int 0]))]) hD hS hA [0] rfl
    refine va_calli (va_runV (As := [.int x1]) (rest := []) ⟨hx, hb, hml, hown, hts⟩ (k_X19_backTo l hlt dC dI q77 x1 q78 q80 q82 q84 q86 q88 q90 q91 q93 q94 q105 q106 q124 q131 q132 q133 q134 q135 q136 q137 q138 q139 q140  H.size) (cwV 1 hts gl_42 rfl rfl rfl (by decide +kernel) ⟨Nat.le_of_ble_eq_true rfl, Nat.le_of_ble_eq_true rfl⟩) ⟨fun a U g mk q => by obtain ⟨q0, q1, qP, qK, qD, qN⟩ := q; exact ⟨q0, q1, qP, va_K.moved (u := U) (U := U.calling g mk a) (Vm.Alike.refl U.vm) qK, qD, nv_same rfl rfl qN⟩, va_recv hKc hPc (ci := 20) (q0 := 0) rfl rfl, fun U hU hW => ⟨rfl, by rw [hU], by rw [hU]; exact hPc, va_K.moved hW.alike hKc, hDc.weaken (fun _ _ _ _ => trivial), nv_call hS hFc hU hW hN⟩⟩ rfl rfl hl.1 rfl (lv_room (Nat.le_of_ble_eq_true rfl)) dL_law_1035 ⟨by decide +kernel, by decide +kernel⟩) hS (fun q _ h => hFc q h) hFc (fun r510 u t H1 locs ht hvm hw hB hz1 hk1 hS => ?_)
    rcases hw with ⟨c_4_0, h9, h8⟩ | ⟨c_4_0, c_4_1, h9, h8⟩ | ⟨c_4_0, c_4_1, h9, h8⟩ | h9
    · exact absurd c_4_0 c_1_0
    · subst h9
      subst h8
      obtain ⟨hP1, hK1, hD1⟩ := hB
      rw [ht] at hP1
      have hK1 := va_K.moved hvm.symm hK1
      obtain ⟨hP, hD⟩ := va_join (wr := [(q143, .inl (y144, 1, .inr (.inl (fun _ => 0))))]) (w1 := [(q77, .inr (20, [.int 1, .ref q78, .int 0, .int 0, .ref q80, .ref q82, .ref q84, .ref q86, .ref q88, .ref q90, .ref q91, .ref q93, .ref q94, .ref q105, .ref q106, .ref q124, .ref q131, .int 0, .int 0, .int 0, .int 0, .int 0, .int 0, .int 0, .int 0, .int 0, .ref q132, .ref q133, .ref q134, .ref q135, .ref q136, .ref q137, .ref q138, .ref q139, .ref q140, .int 0]))]) hP hD [0] [1] rfl rfl (by decide) (by decide) hk1 hFc hP1 hD1
      have hK := (hK.sub (tys' := [(y144, .long)]) [0] rfl).app hK1
      generalize H1 = H at hP hS ⊢
      have hP : va_P (dC, dI) vwCl [(q143, .inl (y144, 1, .inr (.inl (fun _ => 0)))), (q77, .inr (20, [.int 1, .ref q78, .int 0, .int 0, .ref q80, .ref q82, .ref q84, .ref q86, .ref q88, .ref q90, .ref q91, .ref q93, .ref q94, .ref q105, .ref q106, .ref q124, .ref q131, .int 0, .int 0, .int 0, .int 0, .int 0, .int 0, .int 0, .int 0, .int 0, .ref q132, .ref q133, .ref q134, .ref q135, .ref q136, .ref q137, .ref q138, .ref q139, .ref q140, .int 0]))] H := hP
      have hD : va_D A [(q143, .inl (y144, 1, .inr (.inl (fun _ => 0)))), (q77, .inr (20, [.int 1, .ref q78, .int 0, .int 0, .ref q80, .ref q82, .ref q84, .ref q86, .ref q88, .ref q90, .ref q91, .ref q93, .ref q94, .ref q105, .ref q106, .ref q124, .ref q131, .int 0, .int 0, .int 0, .int 0, .int 0, .int 0, .int 0, .int 0, .int 0, .ref q132, .ref q133, .ref q134, .ref q135, .ref q136, .ref q137, .ref q138, .ref q139, .ref q140, .int 0]))] := hD
      have hK : va_K (dC, dI) vwCl [(y144, .long)] s := hK
      refine W.widen (k := 456) (n := 2511905) (by decide +kernel) (by decide +kernel) ?_
      refine lv_istore (lv' := [(6, .int 0), (5, .int 1), (4, .int 0), (3, .ref q143), (2, .ref q77), (1, .ref q1), (0, .ref b)]) hx hb dL_law_1038 hl (by decide) rfl (fun ls hl => ?_)
      refine lv_aload_n hx hb dL_law_1040 rfl (lv_at hl 4 rfl) ?_
      have hPc := hP.sub (ws' := [(q77, .inr (20, [.int 1, .ref q78, .int 0, .int 0, .ref q80, .ref q82, .ref q84, .ref q86, .ref q88, .ref q90, .ref q91, .ref q93, .ref q94, .ref q105, .ref q106, .ref q124, .ref q131, .int 0, .int 0, .int 0, .int 0, .int 0, .int 0, .int 0, .int 0, .int 0, .ref q132, .ref q133, .ref q134, .ref q135, .ref q136, .ref q137, .ref q138, .ref q139, .ref q140, .int 0]))]) [1] rfl
      have hDc := hD.sub (ws' := [(q77, .inr (20, [.int 1, .ref q78, .int 0, .int 0, .ref q80, .ref q82, .ref q84, .ref q86, .ref q88, .ref q90, .ref q91, .ref q93, .ref q94, .ref q105, .ref q106, .ref q124, .ref q131, .int 0, .int 0, .int 0, .int 0, .int 0, .int 0, .int 0, .int 0, .int 0, .ref q132, .ref q133, .ref q134, .ref q135, .ref q136, .ref q137, .ref q138, .ref q139, .ref q140, .int 0]))]) [1] (by decide) rfl
      have hKc := hK.sub (tys' := []) [] rfl
      have hFc := va_free (wc := [(q77, .inr (20, [.int 1, .ref q78, .int 0, .int 0, .ref q80, .ref q82, .ref q84, .ref q86, .ref q88, .ref q90, .ref q91, .ref q93, .ref q94, .ref q105, .ref q106, .ref q124, .ref q131, .int 0, .int 0, .int 0, .int 0, .int 0, .int 0, .int 0, .int 0, .int 0, .ref q132, .ref q133, .ref q134, .ref q135, .ref q136, .ref q137, .ref q138, .ref q139, .ref q140, .int 0]))]) hD hS hA [1] rfl
      refine va_calli (va_runV (As := []) (rest := []) ⟨hx, hb, hml, hown, hts⟩ (k_X19_thrown l hlt dC dI q77 q78 q80 q82 q84 q86 q88 q90 q91 q93 q94 q105 q106 q124 q131 q132 q133 q134 q135 q136 q137 q138 q139 q140  H.size) (cwV 0 hts gl_8 rfl rfl rfl (by decide +kernel) ⟨Nat.le_of_ble_eq_true rfl, Nat.le_of_ble_eq_true rfl⟩) ⟨fun a U g mk q => by obtain ⟨q0, q1, qP, qK, qD, qN⟩ := q; exact ⟨q0, q1, qP, va_K.moved (u := U) (U := U.calling g mk a) (Vm.Alike.refl U.vm) qK, qD, nv_same rfl rfl qN⟩, va_recv hKc hPc (ci := 20) (q0 := 0) rfl rfl, fun U hU hW => ⟨rfl, by rw [hU], by rw [hU]; exact hPc, va_K.moved hW.alike hKc, hDc.weaken (fun _ _ _ _ => trivial), nv_call hS hFc hU hW hN⟩⟩ rfl rfl hl.1 rfl (lv_room (Nat.le_of_ble_eq_true rfl)) dL_law_1041 ⟨by decide +kernel, by decide +kernel⟩) hS (fun q _ h => hFc q h) hFc (fun r511 u t H1 locs ht hvm hw hB hz1 hk1 hS => ?_)
      obtain ⟨hP1, hK1, hD1⟩ := hB
      rw [ht] at hP1
      have hK1 := va_K.moved hvm.symm hK1
      obtain rfl : r511 = 1 := hw
      obtain ⟨hP, hD⟩ := va_join (wr := [(q143, .inl (y144, 1, .inr (.inl (fun _ => 0))))]) (w1 := [(q77, .inr (20, [.int 1, .ref q78, .int 0, .int 0, .ref q80, .ref q82, .ref q84, .ref q86, .ref q88, .ref q90, .ref q91, .ref q93, .ref q94, .ref q105, .ref q106, .ref q124, .ref q131, .int 0, .int 0, .int 0, .int 0, .int 0, .int 0, .int 0, .int 0, .int 0, .ref q132, .ref q133, .ref q134, .ref q135, .ref q136, .ref q137, .ref q138, .ref q139, .ref q140, .int 0]))]) hP hD [1] [0] rfl rfl (by decide) (by decide) hk1 hFc hP1 hD1
      have hK := (hK.sub (tys' := [(y144, .long)]) [0] rfl).app hK1
      generalize H1 = H at hP hS ⊢
      have hP : va_P (dC, dI) vwCl [(q143, .inl (y144, 1, .inr (.inl (fun _ => 0)))), (q77, .inr (20, [.int 1, .ref q78, .int 0, .int 0, .ref q80, .ref q82, .ref q84, .ref q86, .ref q88, .ref q90, .ref q91, .ref q93, .ref q94, .ref q105, .ref q106, .ref q124, .ref q131, .int 0, .int 0, .int 0, .int 0, .int 0, .int 0, .int 0, .int 0, .int 0, .ref q132, .ref q133, .ref q134, .ref q135, .ref q136, .ref q137, .ref q138, .ref q139, .ref q140, .int 0]))] H := hP
      have hD : va_D A [(q143, .inl (y144, 1, .inr (.inl (fun _ => 0)))), (q77, .inr (20, [.int 1, .ref q78, .int 0, .int 0, .ref q80, .ref q82, .ref q84, .ref q86, .ref q88, .ref q90, .ref q91, .ref q93, .ref q94, .ref q105, .ref q106, .ref q124, .ref q131, .int 0, .int 0, .int 0, .int 0, .int 0, .int 0, .int 0, .int 0, .int 0, .ref q132, .ref q133, .ref q134, .ref q135, .ref q136, .ref q137, .ref q138, .ref q139, .ref q140, .int 0]))] := hD
      have hK : va_K (dC, dI) vwCl [(y144, .long)] s := hK
      refine W.widen (k := 456) (n := 2511905) (by decide +kernel) (by decide +kernel) ?_
      refine lv_iload hx hb dL_law_1044 (lv_at hl 1 rfl) ?_
      refine lv_icmp_eq (tgt := 1051) hx hb dL_law_1046 (by decide) (fun _ => ?_) (fun h9 => absurd (by decide) h9)
      refine lv_iload hx hb dL_law_1051 (lv_at hl 1 rfl) ?_
      refine lv_if_ne (tgt := 1068) hx hb dL_law_1053 (by decide) (fun _ => ?_) (fun h9 => absurd h9 (by decide))
      refine lv_goto (tgt := 1493) hx hb dL_law_1068 (by decide) ?_
      refine lv_iinc (v := 6) (lv' := [(4, .int 6), (6, .int 0), (5, .int 1), (3, .ref q143), (2, .ref q77), (1, .ref q1), (0, .ref b)]) hx hb dL_law_1493 hl (k := 2) rfl (by decide) (by decide) rfl (fun ls hl => ?_)
      refine lv_goto (tgt := 23) hx hb dL_law_1496 (by decide) ?_
      refine W.widen (k := 600002) (n := 7302232) (by decide +kernel) (by decide +kernel) ?_
      exact kkE _ _ _ hS (lv_sub hl [0, 6] rfl)
    · exact (cz_6 x1 c_1_0 c_1_1 c_4_1).elim
    · exact h9.elim
  · exact h9.elim
set_option maxHeartbeats 40000000 in
set_option maxRecDepth 100000 in
theorem law_c19 {p : Program} {l : Launch} {e : Env} {s : State} {m : MethodId} {below : List Frame} {meth : Method} {c : Code} {Q : State → Prop} {A : Nat → Prop} {b : Nat} (hlt : l.stackTraces = false) (hx : p.tables.exec = Jvm.exec) (hb : c.code = code) (hml : c.maxLocals = 8) (hown : s.vm.findClass RL = some m.cls) (hts : ∀ w ∈ lw_tbl, w.before #[Value.ref b] s = true) (hN : nv_E A s) (hA : ∀ q : Nat, s.heap.size ≤ q → A q) (hDe : nv_Dc s) (dC : Nat → ClassId) (dI : Nat → Nat → Nat) (q1 : Nat) (q2 : Nat) (q4 : Nat) (q6 : Nat) (q8 : Nat) (q22 : Nat) (q23 : Nat) (q25 : Nat) (q31 : Nat) (q32 : Nat) (q33 : Nat) (q34 : Nat) (q35 : Nat) (q36 : Nat) (q37 : Nat) (q39 : Nat) (q41 : Nat) (q43 : Nat) (q77 : Nat) (q78 : Nat) (q80 : Nat) (q82 : Nat) (q84 : Nat) (q86 : Nat) (q88 : Nat) (q90 : Nat) (q91 : Nat) (q93 : Nat) (q94 : Nat) (q105 : Nat) (q106 : Nat) (q124 : Nat) (q131 : Nat) (q132 : Nat) (q133 : Nat) (q134 : Nat) (q135 : Nat) (q136 : Nat) (q137 : Nat) (q138 : Nat) (q139 : Nat) (q140 : Nat) (q143 : Nat) {xs : Nat → Int32} (hX : va_X b 6 xs s s.heap) (hbl : b < s.heap.size) (hbA : ¬ A b) (x0 : Int32) (es0 : xs (Int32.toNatClampNeg 0) = x0) (x1 : Int32) (es1 : xs (Int32.toNatClampNeg 1) = x1) (x2 : Int32) (es2 : xs (Int32.toNatClampNeg 2) = x2) (x3 : Int32) (es3 : xs (Int32.toNatClampNeg 3) = x3) (x4 : Int32) (es4 : xs (Int32.toNatClampNeg 4) = x4) (x5 : Int32) (es5 : xs (Int32.toNatClampNeg 5) = x5) {H : Heap} {locs : List Loc} {ls : Array Slot} (hK : va_K (dC, dI) vwCl [] s) (hP : va_P (dC, dI) vwCl [(q1, .inr (13, [.ref q2, .int 0, .int 0, .ref q4, .ref q6, .ref q8, .ref q22, .ref q37, .ref q39, .ref q41, .int 0, .ref q43])), (q22, .inr (12, [.ref q23, .ref q25, .ref q31, .ref q32, .ref q33, .ref q34, .int 0, .ref q35, .ref q36, .int 0, .int 0, .int 0, .int 0, .int 0, .int 0, .int 0])), (q77, .inr (20, [.int 0, .ref q78, .int 0, .int 0, .ref q80, .ref q82, .ref q84, .ref q86, .ref q88, .ref q90, .ref q91, .ref q93, .ref q94, .ref q105, .ref q106, .ref q124, .ref q131, .int 0, .int 0, .int 0, .int 0, .int 0, .int 0, .int 0, .int 0, .int 0, .ref q132, .ref q133, .ref q134, .ref q135, .ref q136, .ref q137, .ref q138, .ref q139, .ref q140, .int 0]))] H) (hD : va_D A [(q1, .inr (13, [.ref q2, .int 0, .int 0, .ref q4, .ref q6, .ref q8, .ref q22, .ref q37, .ref q39, .ref q41, .int 0, .ref q43])), (q22, .inr (12, [.ref q23, .ref q25, .ref q31, .ref q32, .ref q33, .ref q34, .int 0, .ref q35, .ref q36, .int 0, .int 0, .int 0, .int 0, .int 0, .int 0, .int 0])), (q77, .inr (20, [.int 0, .ref q78, .int 0, .int 0, .ref q80, .ref q82, .ref q84, .ref q86, .ref q88, .ref q90, .ref q91, .ref q93, .ref q94, .ref q105, .ref q106, .ref q124, .ref q131, .int 0, .int 0, .int 0, .int 0, .int 0, .int 0, .int 0, .int 0, .int 0, .ref q132, .ref q133, .ref q134, .ref q135, .ref q136, .ref q137, .ref q138, .ref q139, .ref q140, .int 0]))]) (hS : va_S A s.heap H locs) (hl : lv_has ls 8 [(4, .int 0), (3, .ref q143), (2, .ref q77), (1, .ref q1), (0, .ref b)]) (kkE : ∀ (H : Heap) (locs : List Loc) (ls : Array Slot), va_S A s.heap H locs → lv_has ls 8 [(4, .int 6), (0, .ref b)] → W p l e room_1 s m #[Value.ref b] below meth c H locs 600002 7302232 Q (F0 m 23 ls [])) : W p l e room_1 s m #[Value.ref b] below meth c H locs 455 2511899 Q (F0 m 1071 ls []) := by
  refine lv_aload_n hx hb dL_law_1071 rfl (lv_at hl 3 rfl) ?_
  refine lv_aload_n hx hb dL_law_1072 rfl (lv_at hl 4 rfl) ?_
  refine lv_iload hx hb dL_law_1073 (lv_at hl 0 rfl) ?_
  refine lv_iconst (v := 1) hx hb dL_law_1075 (by decide) ?_
  refine lv_iadd hx hb dL_law_1076 ?_
  refine lv_topi (fun z501 ez501 => ?_)
  obtain rfl : z501 = 1 := ez501.trans (by decide)
  refine va_sld (i := 1) hx hb hX hbl hbA hS (vp_in_iff.mpr ⟨by decide, by decide⟩) dL_law_1077 ?_
  rw [es1]
  refine lv_aload_n hx hb dL_law_1078 rfl (lv_at hl 4 rfl) ?_
  refine lv_iload hx hb dL_law_1079 (lv_at hl 0 rfl) ?_
  refine lv_iconst (v := 2) hx hb dL_law_1081 (by decide) ?_
  refine lv_iadd hx hb dL_law_1082 ?_
  refine lv_topi (fun z502 ez502 => ?_)
  obtain rfl : z502 = 2 := ez502.trans (by decide)
  refine va_sld (i := 2) hx hb hX hbl hbA hS (vp_in_iff.mpr ⟨by decide, by decide⟩) dL_law_1083 ?_
  rw [es2]
  have hPc := hP.sub (ws' := [(q1, .inr (13, [.ref q2, .int 0, .int 0, .ref q4, .ref q6, .ref q8, .ref q22, .ref q37, .ref q39, .ref q41, .int 0, .ref q43])), (q22, .inr (12, [.ref q23, .ref q25, .ref q31, .ref q32, .ref q33, .ref q34, .int 0, .ref q35, .ref q36, .int 0, .int 0, .int 0, .int 0, .int 0, .int 0, .int 0]))]) [0, 1] rfl
  have hDc := hD.sub (ws' := [(q1, .inr (13, [.ref q2, .int 0, .int 0, .ref q4, .ref q6, .ref q8, .ref q22, .ref q37, .ref q39, .ref q41, .int 0, .ref q43])), (q22, .inr (12, [.ref q23, .ref q25, .ref q31, .ref q32, .ref q33, .ref q34, .int 0, .ref q35, .ref q36, .int 0, .int 0, .int 0, .int 0, .int 0, .int 0, .int 0]))]) [0, 1] (by decide) rfl
  have hKc := hK.sub (tys' := []) [] rfl
  have hFc := va_free (wc := [(q1, .inr (13, [.ref q2, .int 0, .int 0, .ref q4, .ref q6, .ref q8, .ref q22, .ref q37, .ref q39, .ref q41, .int 0, .ref q43])), (q22, .inr (12, [.ref q23, .ref q25, .ref q31, .ref q32, .ref q33, .ref q34, .int 0, .ref q35, .ref q36, .int 0, .int 0, .int 0, .int 0, .int 0, .int 0, .int 0]))]) hD hS hA [0, 1] rfl
  refine va_calli (va_runV (As := [.int x1, .int x2]) (rest := []) ⟨hx, hb, hml, hown, hts⟩ (k_X12_wrote l hlt dC dI q1 q22 x1 x2 q2 q4 q6 q8 q37 q39 q41 q43 q23 q25 q31 q32 q33 q34 q35 q36  H.size) (cwV 2 hts gl_43 rfl rfl rfl (by decide +kernel) ⟨Nat.le_of_ble_eq_true rfl, Nat.le_of_ble_eq_true rfl⟩) ⟨fun a U g mk q => by obtain ⟨q0, q1, qP, qK, qD, qN⟩ := q; exact ⟨q0, q1, qP, va_K.moved (u := U) (U := U.calling g mk a) (Vm.Alike.refl U.vm) qK, qD, nv_same rfl rfl qN⟩, va_recv hKc hPc (ci := 13) (q0 := 0) rfl rfl, fun U hU hW => ⟨rfl, by rw [hU], by rw [hU]; exact hPc, va_K.moved hW.alike hKc, hDc.weaken (fun _ _ _ _ => trivial), nv_call hS hFc hU hW hN⟩⟩ rfl rfl hl.1 rfl (lv_room (Nat.le_of_ble_eq_true rfl)) dL_law_1084 ⟨by decide +kernel, by decide +kernel⟩) hS (fun q _ h => hFc q h) hFc (fun r503 u t H1 locs ht hvm hw hB hz1 hk1 hS => ?_)
  obtain ⟨hP1, hK1, hD1⟩ := hB
  rw [ht] at hP1
  have hK1 := va_K.moved hvm.symm hK1
  obtain rfl : r503 = (-1) := hw
  obtain ⟨hP, hD⟩ := va_join (wr := [(q77, .inr (20, [.int 0, .ref q78, .int 0, .int 0, .ref q80, .ref q82, .ref q84, .ref q86, .ref q88, .ref q90, .ref q91, .ref q93, .ref q94, .ref q105, .ref q106, .ref q124, .ref q131, .int 0, .int 0, .int 0, .int 0, .int 0, .int 0, .int 0, .int 0, .int 0, .ref q132, .ref q133, .ref q134, .ref q135, .ref q136, .ref q137, .ref q138, .ref q139, .ref q140, .int 0]))]) (w1 := [(q1, .inr (13, [.ref q2, .int 0, .int 0, .ref q4, .ref q6, .ref q8, .ref q22, .ref q37, .ref q39, .ref q41, .int 0, .ref q43])), (q22, .inr (12, [.ref q23, .ref q25, .ref q31, .ref q32, .ref q33, .ref q34, .int 0, .ref q35, .ref q36, .int 0, .int 0, .int 0, .int 0, .int 0, .int 0, .int 0]))]) hP hD [0, 1] [2] rfl rfl (by decide) (by decide) hk1 hFc hP1 hD1
  have hK := (hK.sub (tys' := []) [] rfl).app hK1
  generalize H1 = H at hP hS ⊢
  have hP : va_P (dC, dI) vwCl [(q77, .inr (20, [.int 0, .ref q78, .int 0, .int 0, .ref q80, .ref q82, .ref q84, .ref q86, .ref q88, .ref q90, .ref q91, .ref q93, .ref q94, .ref q105, .ref q106, .ref q124, .ref q131, .int 0, .int 0, .int 0, .int 0, .int 0, .int 0, .int 0, .int 0, .int 0, .ref q132, .ref q133, .ref q134, .ref q135, .ref q136, .ref q137, .ref q138, .ref q139, .ref q140, .int 0])), (q1, .inr (13, [.ref q2, .int 0, .int 0, .ref q4, .ref q6, .ref q8, .ref q22, .ref q37, .ref q39, .ref q41, .int 0, .ref q43])), (q22, .inr (12, [.ref q23, .ref q25, .ref q31, .ref q32, .ref q33, .ref q34, .int 0, .ref q35, .ref q36, .int 0, .int 0, .int 0, .int 0, .int 0, .int 0, .int 0]))] H := hP
  have hD : va_D A [(q77, .inr (20, [.int 0, .ref q78, .int 0, .int 0, .ref q80, .ref q82, .ref q84, .ref q86, .ref q88, .ref q90, .ref q91, .ref q93, .ref q94, .ref q105, .ref q106, .ref q124, .ref q131, .int 0, .int 0, .int 0, .int 0, .int 0, .int 0, .int 0, .int 0, .int 0, .ref q132, .ref q133, .ref q134, .ref q135, .ref q136, .ref q137, .ref q138, .ref q139, .ref q140, .int 0])), (q1, .inr (13, [.ref q2, .int 0, .int 0, .ref q4, .ref q6, .ref q8, .ref q22, .ref q37, .ref q39, .ref q41, .int 0, .ref q43])), (q22, .inr (12, [.ref q23, .ref q25, .ref q31, .ref q32, .ref q33, .ref q34, .int 0, .ref q35, .ref q36, .int 0, .int 0, .int 0, .int 0, .int 0, .int 0, .int 0]))] := hD
  have hK : va_K (dC, dI) vwCl [] s := hK
  refine W.widen (k := 455) (n := 2511899) (by decide +kernel) (by decide +kernel) ?_
  refine lv_aload_n hx hb dL_law_1087 rfl (lv_at hl 2 rfl) ?_
  refine lv_aload_n hx hb dL_law_1088 rfl (lv_at hl 4 rfl) ?_
  refine lv_iload hx hb dL_law_1089 (lv_at hl 0 rfl) ?_
  refine lv_iconst (v := 1) hx hb dL_law_1091 (by decide) ?_
  refine lv_iadd hx hb dL_law_1092 ?_
  refine lv_topi (fun z504 ez504 => ?_)
  obtain rfl : z504 = 1 := ez504.trans (by decide)
  refine va_sld (i := 1) hx hb hX hbl hbA hS (vp_in_iff.mpr ⟨by decide, by decide⟩) dL_law_1093 ?_
  rw [es1]
  refine lv_aload_n hx hb dL_law_1094 rfl (lv_at hl 4 rfl) ?_
  refine lv_iload hx hb dL_law_1095 (lv_at hl 0 rfl) ?_
  refine lv_iconst (v := 2) hx hb dL_law_1097 (by decide) ?_
  refine lv_iadd hx hb dL_law_1098 ?_
  refine lv_topi (fun z505 ez505 => ?_)
  obtain rfl : z505 = 2 := ez505.trans (by decide)
  refine va_sld (i := 2) hx hb hX hbl hbA hS (vp_in_iff.mpr ⟨by decide, by decide⟩) dL_law_1099 ?_
  rw [es2]
  have hPc := hP.sub (ws' := [(q77, .inr (20, [.int 0, .ref q78, .int 0, .int 0, .ref q80, .ref q82, .ref q84, .ref q86, .ref q88, .ref q90, .ref q91, .ref q93, .ref q94, .ref q105, .ref q106, .ref q124, .ref q131, .int 0, .int 0, .int 0, .int 0, .int 0, .int 0, .int 0, .int 0, .int 0, .ref q132, .ref q133, .ref q134, .ref q135, .ref q136, .ref q137, .ref q138, .ref q139, .ref q140, .int 0]))]) [0] rfl
  have hDc := hD.sub (ws' := [(q77, .inr (20, [.int 0, .ref q78, .int 0, .int 0, .ref q80, .ref q82, .ref q84, .ref q86, .ref q88, .ref q90, .ref q91, .ref q93, .ref q94, .ref q105, .ref q106, .ref q124, .ref q131, .int 0, .int 0, .int 0, .int 0, .int 0, .int 0, .int 0, .int 0, .int 0, .ref q132, .ref q133, .ref q134, .ref q135, .ref q136, .ref q137, .ref q138, .ref q139, .ref q140, .int 0]))]) [0] (by decide) rfl
  have hKc := hK.sub (tys' := []) [] rfl
  have hFc := va_free (wc := [(q77, .inr (20, [.int 0, .ref q78, .int 0, .int 0, .ref q80, .ref q82, .ref q84, .ref q86, .ref q88, .ref q90, .ref q91, .ref q93, .ref q94, .ref q105, .ref q106, .ref q124, .ref q131, .int 0, .int 0, .int 0, .int 0, .int 0, .int 0, .int 0, .int 0, .int 0, .ref q132, .ref q133, .ref q134, .ref q135, .ref q136, .ref q137, .ref q138, .ref q139, .ref q140, .int 0]))]) hD hS hA [0] rfl
  refine va_calli (va_runV (As := [.int x1, .int x2]) (rest := [.int (-1)]) ⟨hx, hb, hml, hown, hts⟩ (k_X19_wrote l hlt dC dI q77 x1 x2 q78 q80 q82 q84 q86 q88 q90 q91 q93 q94 q105 q106 q124 q131 q132 q133 q134 q135 q136 q137 q138 q139 q140  H.size) (cwV 2 hts gl_44 rfl rfl rfl (by decide +kernel) ⟨Nat.le_of_ble_eq_true rfl, Nat.le_of_ble_eq_true rfl⟩) ⟨fun a U g mk q => by obtain ⟨q0, q1, qP, qK, qD, qN⟩ := q; exact ⟨q0, q1, qP, va_K.moved (u := U) (U := U.calling g mk a) (Vm.Alike.refl U.vm) qK, qD, nv_same rfl rfl qN⟩, va_recv hKc hPc (ci := 20) (q0 := 0) rfl rfl, fun U hU hW => ⟨rfl, by rw [hU], by rw [hU]; exact hPc, va_K.moved hW.alike hKc, hDc.weaken (fun _ _ _ _ => trivial), nv_call hS hFc hU hW hN⟩⟩ rfl rfl hl.1 rfl (lv_room (Nat.le_of_ble_eq_true rfl)) dL_law_1100 ⟨by decide +kernel, by decide +kernel⟩) hS (fun q _ h => hFc q h) hFc (fun r506 u t H1 locs ht hvm hw hB hz1 hk1 hS => ?_)
  obtain ⟨hP1, hK1, hD1⟩ := hB
  rw [ht] at hP1
  have hK1 := va_K.moved hvm.symm hK1
  obtain rfl : r506 = (-1) := hw
  obtain ⟨hP, hD⟩ := va_join (wr := [(q1, .inr (13, [.ref q2, .int 0, .int 0, .ref q4, .ref q6, .ref q8, .ref q22, .ref q37, .ref q39, .ref q41, .int 0, .ref q43])), (q22, .inr (12, [.ref q23, .ref q25, .ref q31, .ref q32, .ref q33, .ref q34, .int 0, .ref q35, .ref q36, .int 0, .int 0, .int 0, .int 0, .int 0, .int 0, .int 0]))]) (w1 := [(q77, .inr (20, [.int 0, .ref q78, .int 0, .int 0, .ref q80, .ref q82, .ref q84, .ref q86, .ref q88, .ref q90, .ref q91, .ref q93, .ref q94, .ref q105, .ref q106, .ref q124, .ref q131, .int 0, .int 0, .int 0, .int 0, .int 0, .int 0, .int 0, .int 0, .int 0, .ref q132, .ref q133, .ref q134, .ref q135, .ref q136, .ref q137, .ref q138, .ref q139, .ref q140, .int 0]))]) hP hD [0] [1, 2] rfl rfl (by decide) (by decide) hk1 hFc hP1 hD1
  have hK := (hK.sub (tys' := []) [] rfl).app hK1
  generalize H1 = H at hP hS ⊢
  have hP : va_P (dC, dI) vwCl [(q1, .inr (13, [.ref q2, .int 0, .int 0, .ref q4, .ref q6, .ref q8, .ref q22, .ref q37, .ref q39, .ref q41, .int 0, .ref q43])), (q22, .inr (12, [.ref q23, .ref q25, .ref q31, .ref q32, .ref q33, .ref q34, .int 0, .ref q35, .ref q36, .int 0, .int 0, .int 0, .int 0, .int 0, .int 0, .int 0])), (q77, .inr (20, [.int 0, .ref q78, .int 0, .int 0, .ref q80, .ref q82, .ref q84, .ref q86, .ref q88, .ref q90, .ref q91, .ref q93, .ref q94, .ref q105, .ref q106, .ref q124, .ref q131, .int 0, .int 0, .int 0, .int 0, .int 0, .int 0, .int 0, .int 0, .int 0, .ref q132, .ref q133, .ref q134, .ref q135, .ref q136, .ref q137, .ref q138, .ref q139, .ref q140, .int 0]))] H := hP
  have hD : va_D A [(q1, .inr (13, [.ref q2, .int 0, .int 0, .ref q4, .ref q6, .ref q8, .ref q22, .ref q37, .ref q39, .ref q41, .int 0, .ref q43])), (q22, .inr (12, [.ref q23, .ref q25, .ref q31, .ref q32, .ref q33, .ref q34, .int 0, .ref q35, .ref q36, .int 0, .int 0, .int 0, .int 0, .int 0, .int 0, .int 0])), (q77, .inr (20, [.int 0, .ref q78, .int 0, .int 0, .ref q80, .ref q82, .ref q84, .ref q86, .ref q88, .ref q90, .ref q91, .ref q93, .ref q94, .ref q105, .ref q106, .ref q124, .ref q131, .int 0, .int 0, .int 0, .int 0, .int 0, .int 0, .int 0, .int 0, .int 0, .ref q132, .ref q133, .ref q134, .ref q135, .ref q136, .ref q137, .ref q138, .ref q139, .ref q140, .int 0]))] := hD
  have hK : va_K (dC, dI) vwCl [] s := hK
  refine W.widen (k := 455) (n := 2511899) (by decide +kernel) (by decide +kernel) ?_
  refine lv_icmp_eq (tgt := 1493) hx hb dL_law_1103 (by decide) (fun _ => ?_) (fun h9 => absurd (by decide) h9)
  refine lv_iinc (v := 6) (lv' := [(4, .int 6), (3, .ref q143), (2, .ref q77), (1, .ref q1), (0, .ref b)]) hx hb dL_law_1493 hl (k := 0) rfl (by decide) (by decide) rfl (fun ls hl => ?_)
  refine lv_goto (tgt := 23) hx hb dL_law_1496 (by decide) ?_
  refine W.widen (k := 600002) (n := 7302232) (by decide +kernel) (by decide +kernel) ?_
  exact kkE _ _ _ hS (lv_sub hl [0, 4] rfl)
set_option maxHeartbeats 40000000 in
set_option maxRecDepth 100000 in
theorem law_c20 {p : Program} {l : Launch} {e : Env} {s : State} {m : MethodId} {below : List Frame} {meth : Method} {c : Code} {Q : State → Prop} {A : Nat → Prop} {b : Nat} (hlt : l.stackTraces = false) (hx : p.tables.exec = Jvm.exec) (hb : c.code = code) (hml : c.maxLocals = 8) (hown : s.vm.findClass RL = some m.cls) (hts : ∀ w ∈ lw_tbl, w.before #[Value.ref b] s = true) (hN : nv_E A s) (hA : ∀ q : Nat, s.heap.size ≤ q → A q) (hDe : nv_Dc s) (dC : Nat → ClassId) (dI : Nat → Nat → Nat) (q1 : Nat) (q2 : Nat) (q4 : Nat) (q6 : Nat) (q8 : Nat) (q22 : Nat) (q23 : Nat) (q25 : Nat) (q31 : Nat) (q32 : Nat) (q33 : Nat) (q34 : Nat) (q35 : Nat) (q36 : Nat) (q37 : Nat) (q39 : Nat) (q41 : Nat) (q43 : Nat) (q77 : Nat) (q78 : Nat) (q80 : Nat) (q82 : Nat) (q84 : Nat) (q86 : Nat) (q88 : Nat) (q90 : Nat) (q91 : Nat) (q93 : Nat) (q94 : Nat) (q105 : Nat) (q106 : Nat) (q124 : Nat) (q131 : Nat) (q132 : Nat) (q133 : Nat) (q134 : Nat) (q135 : Nat) (q136 : Nat) (q137 : Nat) (q138 : Nat) (q139 : Nat) (q140 : Nat) (q143 : Nat) {xs : Nat → Int32} (hX : va_X b 6 xs s s.heap) (hbl : b < s.heap.size) (hbA : ¬ A b) (x0 : Int32) (es0 : xs (Int32.toNatClampNeg 0) = x0) (x1 : Int32) (es1 : xs (Int32.toNatClampNeg 1) = x1) (x2 : Int32) (es2 : xs (Int32.toNatClampNeg 2) = x2) (x3 : Int32) (es3 : xs (Int32.toNatClampNeg 3) = x3) (x4 : Int32) (es4 : xs (Int32.toNatClampNeg 4) = x4) (x5 : Int32) (es5 : xs (Int32.toNatClampNeg 5) = x5) {H : Heap} {locs : List Loc} {ls : Array Slot} (hK : va_K (dC, dI) vwCl [] s) (hP : va_P (dC, dI) vwCl [(q1, .inr (13, [.ref q2, .int 0, .int 0, .ref q4, .ref q6, .ref q8, .ref q22, .ref q37, .ref q39, .ref q41, .int 0, .ref q43])), (q22, .inr (12, [.ref q23, .ref q25, .ref q31, .ref q32, .ref q33, .ref q34, .int 0, .ref q35, .ref q36, .int 0, .int 0, .int 0, .int 0, .int 0, .int 0, .int 0])), (q77, .inr (20, [.int 0, .ref q78, .int 0, .int 0, .ref q80, .ref q82, .ref q84, .ref q86, .ref q88, .ref q90, .ref q91, .ref q93, .ref q94, .ref q105, .ref q106, .ref q124, .ref q131, .int 0, .int 0, .int 0, .int 0, .int 0, .int 0, .int 0, .int 0, .int 0, .ref q132, .ref q133, .ref q134, .ref q135, .ref q136, .ref q137, .ref q138, .ref q139, .ref q140, .int 0]))] H) (hD : va_D A [(q1, .inr (13, [.ref q2, .int 0, .int 0, .ref q4, .ref q6, .ref q8, .ref q22, .ref q37, .ref q39, .ref q41, .int 0, .ref q43])), (q22, .inr (12, [.ref q23, .ref q25, .ref q31, .ref q32, .ref q33, .ref q34, .int 0, .ref q35, .ref q36, .int 0, .int 0, .int 0, .int 0, .int 0, .int 0, .int 0])), (q77, .inr (20, [.int 0, .ref q78, .int 0, .int 0, .ref q80, .ref q82, .ref q84, .ref q86, .ref q88, .ref q90, .ref q91, .ref q93, .ref q94, .ref q105, .ref q106, .ref q124, .ref q131, .int 0, .int 0, .int 0, .int 0, .int 0, .int 0, .int 0, .int 0, .int 0, .ref q132, .ref q133, .ref q134, .ref q135, .ref q136, .ref q137, .ref q138, .ref q139, .ref q140, .int 0]))]) (hS : va_S A s.heap H locs) (hl : lv_has ls 8 [(4, .int 0), (3, .ref q143), (2, .ref q77), (1, .ref q1), (0, .ref b)]) (kkE : ∀ (H : Heap) (locs : List Loc) (ls : Array Slot), va_S A s.heap H locs → lv_has ls 8 [(4, .int 6), (0, .ref b)] → W p l e room_1 s m #[Value.ref b] below meth c H locs 600002 7302232 Q (F0 m 23 ls [])) : W p l e room_1 s m #[Value.ref b] below meth c H locs 455 2511899 Q (F0 m 1108 ls []) := by
  refine lv_aload_n hx hb dL_law_1108 rfl (lv_at hl 3 rfl) ?_
  refine lv_aload_n hx hb dL_law_1109 rfl (lv_at hl 4 rfl) ?_
  refine lv_iload hx hb dL_law_1110 (lv_at hl 0 rfl) ?_
  refine lv_iconst (v := 1) hx hb dL_law_1112 (by decide) ?_
  refine lv_iadd hx hb dL_law_1113 ?_
  refine lv_topi (fun z501 ez501 => ?_)
  obtain rfl : z501 = 1 := ez501.trans (by decide)
  refine va_sld (i := 1) hx hb hX hbl hbA hS (vp_in_iff.mpr ⟨by decide, by decide⟩) dL_law_1114 ?_
  rw [es1]
  refine lv_aload_n hx hb dL_law_1115 rfl (lv_at hl 4 rfl) ?_
  refine lv_iload hx hb dL_law_1116 (lv_at hl 0 rfl) ?_
  refine lv_iconst (v := 2) hx hb dL_law_1118 (by decide) ?_
  refine lv_iadd hx hb dL_law_1119 ?_
  refine lv_topi (fun z502 ez502 => ?_)
  obtain rfl : z502 = 2 := ez502.trans (by decide)
  refine va_sld (i := 2) hx hb hX hbl hbA hS (vp_in_iff.mpr ⟨by decide, by decide⟩) dL_law_1120 ?_
  rw [es2]
  have hPc := hP.sub (ws' := [(q1, .inr (13, [.ref q2, .int 0, .int 0, .ref q4, .ref q6, .ref q8, .ref q22, .ref q37, .ref q39, .ref q41, .int 0, .ref q43])), (q22, .inr (12, [.ref q23, .ref q25, .ref q31, .ref q32, .ref q33, .ref q34, .int 0, .ref q35, .ref q36, .int 0, .int 0, .int 0, .int 0, .int 0, .int 0, .int 0]))]) [0, 1] rfl
  have hDc := hD.sub (ws' := [(q1, .inr (13, [.ref q2, .int 0, .int 0, .ref q4, .ref q6, .ref q8, .ref q22, .ref q37, .ref q39, .ref q41, .int 0, .ref q43])), (q22, .inr (12, [.ref q23, .ref q25, .ref q31, .ref q32, .ref q33, .ref q34, .int 0, .ref q35, .ref q36, .int 0, .int 0, .int 0, .int 0, .int 0, .int 0, .int 0]))]) [0, 1] (by decide) rfl
  have hKc := hK.sub (tys' := []) [] rfl
  have hFc := va_free (wc := [(q1, .inr (13, [.ref q2, .int 0, .int 0, .ref q4, .ref q6, .ref q8, .ref q22, .ref q37, .ref q39, .ref q41, .int 0, .ref q43])), (q22, .inr (12, [.ref q23, .ref q25, .ref q31, .ref q32, .ref q33, .ref q34, .int 0, .ref q35, .ref q36, .int 0, .int 0, .int 0, .int 0, .int 0, .int 0, .int 0]))]) hD hS hA [0, 1] rfl
  refine va_calli (va_runV (As := [.int x1, .int x2]) (rest := []) ⟨hx, hb, hml, hown, hts⟩ (k_X12_register l hlt dC dI q1 q22 x1 x2 q2 q4 q6 q8 q37 q39 q41 q43 q23 q25 q31 q32 q33 q34 q35 q36  H.size) (cwV 2 hts gl_45 rfl rfl rfl (by decide +kernel) ⟨Nat.le_of_ble_eq_true rfl, Nat.le_of_ble_eq_true rfl⟩) ⟨fun a U g mk q => by obtain ⟨q0, q1, qP, qK, qD, qN⟩ := q; exact ⟨q0, q1, qP, va_K.moved (u := U) (U := U.calling g mk a) (Vm.Alike.refl U.vm) qK, qD, nv_same rfl rfl qN⟩, va_recv hKc hPc (ci := 13) (q0 := 0) rfl rfl, fun U hU hW => ⟨rfl, by rw [hU], by rw [hU]; exact hPc, va_K.moved hW.alike hKc, hDc.weaken (fun _ _ _ _ => trivial), nv_call hS hFc hU hW hN⟩⟩ rfl rfl hl.1 rfl (lv_room (Nat.le_of_ble_eq_true rfl)) dL_law_1121 ⟨by decide +kernel, by decide +kernel⟩) hS (fun q _ h => hFc q h) hFc (fun r503 u t H1 locs ht hvm hw hB hz1 hk1 hS => ?_)
  obtain ⟨hP1, hK1, hD1⟩ := hB
  rw [ht] at hP1
  have hK1 := va_K.moved hvm.symm hK1
  obtain rfl : r503 = 0 := hw
  obtain ⟨hP, hD⟩ := va_join (wr := [(q77, .inr (20, [.int 0, .ref q78, .int 0, .int 0, .ref q80, .ref q82, .ref q84, .ref q86, .ref q88, .ref q90, .ref q91, .ref q93, .ref q94, .ref q105, .ref q106, .ref q124, .ref q131, .int 0, .int 0, .int 0, .int 0, .int 0, .int 0, .int 0, .int 0, .int 0, .ref q132, .ref q133, .ref q134, .ref q135, .ref q136, .ref q137, .ref q138, .ref q139, .ref q140, .int 0]))]) (w1 := [(q1, .inr (13, [.ref q2, .int 0, .int 0, .ref q4, .ref q6, .ref q8, .ref q22, .ref q37, .ref q39, .ref q41, .int 0, .ref q43])), (q22, .inr (12, [.ref q23, .ref q25, .ref q31, .ref q32, .ref q33, .ref q34, .int 0, .ref q35, .ref q36, .int 0, .int 0, .int 0, .int 0, .int 0, .int 0, .int 0]))]) hP hD [0, 1] [2] rfl rfl (by decide) (by decide) hk1 hFc hP1 hD1
  have hK := (hK.sub (tys' := []) [] rfl).app hK1
  generalize H1 = H at hP hS ⊢
  have hP : va_P (dC, dI) vwCl [(q77, .inr (20, [.int 0, .ref q78, .int 0, .int 0, .ref q80, .ref q82, .ref q84, .ref q86, .ref q88, .ref q90, .ref q91, .ref q93, .ref q94, .ref q105, .ref q106, .ref q124, .ref q131, .int 0, .int 0, .int 0, .int 0, .int 0, .int 0, .int 0, .int 0, .int 0, .ref q132, .ref q133, .ref q134, .ref q135, .ref q136, .ref q137, .ref q138, .ref q139, .ref q140, .int 0])), (q1, .inr (13, [.ref q2, .int 0, .int 0, .ref q4, .ref q6, .ref q8, .ref q22, .ref q37, .ref q39, .ref q41, .int 0, .ref q43])), (q22, .inr (12, [.ref q23, .ref q25, .ref q31, .ref q32, .ref q33, .ref q34, .int 0, .ref q35, .ref q36, .int 0, .int 0, .int 0, .int 0, .int 0, .int 0, .int 0]))] H := hP
  have hD : va_D A [(q77, .inr (20, [.int 0, .ref q78, .int 0, .int 0, .ref q80, .ref q82, .ref q84, .ref q86, .ref q88, .ref q90, .ref q91, .ref q93, .ref q94, .ref q105, .ref q106, .ref q124, .ref q131, .int 0, .int 0, .int 0, .int 0, .int 0, .int 0, .int 0, .int 0, .int 0, .ref q132, .ref q133, .ref q134, .ref q135, .ref q136, .ref q137, .ref q138, .ref q139, .ref q140, .int 0])), (q1, .inr (13, [.ref q2, .int 0, .int 0, .ref q4, .ref q6, .ref q8, .ref q22, .ref q37, .ref q39, .ref q41, .int 0, .ref q43])), (q22, .inr (12, [.ref q23, .ref q25, .ref q31, .ref q32, .ref q33, .ref q34, .int 0, .ref q35, .ref q36, .int 0, .int 0, .int 0, .int 0, .int 0, .int 0, .int 0]))] := hD
  have hK : va_K (dC, dI) vwCl [] s := hK
  refine W.widen (k := 455) (n := 2511899) (by decide +kernel) (by decide +kernel) ?_
  refine lv_aload_n hx hb dL_law_1124 rfl (lv_at hl 2 rfl) ?_
  refine lv_aload_n hx hb dL_law_1125 rfl (lv_at hl 4 rfl) ?_
  refine lv_iload hx hb dL_law_1126 (lv_at hl 0 rfl) ?_
  refine lv_iconst (v := 1) hx hb dL_law_1128 (by decide) ?_
  refine lv_iadd hx hb dL_law_1129 ?_
  refine lv_topi (fun z504 ez504 => ?_)
  obtain rfl : z504 = 1 := ez504.trans (by decide)
  refine va_sld (i := 1) hx hb hX hbl hbA hS (vp_in_iff.mpr ⟨by decide, by decide⟩) dL_law_1130 ?_
  rw [es1]
  refine lv_aload_n hx hb dL_law_1131 rfl (lv_at hl 4 rfl) ?_
  refine lv_iload hx hb dL_law_1132 (lv_at hl 0 rfl) ?_
  refine lv_iconst (v := 2) hx hb dL_law_1134 (by decide) ?_
  refine lv_iadd hx hb dL_law_1135 ?_
  refine lv_topi (fun z505 ez505 => ?_)
  obtain rfl : z505 = 2 := ez505.trans (by decide)
  refine va_sld (i := 2) hx hb hX hbl hbA hS (vp_in_iff.mpr ⟨by decide, by decide⟩) dL_law_1136 ?_
  rw [es2]
  have hPc := hP.sub (ws' := [(q77, .inr (20, [.int 0, .ref q78, .int 0, .int 0, .ref q80, .ref q82, .ref q84, .ref q86, .ref q88, .ref q90, .ref q91, .ref q93, .ref q94, .ref q105, .ref q106, .ref q124, .ref q131, .int 0, .int 0, .int 0, .int 0, .int 0, .int 0, .int 0, .int 0, .int 0, .ref q132, .ref q133, .ref q134, .ref q135, .ref q136, .ref q137, .ref q138, .ref q139, .ref q140, .int 0]))]) [0] rfl
  have hDc := hD.sub (ws' := [(q77, .inr (20, [.int 0, .ref q78, .int 0, .int 0, .ref q80, .ref q82, .ref q84, .ref q86, .ref q88, .ref q90, .ref q91, .ref q93, .ref q94, .ref q105, .ref q106, .ref q124, .ref q131, .int 0, .int 0, .int 0, .int 0, .int 0, .int 0, .int 0, .int 0, .int 0, .ref q132, .ref q133, .ref q134, .ref q135, .ref q136, .ref q137, .ref q138, .ref q139, .ref q140, .int 0]))]) [0] (by decide) rfl
  have hKc := hK.sub (tys' := []) [] rfl
  have hFc := va_free (wc := [(q77, .inr (20, [.int 0, .ref q78, .int 0, .int 0, .ref q80, .ref q82, .ref q84, .ref q86, .ref q88, .ref q90, .ref q91, .ref q93, .ref q94, .ref q105, .ref q106, .ref q124, .ref q131, .int 0, .int 0, .int 0, .int 0, .int 0, .int 0, .int 0, .int 0, .int 0, .ref q132, .ref q133, .ref q134, .ref q135, .ref q136, .ref q137, .ref q138, .ref q139, .ref q140, .int 0]))]) hD hS hA [0] rfl
  refine va_calli (va_runV (As := [.int x1, .int x2]) (rest := [.int 0]) ⟨hx, hb, hml, hown, hts⟩ (k_X19_register l hlt dC dI q77 x1 x2 q78 q80 q82 q84 q86 q88 q90 q91 q93 q94 q105 q106 q124 q131 q132 q133 q134 q135 q136 q137 q138 q139 q140  H.size) (cwV 2 hts gl_46 rfl rfl rfl (by decide +kernel) ⟨Nat.le_of_ble_eq_true rfl, Nat.le_of_ble_eq_true rfl⟩) ⟨fun a U g mk q => by obtain ⟨q0, q1, qP, qK, qD, qN⟩ := q; exact ⟨q0, q1, qP, va_K.moved (u := U) (U := U.calling g mk a) (Vm.Alike.refl U.vm) qK, qD, nv_same rfl rfl qN⟩, va_recv hKc hPc (ci := 20) (q0 := 0) rfl rfl, fun U hU hW => ⟨rfl, by rw [hU], by rw [hU]; exact hPc, va_K.moved hW.alike hKc, hDc.weaken (fun _ _ _ _ => trivial), nv_call hS hFc hU hW hN⟩⟩ rfl rfl hl.1 rfl (lv_room (Nat.le_of_ble_eq_true rfl)) dL_law_1137 ⟨by decide +kernel, by decide +kernel⟩) hS (fun q _ h => hFc q h) hFc (fun r506 u t H1 locs ht hvm hw hB hz1 hk1 hS => ?_)
  obtain ⟨hP1, hK1, hD1⟩ := hB
  rw [ht] at hP1
  have hK1 := va_K.moved hvm.symm hK1
  obtain rfl : r506 = 0 := hw
  obtain ⟨hP, hD⟩ := va_join (wr := [(q1, .inr (13, [.ref q2, .int 0, .int 0, .ref q4, .ref q6, .ref q8, .ref q22, .ref q37, .ref q39, .ref q41, .int 0, .ref q43])), (q22, .inr (12, [.ref q23, .ref q25, .ref q31, .ref q32, .ref q33, .ref q34, .int 0, .ref q35, .ref q36, .int 0, .int 0, .int 0, .int 0, .int 0, .int 0, .int 0]))]) (w1 := [(q77, .inr (20, [.int 0, .ref q78, .int 0, .int 0, .ref q80, .ref q82, .ref q84, .ref q86, .ref q88, .ref q90, .ref q91, .ref q93, .ref q94, .ref q105, .ref q106, .ref q124, .ref q131, .int 0, .int 0, .int 0, .int 0, .int 0, .int 0, .int 0, .int 0, .int 0, .ref q132, .ref q133, .ref q134, .ref q135, .ref q136, .ref q137, .ref q138, .ref q139, .ref q140, .int 0]))]) hP hD [0] [1, 2] rfl rfl (by decide) (by decide) hk1 hFc hP1 hD1
  have hK := (hK.sub (tys' := []) [] rfl).app hK1
  generalize H1 = H at hP hS ⊢
  have hP : va_P (dC, dI) vwCl [(q1, .inr (13, [.ref q2, .int 0, .int 0, .ref q4, .ref q6, .ref q8, .ref q22, .ref q37, .ref q39, .ref q41, .int 0, .ref q43])), (q22, .inr (12, [.ref q23, .ref q25, .ref q31, .ref q32, .ref q33, .ref q34, .int 0, .ref q35, .ref q36, .int 0, .int 0, .int 0, .int 0, .int 0, .int 0, .int 0])), (q77, .inr (20, [.int 0, .ref q78, .int 0, .int 0, .ref q80, .ref q82, .ref q84, .ref q86, .ref q88, .ref q90, .ref q91, .ref q93, .ref q94, .ref q105, .ref q106, .ref q124, .ref q131, .int 0, .int 0, .int 0, .int 0, .int 0, .int 0, .int 0, .int 0, .int 0, .ref q132, .ref q133, .ref q134, .ref q135, .ref q136, .ref q137, .ref q138, .ref q139, .ref q140, .int 0]))] H := hP
  have hD : va_D A [(q1, .inr (13, [.ref q2, .int 0, .int 0, .ref q4, .ref q6, .ref q8, .ref q22, .ref q37, .ref q39, .ref q41, .int 0, .ref q43])), (q22, .inr (12, [.ref q23, .ref q25, .ref q31, .ref q32, .ref q33, .ref q34, .int 0, .ref q35, .ref q36, .int 0, .int 0, .int 0, .int 0, .int 0, .int 0, .int 0])), (q77, .inr (20, [.int 0, .ref q78, .int 0, .int 0, .ref q80, .ref q82, .ref q84, .ref q86, .ref q88, .ref q90, .ref q91, .ref q93, .ref q94, .ref q105, .ref q106, .ref q124, .ref q131, .int 0, .int 0, .int 0, .int 0, .int 0, .int 0, .int 0, .int 0, .int 0, .ref q132, .ref q133, .ref q134, .ref q135, .ref q136, .ref q137, .ref q138, .ref q139, .ref q140, .int 0]))] := hD
  have hK : va_K (dC, dI) vwCl [] s := hK
  refine W.widen (k := 455) (n := 2511899) (by decide +kernel) (by decide +kernel) ?_
  refine lv_icmp_eq (tgt := 1493) hx hb dL_law_1140 (by decide) (fun _ => ?_) (fun h9 => absurd (by decide) h9)
  refine lv_iinc (v := 6) (lv' := [(4, .int 6), (3, .ref q143), (2, .ref q77), (1, .ref q1), (0, .ref b)]) hx hb dL_law_1493 hl (k := 0) rfl (by decide) (by decide) rfl (fun ls hl => ?_)
  refine lv_goto (tgt := 23) hx hb dL_law_1496 (by decide) ?_
  refine W.widen (k := 600002) (n := 7302232) (by decide +kernel) (by decide +kernel) ?_
  exact kkE _ _ _ hS (lv_sub hl [0, 4] rfl)
