set_option maxHeartbeats 40000000 in
set_option maxRecDepth 100000 in
theorem law_c10 {p : Program} {l : Launch} {e : Env} {s : State} {m : MethodId} {below : List Frame} {meth : Method} {c : Code} {Q : State → Prop} {A : Nat → Prop} {b : Nat} (hlt : l.stackTraces = false) (hx : p.tables.exec = Jvm.exec) (hb : c.code = code) (hml : c.maxLocals = 8) (hown : s.vm.findClass RL = some m.cls) (hts : ∀ w ∈ lw_tbl, w.before #[Value.ref b] s = true) (hN : nv_E A s) (hA : ∀ q : Nat, s.heap.size ≤ q → A q) (hDe : nv_Dc s) (dC : Nat → ClassId) (dI : Nat → Nat → Nat) (q1 : Nat) (q2 : Nat) (q4 : Nat) (q6 : Nat) (q8 : Nat) (q22 : Nat) (q23 : Nat) (q25 : Nat) (q31 : Nat) (q32 : Nat) (q33 : Nat) (q34 : Nat) (q35 : Nat) (q36 : Nat) (q37 : Nat) (q39 : Nat) (q41 : Nat) (q43 : Nat) (q77 : Nat) (q78 : Nat) (q80 : Nat) (q82 : Nat) (q84 : Nat) (q86 : Nat) (q88 : Nat) (q90 : Nat) (q91 : Nat) (q93 : Nat) (q94 : Nat) (q105 : Nat) (q106 : Nat) (q124 : Nat) (q131 : Nat) (q132 : Nat) (q133 : Nat) (q134 : Nat) (q135 : Nat) (q136 : Nat) (q137 : Nat) (q138 : Nat) (q139 : Nat) (q140 : Nat) (q143 : Nat) (y144 : ClassId) {xs : Nat → Int32} (hX : va_X b 6 xs s s.heap) (hbl : b < s.heap.size) (hbA : ¬ A b) (x0 : Int32) (es0 : xs (Int32.toNatClampNeg 0) = x0) (x1 : Int32) (es1 : xs (Int32.toNatClampNeg 1) = x1) (x2 : Int32) (es2 : xs (Int32.toNatClampNeg 2) = x2) (x3 : Int32) (es3 : xs (Int32.toNatClampNeg 3) = x3) (x4 : Int32) (es4 : xs (Int32.toNatClampNeg 4) = x4) (x5 : Int32) (es5 : xs (Int32.toNatClampNeg 5) = x5) {H : Heap} {locs : List Loc} {ls : Array Slot} (hK : va_K (dC, dI) vwCl [(y144, .long)] s) (hP : va_P (dC, dI) vwCl [(q1, .inr (13, [.ref q2, .int 0, .int 0, .ref q4, .ref q6, .ref q8, .ref q22, .ref q37, .ref q39, .ref q41, .int 0, .ref q43])), (q22, .inr (12, [.ref q23, .ref q25, .ref q31, .ref q32, .ref q33, .ref q34, .int 0, .ref q35, .ref q36, .int 0, .int 0, .int 0, .int 0, .int 0, .int 0, .int 0])), (q77, .inr (20, [.int 0, .ref q78, .int 0, .int 0, .ref q80, .ref q82, .ref q84, .ref q86, .ref q88, .ref q90, .ref q91, .ref q93, .ref q94, .ref q105, .ref q106, .ref q124, .ref q131, .int 0, .int 0, .int 0, .int 0, .int 0, .int 0, .int 0, .int 0, .int 0, .ref q132, .ref q133, .ref q134, .ref q135, .ref q136, .ref q137, .ref q138, .ref q139, .ref q140, .int 0])), (q143, .inl (y144, 1, .inr (.inl (fun _ => 0))))] H) (hD : va_D A [(q1, .inr (13, [.ref q2, .int 0, .int 0, .ref q4, .ref q6, .ref q8, .ref q22, .ref q37, .ref q39, .ref q41, .int 0, .ref q43])), (q22, .inr (12, [.ref q23, .ref q25, .ref q31, .ref q32, .ref q33, .ref q34, .int 0, .ref q35, .ref q36, .int 0, .int 0, .int 0, .int 0, .int 0, .int 0, .int 0])), (q77, .inr (20, [.int 0, .ref q78, .int 0, .int 0, .ref q80, .ref q82, .ref q84, .ref q86, .ref q88, .ref q90, .ref q91, .ref q93, .ref q94, .ref q105, .ref q106, .ref q124, .ref q131, .int 0, .int 0, .int 0, .int 0, .int 0, .int 0, .int 0, .int 0, .int 0, .ref q132, .ref q133, .ref q134, .ref q135, .ref q136, .ref q137, .ref q138, .ref q139, .ref q140, .int 0])), (q143, .inl (y144, 1, .inr (.inl (fun _ => 0))))]) (hS : va_S A s.heap H locs) (hl : lv_has ls 8 [(4, .int 0), (3, .ref q143), (2, .ref q77), (1, .ref q1), (0, .ref b)]) (kkE : ∀ (H : Heap) (locs : List Loc) (ls : Array Slot), va_S A s.heap H locs → lv_has ls 8 [(4, .int 6), (0, .ref b)] → W p l e room_1 s m #[Value.ref b] below meth c H locs 600002 7302232 Q (F0 m 23 ls [])) : W p l e room_1 s m #[Value.ref b] below meth c H locs 455 2511899 Q (F0 m 611 ls []) := by
  refine lv_aload_n hx hb dL_law_611 rfl (lv_at hl 3 rfl) ?_
  refine lv_aload_n hx hb dL_law_612 rfl (lv_at hl 4 rfl) ?_
  refine lv_iload hx hb dL_law_613 (lv_at hl 0 rfl) ?_
  refine lv_iconst (v := 1) hx hb dL_law_615 (by decide) ?_
  refine lv_iadd hx hb dL_law_616 ?_
  refine lv_topi (fun z501 ez501 => ?_)
  obtain rfl : z501 = 1 := ez501.trans (by decide)
  refine va_sld (i := 1) hx hb hX hbl hbA hS (vp_in_iff.mpr ⟨by decide, by decide⟩) dL_law_617 ?_
  rw [es1]
  refine lv_aload_n hx hb dL_law_618 rfl (lv_at hl 4 rfl) ?_
  refine lv_iload hx hb dL_law_619 (lv_at hl 0 rfl) ?_
  refine lv_iconst (v := 2) hx hb dL_law_621 (by decide) ?_
  refine lv_iadd hx hb dL_law_622 ?_
  refine lv_topi (fun z502 ez502 => ?_)
  obtain rfl : z502 = 2 := ez502.trans (by decide)
  refine va_sld (i := 2) hx hb hX hbl hbA hS (vp_in_iff.mpr ⟨by decide, by decide⟩) dL_law_623 ?_
  rw [es2]
  refine lv_i2l hx hb dL_law_624 rfl ?_
  refine lv_bipush (v := 32) hx hb dL_law_625 (by decide) ?_
  refine lv_lshl hx hb dL_law_627 rfl ?_
  refine lv_topl (fun z503 ez503 => ?_)
  refine lv_aload_n hx hb dL_law_628 rfl (lv_at hl 4 rfl) ?_
  refine lv_iload hx hb dL_law_629 (lv_at hl 0 rfl) ?_
  refine lv_iconst (v := 3) hx hb dL_law_631 (by decide) ?_
  refine lv_iadd hx hb dL_law_632 ?_
  refine lv_topi (fun z504 ez504 => ?_)
  obtain rfl : z504 = 3 := ez504.trans (by decide)
  refine va_sld (i := 3) hx hb hX hbl hbA hS (vp_in_iff.mpr ⟨by decide, by decide⟩) dL_law_633 ?_
  rw [es3]
  refine lv_i2l hx hb dL_law_634 rfl ?_
  refine lv_ldc2 hx hb hown (hts (.constantLong RL 99 (4294967295)) tw_72) dL_law_635 ?_
  refine lv_land hx hb dL_law_638 ?_
  refine lv_topl (fun z505 ez505 => ?_)
  refine lv_lor hx hb dL_law_639 ?_
  refine lv_topl (fun z506 ez506 => ?_)
  refine lv_aload_n hx hb dL_law_640 rfl (lv_at hl 4 rfl) ?_
  refine lv_iload hx hb dL_law_641 (lv_at hl 0 rfl) ?_
  refine lv_iconst (v := 4) hx hb dL_law_643 (by decide) ?_
  refine lv_iadd hx hb dL_law_644 ?_
  refine lv_topi (fun z507 ez507 => ?_)
  obtain rfl : z507 = 4 := ez507.trans (by decide)
  refine va_sld (i := 4) hx hb hX hbl hbA hS (vp_in_iff.mpr ⟨by decide, by decide⟩) dL_law_645 ?_
  rw [es4]
  refine lv_aload_n hx hb dL_law_646 rfl (lv_at hl 1 rfl) ?_
  have hPc := hP.sub (ws' := [(q1, .inr (13, [.ref q2, .int 0, .int 0, .ref q4, .ref q6, .ref q8, .ref q22, .ref q37, .ref q39, .ref q41, .int 0, .ref q43])), (q22, .inr (12, [.ref q23, .ref q25, .ref q31, .ref q32, .ref q33, .ref q34, .int 0, .ref q35, .ref q36, .int 0, .int 0, .int 0, .int 0, .int 0, .int 0, .int 0])), (q143, .inl (y144, 1, .inr (.inl (fun _ => 0))))]) [0, 1, 3] rfl
  have hDc := hD.sub (ws' := [(q1, .inr (13, [.ref q2, .int 0, .int 0, .ref q4, .ref q6, .ref q8, .ref q22, .ref q37, .ref q39, .ref q41, .int 0, .ref q43])), (q22, .inr (12, [.ref q23, .ref q25, .ref q31, .ref q32, .ref q33, .ref q34, .int 0, .ref q35, .ref q36, .int 0, .int 0, .int 0, .int 0, .int 0, .int 0, .int 0])), (q143, .inl (y144, 1, .inr (.inl (fun _ => 0))))]) [0, 1, 3] (by decide) rfl
  have hKc := hK.sub (tys' := [(y144, .long)]) [0] rfl
  have hFc := va_free (wc := [(q1, .inr (13, [.ref q2, .int 0, .int 0, .ref q4, .ref q6, .ref q8, .ref q22, .ref q37, .ref q39, .ref q41, .int 0, .ref q43])), (q22, .inr (12, [.ref q23, .ref q25, .ref q31, .ref q32, .ref q33, .ref q34, .int 0, .ref q35, .ref q36, .int 0, .int 0, .int 0, .int 0, .int 0, .int 0, .int 0])), (q143, .inl (y144, 1, .inr (.inl (fun _ => 0))))]) hD hS hA [0, 1, 3] rfl
  refine va_calli (vx_runSW (As := [.ref q1, .int x1, .long z506, .int x4, .ref q143]) (rest := []) ⟨hx, hb, hml, hown, hts⟩ (k_L_outside l hlt dC dI q1 q22 q143 y144 x1 z506 x4 q2 q4 q6 q8 q37 q39 q41 q43 q23 q25 q31 q32 q33 q34 q35 q36  H.size) (vx_cwSW 5 hts gl_25 rfl rfl rfl (by decide +kernel) ⟨Nat.le_of_ble_eq_true rfl, Nat.le_of_ble_eq_true rfl⟩) ⟨fun a U g mk q => by obtain ⟨q0, q1, qP, qK, qD, qN, qE⟩ := q; exact ⟨q0, q1, qP, va_K.moved (u := U) (U := U.calling g mk a) (Vm.Alike.refl U.vm) qK, qD, nv_same rfl rfl qN, nv_Dsame rfl qE⟩, fun U hU hW => ⟨rfl, by rw [hU], by rw [hU]; exact hPc, va_K.moved hW.alike hKc, hDc.weaken (fun _ _ _ _ => trivial), nv_call hS hFc hU hW hN, nv_Dcall hW hDe⟩⟩ rfl rfl hl.1 rfl (lv_room (Nat.le_of_ble_eq_true rfl)) dL_law_647 ⟨by decide +kernel, by decide +kernel⟩) hS (fun q _ h => hFc q h) hFc (fun r508 u t H1 locs ht hvm hw hB hz1 hk1 hS => ?_)
  rcases hw with ⟨c_1_0, c_1_1, h9, h8⟩ | ⟨c_1_0, c_1_1, c_1_2, h9, h8⟩ | ⟨c_1_0, c_1_1, c_1_2, h9, h8⟩ | ⟨c_1_0, c_1_1, c_1_2, h9, h8⟩ | ⟨c_1_0, c_1_1, c_1_2, c_1_3, h9, h8⟩ | ⟨c_1_0, c_1_1, c_1_2, c_1_3, h9, h8⟩ | ⟨c_1_0, c_1_1, c_1_2, c_1_3, h9, h8⟩ | ⟨c_1_0, c_1_1, c_1_2, c_1_3, c_1_4, h9, h8⟩ | ⟨c_1_0, c_1_1, c_1_2, c_1_3, c_1_4, c_1_5, h9, h8⟩ | ⟨c_1_0, c_1_1, c_1_2, c_1_3, c_1_4, c_1_5, c_1_6, h9, h8⟩ | ⟨c_1_0, c_1_1, c_1_2, c_1_3, c_1_4, c_1_5, c_1_6, h9, h8⟩ | ⟨c_1_0, c_1_1, c_1_2, c_1_3, c_1_4, h9, h8⟩ | ⟨c_1_0, c_1_1, c_1_2, c_1_3, c_1_4, c_1_5, h9, h8⟩ | ⟨c_1_0, c_1_1, c_1_2, c_1_3, c_1_4, c_1_5, h9, h8⟩ | ⟨c_1_0, c_1_1, c_1_2, c_1_3, c_1_4, h9, h8⟩ | ⟨c_1_0, c_1_1, c_1_2, c_1_3, c_1_4, h9, h8⟩ | h9
  · subst h9
    subst h8
    obtain ⟨hP1, hK1, hD1⟩ := hB
    rw [ht] at hP1
    have hK1 := va_K.moved hvm.symm hK1
    obtain ⟨hP, hD⟩ := va_join (wr := [(q77, .inr (20, [.int 0, .ref q78, .int 0, .int 0, .ref q80, .ref q82, .ref q84, .ref q86, .ref q88, .ref q90, .ref q91, .ref q93, .ref q94, .ref q105, .ref q106, .ref q124, .ref q131, .int 0, .int 0, .int 0, .int 0, .int 0, .int 0, .int 0, .int 0, .int 0, .ref q132, .ref q133, .ref q134, .ref q135, .ref q136, .ref q137, .ref q138, .ref q139, .ref q140, .int 0]))]) (w1 := [(q143, .inl (y144, 1, .inr (.inl (fun _ => 0))))]) hP hD [0, 1, 3] [2] rfl rfl (by decide) (by decide) hk1 hFc hP1 hD1
    have hK := (hK.sub (tys' := []) [] rfl).app hK1
    generalize H1 = H at hP hS ⊢
    have hP : va_P (dC, dI) vwCl [(q77, .inr (20, [.int 0, .ref q78, .int 0, .int 0, .ref q80, .ref q82, .ref q84, .ref q86, .ref q88, .ref q90, .ref q91, .ref q93, .ref q94, .ref q105, .ref q106, .ref q124, .ref q131, .int 0, .int 0, .int 0, .int 0, .int 0, .int 0, .int 0, .int 0, .int 0, .ref q132, .ref q133, .ref q134, .ref q135, .ref q136, .ref q137, .ref q138, .ref q139, .ref q140, .int 0])), (q143, .inl (y144, 1, .inr (.inl (fun _ => 0))))] H := hP
    have hD : va_D A [(q77, .inr (20, [.int 0, .ref q78, .int 0, .int 0, .ref q80, .ref q82, .ref q84, .ref q86, .ref q88, .ref q90, .ref q91, .ref q93, .ref q94, .ref q105, .ref q106, .ref q124, .ref q131, .int 0, .int 0, .int 0, .int 0, .int 0, .int 0, .int 0, .int 0, .int 0, .ref q132, .ref q133, .ref q134, .ref q135, .ref q136, .ref q137, .ref q138, .ref q139, .ref q140, .int 0])), (q143, .inl (y144, 1, .inr (.inl (fun _ => 0))))] := hD
    have hK : va_K (dC, dI) vwCl [(y144, .long)] s := hK
    refine W.widen (k := 456) (n := 2511905) (by decide +kernel) (by decide +kernel) ?_
    refine lv_istore (lv' := [(5, .int 1), (4, .int 0), (3, .ref q143), (2, .ref q77), (1, .ref q1), (0, .ref b)]) hx hb dL_law_650 hl (by decide) rfl (fun ls hl => ?_)
    refine lv_aload_n hx hb dL_law_652 rfl (lv_at hl 3 rfl) ?_
    refine lv_aload_n hx hb dL_law_653 rfl (lv_at hl 5 rfl) ?_
    refine lv_iload hx hb dL_law_654 (lv_at hl 1 rfl) ?_
    refine lv_iconst (v := 1) hx hb dL_law_656 (by decide) ?_
    refine lv_iadd hx hb dL_law_657 ?_
    refine lv_topi (fun z509 ez509 => ?_)
    obtain rfl : z509 = 1 := ez509.trans (by decide)
    refine va_sld (i := 1) hx hb hX hbl hbA hS (vp_in_iff.mpr ⟨by decide, by decide⟩) dL_law_658 ?_
    rw [es1]
    refine lv_aload_n hx hb dL_law_659 rfl (lv_at hl 5 rfl) ?_
    refine lv_iload hx hb dL_law_660 (lv_at hl 1 rfl) ?_
    refine lv_iconst (v := 2) hx hb dL_law_662 (by decide) ?_
    refine lv_iadd hx hb dL_law_663 ?_
    refine lv_topi (fun z510 ez510 => ?_)
    obtain rfl : z510 = 2 := ez510.trans (by decide)
    refine va_sld (i := 2) hx hb hX hbl hbA hS (vp_in_iff.mpr ⟨by decide, by decide⟩) dL_law_664 ?_
    rw [es2]
    refine lv_i2l hx hb dL_law_665 rfl ?_
    refine lv_bipush (v := 32) hx hb dL_law_666 (by decide) ?_
    refine lv_lshl hx hb dL_law_668 rfl ?_
    refine lv_topl (fun z511 ez511 => ?_)
    have h9 : z503 = z511 := ez503.trans ez511.symm; subst h9
    refine lv_aload_n hx hb dL_law_669 rfl (lv_at hl 5 rfl) ?_
    refine lv_iload hx hb dL_law_670 (lv_at hl 1 rfl) ?_
    refine lv_iconst (v := 3) hx hb dL_law_672 (by decide) ?_
    refine lv_iadd hx hb dL_law_673 ?_
    refine lv_topi (fun z512 ez512 => ?_)
    obtain rfl : z512 = 3 := ez512.trans (by decide)
    refine va_sld (i := 3) hx hb hX hbl hbA hS (vp_in_iff.mpr ⟨by decide, by decide⟩) dL_law_674 ?_
    rw [es3]
    refine lv_i2l hx hb dL_law_675 rfl ?_
    refine lv_ldc2 hx hb hown (hts (.constantLong RL 99 (4294967295)) tw_72) dL_law_676 ?_
    refine lv_land hx hb dL_law_679 ?_
    refine lv_topl (fun z513 ez513 => ?_)
    have h9 : z505 = z513 := ez505.trans ez513.symm; subst h9
    refine lv_lor hx hb dL_law_680 ?_
    refine lv_topl (fun z514 ez514 => ?_)
    have h9 : z506 = z514 := ez506.trans ez514.symm; subst h9
    refine lv_aload_n hx hb dL_law_681 rfl (lv_at hl 5 rfl) ?_
    refine lv_iload hx hb dL_law_682 (lv_at hl 1 rfl) ?_
    refine lv_iconst (v := 4) hx hb dL_law_684 (by decide) ?_
    refine lv_iadd hx hb dL_law_685 ?_
    refine lv_topi (fun z515 ez515 => ?_)
    obtain rfl : z515 = 4 := ez515.trans (by decide)
    refine va_sld (i := 4) hx hb hX hbl hbA hS (vp_in_iff.mpr ⟨by decide, by decide⟩) dL_law_686 ?_
    rw [es4]
    have hPc := hP.sub (ws' := [(q77, .inr (20, [.int 0, .ref q78, .int 0, .int 0, .ref q80, .ref q82, .ref q84, .ref q86, .ref q88, .ref q90, .ref q91, .ref q93, .ref q94, .ref q105, .ref q106, .ref q124, .ref q131, .int 0, .int 0, .int 0, .int 0, .int 0, .int 0, .int 0, .int 0, .int 0, .ref q132, .ref q133, .ref q134, .ref q135, .ref q136, .ref q137, .ref q138, .ref q139, .ref q140, .int 0]))]) [0] rfl
    have hDc := hD.sub (ws' := [(q77, .inr (20, [.int 0, .ref q78, .int 0, .int 0, .ref q80, .ref q82, .ref q84, .ref q86, .ref q88, .ref q90, .ref q91, .ref q93, .ref q94, .ref q105, .ref q106, .ref q124, .ref q131, .int 0, .int 0, .int 0, .int 0, .int 0, .int 0, .int 0, .int 0, .int 0, .ref q132, .ref q133, .ref q134, .ref q135, .ref q136, .ref q137, .ref q138, .ref q139, .ref q140, .int 0]))]) [0] (by decide) rfl
    have hKc := hK.sub (tys' := []) [] rfl
    have hFc := va_free (wc := [(q77, .inr (20, [.int 0, .ref q78, .int 0, .int 0, .ref q80, .ref q82, .ref q84, .ref q86, .ref q88, .ref q90, .ref q91, .ref q93, .ref q94, .ref q105, .ref q106, .ref q124, .ref q131, .int 0, .int 0, .int 0, .int 0, .int 0, .int 0, .int 0, .int 0, .int 0, .ref q132, .ref q133, .ref q134, .ref q135, .ref q136, .ref q137, .ref q138, .ref q139, .ref q140, .int 0]))]) hD hS hA [0] rfl
    refine va_calli (va_runV (As := [.int x1, .long z506, .int x4]) (rest := []) ⟨hx, hb, hml, hown, hts⟩ (k_X19_outside l hlt dC dI q77 x1 z506 x4 q78 q80 q82 q84 q86 q88 q90 q91 q93 q94 q105 q106 q124 q131 q132 q133 q134 q135 q136 q137 q138 q139 q140  H.size) (cwV 3 hts gl_26 rfl rfl rfl (by decide +kernel) ⟨Nat.le_of_ble_eq_true rfl, Nat.le_of_ble_eq_true rfl⟩) ⟨fun a U g mk q => by obtain ⟨q0, q1, qP, qK, qD, qN⟩ := q; exact ⟨q0, q1, qP, va_K.moved (u := U) (U := U.calling g mk a) (Vm.Alike.refl U.vm) qK, qD, nv_same rfl rfl qN⟩, va_recv hKc hPc (ci := 20) (q0 := 0) rfl rfl, fun U hU hW => ⟨rfl, by rw [hU], by rw [hU]; exact hPc, va_K.moved hW.alike hKc, hDc.weaken (fun _ _ _ _ => trivial), nv_call hS hFc hU hW hN⟩⟩ rfl rfl hl.1 rfl (lv_room (Nat.le_of_ble_eq_true rfl)) dL_law_687 ⟨by decide +kernel, by decide +kernel⟩) hS (fun q _ h => hFc q h) hFc (fun r516 u t H1 locs ht hvm hw hB hz1 hk1 hS => ?_)
    rcases hw with ⟨c_2_0, c_2_1, c_2_2, c_2_3, c_2_4, h9, h8⟩ | ⟨c_2_0, c_2_1, c_2_2, c_2_3, c_2_4, h9, h8⟩ | ⟨c_2_0, c_2_1, c_2_2, c_2_3, c_2_4, h9, h8⟩ | ⟨c_2_0, c_2_1, c_2_2, c_2_3, c_2_4, c_2_5, h9, h8⟩ | ⟨c_2_0, c_2_1, c_2_2, c_2_3, c_2_4, c_2_5, h9, h8⟩ | ⟨c_2_0, c_2_1, c_2_2, c_2_3, h9, h8⟩ | ⟨c_2_0, c_2_1, c_2_2, c_2_3, c_2_4, h9, h8⟩ | ⟨c_2_0, c_2_1, c_2_2, c_2_3, c_2_4, c_2_5, h9, h8⟩ | ⟨c_2_0, c_2_1, c_2_2, c_2_3, c_2_4, c_2_5, c_2_6, h9, h8⟩ | ⟨c_2_0, c_2_1, c_2_2, c_2_3, c_2_4, c_2_5, c_2_6, h9, h8⟩ | ⟨c_2_0, c_2_1, c_2_2, h9, h8⟩ | ⟨c_2_0, c_2_1, c_2_2, c_2_3, h9, h8⟩ | ⟨c_2_0, c_2_1, c_2_2, c_2_3, h9, h8⟩ | ⟨c_2_0, c_2_1, h9, h8⟩ | ⟨c_2_0, c_2_1, c_2_2, h9, h8⟩ | ⟨c_2_0, c_2_1, c_2_2, h9, h8⟩ | h9
    · exact absurd c_1_0 c_2_0
    · exact absurd c_1_0 c_2_0
    · exact absurd c_1_0 c_2_0
    · exact absurd c_1_0 c_2_0
    · exact absurd c_1_0 c_2_0
    · exact absurd c_1_0 c_2_0
    · exact absurd c_1_0 c_2_0
    · exact absurd c_1_0 c_2_0
    · exact absurd c_1_0 c_2_0
    · exact absurd c_1_0 c_2_0
    · exact absurd c_1_0 c_2_0
    · exact absurd c_1_0 c_2_0
    · exact absurd c_1_0 c_2_0
    · subst h9
      subst h8
      obtain ⟨hP1, hK1, hD1⟩ := hB
      rw [ht] at hP1
      have hK1 := va_K.moved hvm.symm hK1
      obtain ⟨hP, hD⟩ := va_join (wr := [(q143, .inl (y144, 1, .inr (.inl (fun _ => 0))))]) (w1 := [(q77, .inr (20, [.int 1, .ref q78, .int 0, .int 0, .ref q80, .ref q82, .ref q84, .ref q86, .ref q88, .ref q90, .ref q91, .ref q93, .ref q94, .ref q105, .ref q106, .ref q124, .ref q131, .int 0, .int 0, .int 0, .int 0, .int 0, .int 0, .int 0, .int 0, .int 0, .ref q132, .ref q133, .ref q134, .ref q135, .ref q136, .ref q137, .ref q138, .ref q139, .ref q140, .int 0]))]) hP hD [0] [1] rfl rfl (by decide) (by decide) hk1 hFc hP1 hD1
      have hK := (hK.sub (tys' := [(y144, .long)]) [0] rfl).app hK1
      generalize H1 = H at hP hS ⊢
      have hP : va_P (dC, dI) vwCl [(q143, .inl (y144, 1, .inr (.inl (fun _ => 0)))), (q77, .inr (20, [.int 1, .ref q78, .int 0, .int 0, .ref q80, .ref q82, .ref q84, .ref q86, .ref q88, .ref q90, .ref q91, .ref q93, .ref q94, .ref q105, .ref q106, .ref q124, .ref q131, .int 0, .int 0, .int 0, .int 0, .int 0, .int 0, .int 0, .int 0, .int 0, .ref q132, .ref q133, .ref q134, .ref q135, .ref q136, .ref q137, .ref q138, .ref q139, .ref q140, .int 0]))] H := hP
      have hD : va_D A [(q143, .inl (y144, 1, .inr (.inl (fun _ => 0)))), (q77, .inr (20, [.int 1, .ref q78, .int 0, .int 0, .ref q80, .ref q82, .ref q84, .ref q86, .ref q88, .ref q90, .ref q91, .ref q93, .ref q94, .ref q105, .ref q106, .ref q124, .ref q131, .int 0, .int 0, .int 0, .int 0, .int 0, .int 0, .int 0, .int 0, .int 0, .ref q132, .ref q133, .ref q134, .ref q135, .ref q136, .ref q137, .ref q138, .ref q139, .ref q140, .int 0]))] := hD
      have hK : va_K (dC, dI) vwCl [(y144, .long)] s := hK
      refine W.widen (k := 456) (n := 2511905) (by decide +kernel) (by decide +kernel) ?_
      refine lv_istore (lv' := [(6, .int 0), (5, .int 1), (4, .int 0), (3, .ref q143), (2, .ref q77), (1, .ref q1), (0, .ref b)]) hx hb dL_law_690 hl (by decide) rfl (fun ls hl => ?_)
      refine lv_aload_n hx hb dL_law_692 rfl (lv_at hl 4 rfl) ?_
      have hPc := hP.sub (ws' := [(q77, .inr (20, [.int 1, .ref q78, .int 0, .int 0, .ref q80, .ref q82, .ref q84, .ref q86, .ref q88, .ref q90, .ref q91, .ref q93, .ref q94, .ref q105, .ref q106, .ref q124, .ref q131, .int 0, .int 0, .int 0, .int 0, .int 0, .int 0, .int 0, .int 0, .int 0, .ref q132, .ref q133, .ref q134, .ref q135, .ref q136, .ref q137, .ref q138, .ref q139, .ref q140, .int 0]))]) [1] rfl
      have hDc := hD.sub (ws' := [(q77, .inr (20, [.int 1, .ref q78, .int 0, .int 0, .ref q80, .ref q82, .ref q84, .ref q86, .ref q88, .ref q90, .ref q91, .ref q93, .ref q94, .ref q105, .ref q106, .ref q124, .ref q131, .int 0, .int 0, .int 0, .int 0, .int 0, .int 0, .int 0, .int 0, .int 0, .ref q132, .ref q133, .ref q134, .ref q135, .ref q136, .ref q137, .ref q138, .ref q139, .ref q140, .int 0]))]) [1] (by decide) rfl
      have hKc := hK.sub (tys' := []) [] rfl
      have hFc := va_free (wc := [(q77, .inr (20, [.int 1, .ref q78, .int 0, .int 0, .ref q80, .ref q82, .ref q84, .ref q86, .ref q88, .ref q90, .ref q91, .ref q93, .ref q94, .ref q105, .ref q106, .ref q124, .ref q131, .int 0, .int 0, .int 0, .int 0, .int 0, .int 0, .int 0, .int 0, .int 0, .ref q132, .ref q133, .ref q134, .ref q135, .ref q136, .ref q137, .ref q138, .ref q139, .ref q140, .int 0]))]) hD hS hA [1] rfl
      refine va_calli (va_runV (As := []) (rest := []) ⟨hx, hb, hml, hown, hts⟩ (k_X19_thrown l hlt dC dI q77 q78 q80 q82 q84 q86 q88 q90 q91 q93 q94 q105 q106 q124 q131 q132 q133 q134 q135 q136 q137 q138 q139 q140  H.size) (cwV 0 hts gl_8 rfl rfl rfl (by decide +kernel) ⟨Nat.le_of_ble_eq_true rfl, Nat.le_of_ble_eq_true rfl⟩) ⟨fun a U g mk q => by obtain ⟨q0, q1, qP, qK, qD, qN⟩ := q; exact ⟨q0, q1, qP, va_K.moved (u := U) (U := U.calling g mk a) (Vm.Alike.refl U.vm) qK, qD, nv_same rfl rfl qN⟩, va_recv hKc hPc (ci := 20) (q0 := 0) rfl rfl, fun U hU hW => ⟨rfl, by rw [hU], by rw [hU]; exact hPc, va_K.moved hW.alike hKc, hDc.weaken (fun _ _ _ _ => trivial), nv_call hS hFc hU hW hN⟩⟩ rfl rfl hl.1 rfl (lv_room (Nat.le_of_ble_eq_true rfl)) dL_law_693 ⟨by decide +kernel, by decide +kernel⟩) hS (fun q _ h => hFc q h) hFc (fun r517 u t H1 locs ht hvm hw hB hz1 hk1 hS => ?_)
      obtain ⟨hP1, hK1, hD1⟩ := hB
      rw [ht] at hP1
      have hK1 := va_K.moved hvm.symm hK1
      obtain rfl : r517 = 1 := hw
      obtain ⟨hP, hD⟩ := va_join (wr := [(q143, .inl (y144, 1, .inr (.inl (fun _ => 0))))]) (w1 := [(q77, .inr (20, [.int 1, .ref q78, .int 0, .int 0, .ref q80, .ref q82, .ref q84, .ref q86, .ref q88, .ref q90, .ref q91, .ref q93, .ref q94, .ref q105, .ref q106, .ref q124, .ref q131, .int 0, .int 0, .int 0, .int 0, .int 0, .int 0, .int 0, .int 0, .int 0, .ref q132, .ref q133, .ref q134, .ref q135, .ref q136, .ref q137, .ref q138, .ref q139, .ref q140, .int 0]))]) hP hD [1] [0] rfl rfl (by decide) (by decide) hk1 hFc hP1 hD1
      have hK := (hK.sub (tys' := [(y144, .long)]) [0] rfl).app hK1
      generalize H1 = H at hP hS ⊢
      have hP : va_P (dC, dI) vwCl [(q143, .inl (y144, 1, .inr (.inl (fun _ => 0)))), (q77, .inr (20, [.int 1, .ref q78, .int 0, .int 0, .ref q80, .ref q82, .ref q84, .ref q86, .ref q88, .ref q90, .ref q91, .ref q93, .ref q94, .ref q105, .ref q106, .ref q124, .ref q131, .int 0, .int 0, .int 0, .int 0, .int 0, .int 0, .int 0, .int 0, .int 0, .ref q132, .ref q133, .ref q134, .ref q135, .ref q136, .ref q137, .ref q138, .ref q139, .ref q140, .int 0]))] H := hP
      have hD : va_D A [(q143, .inl (y144, 1, .inr (.inl (fun _ => 0)))), (q77, .inr (20, [.int 1, .ref q78, .int 0, .int 0, .ref q80, .ref q82, .ref q84, .ref q86, .ref q88, .ref q90, .ref q91, .ref q93, .ref q94, .ref q105, .ref q106, .ref q124, .ref q131, .int 0, .int 0, .int 0, .int 0, .int 0, .int 0, .int 0, .int 0, .int 0, .ref q132, .ref q133, .ref q134, .ref q135, .ref q136, .ref q137, .ref q138, .ref q139, .ref q140, .int 0]))] := hD
      have hK : va_K (dC, dI) vwCl [(y144, .long)] s := hK
      refine W.widen (k := 456) (n := 2511905) (by decide +kernel) (by decide +kernel) ?_
      refine lv_iload hx hb dL_law_696 (lv_at hl 1 rfl) ?_
      refine lv_icmp_eq (tgt := 703) hx hb dL_law_698 (by decide) (fun _ => ?_) (fun h9 => absurd (by decide) h9)
      refine lv_iload hx hb dL_law_703 (lv_at hl 1 rfl) ?_
      refine lv_if_ne (tgt := 720) hx hb dL_law_705 (by decide) (fun _ => ?_) (fun h9 => absurd h9 (by decide))
      refine lv_goto (tgt := 1493) hx hb dL_law_720 (by decide) ?_
      refine lv_iinc (v := 6) (lv' := [(4, .int 6), (6, .int 0), (5, .int 1), (3, .ref q143), (2, .ref q77), (1, .ref q1), (0, .ref b)]) hx hb dL_law_1493 hl (k := 2) rfl (by decide) (by decide) rfl (fun ls hl => ?_)
      refine lv_goto (tgt := 23) hx hb dL_law_1496 (by decide) ?_
      refine W.widen (k := 600002) (n := 7302232) (by decide +kernel) (by decide +kernel) ?_
      exact kkE _ _ _ hS (lv_sub hl [0, 6] rfl)
    · exact absurd c_1_1 c_2_1
    · exact absurd c_1_1 c_2_1
    · exact h9.elim
  · subst h9
    subst h8
    obtain ⟨hP1, hK1, hD1⟩ := hB
    rw [ht] at hP1
    have hK1 := va_K.moved hvm.symm hK1
    obtain ⟨hP, hD⟩ := va_join (wr := [(q77, .inr (20, [.int 0, .ref q78, .int 0, .int 0, .ref q80, .ref q82, .ref q84, .ref q86, .ref q88, .ref q90, .ref q91, .ref q93, .ref q94, .ref q105, .ref q106, .ref q124, .ref q131, .int 0, .int 0, .int 0, .int 0, .int 0, .int 0, .int 0, .int 0, .int 0, .ref q132, .ref q133, .ref q134, .ref q135, .ref q136, .ref q137, .ref q138, .ref q139, .ref q140, .int 0]))]) (w1 := [(q143, .inl (y144, 1, .inr (.inl (fun _ => 0))))]) hP hD [0, 1, 3] [2] rfl rfl (by decide) (by decide) hk1 hFc hP1 hD1
    have hK := (hK.sub (tys' := []) [] rfl).app hK1
    generalize H1 = H at hP hS ⊢
    have hP : va_P (dC, dI) vwCl [(q77, .inr (20, [.int 0, .ref q78, .int 0, .int 0, .ref q80, .ref q82, .ref q84, .ref q86, .ref q88, .ref q90, .ref q91, .ref q93, .ref q94, .ref q105, .ref q106, .ref q124, .ref q131, .int 0, .int 0, .int 0, .int 0, .int 0, .int 0, .int 0, .int 0, .int 0, .ref q132, .ref q133, .ref q134, .ref q135, .ref q136, .ref q137, .ref q138, .ref q139, .ref q140, .int 0])), (q143, .inl (y144, 1, .inr (.inl (fun _ => 0))))] H := hP
    have hD : va_D A [(q77, .inr (20, [.int 0, .ref q78, .int 0, .int 0, .ref q80, .ref q82, .ref q84, .ref q86, .ref q88, .ref q90, .ref q91, .ref q93, .ref q94, .ref q105, .ref q106, .ref q124, .ref q131, .int 0, .int 0, .int 0, .int 0, .int 0, .int 0, .int 0, .int 0, .int 0, .ref q132, .ref q133, .ref q134, .ref q135, .ref q136, .ref q137, .ref q138, .ref q139, .ref q140, .int 0])), (q143, .inl (y144, 1, .inr (.inl (fun _ => 0))))] := hD
    have hK : va_K (dC, dI) vwCl [(y144, .long)] s := hK
    refine W.widen (k := 456) (n := 2511905) (by decide +kernel) (by decide +kernel) ?_
    refine lv_istore (lv' := [(5, .int 1), (4, .int 0), (3, .ref q143), (2, .ref q77), (1, .ref q1), (0, .ref b)]) hx hb dL_law_650 hl (by decide) rfl (fun ls hl => ?_)
    refine lv_aload_n hx hb dL_law_652 rfl (lv_at hl 3 rfl) ?_
    refine lv_aload_n hx hb dL_law_653 rfl (lv_at hl 5 rfl) ?_
    refine lv_iload hx hb dL_law_654 (lv_at hl 1 rfl) ?_
    refine lv_iconst (v := 1) hx hb dL_law_656 (by decide) ?_
    refine lv_iadd hx hb dL_law_657 ?_
    refine lv_topi (fun z518 ez518 => ?_)
    obtain rfl : z518 = 1 := ez518.trans (by decide)
    refine va_sld (i := 1) hx hb hX hbl hbA hS (vp_in_iff.mpr ⟨by decide, by decide⟩) dL_law_658 ?_
    rw [es1]
    refine lv_aload_n hx hb dL_law_659 rfl (lv_at hl 5 rfl) ?_
    refine lv_iload hx hb dL_law_660 (lv_at hl 1 rfl) ?_
    refine lv_iconst (v := 2) hx hb dL_law_662 (by decide) ?_
    refine lv_iadd hx hb dL_law_663 ?_
    refine lv_topi (fun z519 ez519 => ?_)
    obtain rfl : z519 = 2 := ez519.trans (by decide)
    refine va_sld (i := 2) hx hb hX hbl hbA hS (vp_in_iff.mpr ⟨by decide, by decide⟩) dL_law_664 ?_
    rw [es2]
    refine lv_i2l hx hb dL_law_665 rfl ?_
    refine lv_bipush (v := 32) hx hb dL_law_666 (by decide) ?_
    refine lv_lshl hx hb dL_law_668 rfl ?_
    refine lv_topl (fun z520 ez520 => ?_)
    have h9 : z503 = z520 := ez503.trans ez520.symm; subst h9
    refine lv_aload_n hx hb dL_law_669 rfl (lv_at hl 5 rfl) ?_
    refine lv_iload hx hb dL_law_670 (lv_at hl 1 rfl) ?_
    refine lv_iconst (v := 3) hx hb dL_law_672 (by decide) ?_
    refine lv_iadd hx hb dL_law_673 ?_
    refine lv_topi (fun z521 ez521 => ?_)
    obtain rfl : z521 = 3 := ez521.trans (by decide)
    refine va_sld (i := 3) hx hb hX hbl hbA hS (vp_in_iff.mpr ⟨by decide, by decide⟩) dL_law_674 ?_
    rw [es3]
    refine lv_i2l hx hb dL_law_675 rfl ?_
    refine lv_ldc2 hx hb hown (hts (.constantLong RL 99 (4294967295)) tw_72) dL_law_676 ?_
    refine lv_land hx hb dL_law_679 ?_
    refine lv_topl (fun z522 ez522 => ?_)
    have h9 : z505 = z522 := ez505.trans ez522.symm; subst h9
    refine lv_lor hx hb dL_law_680 ?_
    refine lv_topl (fun z523 ez523 => ?_)
    have h9 : z506 = z523 := ez506.trans ez523.symm; subst h9
    refine lv_aload_n hx hb dL_law_681 rfl (lv_at hl 5 rfl) ?_
    refine lv_iload hx hb dL_law_682 (lv_at hl 1 rfl) ?_
    refine lv_iconst (v := 4) hx hb dL_law_684 (by decide) ?_
    refine lv_iadd hx hb dL_law_685 ?_
    refine lv_topi (fun z524 ez524 => ?_)
    obtain rfl : z524 = 4 := ez524.trans (by decide)
    refine va_sld (i := 4) hx hb hX hbl hbA hS (vp_in_iff.mpr ⟨by decide, by decide⟩) dL_law_686 ?_
    rw [es4]
    have hPc := hP.sub (ws' := [(q77, .inr (20, [.int 0, .ref q78, .int 0, .int 0, .ref q80, .ref q82, .ref q84, .ref q86, .ref q88, .ref q90, .ref q91, .ref q93, .ref q94, .ref q105, .ref q106, .ref q124, .ref q131, .int 0, .int 0, .int 0, .int 0, .int 0, .int 0, .int 0, .int 0, .int 0, .ref q132, .ref q133, .ref q134, .ref q135, .ref q136, .ref q137, .ref q138, .ref q139, .ref q140, .int 0]))]) [0] rfl
    have hDc := hD.sub (ws' := [(q77, .inr (20, [.int 0, .ref q78, .int 0, .int 0, .ref q80, .ref q82, .ref q84, .ref q86, .ref q88, .ref q90, .ref q91, .ref q93, .ref q94, .ref q105, .ref q106, .ref q124, .ref q131, .int 0, .int 0, .int 0, .int 0, .int 0, .int 0, .int 0, .int 0, .int 0, .ref q132, .ref q133, .ref q134, .ref q135, .ref q136, .ref q137, .ref q138, .ref q139, .ref q140, .int 0]))]) [0] (by decide) rfl
    have hKc := hK.sub (tys' := []) [] rfl
    have hFc := va_free (wc := [(q77, .inr (20, [.int 0, .ref q78, .int 0, .int 0, .ref q80, .ref q82, .ref q84, .ref q86, .ref q88, .ref q90, .ref q91, .ref q93, .ref q94, .ref q105, .ref q106, .ref q124, .ref q131, .int 0, .int 0, .int 0, .int 0, .int 0, .int 0, .int 0, .int 0, .int 0, .ref q132, .ref q133, .ref q134, .ref q135, .ref q136, .ref q137, .ref q138, .ref q139, .ref q140, .int 0]))]) hD hS hA [0] rfl
    refine va_calli (va_runV (As := [.int x1, .long z506, .int x4]) (rest := []) ⟨hx, hb, hml, hown, hts⟩ (k_X19_outside l hlt dC dI q77 x1 z506 x4 q78 q80 q82 q84 q86 q88 q90 q91 q93 q94 q105 q106 q124 q131 q132 q133 q134 q135 q136 q137 q138 q139 q140  H.size) (cwV 3 hts gl_26 rfl rfl rfl (by decide +kernel) ⟨Nat.le_of_ble_eq_true rfl, Nat.le_of_ble_eq_true rfl⟩) ⟨fun a U g mk q => by obtain ⟨q0, q1, qP, qK, qD, qN⟩ := q; exact ⟨q0, q1, qP, va_K.moved (u := U) (U := U.calling g mk a) (Vm.Alike.refl U.vm) qK, qD, nv_same rfl rfl qN⟩, va_recv hKc hPc (ci := 20) (q0 := 0) rfl rfl, fun U hU hW => ⟨rfl, by rw [hU], by rw [hU]; exact hPc, va_K.moved hW.alike hKc, hDc.weaken (fun _ _ _ _ => trivial), nv_call hS hFc hU hW hN⟩⟩ rfl rfl hl.1 rfl (lv_room (Nat.le_of_ble_eq_true rfl)) dL_law_687 ⟨by decide +kernel, by decide +kernel⟩) hS (fun q _ h => hFc q h) hFc (fun r525 u t H1 locs ht hvm hw hB hz1 hk1 hS => ?_)
    rcases hw with ⟨c_3_0, c_3_1, c_3_2, c_3_3, c_3_4, h9, h8⟩ | ⟨c_3_0, c_3_1, c_3_2, c_3_3, c_3_4, h9, h8⟩ | ⟨c_3_0, c_3_1, c_3_2, c_3_3, c_3_4, h9, h8⟩ | ⟨c_3_0, c_3_1, c_3_2, c_3_3, c_3_4, c_3_5, h9, h8⟩ | ⟨c_3_0, c_3_1, c_3_2, c_3_3, c_3_4, c_3_5, h9, h8⟩ | ⟨c_3_0, c_3_1, c_3_2, c_3_3, h9, h8⟩ | ⟨c_3_0, c_3_1, c_3_2, c_3_3, c_3_4, h9, h8⟩ | ⟨c_3_0, c_3_1, c_3_2, c_3_3, c_3_4, c_3_5, h9, h8⟩ | ⟨c_3_0, c_3_1, c_3_2, c_3_3, c_3_4, c_3_5, c_3_6, h9, h8⟩ | ⟨c_3_0, c_3_1, c_3_2, c_3_3, c_3_4, c_3_5, c_3_6, h9, h8⟩ | ⟨c_3_0, c_3_1, c_3_2, h9, h8⟩ | ⟨c_3_0, c_3_1, c_3_2, c_3_3, h9, h8⟩ | ⟨c_3_0, c_3_1, c_3_2, c_3_3, h9, h8⟩ | ⟨c_3_0, c_3_1, h9, h8⟩ | ⟨c_3_0, c_3_1, c_3_2, h9, h8⟩ | ⟨c_3_0, c_3_1, c_3_2, h9, h8⟩ | h9
    · exact absurd c_1_0 c_3_0
    · exact absurd c_1_0 c_3_0
    · exact absurd c_1_0 c_3_0
    · exact absurd c_1_0 c_3_0
    · exact absurd c_1_0 c_3_0
    · exact absurd c_1_0 c_3_0
    · exact absurd c_1_0 c_3_0
    · exact absurd c_1_0 c_3_0
    · exact absurd c_1_0 c_3_0
    · exact absurd c_1_0 c_3_0
    · exact absurd c_1_0 c_3_0
    · exact absurd c_1_0 c_3_0
    · exact absurd c_1_0 c_3_0
    · exact absurd c_3_1 c_1_1
    · subst h9
      subst h8
      obtain ⟨hP1, hK1, hD1⟩ := hB
      rw [ht] at hP1
      have hK1 := va_K.moved hvm.symm hK1
      obtain ⟨hP, hD⟩ := va_join (wr := [(q143, .inl (y144, 1, .inr (.inl (fun _ => 0))))]) (w1 := [(q77, .inr (20, [.int 1, .ref q78, .int 0, .int 0, .ref q80, .ref q82, .ref q84, .ref q86, .ref q88, .ref q90, .ref q91, .ref q93, .ref q94, .ref q105, .ref q106, .ref q124, .ref q131, .int 0, .int 0, .int 0, .int 0, .int 0, .int 0, .int 0, .int 0, .int 0, .ref q132, .ref q133, .ref q134, .ref q135, .ref q136, .ref q137, .ref q138, .ref q139, .ref q140, .int 0]))]) hP hD [0] [1] rfl rfl (by decide) (by decide) hk1 hFc hP1 hD1
      have hK := (hK.sub (tys' := [(y144, .long)]) [0] rfl).app hK1
      generalize H1 = H at hP hS ⊢
      have hP : va_P (dC, dI) vwCl [(q143, .inl (y144, 1, .inr (.inl (fun _ => 0)))), (q77, .inr (20, [.int 1, .ref q78, .int 0, .int 0, .ref q80, .ref q82, .ref q84, .ref q86, .ref q88, .ref q90, .ref q91, .ref q93, .ref q94, .ref q105, .ref q106, .ref q124, .ref q131, .int 0, .int 0, .int 0, .int 0, .int 0, .int 0, .int 0, .int 0, .int 0, .ref q132, .ref q133, .ref q134, .ref q135, .ref q136, .ref q137, .ref q138, .ref q139, .ref q140, .int 0]))] H := hP
      have hD : va_D A [(q143, .inl (y144, 1, .inr (.inl (fun _ => 0)))), (q77, .inr (20, [.int 1, .ref q78, .int 0, .int 0, .ref q80, .ref q82, .ref q84, .ref q86, .ref q88, .ref q90, .ref q91, .ref q93, .ref q94, .ref q105, .ref q106, .ref q124, .ref q131, .int 0, .int 0, .int 0, .int 0, .int 0, .int 0, .int 0, .int 0, .int 0, .ref q132, .ref q133, .ref q134, .ref q135, .ref q136, .ref q137, .ref q138, .ref q139, .ref q140, .int 0]))] := hD
      have hK : va_K (dC, dI) vwCl [(y144, .long)] s := hK
      refine W.widen (k := 456) (n := 2511905) (by decide +kernel) (by decide +kernel) ?_
      refine lv_istore (lv' := [(6, .int 0), (5, .int 1), (4, .int 0), (3, .ref q143), (2, .ref q77), (1, .ref q1), (0, .ref b)]) hx hb dL_law_690 hl (by decide) rfl (fun ls hl => ?_)
      refine lv_aload_n hx hb dL_law_692 rfl (lv_at hl 4 rfl) ?_
      have hPc := hP.sub (ws' := [(q77, .inr (20, [.int 1, .ref q78, .int 0, .int 0, .ref q80, .ref q82, .ref q84, .ref q86, .ref q88, .ref q90, .ref q91, .ref q93, .ref q94, .ref q105, .ref q106, .ref q124, .ref q131, .int 0, .int 0, .int 0, .int 0, .int 0, .int 0, .int 0, .int 0, .int 0, .ref q132, .ref q133, .ref q134, .ref q135, .ref q136, .ref q137, .ref q138, .ref q139, .ref q140, .int 0]))]) [1] rfl
      have hDc := hD.sub (ws' := [(q77, .inr (20, [.int 1, .ref q78, .int 0, .int 0, .ref q80, .ref q82, .ref q84, .ref q86, .ref q88, .ref q90, .ref q91, .ref q93, .ref q94, .ref q105, .ref q106, .ref q124, .ref q131, .int 0, .int 0, .int 0, .int 0, .int 0, .int 0, .int 0, .int 0, .int 0, .ref q132, .ref q133, .ref q134, .ref q135, .ref q136, .ref q137, .ref q138, .ref q139, .ref q140, .int 0]))]) [1] (by decide) rfl
      have hKc := hK.sub (tys' := []) [] rfl
      have hFc := va_free (wc := [(q77, .inr (20, [.int 1, .ref q78, .int 0, .int 0, .ref q80, .ref q82, .ref q84, .ref q86, .ref q88, .ref q90, .ref q91, .ref q93, .ref q94, .ref q105, .ref q106, .ref q124, .ref q131, .int 0, .int 0, .int 0, .int 0, .int 0, .int 0, .int 0, .int 0, .int 0, .ref q132, .ref q133, .ref q134, .ref q135, .ref q136, .ref q137, .ref q138, .ref q139, .ref q140, .int 0]))]) hD hS hA [1] rfl
      refine va_calli (va_runV (As := []) (rest := []) ⟨hx, hb, hml, hown, hts⟩ (k_X19_thrown l hlt dC dI q77 q78 q80 q82 q84 q86 q88 q90 q91 q93 q94 q105 q106 q124 q131 q132 q133 q134 q135 q136 q137 q138 q139 q140  H.size) (cwV 0 hts gl_8 rfl rfl rfl (by decide +kernel) ⟨Nat.le_of_ble_eq_true rfl, Nat.le_of_ble_eq_true rfl⟩) ⟨fun a U g mk q => by obtain ⟨q0, q1, qP, qK, qD, qN⟩ := q; exact ⟨q0, q1, qP, va_K.moved (u := U) (U := U.calling g mk a) (Vm.Alike.refl U.vm) qK, qD, nv_same rfl rfl qN⟩, va_recv hKc hPc (ci := 20) (q0 := 0) rfl rfl, fun U hU hW => ⟨rfl, by rw [hU], by rw [hU]; exact hPc, va_K.moved hW.alike hKc, hDc.weaken (fun _ _ _ _ => trivial), nv_call hS hFc hU hW hN⟩⟩ rfl rfl hl.1 rfl (lv_room (Nat.le_of_ble_eq_true rfl)) dL_law_693 ⟨by decide +kernel, by decide +kernel⟩) hS (fun q _ h => hFc q h) hFc (fun r526 u t H1 locs ht hvm hw hB hz1 hk1 hS => ?_)
      obtain ⟨hP1, hK1, hD1⟩ := hB
      rw [ht] at hP1
      have hK1 := va_K.moved hvm.symm hK1
      obtain rfl : r526 = 1 := hw
      obtain ⟨hP, hD⟩ := va_join (wr := [(q143, .inl (y144, 1, .inr (.inl (fun _ => 0))))]) (w1 := [(q77, .inr (20, [.int 1, .ref q78, .int 0, .int 0, .ref q80, .ref q82, .ref q84, .ref q86, .ref q88, .ref q90, .ref q91, .ref q93, .ref q94, .ref q105, .ref q106, .ref q124, .ref q131, .int 0, .int 0, .int 0, .int 0, .int 0, .int 0, .int 0, .int 0, .int 0, .ref q132, .ref q133, .ref q134, .ref q135, .ref q136, .ref q137, .ref q138, .ref q139, .ref q140, .int 0]))]) hP hD [1] [0] rfl rfl (by decide) (by decide) hk1 hFc hP1 hD1
      have hK := (hK.sub (tys' := [(y144, .long)]) [0] rfl).app hK1
      generalize H1 = H at hP hS ⊢
      have hP : va_P (dC, dI) vwCl [(q143, .inl (y144, 1, .inr (.inl (fun _ => 0)))), (q77, .inr (20, [.int 1, .ref q78, .int 0, .int 0, .ref q80, .ref q82, .ref q84, .ref q86, .ref q88, .ref q90, .ref q91, .ref q93, .ref q94, .ref q105, .ref q106, .ref q124, .ref q131, .int 0, .int 0, .int 0, .int 0, .int 0, .int 0, .int 0, .int 0, .int 0, .ref q132, .ref q133, .ref q134, .ref q135, .ref q136, .ref q137, .ref q138, .ref q139, .ref q140, .int 0]))] H := hP
      have hD : va_D A [(q143, .inl (y144, 1, .inr (.inl (fun _ => 0)))), (q77, .inr (20, [.int 1, .ref q78, .int 0, .int 0, .ref q80, .ref q82, .ref q84, .ref q86, .ref q88, .ref q90, .ref q91, .ref q93, .ref q94, .ref q105, .ref q106, .ref q124, .ref q131, .int 0, .int 0, .int 0, .int 0, .int 0, .int 0, .int 0, .int 0, .int 0, .ref q132, .ref q133, .ref q134, .ref q135, .ref q136, .ref q137, .ref q138, .ref q139, .ref q140, .int 0]))] := hD
      have hK : va_K (dC, dI) vwCl [(y144, .long)] s := hK
      refine W.widen (k := 456) (n := 2511905) (by decide +kernel) (by decide +kernel) ?_
      refine lv_iload hx hb dL_law_696 (lv_at hl 1 rfl) ?_
      refine lv_icmp_eq (tgt := 703) hx hb dL_law_698 (by decide) (fun _ => ?_) (fun h9 => absurd (by decide) h9)
      refine lv_iload hx hb dL_law_703 (lv_at hl 1 rfl) ?_
      refine lv_if_ne (tgt := 720) hx hb dL_law_705 (by decide) (fun _ => ?_) (fun h9 => absurd h9 (by decide))
      refine lv_goto (tgt := 1493) hx hb dL_law_720 (by decide) ?_
      refine lv_iinc (v := 6) (lv' := [(4, .int 6), (6, .int 0), (5, .int 1), (3, .ref q143), (2, .ref q77), (1, .ref q1), (0, .ref b)]) hx hb dL_law_1493 hl (k := 2) rfl (by decide) (by decide) rfl (fun ls hl => ?_)
      refine lv_goto (tgt := 23) hx hb dL_law_1496 (by decide) ?_
      refine W.widen (k := 600002) (n := 7302232) (by decide +kernel) (by decide +kernel) ?_
      exact kkE _ _ _ hS (lv_sub hl [0, 6] rfl)
    · exact (cz_2 z506 c_1_1 c_1_2 c_3_2).elim
    · exact h9.elim
  · subst h9
    subst h8
    obtain ⟨hP1, hK1, hD1⟩ := hB
    rw [ht] at hP1
    have hK1 := va_K.moved hvm.symm hK1
    obtain ⟨hP, hD⟩ := va_join (wr := [(q77, .inr (20, [.int 0, .ref q78, .int 0, .int 0, .ref q80, .ref q82, .ref q84, .ref q86, .ref q88, .ref q90, .ref q91, .ref q93, .ref q94, .ref q105, .ref q106, .ref q124, .ref q131, .int 0, .int 0, .int 0, .int 0, .int 0, .int 0, .int 0, .int 0, .int 0, .ref q132, .ref q133, .ref q134, .ref q135, .ref q136, .ref q137, .ref q138, .ref q139, .ref q140, .int 0]))]) (w1 := [(q143, .inl (y144, 1, .inr (.inl (fun _ => 0))))]) hP hD [0, 1, 3] [2] rfl rfl (by decide) (by decide) hk1 hFc hP1 hD1
    have hK := (hK.sub (tys' := []) [] rfl).app hK1
    generalize H1 = H at hP hS ⊢
    have hP : va_P (dC, dI) vwCl [(q77, .inr (20, [.int 0, .ref q78, .int 0, .int 0, .ref q80, .ref q82, .ref q84, .ref q86, .ref q88, .ref q90, .ref q91, .ref q93, .ref q94, .ref q105, .ref q106, .ref q124, .ref q131, .int 0, .int 0, .int 0, .int 0, .int 0, .int 0, .int 0, .int 0, .int 0, .ref q132, .ref q133, .ref q134, .ref q135, .ref q136, .ref q137, .ref q138, .ref q139, .ref q140, .int 0])), (q143, .inl (y144, 1, .inr (.inl (fun _ => 0))))] H := hP
    have hD : va_D A [(q77, .inr (20, [.int 0, .ref q78, .int 0, .int 0, .ref q80, .ref q82, .ref q84, .ref q86, .ref q88, .ref q90, .ref q91, .ref q93, .ref q94, .ref q105, .ref q106, .ref q124, .ref q131, .int 0, .int 0, .int 0, .int 0, .int 0, .int 0, .int 0, .int 0, .int 0, .ref q132, .ref q133, .ref q134, .ref q135, .ref q136, .ref q137, .ref q138, .ref q139, .ref q140, .int 0])), (q143, .inl (y144, 1, .inr (.inl (fun _ => 0))))] := hD
    have hK : va_K (dC, dI) vwCl [(y144, .long)] s := hK
    refine W.widen (k := 456) (n := 2511905) (by decide +kernel) (by decide +kernel) ?_
    refine lv_istore (lv' := [(5, .int 2), (4, .int 0), (3, .ref q143), (2, .ref q77), (1, .ref q1), (0, .ref b)]) hx hb dL_law_650 hl (by decide) rfl (fun ls hl => ?_)
    refine lv_aload_n hx hb dL_law_652 rfl (lv_at hl 3 rfl) ?_
    refine lv_aload_n hx hb dL_law_653 rfl (lv_at hl 5 rfl) ?_
    refine lv_iload hx hb dL_law_654 (lv_at hl 1 rfl) ?_
    refine lv_iconst (v := 1) hx hb dL_law_656 (by decide) ?_
    refine lv_iadd hx hb dL_law_657 ?_
    refine lv_topi (fun z527 ez527 => ?_)
    obtain rfl : z527 = 1 := ez527.trans (by decide)
    refine va_sld (i := 1) hx hb hX hbl hbA hS (vp_in_iff.mpr ⟨by decide, by decide⟩) dL_law_658 ?_
    rw [es1]
    refine lv_aload_n hx hb dL_law_659 rfl (lv_at hl 5 rfl) ?_
    refine lv_iload hx hb dL_law_660 (lv_at hl 1 rfl) ?_
    refine lv_iconst (v := 2) hx hb dL_law_662 (by decide) ?_
    refine lv_iadd hx hb dL_law_663 ?_
    refine lv_topi (fun z528 ez528 => ?_)
    obtain rfl : z528 = 2 := ez528.trans (by decide)
    refine va_sld (i := 2) hx hb hX hbl hbA hS (vp_in_iff.mpr ⟨by decide, by decide⟩) dL_law_664 ?_
    rw [es2]
    refine lv_i2l hx hb dL_law_665 rfl ?_
    refine lv_bipush (v := 32) hx hb dL_law_666 (by decide) ?_
    refine lv_lshl hx hb dL_law_668 rfl ?_
    refine lv_topl (fun z529 ez529 => ?_)
    have h9 : z503 = z529 := ez503.trans ez529.symm; subst h9
    refine lv_aload_n hx hb dL_law_669 rfl (lv_at hl 5 rfl) ?_
    refine lv_iload hx hb dL_law_670 (lv_at hl 1 rfl) ?_
    refine lv_iconst (v := 3) hx hb dL_law_672 (by decide) ?_
    refine lv_iadd hx hb dL_law_673 ?_
    refine lv_topi (fun z530 ez530 => ?_)
    obtain rfl : z530 = 3 := ez530.trans (by decide)
    refine va_sld (i := 3) hx hb hX hbl hbA hS (vp_in_iff.mpr ⟨by decide, by decide⟩) dL_law_674 ?_
    rw [es3]
    refine lv_i2l hx hb dL_law_675 rfl ?_
    refine lv_ldc2 hx hb hown (hts (.constantLong RL 99 (4294967295)) tw_72) dL_law_676 ?_
    refine lv_land hx hb dL_law_679 ?_
    refine lv_topl (fun z531 ez531 => ?_)
    have h9 : z505 = z531 := ez505.trans ez531.symm; subst h9
    refine lv_lor hx hb dL_law_680 ?_
    refine lv_topl (fun z532 ez532 => ?_)
    have h9 : z506 = z532 := ez506.trans ez532.symm; subst h9
    refine lv_aload_n hx hb dL_law_681 rfl (lv_at hl 5 rfl) ?_
    refine lv_iload hx hb dL_law_682 (lv_at hl 1 rfl) ?_
    refine lv_iconst (v := 4) hx hb dL_law_684 (by decide) ?_
    refine lv_iadd hx hb dL_law_685 ?_
    refine lv_topi (fun z533 ez533 => ?_)
    obtain rfl : z533 = 4 := ez533.trans (by decide)
    refine va_sld (i := 4) hx hb hX hbl hbA hS (vp_in_iff.mpr ⟨by decide, by decide⟩) dL_law_686 ?_
    rw [es4]
    have hPc := hP.sub (ws' := [(q77, .inr (20, [.int 0, .ref q78, .int 0, .int 0, .ref q80, .ref q82, .ref q84, .ref q86, .ref q88, .ref q90, .ref q91, .ref q93, .ref q94, .ref q105, .ref q106, .ref q124, .ref q131, .int 0, .int 0, .int 0, .int 0, .int 0, .int 0, .int 0, .int 0, .int 0, .ref q132, .ref q133, .ref q134, .ref q135, .ref q136, .ref q137, .ref q138, .ref q139, .ref q140, .int 0]))]) [0] rfl
    have hDc := hD.sub (ws' := [(q77, .inr (20, [.int 0, .ref q78, .int 0, .int 0, .ref q80, .ref q82, .ref q84, .ref q86, .ref q88, .ref q90, .ref q91, .ref q93, .ref q94, .ref q105, .ref q106, .ref q124, .ref q131, .int 0, .int 0, .int 0, .int 0, .int 0, .int 0, .int 0, .int 0, .int 0, .ref q132, .ref q133, .ref q134, .ref q135, .ref q136, .ref q137, .ref q138, .ref q139, .ref q140, .int 0]))]) [0] (by decide) rfl
    have hKc := hK.sub (tys' := []) [] rfl
    have hFc := va_free (wc := [(q77, .inr (20, [.int 0, .ref q78, .int 0, .int 0, .ref q80, .ref q82, .ref q84, .ref q86, .ref q88, .ref q90, .ref q91, .ref q93, .ref q94, .ref q105, .ref q106, .ref q124, .ref q131, .int 0, .int 0, .int 0, .int 0, .int 0, .int 0, .int 0, .int 0, .int 0, .ref q132, .ref q133, .ref q134, .ref q135, .ref q136, .ref q137, .ref q138, .ref q139, .ref q140, .int 0]))]) hD hS hA [0] rfl
    refine va_calli (va_runV (As := [.int x1, .long z506, .int x4]) (rest := []) ⟨hx, hb, hml, hown, hts⟩ (k_X19_outside l hlt dC dI q77 x1 z506 x4 q78 q80 q82 q84 q86 q88 q90 q91 q93 q94 q105 q106 q124 q131 q132 q133 q134 q135 q136 q137 q138 q139 q140  H.size) (cwV 3 hts gl_26 rfl rfl rfl (by decide +kernel) ⟨Nat.le_of_ble_eq_true rfl, Nat.le_of_ble_eq_true rfl⟩) ⟨fun a U g mk q => by obtain ⟨q0, q1, qP, qK, qD, qN⟩ := q; exact ⟨q0, q1, qP, va_K.moved (u := U) (U := U.calling g mk a) (Vm.Alike.refl U.vm) qK, qD, nv_same rfl rfl qN⟩, va_recv hKc hPc (ci := 20) (q0 := 0) rfl rfl, fun U hU hW => ⟨rfl, by rw [hU], by rw [hU]; exact hPc, va_K.moved hW.alike hKc, hDc.weaken (fun _ _ _ _ => trivial), nv_call hS hFc hU hW hN⟩⟩ rfl rfl hl.1 rfl (lv_room (Nat.le_of_ble_eq_true rfl)) dL_law_687 ⟨by decide +kernel, by decide +kernel⟩) hS (fun q _ h => hFc q h) hFc (fun r534 u t H1 locs ht hvm hw hB hz1 hk1 hS => ?_)
    rcases hw with ⟨c_4_0, c_4_1, c_4_2, c_4_3, c_4_4, h9, h8⟩ | ⟨c_4_0, c_4_1, c_4_2, c_4_3, c_4_4, h9, h8⟩ | ⟨c_4_0, c_4_1, c_4_2, c_4_3, c_4_4, h9, h8⟩ | ⟨c_4_0, c_4_1, c_4_2, c_4_3, c_4_4, c_4_5, h9, h8⟩ | ⟨c_4_0, c_4_1, c_4_2, c_4_3, c_4_4, c_4_5, h9, h8⟩ | ⟨c_4_0, c_4_1, c_4_2, c_4_3, h9, h8⟩ | ⟨c_4_0, c_4_1, c_4_2, c_4_3, c_4_4, h9, h8⟩ | ⟨c_4_0, c_4_1, c_4_2, c_4_3, c_4_4, c_4_5, h9, h8⟩ | ⟨c_4_0, c_4_1, c_4_2, c_4_3, c_4_4, c_4_5, c_4_6, h9, h8⟩ | ⟨c_4_0, c_4_1, c_4_2, c_4_3, c_4_4, c_4_5, c_4_6, h9, h8⟩ | ⟨c_4_0, c_4_1, c_4_2, h9, h8⟩ | ⟨c_4_0, c_4_1, c_4_2, c_4_3, h9, h8⟩ | ⟨c_4_0, c_4_1, c_4_2, c_4_3, h9, h8⟩ | ⟨c_4_0, c_4_1, h9, h8⟩ | ⟨c_4_0, c_4_1, c_4_2, h9, h8⟩ | ⟨c_4_0, c_4_1, c_4_2, h9, h8⟩ | h9
    · exact absurd c_1_0 c_4_0
    · exact absurd c_1_0 c_4_0
    · exact absurd c_1_0 c_4_0
    · exact absurd c_1_0 c_4_0
    · exact absurd c_1_0 c_4_0
    · exact absurd c_1_0 c_4_0
    · exact absurd c_1_0 c_4_0
    · exact absurd c_1_0 c_4_0
    · exact absurd c_1_0 c_4_0
    · exact absurd c_1_0 c_4_0
    · exact absurd c_1_0 c_4_0
    · exact absurd c_1_0 c_4_0
    · exact absurd c_1_0 c_4_0
    · exact absurd c_4_1 c_1_1
    · exact (cz_3 z506 c_1_1 c_1_2 c_4_2).elim
    · subst h9
      subst h8
      obtain ⟨hP1, hK1, hD1⟩ := hB
      rw [ht] at hP1
      have hK1 := va_K.moved hvm.symm hK1
      obtain ⟨hP, hD⟩ := va_join (wr := [(q143, .inl (y144, 1, .inr (.inl (fun _ => 0))))]) (w1 := [(q77, .inr (20, [.int 2, .ref q78, .int 0, .int 0, .ref q80, .ref q82, .ref q84, .ref q86, .ref q88, .ref q90, .ref q91, .ref q93, .ref q94, .ref q105, .ref q106, .ref q124, .ref q131, .int 0, .int 0, .int 0, .int 0, .int 0, .int 0, .int 0, .int 0, .int 0, .ref q132, .ref q133, .ref q134, .ref q135, .ref q136, .ref q137, .ref q138, .ref q139, .ref q140, .int 0]))]) hP hD [0] [1] rfl rfl (by decide) (by decide) hk1 hFc hP1 hD1
      have hK := (hK.sub (tys' := [(y144, .long)]) [0] rfl).app hK1
      generalize H1 = H at hP hS ⊢
      have hP : va_P (dC, dI) vwCl [(q143, .inl (y144, 1, .inr (.inl (fun _ => 0)))), (q77, .inr (20, [.int 2, .ref q78, .int 0, .int 0, .ref q80, .ref q82, .ref q84, .ref q86, .ref q88, .ref q90, .ref q91, .ref q93, .ref q94, .ref q105, .ref q106, .ref q124, .ref q131, .int 0, .int 0, .int 0, .int 0, .int 0, .int 0, .int 0, .int 0, .int 0, .ref q132, .ref q133, .ref q134, .ref q135, .ref q136, .ref q137, .ref q138, .ref q139, .ref q140, .int 0]))] H := hP
      have hD : va_D A [(q143, .inl (y144, 1, .inr (.inl (fun _ => 0)))), (q77, .inr (20, [.int 2, .ref q78, .int 0, .int 0, .ref q80, .ref q82, .ref q84, .ref q86, .ref q88, .ref q90, .ref q91, .ref q93, .ref q94, .ref q105, .ref q106, .ref q124, .ref q131, .int 0, .int 0, .int 0, .int 0, .int 0, .int 0, .int 0, .int 0, .int 0, .ref q132, .ref q133, .ref q134, .ref q135, .ref q136, .ref q137, .ref q138, .ref q139, .ref q140, .int 0]))] := hD
      have hK : va_K (dC, dI) vwCl [(y144, .long)] s := hK
      refine W.widen (k := 456) (n := 2511905) (by decide +kernel) (by decide +kernel) ?_
      refine lv_istore (lv' := [(6, .int 0), (5, .int 2), (4, .int 0), (3, .ref q143), (2, .ref q77), (1, .ref q1), (0, .ref b)]) hx hb dL_law_690 hl (by decide) rfl (fun ls hl => ?_)
      refine lv_aload_n hx hb dL_law_692 rfl (lv_at hl 4 rfl) ?_
      have hPc := hP.sub (ws' := [(q77, .inr (20, [.int 2, .ref q78, .int 0, .int 0, .ref q80, .ref q82, .ref q84, .ref q86, .ref q88, .ref q90, .ref q91, .ref q93, .ref q94, .ref q105, .ref q106, .ref q124, .ref q131, .int 0, .int 0, .int 0, .int 0, .int 0, .int 0, .int 0, .int 0, .int 0, .ref q132, .ref q133, .ref q134, .ref q135, .ref q136, .ref q137, .ref q138, .ref q139, .ref q140, .int 0]))]) [1] rfl
      have hDc := hD.sub (ws' := [(q77, .inr (20, [.int 2, .ref q78, .int 0, .int 0, .ref q80, .ref q82, .ref q84, .ref q86, .ref q88, .ref q90, .ref q91, .ref q93, .ref q94, .ref q105, .ref q106, .ref q124, .ref q131, .int 0, .int 0, .int 0, .int 0, .int 0, .int 0, .int 0, .int 0, .int 0, .ref q132, .ref q133, .ref q134, .ref q135, .ref q136, .ref q137, .ref q138, .ref q139, .ref q140, .int 0]))]) [1] (by decide) rfl
      have hKc := hK.sub (tys' := []) [] rfl
      have hFc := va_free (wc := [(q77, .inr (20, [.int 2, .ref q78, .int 0, .int 0, .ref q80, .ref q82, .ref q84, .ref q86, .ref q88, .ref q90, .ref q91, .ref q93, .ref q94, .ref q105, .ref q106, .ref q124, .ref q131, .int 0, .int 0, .int 0, .int 0, .int 0, .int 0, .int 0, .int 0, .int 0, .ref q132, .ref q133, .ref q134, .ref q135, .ref q136, .ref q137, .ref q138, .ref q139, .ref q140, .int 0]))]) hD hS hA [1] rfl
      refine va_calli (va_runV (As := []) (rest := []) ⟨hx, hb, hml, hown, hts⟩ (k_X19_thrown_v2 l hlt dC dI q77 q78 q80 q82 q84 q86 q88 q90 q91 q93 q94 q105 q106 q124 q131 q132 q133 q134 q135 q136 q137 q138 q139 q140  H.size) (cwV 0 hts gl_22 rfl rfl rfl (by decide +kernel) ⟨Nat.le_of_ble_eq_true rfl, Nat.le_of_ble_eq_true rfl⟩) ⟨fun a U g mk q => by obtain ⟨q0, q1, qP, qK, qD, qN⟩ := q; exact ⟨q0, q1, qP, va_K.moved (u := U) (U := U.calling g mk a) (Vm.Alike.refl U.vm) qK, qD, nv_same rfl rfl qN⟩, va_recv hKc hPc (ci := 20) (q0 := 0) rfl rfl, fun U hU hW => ⟨rfl, by rw [hU], by rw [hU]; exact hPc, va_K.moved hW.alike hKc, hDc.weaken (fun _ _ _ _ => trivial), nv_call hS hFc hU hW hN⟩⟩ rfl rfl hl.1 rfl (lv_room (Nat.le_of_ble_eq_true rfl)) dL_law_693 ⟨by decide +kernel, by decide +kernel⟩) hS (fun q _ h => hFc q h) hFc (fun r535 u t H1 locs ht hvm hw hB hz1 hk1 hS => ?_)
      obtain ⟨hP1, hK1, hD1⟩ := hB
      rw [ht] at hP1
      have hK1 := va_K.moved hvm.symm hK1
      obtain rfl : r535 = 2 := hw
      obtain ⟨hP, hD⟩ := va_join (wr := [(q143, .inl (y144, 1, .inr (.inl (fun _ => 0))))]) (w1 := [(q77, .inr (20, [.int 2, .ref q78, .int 0, .int 0, .ref q80, .ref q82, .ref q84, .ref q86, .ref q88, .ref q90, .ref q91, .ref q93, .ref q94, .ref q105, .ref q106, .ref q124, .ref q131, .int 0, .int 0, .int 0, .int 0, .int 0, .int 0, .int 0, .int 0, .int 0, .ref q132, .ref q133, .ref q134, .ref q135, .ref q136, .ref q137, .ref q138, .ref q139, .ref q140, .int 0]))]) hP hD [1] [0] rfl rfl (by decide) (by decide) hk1 hFc hP1 hD1
      have hK := (hK.sub (tys' := [(y144, .long)]) [0] rfl).app hK1
      generalize H1 = H at hP hS ⊢
      have hP : va_P (dC, dI) vwCl [(q143, .inl (y144, 1, .inr (.inl (fun _ => 0)))), (q77, .inr (20, [.int 2, .ref q78, .int 0, .int 0, .ref q80, .ref q82, .ref q84, .ref q86, .ref q88, .ref q90, .ref q91, .ref q93, .ref q94, .ref q105, .ref q106, .ref q124, .ref q131, .int 0, .int 0, .int 0, .int 0, .int 0, .int 0, .int 0, .int 0, .int 0, .ref q132, .ref q133, .ref q134, .ref q135, .ref q136, .ref q137, .ref q138, .ref q139, .ref q140, .int 0]))] H := hP
      have hD : va_D A [(q143, .inl (y144, 1, .inr (.inl (fun _ => 0)))), (q77, .inr (20, [.int 2, .ref q78, .int 0, .int 0, .ref q80, .ref q82, .ref q84, .ref q86, .ref q88, .ref q90, .ref q91, .ref q93, .ref q94, .ref q105, .ref q106, .ref q124, .ref q131, .int 0, .int 0, .int 0, .int 0, .int 0, .int 0, .int 0, .int 0, .int 0, .ref q132, .ref q133, .ref q134, .ref q135, .ref q136, .ref q137, .ref q138, .ref q139, .ref q140, .int 0]))] := hD
      have hK : va_K (dC, dI) vwCl [(y144, .long)] s := hK
      refine W.widen (k := 456) (n := 2511905) (by decide +kernel) (by decide +kernel) ?_
      refine lv_iload hx hb dL_law_696 (lv_at hl 1 rfl) ?_
      refine lv_icmp_eq (tgt := 703) hx hb dL_law_698 (by decide) (fun _ => ?_) (fun h9 => absurd (by decide) h9)
      refine lv_iload hx hb dL_law_703 (lv_at hl 1 rfl) ?_
      refine lv_if_ne (tgt := 720) hx hb dL_law_705 (by decide) (fun _ => ?_) (fun h9 => absurd h9 (by decide))
      refine lv_goto (tgt := 1493) hx hb dL_law_720 (by decide) ?_
      refine lv_iinc (v := 6) (lv' := [(4, .int 6), (6, .int 0), (5, .int 2), (3, .ref q143), (2, .ref q77), (1, .ref q1), (0, .ref b)]) hx hb dL_law_1493 hl (k := 2) rfl (by decide) (by decide) rfl (fun ls hl => ?_)
      refine lv_goto (tgt := 23) hx hb dL_law_1496 (by decide) ?_
      refine W.widen (k := 600002) (n := 7302232) (by decide +kernel) (by decide +kernel) ?_
      exact kkE _ _ _ hS (lv_sub hl [0, 6] rfl)
    · exact h9.elim
  · subst h9
    subst h8
    obtain ⟨hP1, hK1, hD1⟩ := hB
    rw [ht] at hP1
    have hK1 := va_K.moved hvm.symm hK1
    obtain ⟨hP, hD⟩ := va_join (wr := [(q77, .inr (20, [.int 0, .ref q78, .int 0, .int 0, .ref q80, .ref q82, .ref q84, .ref q86, .ref q88, .ref q90, .ref q91, .ref q93, .ref q94, .ref q105, .ref q106, .ref q124, .ref q131, .int 0, .int 0, .int 0, .int 0, .int 0, .int 0, .int 0, .int 0, .int 0, .ref q132, .ref q133, .ref q134, .ref q135, .ref q136, .ref q137, .ref q138, .ref q139, .ref q140, .int 0]))]) (w1 := [(q143, .inl (y144, 1, .inr (.inl (fun _ => 0))))]) hP hD [0, 1, 3] [2] rfl rfl (by decide) (by decide) hk1 hFc hP1 hD1
    have hK := (hK.sub (tys' := []) [] rfl).app hK1
    generalize H1 = H at hP hS ⊢
    have hP : va_P (dC, dI) vwCl [(q77, .inr (20, [.int 0, .ref q78, .int 0, .int 0, .ref q80, .ref q82, .ref q84, .ref q86, .ref q88, .ref q90, .ref q91, .ref q93, .ref q94, .ref q105, .ref q106, .ref q124, .ref q131, .int 0, .int 0, .int 0, .int 0, .int 0, .int 0, .int 0, .int 0, .int 0, .ref q132, .ref q133, .ref q134, .ref q135, .ref q136, .ref q137, .ref q138, .ref q139, .ref q140, .int 0])), (q143, .inl (y144, 1, .inr (.inl (fun _ => 0))))] H := hP
    have hD : va_D A [(q77, .inr (20, [.int 0, .ref q78, .int 0, .int 0, .ref q80, .ref q82, .ref q84, .ref q86, .ref q88, .ref q90, .ref q91, .ref q93, .ref q94, .ref q105, .ref q106, .ref q124, .ref q131, .int 0, .int 0, .int 0, .int 0, .int 0, .int 0, .int 0, .int 0, .int 0, .ref q132, .ref q133, .ref q134, .ref q135, .ref q136, .ref q137, .ref q138, .ref q139, .ref q140, .int 0])), (q143, .inl (y144, 1, .inr (.inl (fun _ => 0))))] := hD
    have hK : va_K (dC, dI) vwCl [(y144, .long)] s := hK
    refine W.widen (k := 456) (n := 2511905) (by decide +kernel) (by decide +kernel) ?_
    refine lv_istore (lv' := [(5, .int 1), (4, .int 0), (3, .ref q143), (2, .ref q77), (1, .ref q1), (0, .ref b)]) hx hb dL_law_650 hl (by decide) rfl (fun ls hl => ?_)
    refine lv_aload_n hx hb dL_law_652 rfl (lv_at hl 3 rfl) ?_
    refine lv_aload_n hx hb dL_law_653 rfl (lv_at hl 5 rfl) ?_
    refine lv_iload hx hb dL_law_654 (lv_at hl 1 rfl) ?_
    refine lv_iconst (v := 1) hx hb dL_law_656 (by decide) ?_
    refine lv_iadd hx hb dL_law_657 ?_
    refine lv_topi (fun z536 ez536 => ?_)
    obtain rfl : z536 = 1 := ez536.trans (by decide)
    refine va_sld (i := 1) hx hb hX hbl hbA hS (vp_in_iff.mpr ⟨by decide, by decide⟩) dL_law_658 ?_
    rw [es1]
    refine lv_aload_n hx hb dL_law_659 rfl (lv_at hl 5 rfl) ?_
    refine lv_iload hx hb dL_law_660 (lv_at hl 1 rfl) ?_
    refine lv_iconst (v := 2) hx hb dL_law_662 (by decide) ?_
    refine lv_iadd hx hb dL_law_663 ?_
    refine lv_topi (fun z537 ez537 => ?_)
    obtain rfl : z537 = 2 := ez537.trans (by decide)
    refine va_sld (i := 2) hx hb hX hbl hbA hS (vp_in_iff.mpr ⟨by decide, by decide⟩) dL_law_664 ?_
    rw [es2]
    refine lv_i2l hx hb dL_law_665 rfl ?_
    refine lv_bipush (v := 32) hx hb dL_law_666 (by decide) ?_
    refine lv_lshl hx hb dL_law_668 rfl ?_
    refine lv_topl (fun z538 ez538 => ?_)
    have h9 : z503 = z538 := ez503.trans ez538.symm; subst h9
    refine lv_aload_n hx hb dL_law_669 rfl (lv_at hl 5 rfl) ?_
    refine lv_iload hx hb dL_law_670 (lv_at hl 1 rfl) ?_
    refine lv_iconst (v := 3) hx hb dL_law_672 (by decide) ?_
    refine lv_iadd hx hb dL_law_673 ?_
    refine lv_topi (fun z539 ez539 => ?_)
    obtain rfl : z539 = 3 := ez539.trans (by decide)
    refine va_sld (i := 3) hx hb hX hbl hbA hS (vp_in_iff.mpr ⟨by decide, by decide⟩) dL_law_674 ?_
    rw [es3]
    refine lv_i2l hx hb dL_law_675 rfl ?_
    refine lv_ldc2 hx hb hown (hts (.constantLong RL 99 (4294967295)) tw_72) dL_law_676 ?_
    refine lv_land hx hb dL_law_679 ?_
    refine lv_topl (fun z540 ez540 => ?_)
    have h9 : z505 = z540 := ez505.trans ez540.symm; subst h9
    refine lv_lor hx hb dL_law_680 ?_
    refine lv_topl (fun z541 ez541 => ?_)
    have h9 : z506 = z541 := ez506.trans ez541.symm; subst h9
    refine lv_aload_n hx hb dL_law_681 rfl (lv_at hl 5 rfl) ?_
    refine lv_iload hx hb dL_law_682 (lv_at hl 1 rfl) ?_
    refine lv_iconst (v := 4) hx hb dL_law_684 (by decide) ?_
    refine lv_iadd hx hb dL_law_685 ?_
    refine lv_topi (fun z542 ez542 => ?_)
    obtain rfl : z542 = 4 := ez542.trans (by decide)
    refine va_sld (i := 4) hx hb hX hbl hbA hS (vp_in_iff.mpr ⟨by decide, by decide⟩) dL_law_686 ?_
    rw [es4]
    have hPc := hP.sub (ws' := [(q77, .inr (20, [.int 0, .ref q78, .int 0, .int 0, .ref q80, .ref q82, .ref q84, .ref q86, .ref q88, .ref q90, .ref q91, .ref q93, .ref q94, .ref q105, .ref q106, .ref q124, .ref q131, .int 0, .int 0, .int 0, .int 0, .int 0, .int 0, .int 0, .int 0, .int 0, .ref q132, .ref q133, .ref q134, .ref q135, .ref q136, .ref q137, .ref q138, .ref q139, .ref q140, .int 0]))]) [0] rfl
    have hDc := hD.sub (ws' := [(q77, .inr (20, [.int 0, .ref q78, .int 0, .int 0, .ref q80, .ref q82, .ref q84, .ref q86, .ref q88, .ref q90, .ref q91, .ref q93, .ref q94, .ref q105, .ref q106, .ref q124, .ref q131, .int 0, .int 0, .int 0, .int 0, .int 0, .int 0, .int 0, .int 0, .int 0, .ref q132, .ref q133, .ref q134, .ref q135, .ref q136, .ref q137, .ref q138, .ref q139, .ref q140, .int 0]))]) [0] (by decide) rfl
    have hKc := hK.sub (tys' := []) [] rfl
    have hFc := va_free (wc := [(q77, .inr (20, [.int 0, .ref q78, .int 0, .int 0, .ref q80, .ref q82, .ref q84, .ref q86, .ref q88, .ref q90, .ref q91, .ref q93, .ref q94, .ref q105, .ref q106, .ref q124, .ref q131, .int 0, .int 0, .int 0, .int 0, .int 0, .int 0, .int 0, .int 0, .int 0, .ref q132, .ref q133, .ref q134, .ref q135, .ref q136, .ref q137, .ref q138, .ref q139, .ref q140, .int 0]))]) hD hS hA [0] rfl
    refine va_calli (va_runV (As := [.int x1, .long z506, .int x4]) (rest := []) ⟨hx, hb, hml, hown, hts⟩ (k_X19_outside l hlt dC dI q77 x1 z506 x4 q78 q80 q82 q84 q86 q88 q90 q91 q93 q94 q105 q106 q124 q131 q132 q133 q134 q135 q136 q137 q138 q139 q140  H.size) (cwV 3 hts gl_26 rfl rfl rfl (by decide +kernel) ⟨Nat.le_of_ble_eq_true rfl, Nat.le_of_ble_eq_true rfl⟩) ⟨fun a U g mk q => by obtain ⟨q0, q1, qP, qK, qD, qN⟩ := q; exact ⟨q0, q1, qP, va_K.moved (u := U) (U := U.calling g mk a) (Vm.Alike.refl U.vm) qK, qD, nv_same rfl rfl qN⟩, va_recv hKc hPc (ci := 20) (q0 := 0) rfl rfl, fun U hU hW => ⟨rfl, by rw [hU], by rw [hU]; exact hPc, va_K.moved hW.alike hKc, hDc.weaken (fun _ _ _ _ => trivial), nv_call hS hFc hU hW hN⟩⟩ rfl rfl hl.1 rfl (lv_room (Nat.le_of_ble_eq_true rfl)) dL_law_687 ⟨by decide +kernel, by decide +kernel⟩) hS (fun q _ h => hFc q h) hFc (fun r543 u t H1 locs ht hvm hw hB hz1 hk1 hS => ?_)
    rcases hw with ⟨c_5_0, c_5_1, c_5_2, c_5_3, c_5_4, h9, h8⟩ | ⟨c_5_0, c_5_1, c_5_2, c_5_3, c_5_4, h9, h8⟩ | ⟨c_5_0, c_5_1, c_5_2, c_5_3, c_5_4, h9, h8⟩ | ⟨c_5_0, c_5_1, c_5_2, c_5_3, c_5_4, c_5_5, h9, h8⟩ | ⟨c_5_0, c_5_1, c_5_2, c_5_3, c_5_4, c_5_5, h9, h8⟩ | ⟨c_5_0, c_5_1, c_5_2, c_5_3, h9, h8⟩ | ⟨c_5_0, c_5_1, c_5_2, c_5_3, c_5_4, h9, h8⟩ | ⟨c_5_0, c_5_1, c_5_2, c_5_3, c_5_4, c_5_5, h9, h8⟩ | ⟨c_5_0, c_5_1, c_5_2, c_5_3, c_5_4, c_5_5, c_5_6, h9, h8⟩ | ⟨c_5_0, c_5_1, c_5_2, c_5_3, c_5_4, c_5_5, c_5_6, h9, h8⟩ | ⟨c_5_0, c_5_1, c_5_2, h9, h8⟩ | ⟨c_5_0, c_5_1, c_5_2, c_5_3, h9, h8⟩ | ⟨c_5_0, c_5_1, c_5_2, c_5_3, h9, h8⟩ | ⟨c_5_0, c_5_1, h9, h8⟩ | ⟨c_5_0, c_5_1, c_5_2, h9, h8⟩ | ⟨c_5_0, c_5_1, c_5_2, h9, h8⟩ | h9
    · exact absurd c_1_1 c_5_1
    · exact absurd c_1_1 c_5_1
    · exact absurd c_1_1 c_5_1
    · exact absurd c_1_1 c_5_1
    · exact absurd c_1_1 c_5_1
    · exact absurd c_1_1 c_5_1
    · exact absurd c_1_1 c_5_1
    · exact absurd c_1_1 c_5_1
    · exact absurd c_1_1 c_5_1
    · exact absurd c_1_1 c_5_1
    · subst h9
      subst h8
      obtain ⟨hP1, hK1, hD1⟩ := hB
      rw [ht] at hP1
      have hK1 := va_K.moved hvm.symm hK1
      obtain ⟨hP, hD⟩ := va_join (wr := [(q143, .inl (y144, 1, .inr (.inl (fun _ => 0))))]) (w1 := [(q77, .inr (20, [.int 1, .ref q78, .int 0, .int 0, .ref q80, .ref q82, .ref q84, .ref q86, .ref q88, .ref q90, .ref q91, .ref q93, .ref q94, .ref q105, .ref q106, .ref q124, .ref q131, .int 0, .int 0, .int 0, .int 0, .int 0, .int 0, .int 0, .int 0, .int 0, .ref q132, .ref q133, .ref q134, .ref q135, .ref q136, .ref q137, .ref q138, .ref q139, .ref q140, .int 0]))]) hP hD [0] [1] rfl rfl (by decide) (by decide) hk1 hFc hP1 hD1
      have hK := (hK.sub (tys' := [(y144, .long)]) [0] rfl).app hK1
      generalize H1 = H at hP hS ⊢
      have hP : va_P (dC, dI) vwCl [(q143, .inl (y144, 1, .inr (.inl (fun _ => 0)))), (q77, .inr (20, [.int 1, .ref q78, .int 0, .int 0, .ref q80, .ref q82, .ref q84, .ref q86, .ref q88, .ref q90, .ref q91, .ref q93, .ref q94, .ref q105, .ref q106, .ref q124, .ref q131, .int 0, .int 0, .int 0, .int 0, .int 0, .int 0, .int 0, .int 0, .int 0, .ref q132, .ref q133, .ref q134, .ref q135, .ref q136, .ref q137, .ref q138, .ref q139, .ref q140, .int 0]))] H := hP
      have hD : va_D A [(q143, .inl (y144, 1, .inr (.inl (fun _ => 0)))), (q77, .inr (20, [.int 1, .ref q78, .int 0, .int 0, .ref q80, .ref q82, .ref q84, .ref q86, .ref q88, .ref q90, .ref q91, .ref q93, .ref q94, .ref q105, .ref q106, .ref q124, .ref q131, .int 0, .int 0, .int 0, .int 0, .int 0, .int 0, .int 0, .int 0, .int 0, .ref q132, .ref q133, .ref q134, .ref q135, .ref q136, .ref q137, .ref q138, .ref q139, .ref q140, .int 0]))] := hD
      have hK : va_K (dC, dI) vwCl [(y144, .long)] s := hK
      refine W.widen (k := 456) (n := 2511905) (by decide +kernel) (by decide +kernel) ?_
      refine lv_istore (lv' := [(6, .int 0), (5, .int 1), (4, .int 0), (3, .ref q143), (2, .ref q77), (1, .ref q1), (0, .ref b)]) hx hb dL_law_690 hl (by decide) rfl (fun ls hl => ?_)
      refine lv_aload_n hx hb dL_law_692 rfl (lv_at hl 4 rfl) ?_
      have hPc := hP.sub (ws' := [(q77, .inr (20, [.int 1, .ref q78, .int 0, .int 0, .ref q80, .ref q82, .ref q84, .ref q86, .ref q88, .ref q90, .ref q91, .ref q93, .ref q94, .ref q105, .ref q106, .ref q124, .ref q131, .int 0, .int 0, .int 0, .int 0, .int 0, .int 0, .int 0, .int 0, .int 0, .ref q132, .ref q133, .ref q134, .ref q135, .ref q136, .ref q137, .ref q138, .ref q139, .ref q140, .int 0]))]) [1] rfl
      have hDc := hD.sub (ws' := [(q77, .inr (20, [.int 1, .ref q78, .int 0, .int 0, .ref q80, .ref q82, .ref q84, .ref q86, .ref q88, .ref q90, .ref q91, .ref q93, .ref q94, .ref q105, .ref q106, .ref q124, .ref q131, .int 0, .int 0, .int 0, .int 0, .int 0, .int 0, .int 0, .int 0, .int 0, .ref q132, .ref q133, .ref q134, .ref q135, .ref q136, .ref q137, .ref q138, .ref q139, .ref q140, .int 0]))]) [1] (by decide) rfl
      have hKc := hK.sub (tys' := []) [] rfl
      have hFc := va_free (wc := [(q77, .inr (20, [.int 1, .ref q78, .int 0, .int 0, .ref q80, .ref q82, .ref q84, .ref q86, .ref q88, .ref q90, .ref q91, .ref q93, .ref q94, .ref q105, .ref q106, .ref q124, .ref q131, .int 0, .int 0, .int 0, .int 0, .int 0, .int 0, .int 0, .int 0, .int 0, .ref q132, .ref q133, .ref q134, .ref q135, .ref q136, .ref q137, .ref q138, .ref q139, .ref q140, .int 0]))]) hD hS hA [1] rfl
      refine va_calli (va_runV (As := []) (rest := []) ⟨hx, hb, hml, hown, hts⟩ (k_X19_thrown l hlt dC dI q77 q78 q80 q82 q84 q86 q88 q90 q91 q93 q94 q105 q106 q124 q131 q132 q133 q134 q135 q136 q137 q138 q139 q140  H.size) (cwV 0 hts gl_8 rfl rfl rfl (by decide +kernel) ⟨Nat.le_of_ble_eq_true rfl, Nat.le_of_ble_eq_true rfl⟩) ⟨fun a U g mk q => by obtain ⟨q0, q1, qP, qK, qD, qN⟩ := q; exact ⟨q0, q1, qP, va_K.moved (u := U) (U := U.calling g mk a) (Vm.Alike.refl U.vm) qK, qD, nv_same rfl rfl qN⟩, va_recv hKc hPc (ci := 20) (q0 := 0) rfl rfl, fun U hU hW => ⟨rfl, by rw [hU], by rw [hU]; exact hPc, va_K.moved hW.alike hKc, hDc.weaken (fun _ _ _ _ => trivial), nv_call hS hFc hU hW hN⟩⟩ rfl rfl hl.1 rfl (lv_room (Nat.le_of_ble_eq_true rfl)) dL_law_693 ⟨by decide +kernel, by decide +kernel⟩) hS (fun q _ h => hFc q h) hFc (fun r544 u t H1 locs ht hvm hw hB hz1 hk1 hS => ?_)
      obtain ⟨hP1, hK1, hD1⟩ := hB
      rw [ht] at hP1
      have hK1 := va_K.moved hvm.symm hK1
      obtain rfl : r544 = 1 := hw
      obtain ⟨hP, hD⟩ := va_join (wr := [(q143, .inl (y144, 1, .inr (.inl (fun _ => 0))))]) (w1 := [(q77, .inr (20, [.int 1, .ref q78, .int 0, .int 0, .ref q80, .ref q82, .ref q84, .ref q86, .ref q88, .ref q90, .ref q91, .ref q93, .ref q94, .ref q105, .ref q106, .ref q124, .ref q131, .int 0, .int 0, .int 0, .int 0, .int 0, .int 0, .int 0, .int 0, .int 0, .ref q132, .ref q133, .ref q134, .ref q135, .ref q136, .ref q137, .ref q138, .ref q139, .ref q140, .int 0]))]) hP hD [1] [0] rfl rfl (by decide) (by decide) hk1 hFc hP1 hD1
      have hK := (hK.sub (tys' := [(y144, .long)]) [0] rfl).app hK1
      generalize H1 = H at hP hS ⊢
      have hP : va_P (dC, dI) vwCl [(q143, .inl (y144, 1, .inr (.inl (fun _ => 0)))), (q77, .inr (20, [.int 1, .ref q78, .int 0, .int 0, .ref q80, .ref q82, .ref q84, .ref q86, .ref q88, .ref q90, .ref q91, .ref q93, .ref q94, .ref q105, .ref q106, .ref q124, .ref q131, .int 0, .int 0, .int 0, .int 0, .int 0, .int 0, .int 0, .int 0, .int 0, .ref q132, .ref q133, .ref q134, .ref q135, .ref q136, .ref q137, .ref q138, .ref q139, .ref q140, .int 0]))] H := hP
      have hD : va_D A [(q143, .inl (y144, 1, .inr (.inl (fun _ => 0)))), (q77, .inr (20, [.int 1, .ref q78, .int 0, .int 0, .ref q80, .ref q82, .ref q84, .ref q86, .ref q88, .ref q90, .ref q91, .ref q93, .ref q94, .ref q105, .ref q106, .ref q124, .ref q131, .int 0, .int 0, .int 0, .int 0, .int 0, .int 0, .int 0, .int 0, .int 0, .ref q132, .ref q133, .ref q134, .ref q135, .ref q136, .ref q137, .ref q138, .ref q139, .ref q140, .int 0]))] := hD
      have hK : va_K (dC, dI) vwCl [(y144, .long)] s := hK
      refine W.widen (k := 456) (n := 2511905) (by decide +kernel) (by decide +kernel) ?_
      refine lv_iload hx hb dL_law_696 (lv_at hl 1 rfl) ?_
      refine lv_icmp_eq (tgt := 703) hx hb dL_law_698 (by decide) (fun _ => ?_) (fun h9 => absurd (by decide) h9)
      refine lv_iload hx hb dL_law_703 (lv_at hl 1 rfl) ?_
      refine lv_if_ne (tgt := 720) hx hb dL_law_705 (by decide) (fun _ => ?_) (fun h9 => absurd h9 (by decide))
      refine lv_goto (tgt := 1493) hx hb dL_law_720 (by decide) ?_
      refine lv_iinc (v := 6) (lv' := [(4, .int 6), (6, .int 0), (5, .int 1), (3, .ref q143), (2, .ref q77), (1, .ref q1), (0, .ref b)]) hx hb dL_law_1493 hl (k := 2) rfl (by decide) (by decide) rfl (fun ls hl => ?_)
      refine lv_goto (tgt := 23) hx hb dL_law_1496 (by decide) ?_
      refine W.widen (k := 600002) (n := 7302232) (by decide +kernel) (by decide +kernel) ?_
      exact kkE _ _ _ hS (lv_sub hl [0, 6] rfl)
    · exact absurd c_1_2 c_5_2
    · exact absurd c_1_2 c_5_2
    · exact absurd c_5_0 c_1_0
    · exact absurd c_5_0 c_1_0
    · exact absurd c_5_0 c_1_0
    · exact h9.elim
  · subst h9
    subst h8
    obtain ⟨hP1, hK1, hD1⟩ := hB
    rw [ht] at hP1
    have hK1 := va_K.moved hvm.symm hK1
    obtain ⟨hP, hD⟩ := va_join (wr := [(q77, .inr (20, [.int 0, .ref q78, .int 0, .int 0, .ref q80, .ref q82, .ref q84, .ref q86, .ref q88, .ref q90, .ref q91, .ref q93, .ref q94, .ref q105, .ref q106, .ref q124, .ref q131, .int 0, .int 0, .int 0, .int 0, .int 0, .int 0, .int 0, .int 0, .int 0, .ref q132, .ref q133, .ref q134, .ref q135, .ref q136, .ref q137, .ref q138, .ref q139, .ref q140, .int 0]))]) (w1 := [(q143, .inl (y144, 1, .inr (.inl (fun _ => 0))))]) hP hD [0, 1, 3] [2] rfl rfl (by decide) (by decide) hk1 hFc hP1 hD1
    have hK := (hK.sub (tys' := []) [] rfl).app hK1
    generalize H1 = H at hP hS ⊢
    have hP : va_P (dC, dI) vwCl [(q77, .inr (20, [.int 0, .ref q78, .int 0, .int 0, .ref q80, .ref q82, .ref q84, .ref q86, .ref q88, .ref q90, .ref q91, .ref q93, .ref q94, .ref q105, .ref q106, .ref q124, .ref q131, .int 0, .int 0, .int 0, .int 0, .int 0, .int 0, .int 0, .int 0, .int 0, .ref q132, .ref q133, .ref q134, .ref q135, .ref q136, .ref q137, .ref q138, .ref q139, .ref q140, .int 0])), (q143, .inl (y144, 1, .inr (.inl (fun _ => 0))))] H := hP
    have hD : va_D A [(q77, .inr (20, [.int 0, .ref q78, .int 0, .int 0, .ref q80, .ref q82, .ref q84, .ref q86, .ref q88, .ref q90, .ref q91, .ref q93, .ref q94, .ref q105, .ref q106, .ref q124, .ref q131, .int 0, .int 0, .int 0, .int 0, .int 0, .int 0, .int 0, .int 0, .int 0, .ref q132, .ref q133, .ref q134, .ref q135, .ref q136, .ref q137, .ref q138, .ref q139, .ref q140, .int 0])), (q143, .inl (y144, 1, .inr (.inl (fun _ => 0))))] := hD
    have hK : va_K (dC, dI) vwCl [(y144, .long)] s := hK
    refine W.widen (k := 456) (n := 2511905) (by decide +kernel) (by decide +kernel) ?_
    refine lv_istore (lv' := [(5, .int 1), (4, .int 0), (3, .ref q143), (2, .ref q77), (1, .ref q1), (0, .ref b)]) hx hb dL_law_650 hl (by decide) rfl (fun ls hl => ?_)
    refine lv_aload_n hx hb dL_law_652 rfl (lv_at hl 3 rfl) ?_
    refine lv_aload_n hx hb dL_law_653 rfl (lv_at hl 5 rfl) ?_
    refine lv_iload hx hb dL_law_654 (lv_at hl 1 rfl) ?_
    refine lv_iconst (v := 1) hx hb dL_law_656 (by decide) ?_
    refine lv_iadd hx hb dL_law_657 ?_
    refine lv_topi (fun z545 ez545 => ?_)
    obtain rfl : z545 = 1 := ez545.trans (by decide)
    refine va_sld (i := 1) hx hb hX hbl hbA hS (vp_in_iff.mpr ⟨by decide, by decide⟩) dL_law_658 ?_
    rw [es1]
    refine lv_aload_n hx hb dL_law_659 rfl (lv_at hl 5 rfl) ?_
    refine lv_iload hx hb dL_law_660 (lv_at hl 1 rfl) ?_
    refine lv_iconst (v := 2) hx hb dL_law_662 (by decide) ?_
    refine lv_iadd hx hb dL_law_663 ?_
    refine lv_topi (fun z546 ez546 => ?_)
    obtain rfl : z546 = 2 := ez546.trans (by decide)
    refine va_sld (i := 2) hx hb hX hbl hbA hS (vp_in_iff.mpr ⟨by decide, by decide⟩) dL_law_664 ?_
    rw [es2]
    refine lv_i2l hx hb dL_law_665 rfl ?_
    refine lv_bipush (v := 32) hx hb dL_law_666 (by decide) ?_
    refine lv_lshl hx hb dL_law_668 rfl ?_
    refine lv_topl (fun z547 ez547 => ?_)
    have h9 : z503 = z547 := ez503.trans ez547.symm; subst h9
    refine lv_aload_n hx hb dL_law_669 rfl (lv_at hl 5 rfl) ?_
    refine lv_iload hx hb dL_law_670 (lv_at hl 1 rfl) ?_
    refine lv_iconst (v := 3) hx hb dL_law_672 (by decide) ?_
    refine lv_iadd hx hb dL_law_673 ?_
    refine lv_topi (fun z548 ez548 => ?_)
    obtain rfl : z548 = 3 := ez548.trans (by decide)
    refine va_sld (i := 3) hx hb hX hbl hbA hS (vp_in_iff.mpr ⟨by decide, by decide⟩) dL_law_674 ?_
    rw [es3]
    refine lv_i2l hx hb dL_law_675 rfl ?_
    refine lv_ldc2 hx hb hown (hts (.constantLong RL 99 (4294967295)) tw_72) dL_law_676 ?_
    refine lv_land hx hb dL_law_679 ?_
    refine lv_topl (fun z549 ez549 => ?_)
    have h9 : z505 = z549 := ez505.trans ez549.symm; subst h9
    refine lv_lor hx hb dL_law_680 ?_
    refine lv_topl (fun z550 ez550 => ?_)
    have h9 : z506 = z550 := ez506.trans ez550.symm; subst h9
    refine lv_aload_n hx hb dL_law_681 rfl (lv_at hl 5 rfl) ?_
    refine lv_iload hx hb dL_law_682 (lv_at hl 1 rfl) ?_
    refine lv_iconst (v := 4) hx hb dL_law_684 (by decide) ?_
    refine lv_iadd hx hb dL_law_685 ?_
    refine lv_topi (fun z551 ez551 => ?_)
    obtain rfl : z551 = 4 := ez551.trans (by decide)
    refine va_sld (i := 4) hx hb hX hbl hbA hS (vp_in_iff.mpr ⟨by decide, by decide⟩) dL_law_686 ?_
    rw [es4]
    have hPc := hP.sub (ws' := [(q77, .inr (20, [.int 0, .ref q78, .int 0, .int 0, .ref q80, .ref q82, .ref q84, .ref q86, .ref q88, .ref q90, .ref q91, .ref q93, .ref q94, .ref q105, .ref q106, .ref q124, .ref q131, .int 0, .int 0, .int 0, .int 0, .int 0, .int 0, .int 0, .int 0, .int 0, .ref q132, .ref q133, .ref q134, .ref q135, .ref q136, .ref q137, .ref q138, .ref q139, .ref q140, .int 0]))]) [0] rfl
    have hDc := hD.sub (ws' := [(q77, .inr (20, [.int 0, .ref q78, .int 0, .int 0, .ref q80, .ref q82, .ref q84, .ref q86, .ref q88, .ref q90, .ref q91, .ref q93, .ref q94, .ref q105, .ref q106, .ref q124, .ref q131, .int 0, .int 0, .int 0, .int 0, .int 0, .int 0, .int 0, .int 0, .int 0, .ref q132, .ref q133, .ref q134, .ref q135, .ref q136, .ref q137, .ref q138, .ref q139, .ref q140, .int 0]))]) [0] (by decide) rfl
    have hKc := hK.sub (tys' := []) [] rfl
    have hFc := va_free (wc := [(q77, .inr (20, [.int 0, .ref q78, .int 0, .int 0, .ref q80, .ref q82, .ref q84, .ref q86, .ref q88, .ref q90, .ref q91, .ref q93, .ref q94, .ref q105, .ref q106, .ref q124, .ref q131, .int 0, .int 0, .int 0, .int 0, .int 0, .int 0, .int 0, .int 0, .int 0, .ref q132, .ref q133, .ref q134, .ref q135, .ref q136, .ref q137, .ref q138, .ref q139, .ref q140, .int 0]))]) hD hS hA [0] rfl
    refine va_calli (va_runV (As := [.int x1, .long z506, .int x4]) (rest := []) ⟨hx, hb, hml, hown, hts⟩ (k_X19_outside l hlt dC dI q77 x1 z506 x4 q78 q80 q82 q84 q86 q88 q90 q91 q93 q94 q105 q106 q124 q131 q132 q133 q134 q135 q136 q137 q138 q139 q140  H.size) (cwV 3 hts gl_26 rfl rfl rfl (by decide +kernel) ⟨Nat.le_of_ble_eq_true rfl, Nat.le_of_ble_eq_true rfl⟩) ⟨fun a U g mk q => by obtain ⟨q0, q1, qP, qK, qD, qN⟩ := q; exact ⟨q0, q1, qP, va_K.moved (u := U) (U := U.calling g mk a) (Vm.Alike.refl U.vm) qK, qD, nv_same rfl rfl qN⟩, va_recv hKc hPc (ci := 20) (q0 := 0) rfl rfl, fun U hU hW => ⟨rfl, by rw [hU], by rw [hU]; exact hPc, va_K.moved hW.alike hKc, hDc.weaken (fun _ _ _ _ => trivial), nv_call hS hFc hU hW hN⟩⟩ rfl rfl hl.1 rfl (lv_room (Nat.le_of_ble_eq_true rfl)) dL_law_687 ⟨by decide +kernel, by decide +kernel⟩) hS (fun q _ h => hFc q h) hFc (fun r552 u t H1 locs ht hvm hw hB hz1 hk1 hS => ?_)
    rcases hw with ⟨c_6_0, c_6_1, c_6_2, c_6_3, c_6_4, h9, h8⟩ | ⟨c_6_0, c_6_1, c_6_2, c_6_3, c_6_4, h9, h8⟩ | ⟨c_6_0, c_6_1, c_6_2, c_6_3, c_6_4, h9, h8⟩ | ⟨c_6_0, c_6_1, c_6_2, c_6_3, c_6_4, c_6_5, h9, h8⟩ | ⟨c_6_0, c_6_1, c_6_2, c_6_3, c_6_4, c_6_5, h9, h8⟩ | ⟨c_6_0, c_6_1, c_6_2, c_6_3, h9, h8⟩ | ⟨c_6_0, c_6_1, c_6_2, c_6_3, c_6_4, h9, h8⟩ | ⟨c_6_0, c_6_1, c_6_2, c_6_3, c_6_4, c_6_5, h9, h8⟩ | ⟨c_6_0, c_6_1, c_6_2, c_6_3, c_6_4, c_6_5, c_6_6, h9, h8⟩ | ⟨c_6_0, c_6_1, c_6_2, c_6_3, c_6_4, c_6_5, c_6_6, h9, h8⟩ | ⟨c_6_0, c_6_1, c_6_2, h9, h8⟩ | ⟨c_6_0, c_6_1, c_6_2, c_6_3, h9, h8⟩ | ⟨c_6_0, c_6_1, c_6_2, c_6_3, h9, h8⟩ | ⟨c_6_0, c_6_1, h9, h8⟩ | ⟨c_6_0, c_6_1, c_6_2, h9, h8⟩ | ⟨c_6_0, c_6_1, c_6_2, h9, h8⟩ | h9
    · exact absurd c_1_1 c_6_1
    · exact absurd c_1_1 c_6_1
    · exact absurd c_1_1 c_6_1
    · exact absurd c_1_1 c_6_1
    · exact absurd c_1_1 c_6_1
    · exact absurd c_1_1 c_6_1
    · exact absurd c_1_1 c_6_1
    · exact absurd c_1_1 c_6_1
    · exact absurd c_1_1 c_6_1
    · exact absurd c_1_1 c_6_1
    · exact absurd c_6_2 c_1_2
    · subst h9
      subst h8
      obtain ⟨hP1, hK1, hD1⟩ := hB
      rw [ht] at hP1
      have hK1 := va_K.moved hvm.symm hK1
      obtain ⟨hP, hD⟩ := va_join (wr := [(q143, .inl (y144, 1, .inr (.inl (fun _ => 0))))]) (w1 := [(q77, .inr (20, [.int 1, .ref q78, .int 0, .int 0, .ref q80, .ref q82, .ref q84, .ref q86, .ref q88, .ref q90, .ref q91, .ref q93, .ref q94, .ref q105, .ref q106, .ref q124, .ref q131, .int 0, .int 0, .int 0, .int 0, .int 0, .int 0, .int 0, .int 0, .int 0, .ref q132, .ref q133, .ref q134, .ref q135, .ref q136, .ref q137, .ref q138, .ref q139, .ref q140, .int 0]))]) hP hD [0] [1] rfl rfl (by decide) (by decide) hk1 hFc hP1 hD1
      have hK := (hK.sub (tys' := [(y144, .long)]) [0] rfl).app hK1
      generalize H1 = H at hP hS ⊢
      have hP : va_P (dC, dI) vwCl [(q143, .inl (y144, 1, .inr (.inl (fun _ => 0)))), (q77, .inr (20, [.int 1, .ref q78, .int 0, .int 0, .ref q80, .ref q82, .ref q84, .ref q86, .ref q88, .ref q90, .ref q91, .ref q93, .ref q94, .ref q105, .ref q106, .ref q124, .ref q131, .int 0, .int 0, .int 0, .int 0, .int 0, .int 0, .int 0, .int 0, .int 0, .ref q132, .ref q133, .ref q134, .ref q135, .ref q136, .ref q137, .ref q138, .ref q139, .ref q140, .int 0]))] H := hP
      have hD : va_D A [(q143, .inl (y144, 1, .inr (.inl (fun _ => 0)))), (q77, .inr (20, [.int 1, .ref q78, .int 0, .int 0, .ref q80, .ref q82, .ref q84, .ref q86, .ref q88, .ref q90, .ref q91, .ref q93, .ref q94, .ref q105, .ref q106, .ref q124, .ref q131, .int 0, .int 0, .int 0, .int 0, .int 0, .int 0, .int 0, .int 0, .int 0, .ref q132, .ref q133, .ref q134, .ref q135, .ref q136, .ref q137, .ref q138, .ref q139, .ref q140, .int 0]))] := hD
      have hK : va_K (dC, dI) vwCl [(y144, .long)] s := hK
      refine W.widen (k := 456) (n := 2511905) (by decide +kernel) (by decide +kernel) ?_
      refine lv_istore (lv' := [(6, .int 0), (5, .int 1), (4, .int 0), (3, .ref q143), (2, .ref q77), (1, .ref q1), (0, .ref b)]) hx hb dL_law_690 hl (by decide) rfl (fun ls hl => ?_)
      refine lv_aload_n hx hb dL_law_692 rfl (lv_at hl 4 rfl) ?_
      have hPc := hP.sub (ws' := [(q77, .inr (20, [.int 1, .ref q78, .int 0, .int 0, .ref q80, .ref q82, .ref q84, .ref q86, .ref q88, .ref q90, .ref q91, .ref q93, .ref q94, .ref q105, .ref q106, .ref q124, .ref q131, .int 0, .int 0, .int 0, .int 0, .int 0, .int 0, .int 0, .int 0, .int 0, .ref q132, .ref q133, .ref q134, .ref q135, .ref q136, .ref q137, .ref q138, .ref q139, .ref q140, .int 0]))]) [1] rfl
      have hDc := hD.sub (ws' := [(q77, .inr (20, [.int 1, .ref q78, .int 0, .int 0, .ref q80, .ref q82, .ref q84, .ref q86, .ref q88, .ref q90, .ref q91, .ref q93, .ref q94, .ref q105, .ref q106, .ref q124, .ref q131, .int 0, .int 0, .int 0, .int 0, .int 0, .int 0, .int 0, .int 0, .int 0, .ref q132, .ref q133, .ref q134, .ref q135, .ref q136, .ref q137, .ref q138, .ref q139, .ref q140, .int 0]))]) [1] (by decide) rfl
      have hKc := hK.sub (tys' := []) [] rfl
      have hFc := va_free (wc := [(q77, .inr (20, [.int 1, .ref q78, .int 0, .int 0, .ref q80, .ref q82, .ref q84, .ref q86, .ref q88, .ref q90, .ref q91, .ref q93, .ref q94, .ref q105, .ref q106, .ref q124, .ref q131, .int 0, .int 0, .int 0, .int 0, .int 0, .int 0, .int 0, .int 0, .int 0, .ref q132, .ref q133, .ref q134, .ref q135, .ref q136, .ref q137, .ref q138, .ref q139, .ref q140, .int 0]))]) hD hS hA [1] rfl
      refine va_calli (va_runV (As := []) (rest := []) ⟨hx, hb, hml, hown, hts⟩ (k_X19_thrown l hlt dC dI q77 q78 q80 q82 q84 q86 q88 q90 q91 q93 q94 q105 q106 q124 q131 q132 q133 q134 q135 q136 q137 q138 q139 q140  H.size) (cwV 0 hts gl_8 rfl rfl rfl (by decide +kernel) ⟨Nat.le_of_ble_eq_true rfl, Nat.le_of_ble_eq_true rfl⟩) ⟨fun a U g mk q => by obtain ⟨q0, q1, qP, qK, qD, qN⟩ := q; exact ⟨q0, q1, qP, va_K.moved (u := U) (U := U.calling g mk a) (Vm.Alike.refl U.vm) qK, qD, nv_same rfl rfl qN⟩, va_recv hKc hPc (ci := 20) (q0 := 0) rfl rfl, fun U hU hW => ⟨rfl, by rw [hU], by rw [hU]; exact hPc, va_K.moved hW.alike hKc, hDc.weaken (fun _ _ _ _ => trivial), nv_call hS hFc hU hW hN⟩⟩ rfl rfl hl.1 rfl (lv_room (Nat.le_of_ble_eq_true rfl)) dL_law_693 ⟨by decide +kernel, by decide +kernel⟩) hS (fun q _ h => hFc q h) hFc (fun r553 u t H1 locs ht hvm hw hB hz1 hk1 hS => ?_)
      obtain ⟨hP1, hK1, hD1⟩ := hB
      rw [ht] at hP1
      have hK1 := va_K.moved hvm.symm hK1
      obtain rfl : r553 = 1 := hw
      obtain ⟨hP, hD⟩ := va_join (wr := [(q143, .inl (y144, 1, .inr (.inl (fun _ => 0))))]) (w1 := [(q77, .inr (20, [.int 1, .ref q78, .int 0, .int 0, .ref q80, .ref q82, .ref q84, .ref q86, .ref q88, .ref q90, .ref q91, .ref q93, .ref q94, .ref q105, .ref q106, .ref q124, .ref q131, .int 0, .int 0, .int 0, .int 0, .int 0, .int 0, .int 0, .int 0, .int 0, .ref q132, .ref q133, .ref q134, .ref q135, .ref q136, .ref q137, .ref q138, .ref q139, .ref q140, .int 0]))]) hP hD [1] [0] rfl rfl (by decide) (by decide) hk1 hFc hP1 hD1
      have hK := (hK.sub (tys' := [(y144, .long)]) [0] rfl).app hK1
      generalize H1 = H at hP hS ⊢
      have hP : va_P (dC, dI) vwCl [(q143, .inl (y144, 1, .inr (.inl (fun _ => 0)))), (q77, .inr (20, [.int 1, .ref q78, .int 0, .int 0, .ref q80, .ref q82, .ref q84, .ref q86, .ref q88, .ref q90, .ref q91, .ref q93, .ref q94, .ref q105, .ref q106, .ref q124, .ref q131, .int 0, .int 0, .int 0, .int 0, .int 0, .int 0, .int 0, .int 0, .int 0, .ref q132, .ref q133, .ref q134, .ref q135, .ref q136, .ref q137, .ref q138, .ref q139, .ref q140, .int 0]))] H := hP
      have hD : va_D A [(q143, .inl (y144, 1, .inr (.inl (fun _ => 0)))), (q77, .inr (20, [.int 1, .ref q78, .int 0, .int 0, .ref q80, .ref q82, .ref q84, .ref q86, .ref q88, .ref q90, .ref q91, .ref q93, .ref q94, .ref q105, .ref q106, .ref q124, .ref q131, .int 0, .int 0, .int 0, .int 0, .int 0, .int 0, .int 0, .int 0, .int 0, .ref q132, .ref q133, .ref q134, .ref q135, .ref q136, .ref q137, .ref q138, .ref q139, .ref q140, .int 0]))] := hD
      have hK : va_K (dC, dI) vwCl [(y144, .long)] s := hK
      refine W.widen (k := 456) (n := 2511905) (by decide +kernel) (by decide +kernel) ?_
      refine lv_iload hx hb dL_law_696 (lv_at hl 1 rfl) ?_
      refine lv_icmp_eq (tgt := 703) hx hb dL_law_698 (by decide) (fun _ => ?_) (fun h9 => absurd (by decide) h9)
      refine lv_iload hx hb dL_law_703 (lv_at hl 1 rfl) ?_
      refine lv_if_ne (tgt := 720) hx hb dL_law_705 (by decide) (fun _ => ?_) (fun h9 => absurd h9 (by decide))
      refine lv_goto (tgt := 1493) hx hb dL_law_720 (by decide) ?_
      refine lv_iinc (v := 6) (lv' := [(4, .int 6), (6, .int 0), (5, .int 1), (3, .ref q143), (2, .ref q77), (1, .ref q1), (0, .ref b)]) hx hb dL_law_1493 hl (k := 2) rfl (by decide) (by decide) rfl (fun ls hl => ?_)
      refine lv_goto (tgt := 23) hx hb dL_law_1496 (by decide) ?_
      refine W.widen (k := 600002) (n := 7302232) (by decide +kernel) (by decide +kernel) ?_
      exact kkE _ _ _ hS (lv_sub hl [0, 6] rfl)
    · exact absurd c_1_3 c_6_3
    · exact absurd c_6_0 c_1_0
    · exact absurd c_6_0 c_1_0
    · exact absurd c_6_0 c_1_0
    · exact h9.elim
  · subst h9
    subst h8
    obtain ⟨hP1, hK1, hD1⟩ := hB
    rw [ht] at hP1
    have hK1 := va_K.moved hvm.symm hK1
    obtain ⟨hP, hD⟩ := va_join (wr := [(q77, .inr (20, [.int 0, .ref q78, .int 0, .int 0, .ref q80, .ref q82, .ref q84, .ref q86, .ref q88, .ref q90, .ref q91, .ref q93, .ref q94, .ref q105, .ref q106, .ref q124, .ref q131, .int 0, .int 0, .int 0, .int 0, .int 0, .int 0, .int 0, .int 0, .int 0, .ref q132, .ref q133, .ref q134, .ref q135, .ref q136, .ref q137, .ref q138, .ref q139, .ref q140, .int 0]))]) (w1 := [(q143, .inl (y144, 1, .inr (.inl (fun _ => 0))))]) hP hD [0, 1, 3] [2] rfl rfl (by decide) (by decide) hk1 hFc hP1 hD1
    have hK := (hK.sub (tys' := []) [] rfl).app hK1
    generalize H1 = H at hP hS ⊢
    have hP : va_P (dC, dI) vwCl [(q77, .inr (20, [.int 0, .ref q78, .int 0, .int 0, .ref q80, .ref q82, .ref q84, .ref q86, .ref q88, .ref q90, .ref q91, .ref q93, .ref q94, .ref q105, .ref q106, .ref q124, .ref q131, .int 0, .int 0, .int 0, .int 0, .int 0, .int 0, .int 0, .int 0, .int 0, .ref q132, .ref q133, .ref q134, .ref q135, .ref q136, .ref q137, .ref q138, .ref q139, .ref q140, .int 0])), (q143, .inl (y144, 1, .inr (.inl (fun _ => 0))))] H := hP
    have hD : va_D A [(q77, .inr (20, [.int 0, .ref q78, .int 0, .int 0, .ref q80, .ref q82, .ref q84, .ref q86, .ref q88, .ref q90, .ref q91, .ref q93, .ref q94, .ref q105, .ref q106, .ref q124, .ref q131, .int 0, .int 0, .int 0, .int 0, .int 0, .int 0, .int 0, .int 0, .int 0, .ref q132, .ref q133, .ref q134, .ref q135, .ref q136, .ref q137, .ref q138, .ref q139, .ref q140, .int 0])), (q143, .inl (y144, 1, .inr (.inl (fun _ => 0))))] := hD
    have hK : va_K (dC, dI) vwCl [(y144, .long)] s := hK
    refine W.widen (k := 456) (n := 2511905) (by decide +kernel) (by decide +kernel) ?_
    refine lv_istore (lv' := [(5, .int 2), (4, .int 0), (3, .ref q143), (2, .ref q77), (1, .ref q1), (0, .ref b)]) hx hb dL_law_650 hl (by decide) rfl (fun ls hl => ?_)
    refine lv_aload_n hx hb dL_law_652 rfl (lv_at hl 3 rfl) ?_
    refine lv_aload_n hx hb dL_law_653 rfl (lv_at hl 5 rfl) ?_
    refine lv_iload hx hb dL_law_654 (lv_at hl 1 rfl) ?_
    refine lv_iconst (v := 1) hx hb dL_law_656 (by decide) ?_
    refine lv_iadd hx hb dL_law_657 ?_
    refine lv_topi (fun z554 ez554 => ?_)
    obtain rfl : z554 = 1 := ez554.trans (by decide)
    refine va_sld (i := 1) hx hb hX hbl hbA hS (vp_in_iff.mpr ⟨by decide, by decide⟩) dL_law_658 ?_
    rw [es1]
    refine lv_aload_n hx hb dL_law_659 rfl (lv_at hl 5 rfl) ?_
    refine lv_iload hx hb dL_law_660 (lv_at hl 1 rfl) ?_
    refine lv_iconst (v := 2) hx hb dL_law_662 (by decide) ?_
    refine lv_iadd hx hb dL_law_663 ?_
    refine lv_topi (fun z555 ez555 => ?_)
    obtain rfl : z555 = 2 := ez555.trans (by decide)
    refine va_sld (i := 2) hx hb hX hbl hbA hS (vp_in_iff.mpr ⟨by decide, by decide⟩) dL_law_664 ?_
    rw [es2]
    refine lv_i2l hx hb dL_law_665 rfl ?_
    refine lv_bipush (v := 32) hx hb dL_law_666 (by decide) ?_
    refine lv_lshl hx hb dL_law_668 rfl ?_
    refine lv_topl (fun z556 ez556 => ?_)
    have h9 : z503 = z556 := ez503.trans ez556.symm; subst h9
    refine lv_aload_n hx hb dL_law_669 rfl (lv_at hl 5 rfl) ?_
    refine lv_iload hx hb dL_law_670 (lv_at hl 1 rfl) ?_
    refine lv_iconst (v := 3) hx hb dL_law_672 (by decide) ?_
    refine lv_iadd hx hb dL_law_673 ?_
    refine lv_topi (fun z557 ez557 => ?_)
    obtain rfl : z557 = 3 := ez557.trans (by decide)
    refine va_sld (i := 3) hx hb hX hbl hbA hS (vp_in_iff.mpr ⟨by decide, by decide⟩) dL_law_674 ?_
    rw [es3]
    refine lv_i2l hx hb dL_law_675 rfl ?_
    refine lv_ldc2 hx hb hown (hts (.constantLong RL 99 (4294967295)) tw_72) dL_law_676 ?_
    refine lv_land hx hb dL_law_679 ?_
    refine lv_topl (fun z558 ez558 => ?_)
    have h9 : z505 = z558 := ez505.trans ez558.symm; subst h9
    refine lv_lor hx hb dL_law_680 ?_
    refine lv_topl (fun z559 ez559 => ?_)
    have h9 : z506 = z559 := ez506.trans ez559.symm; subst h9
    refine lv_aload_n hx hb dL_law_681 rfl (lv_at hl 5 rfl) ?_
    refine lv_iload hx hb dL_law_682 (lv_at hl 1 rfl) ?_
    refine lv_iconst (v := 4) hx hb dL_law_684 (by decide) ?_
    refine lv_iadd hx hb dL_law_685 ?_
    refine lv_topi (fun z560 ez560 => ?_)
    obtain rfl : z560 = 4 := ez560.trans (by decide)
    refine va_sld (i := 4) hx hb hX hbl hbA hS (vp_in_iff.mpr ⟨by decide, by decide⟩) dL_law_686 ?_
    rw [es4]
    have hPc := hP.sub (ws' := [(q77, .inr (20, [.int 0, .ref q78, .int 0, .int 0, .ref q80, .ref q82, .ref q84, .ref q86, .ref q88, .ref q90, .ref q91, .ref q93, .ref q94, .ref q105, .ref q106, .ref q124, .ref q131, .int 0, .int 0, .int 0, .int 0, .int 0, .int 0, .int 0, .int 0, .int 0, .ref q132, .ref q133, .ref q134, .ref q135, .ref q136, .ref q137, .ref q138, .ref q139, .ref q140, .int 0]))]) [0] rfl
    have hDc := hD.sub (ws' := [(q77, .inr (20, [.int 0, .ref q78, .int 0, .int 0, .ref q80, .ref q82, .ref q84, .ref q86, .ref q88, .ref q90, .ref q91, .ref q93, .ref q94, .ref q105, .ref q106, .ref q124, .ref q131, .int 0, .int 0, .int 0, .int 0, .int 0, .int 0, .int 0, .int 0, .int 0, .ref q132, .ref q133, .ref q134, .ref q135, .ref q136, .ref q137, .ref q138, .ref q139, .ref q140, .int 0]))]) [0] (by decide) rfl
    have hKc := hK.sub (tys' := []) [] rfl
    have hFc := va_free (wc := [(q77, .inr (20, [.int 0, .ref q78, .int 0, .int 0, .ref q80, .ref q82, .ref q84, .ref q86, .ref q88, .ref q90, .ref q91, .ref q93, .ref q94, .ref q105, .ref q106, .ref q124, .ref q131, .int 0, .int 0, .int 0, .int 0, .int 0, .int 0, .int 0, .int 0, .int 0, .ref q132, .ref q133, .ref q134, .ref q135, .ref q136, .ref q137, .ref q138, .ref q139, .ref q140, .int 0]))]) hD hS hA [0] rfl
    refine va_calli (va_runV (As := [.int x1, .long z506, .int x4]) (rest := []) ⟨hx, hb, hml, hown, hts⟩ (k_X19_outside l hlt dC dI q77 x1 z506 x4 q78 q80 q82 q84 q86 q88 q90 q91 q93 q94 q105 q106 q124 q131 q132 q133 q134 q135 q136 q137 q138 q139 q140  H.size) (cwV 3 hts gl_26 rfl rfl rfl (by decide +kernel) ⟨Nat.le_of_ble_eq_true rfl, Nat.le_of_ble_eq_true rfl⟩) ⟨fun a U g mk q => by obtain ⟨q0, q1, qP, qK, qD, qN⟩ := q; exact ⟨q0, q1, qP, va_K.moved (u := U) (U := U.calling g mk a) (Vm.Alike.refl U.vm) qK, qD, nv_same rfl rfl qN⟩, va_recv hKc hPc (ci := 20) (q0 := 0) rfl rfl, fun U hU hW => ⟨rfl, by rw [hU], by rw [hU]; exact hPc, va_K.moved hW.alike hKc, hDc.weaken (fun _ _ _ _ => trivial), nv_call hS hFc hU hW hN⟩⟩ rfl rfl hl.1 rfl (lv_room (Nat.le_of_ble_eq_true rfl)) dL_law_687 ⟨by decide +kernel, by decide +kernel⟩) hS (fun q _ h => hFc q h) hFc (fun r561 u t H1 locs ht hvm hw hB hz1 hk1 hS => ?_)
    rcases hw with ⟨c_7_0, c_7_1, c_7_2, c_7_3, c_7_4, h9, h8⟩ | ⟨c_7_0, c_7_1, c_7_2, c_7_3, c_7_4, h9, h8⟩ | ⟨c_7_0, c_7_1, c_7_2, c_7_3, c_7_4, h9, h8⟩ | ⟨c_7_0, c_7_1, c_7_2, c_7_3, c_7_4, c_7_5, h9, h8⟩ | ⟨c_7_0, c_7_1, c_7_2, c_7_3, c_7_4, c_7_5, h9, h8⟩ | ⟨c_7_0, c_7_1, c_7_2, c_7_3, h9, h8⟩ | ⟨c_7_0, c_7_1, c_7_2, c_7_3, c_7_4, h9, h8⟩ | ⟨c_7_0, c_7_1, c_7_2, c_7_3, c_7_4, c_7_5, h9, h8⟩ | ⟨c_7_0, c_7_1, c_7_2, c_7_3, c_7_4, c_7_5, c_7_6, h9, h8⟩ | ⟨c_7_0, c_7_1, c_7_2, c_7_3, c_7_4, c_7_5, c_7_6, h9, h8⟩ | ⟨c_7_0, c_7_1, c_7_2, h9, h8⟩ | ⟨c_7_0, c_7_1, c_7_2, c_7_3, h9, h8⟩ | ⟨c_7_0, c_7_1, c_7_2, c_7_3, h9, h8⟩ | ⟨c_7_0, c_7_1, h9, h8⟩ | ⟨c_7_0, c_7_1, c_7_2, h9, h8⟩ | ⟨c_7_0, c_7_1, c_7_2, h9, h8⟩ | h9
    · exact absurd c_1_1 c_7_1
    · exact absurd c_1_1 c_7_1
    · exact absurd c_1_1 c_7_1
    · exact absurd c_1_1 c_7_1
    · exact absurd c_1_1 c_7_1
    · exact absurd c_1_1 c_7_1
    · exact absurd c_1_1 c_7_1
    · exact absurd c_1_1 c_7_1
    · exact absurd c_1_1 c_7_1
    · exact absurd c_1_1 c_7_1
    · exact absurd c_7_2 c_1_2
    · exact absurd c_7_3 c_1_3
    · subst h9
      subst h8
      obtain ⟨hP1, hK1, hD1⟩ := hB
      rw [ht] at hP1
      have hK1 := va_K.moved hvm.symm hK1
      obtain ⟨hP, hD⟩ := va_join (wr := [(q143, .inl (y144, 1, .inr (.inl (fun _ => 0))))]) (w1 := [(q77, .inr (20, [.int 2, .ref q78, .int 0, .int 0, .ref q80, .ref q82, .ref q84, .ref q86, .ref q88, .ref q90, .ref q91, .ref q93, .ref q94, .ref q105, .ref q106, .ref q124, .ref q131, .int 0, .int 0, .int 0, .int 0, .int 0, .int 0, .int 0, .int 0, .int 0, .ref q132, .ref q133, .ref q134, .ref q135, .ref q136, .ref q137, .ref q138, .ref q139, .ref q140, .int 0]))]) hP hD [0] [1] rfl rfl (by decide) (by decide) hk1 hFc hP1 hD1
      have hK := (hK.sub (tys' := [(y144, .long)]) [0] rfl).app hK1
      generalize H1 = H at hP hS ⊢
      have hP : va_P (dC, dI) vwCl [(q143, .inl (y144, 1, .inr (.inl (fun _ => 0)))), (q77, .inr (20, [.int 2, .ref q78, .int 0, .int 0, .ref q80, .ref q82, .ref q84, .ref q86, .ref q88, .ref q90, .ref q91, .ref q93, .ref q94, .ref q105, .ref q106, .ref q124, .ref q131, .int 0, .int 0, .int 0, .int 0, .int 0, .int 0, .int 0, .int 0, .int 0, .ref q132, .ref q133, .ref q134, .ref q135, .ref q136, .ref q137, .ref q138, .ref q139, .ref q140, .int 0]))] H := hP
      have hD : va_D A [(q143, .inl (y144, 1, .inr (.inl (fun _ => 0)))), (q77, .inr (20, [.int 2, .ref q78, .int 0, .int 0, .ref q80, .ref q82, .ref q84, .ref q86, .ref q88, .ref q90, .ref q91, .ref q93, .ref q94, .ref q105, .ref q106, .ref q124, .ref q131, .int 0, .int 0, .int 0, .int 0, .int 0, .int 0, .int 0, .int 0, .int 0, .ref q132, .ref q133, .ref q134, .ref q135, .ref q136, .ref q137, .ref q138, .ref q139, .ref q140, .int 0]))] := hD
      have hK : va_K (dC, dI) vwCl [(y144, .long)] s := hK
      refine W.widen (k := 456) (n := 2511905) (by decide +kernel) (by decide +kernel) ?_
      refine lv_istore (lv' := [(6, .int 0), (5, .int 2), (4, .int 0), (3, .ref q143), (2, .ref q77), (1, .ref q1), (0, .ref b)]) hx hb dL_law_690 hl (by decide) rfl (fun ls hl => ?_)
      refine lv_aload_n hx hb dL_law_692 rfl (lv_at hl 4 rfl) ?_
      have hPc := hP.sub (ws' := [(q77, .inr (20, [.int 2, .ref q78, .int 0, .int 0, .ref q80, .ref q82, .ref q84, .ref q86, .ref q88, .ref q90, .ref q91, .ref q93, .ref q94, .ref q105, .ref q106, .ref q124, .ref q131, .int 0, .int 0, .int 0, .int 0, .int 0, .int 0, .int 0, .int 0, .int 0, .ref q132, .ref q133, .ref q134, .ref q135, .ref q136, .ref q137, .ref q138, .ref q139, .ref q140, .int 0]))]) [1] rfl
      have hDc := hD.sub (ws' := [(q77, .inr (20, [.int 2, .ref q78, .int 0, .int 0, .ref q80, .ref q82, .ref q84, .ref q86, .ref q88, .ref q90, .ref q91, .ref q93, .ref q94, .ref q105, .ref q106, .ref q124, .ref q131, .int 0, .int 0, .int 0, .int 0, .int 0, .int 0, .int 0, .int 0, .int 0, .ref q132, .ref q133, .ref q134, .ref q135, .ref q136, .ref q137, .ref q138, .ref q139, .ref q140, .int 0]))]) [1] (by decide) rfl
      have hKc := hK.sub (tys' := []) [] rfl
      have hFc := va_free (wc := [(q77, .inr (20, [.int 2, .ref q78, .int 0, .int 0, .ref q80, .ref q82, .ref q84, .ref q86, .ref q88, .ref q90, .ref q91, .ref q93, .ref q94, .ref q105, .ref q106, .ref q124, .ref q131, .int 0, .int 0, .int 0, .int 0, .int 0, .int 0, .int 0, .int 0, .int 0, .ref q132, .ref q133, .ref q134, .ref q135, .ref q136, .ref q137, .ref q138, .ref q139, .ref q140, .int 0]))]) hD hS hA [1] rfl
      refine va_calli (va_runV (As := []) (rest := []) ⟨hx, hb, hml, hown, hts⟩ (k_X19_thrown_v2 l hlt dC dI q77 q78 q80 q82 q84 q86 q88 q90 q91 q93 q94 q105 q106 q124 q131 q132 q133 q134 q135 q136 q137 q138 q139 q140  H.size) (cwV 0 hts gl_22 rfl rfl rfl (by decide +kernel) ⟨Nat.le_of_ble_eq_true rfl, Nat.le_of_ble_eq_true rfl⟩) ⟨fun a U g mk q => by obtain ⟨q0, q1, qP, qK, qD, qN⟩ := q; exact ⟨q0, q1, qP, va_K.moved (u := U) (U := U.calling g mk a) (Vm.Alike.refl U.vm) qK, qD, nv_same rfl rfl qN⟩, va_recv hKc hPc (ci := 20) (q0 := 0) rfl rfl, fun U hU hW => ⟨rfl, by rw [hU], by rw [hU]; exact hPc, va_K.moved hW.alike hKc, hDc.weaken (fun _ _ _ _ => trivial), nv_call hS hFc hU hW hN⟩⟩ rfl rfl hl.1 rfl (lv_room (Nat.le_of_ble_eq_true rfl)) dL_law_693 ⟨by decide +kernel, by decide +kernel⟩) hS (fun q _ h => hFc q h) hFc (fun r562 u t H1 locs ht hvm hw hB hz1 hk1 hS => ?_)
      obtain ⟨hP1, hK1, hD1⟩ := hB
      rw [ht] at hP1
      have hK1 := va_K.moved hvm.symm hK1
      obtain rfl : r562 = 2 := hw
      obtain ⟨hP, hD⟩ := va_join (wr := [(q143, .inl (y144, 1, .inr (.inl (fun _ => 0))))]) (w1 := [(q77, .inr (20, [.int 2, .ref q78, .int 0, .int 0, .ref q80, .ref q82, .ref q84, .ref q86, .ref q88, .ref q90, .ref q91, .ref q93, .ref q94, .ref q105, .ref q106, .ref q124, .ref q131, .int 0, .int 0, .int 0, .int 0, .int 0, .int 0, .int 0, .int 0, .int 0, .ref q132, .ref q133, .ref q134, .ref q135, .ref q136, .ref q137, .ref q138, .ref q139, .ref q140, .int 0]))]) hP hD [1] [0] rfl rfl (by decide) (by decide) hk1 hFc hP1 hD1
      have hK := (hK.sub (tys' := [(y144, .long)]) [0] rfl).app hK1
      generalize H1 = H at hP hS ⊢
      have hP : va_P (dC, dI) vwCl [(q143, .inl (y144, 1, .inr (.inl (fun _ => 0)))), (q77, .inr (20, [.int 2, .ref q78, .int 0, .int 0, .ref q80, .ref q82, .ref q84, .ref q86, .ref q88, .ref q90, .ref q91, .ref q93, .ref q94, .ref q105, .ref q106, .ref q124, .ref q131, .int 0, .int 0, .int 0, .int 0, .int 0, .int 0, .int 0, .int 0, .int 0, .ref q132, .ref q133, .ref q134, .ref q135, .ref q136, .ref q137, .ref q138, .ref q139, .ref q140, .int 0]))] H := hP
      have hD : va_D A [(q143, .inl (y144, 1, .inr (.inl (fun _ => 0)))), (q77, .inr (20, [.int 2, .ref q78, .int 0, .int 0, .ref q80, .ref q82, .ref q84, .ref q86, .ref q88, .ref q90, .ref q91, .ref q93, .ref q94, .ref q105, .ref q106, .ref q124, .ref q131, .int 0, .int 0, .int 0, .int 0, .int 0, .int 0, .int 0, .int 0, .int 0, .ref q132, .ref q133, .ref q134, .ref q135, .ref q136, .ref q137, .ref q138, .ref q139, .ref q140, .int 0]))] := hD
      have hK : va_K (dC, dI) vwCl [(y144, .long)] s := hK
      refine W.widen (k := 456) (n := 2511905) (by decide +kernel) (by decide +kernel) ?_
      refine lv_iload hx hb dL_law_696 (lv_at hl 1 rfl) ?_
      refine lv_icmp_eq (tgt := 703) hx hb dL_law_698 (by decide) (fun _ => ?_) (fun h9 => absurd (by decide) h9)
      refine lv_iload hx hb dL_law_703 (lv_at hl 1 rfl) ?_
      refine lv_if_ne (tgt := 720) hx hb dL_law_705 (by decide) (fun _ => ?_) (fun h9 => absurd h9 (by decide))
      refine lv_goto (tgt := 1493) hx hb dL_law_720 (by decide) ?_
      refine lv_iinc (v := 6) (lv' := [(4, .int 6), (6, .int 0), (5, .int 2), (3, .ref q143), (2, .ref q77), (1, .ref q1), (0, .ref b)]) hx hb dL_law_1493 hl (k := 2) rfl (by decide) (by decide) rfl (fun ls hl => ?_)
      refine lv_goto (tgt := 23) hx hb dL_law_1496 (by decide) ?_
      refine W.widen (k := 600002) (n := 7302232) (by decide +kernel) (by decide +kernel) ?_
      exact kkE _ _ _ hS (lv_sub hl [0, 6] rfl)
    · exact absurd c_7_0 c_1_0
    · exact absurd c_7_0 c_1_0
    · exact absurd c_7_0 c_1_0
    · exact h9.elim
  · subst h9
    subst h8
    obtain ⟨hP1, hK1, hD1⟩ := hB
    rw [ht] at hP1
    have hK1 := va_K.moved hvm.symm hK1
    obtain ⟨hP, hD⟩ := va_join (wr := [(q77, .inr (20, [.int 0, .ref q78, .int 0, .int 0, .ref q80, .ref q82, .ref q84, .ref q86, .ref q88, .ref q90, .ref q91, .ref q93, .ref q94, .ref q105, .ref q106, .ref q124, .ref q131, .int 0, .int 0, .int 0, .int 0, .int 0, .int 0, .int 0, .int 0, .int 0, .ref q132, .ref q133, .ref q134, .ref q135, .ref q136, .ref q137, .ref q138, .ref q139, .ref q140, .int 0]))]) (w1 := [(q143, .inl (y144, 1, .inr (.inl (fun _ => 0))))]) hP hD [0, 1, 3] [2] rfl rfl (by decide) (by decide) hk1 hFc hP1 hD1
    have hK := (hK.sub (tys' := []) [] rfl).app hK1
    generalize H1 = H at hP hS ⊢
    have hP : va_P (dC, dI) vwCl [(q77, .inr (20, [.int 0, .ref q78, .int 0, .int 0, .ref q80, .ref q82, .ref q84, .ref q86, .ref q88, .ref q90, .ref q91, .ref q93, .ref q94, .ref q105, .ref q106, .ref q124, .ref q131, .int 0, .int 0, .int 0, .int 0, .int 0, .int 0, .int 0, .int 0, .int 0, .ref q132, .ref q133, .ref q134, .ref q135, .ref q136, .ref q137, .ref q138, .ref q139, .ref q140, .int 0])), (q143, .inl (y144, 1, .inr (.inl (fun _ => 0))))] H := hP
    have hD : va_D A [(q77, .inr (20, [.int 0, .ref q78, .int 0, .int 0, .ref q80, .ref q82, .ref q84, .ref q86, .ref q88, .ref q90, .ref q91, .ref q93, .ref q94, .ref q105, .ref q106, .ref q124, .ref q131, .int 0, .int 0, .int 0, .int 0, .int 0, .int 0, .int 0, .int 0, .int 0, .ref q132, .ref q133, .ref q134, .ref q135, .ref q136, .ref q137, .ref q138, .ref q139, .ref q140, .int 0])), (q143, .inl (y144, 1, .inr (.inl (fun _ => 0))))] := hD
    have hK : va_K (dC, dI) vwCl [(y144, .long)] s := hK
    refine W.widen (k := 456) (n := 2511905) (by decide +kernel) (by decide +kernel) ?_
    refine lv_istore (lv' := [(5, .int 1), (4, .int 0), (3, .ref q143), (2, .ref q77), (1, .ref q1), (0, .ref b)]) hx hb dL_law_650 hl (by decide) rfl (fun ls hl => ?_)
    refine lv_aload_n hx hb dL_law_652 rfl (lv_at hl 3 rfl) ?_
    refine lv_aload_n hx hb dL_law_653 rfl (lv_at hl 5 rfl) ?_
    refine lv_iload hx hb dL_law_654 (lv_at hl 1 rfl) ?_
    refine lv_iconst (v := 1) hx hb dL_law_656 (by decide) ?_
    refine lv_iadd hx hb dL_law_657 ?_
    refine lv_topi (fun z563 ez563 => ?_)
    obtain rfl : z563 = 1 := ez563.trans (by decide)
    refine va_sld (i := 1) hx hb hX hbl hbA hS (vp_in_iff.mpr ⟨by decide, by decide⟩) dL_law_658 ?_
    rw [es1]
    refine lv_aload_n hx hb dL_law_659 rfl (lv_at hl 5 rfl) ?_
    refine lv_iload hx hb dL_law_660 (lv_at hl 1 rfl) ?_
    refine lv_iconst (v := 2) hx hb dL_law_662 (by decide) ?_
    refine lv_iadd hx hb dL_law_663 ?_
    refine lv_topi (fun z564 ez564 => ?_)
    obtain rfl : z564 = 2 := ez564.trans (by decide)
    refine va_sld (i := 2) hx hb hX hbl hbA hS (vp_in_iff.mpr ⟨by decide, by decide⟩) dL_law_664 ?_
    rw [es2]
    refine lv_i2l hx hb dL_law_665 rfl ?_
    refine lv_bipush (v := 32) hx hb dL_law_666 (by decide) ?_
    refine lv_lshl hx hb dL_law_668 rfl ?_
    refine lv_topl (fun z565 ez565 => ?_)
    have h9 : z503 = z565 := ez503.trans ez565.symm; subst h9
    refine lv_aload_n hx hb dL_law_669 rfl (lv_at hl 5 rfl) ?_
    refine lv_iload hx hb dL_law_670 (lv_at hl 1 rfl) ?_
    refine lv_iconst (v := 3) hx hb dL_law_672 (by decide) ?_
    refine lv_iadd hx hb dL_law_673 ?_
    refine lv_topi (fun z566 ez566 => ?_)
    obtain rfl : z566 = 3 := ez566.trans (by decide)
    refine va_sld (i := 3) hx hb hX hbl hbA hS (vp_in_iff.mpr ⟨by decide, by decide⟩) dL_law_674 ?_
    rw [es3]
    refine lv_i2l hx hb dL_law_675 rfl ?_
    refine lv_ldc2 hx hb hown (hts (.constantLong RL 99 (4294967295)) tw_72) dL_law_676 ?_
    refine lv_land hx hb dL_law_679 ?_
    refine lv_topl (fun z567 ez567 => ?_)
    have h9 : z505 = z567 := ez505.trans ez567.symm; subst h9
    refine lv_lor hx hb dL_law_680 ?_
    refine lv_topl (fun z568 ez568 => ?_)
    have h9 : z506 = z568 := ez506.trans ez568.symm; subst h9
    refine lv_aload_n hx hb dL_law_681 rfl (lv_at hl 5 rfl) ?_
    refine lv_iload hx hb dL_law_682 (lv_at hl 1 rfl) ?_
    refine lv_iconst (v := 4) hx hb dL_law_684 (by decide) ?_
    refine lv_iadd hx hb dL_law_685 ?_
    refine lv_topi (fun z569 ez569 => ?_)
    obtain rfl : z569 = 4 := ez569.trans (by decide)
    refine va_sld (i := 4) hx hb hX hbl hbA hS (vp_in_iff.mpr ⟨by decide, by decide⟩) dL_law_686 ?_
    rw [es4]
    have hPc := hP.sub (ws' := [(q77, .inr (20, [.int 0, .ref q78, .int 0, .int 0, .ref q80, .ref q82, .ref q84, .ref q86, .ref q88, .ref q90, .ref q91, .ref q93, .ref q94, .ref q105, .ref q106, .ref q124, .ref q131, .int 0, .int 0, .int 0, .int 0, .int 0, .int 0, .int 0, .int 0, .int 0, .ref q132, .ref q133, .ref q134, .ref q135, .ref q136, .ref q137, .ref q138, .ref q139, .ref q140, .int 0]))]) [0] rfl
    have hDc := hD.sub (ws' := [(q77, .inr (20, [.int 0, .ref q78, .int 0, .int 0, .ref q80, .ref q82, .ref q84, .ref q86, .ref q88, .ref q90, .ref q91, .ref q93, .ref q94, .ref q105, .ref q106, .ref q124, .ref q131, .int 0, .int 0, .int 0, .int 0, .int 0, .int 0, .int 0, .int 0, .int 0, .ref q132, .ref q133, .ref q134, .ref q135, .ref q136, .ref q137, .ref q138, .ref q139, .ref q140, .int 0]))]) [0] (by decide) rfl
    have hKc := hK.sub (tys' := []) [] rfl
    have hFc := va_free (wc := [(q77, .inr (20, [.int 0, .ref q78, .int 0, .int 0, .ref q80, .ref q82, .ref q84, .ref q86, .ref q88, .ref q90, .ref q91, .ref q93, .ref q94, .ref q105, .ref q106, .ref q124, .ref q131, .int 0, .int 0, .int 0, .int 0, .int 0, .int 0, .int 0, .int 0, .int 0, .ref q132, .ref q133, .ref q134, .ref q135, .ref q136, .ref q137, .ref q138, .ref q139, .ref q140, .int 0]))]) hD hS hA [0] rfl
    refine va_calli (va_runV (As := [.int x1, .long z506, .int x4]) (rest := []) ⟨hx, hb, hml, hown, hts⟩ (k_X19_outside l hlt dC dI q77 x1 z506 x4 q78 q80 q82 q84 q86 q88 q90 q91 q93 q94 q105 q106 q124 q131 q132 q133 q134 q135 q136 q137 q138 q139 q140  H.size) (cwV 3 hts gl_26 rfl rfl rfl (by decide +kernel) ⟨Nat.le_of_ble_eq_true rfl, Nat.le_of_ble_eq_true rfl⟩) ⟨fun a U g mk q => by obtain ⟨q0, q1, qP, qK, qD, qN⟩ := q; exact ⟨q0, q1, qP, va_K.moved (u := U) (U := U.calling g mk a) (Vm.Alike.refl U.vm) qK, qD, nv_same rfl rfl qN⟩, va_recv hKc hPc (ci := 20) (q0 := 0) rfl rfl, fun U hU hW => ⟨rfl, by rw [hU], by rw [hU]; exact hPc, va_K.moved hW.alike hKc, hDc.weaken (fun _ _ _ _ => trivial), nv_call hS hFc hU hW hN⟩⟩ rfl rfl hl.1 rfl (lv_room (Nat.le_of_ble_eq_true rfl)) dL_law_687 ⟨by decide +kernel, by decide +kernel⟩) hS (fun q _ h => hFc q h) hFc (fun r570 u t H1 locs ht hvm hw hB hz1 hk1 hS => ?_)
    rcases hw with ⟨c_8_0, c_8_1, c_8_2, c_8_3, c_8_4, h9, h8⟩ | ⟨c_8_0, c_8_1, c_8_2, c_8_3, c_8_4, h9, h8⟩ | ⟨c_8_0, c_8_1, c_8_2, c_8_3, c_8_4, h9, h8⟩ | ⟨c_8_0, c_8_1, c_8_2, c_8_3, c_8_4, c_8_5, h9, h8⟩ | ⟨c_8_0, c_8_1, c_8_2, c_8_3, c_8_4, c_8_5, h9, h8⟩ | ⟨c_8_0, c_8_1, c_8_2, c_8_3, h9, h8⟩ | ⟨c_8_0, c_8_1, c_8_2, c_8_3, c_8_4, h9, h8⟩ | ⟨c_8_0, c_8_1, c_8_2, c_8_3, c_8_4, c_8_5, h9, h8⟩ | ⟨c_8_0, c_8_1, c_8_2, c_8_3, c_8_4, c_8_5, c_8_6, h9, h8⟩ | ⟨c_8_0, c_8_1, c_8_2, c_8_3, c_8_4, c_8_5, c_8_6, h9, h8⟩ | ⟨c_8_0, c_8_1, c_8_2, h9, h8⟩ | ⟨c_8_0, c_8_1, c_8_2, c_8_3, h9, h8⟩ | ⟨c_8_0, c_8_1, c_8_2, c_8_3, h9, h8⟩ | ⟨c_8_0, c_8_1, h9, h8⟩ | ⟨c_8_0, c_8_1, c_8_2, h9, h8⟩ | ⟨c_8_0, c_8_1, c_8_2, h9, h8⟩ | h9
    · exact absurd c_1_2 c_8_2
    · exact absurd c_1_2 c_8_2
    · exact absurd c_1_2 c_8_2
    · exact absurd c_1_2 c_8_2
    · exact absurd c_1_2 c_8_2
    · subst h9
      subst h8
      obtain ⟨hP1, hK1, hD1⟩ := hB
      rw [ht] at hP1
      have hK1 := va_K.moved hvm.symm hK1
      obtain ⟨hP, hD⟩ := va_join (wr := [(q143, .inl (y144, 1, .inr (.inl (fun _ => 0))))]) (w1 := [(q77, .inr (20, [.int 1, .ref q78, .int 0, .int 0, .ref q80, .ref q82, .ref q84, .ref q86, .ref q88, .ref q90, .ref q91, .ref q93, .ref q94, .ref q105, .ref q106, .ref q124, .ref q131, .int 0, .int 0, .int 0, .int 0, .int 0, .int 0, .int 0, .int 0, .int 0, .ref q132, .ref q133, .ref q134, .ref q135, .ref q136, .ref q137, .ref q138, .ref q139, .ref q140, .int 0]))]) hP hD [0] [1] rfl rfl (by decide) (by decide) hk1 hFc hP1 hD1
      have hK := (hK.sub (tys' := [(y144, .long)]) [0] rfl).app hK1
      generalize H1 = H at hP hS ⊢
      have hP : va_P (dC, dI) vwCl [(q143, .inl (y144, 1, .inr (.inl (fun _ => 0)))), (q77, .inr (20, [.int 1, .ref q78, .int 0, .int 0, .ref q80, .ref q82, .ref q84, .ref q86, .ref q88, .ref q90, .ref q91, .ref q93, .ref q94, .ref q105, .ref q106, .ref q124, .ref q131, .int 0, .int 0, .int 0, .int 0, .int 0, .int 0, .int 0, .int 0, .int 0, .ref q132, .ref q133, .ref q134, .ref q135, .ref q136, .ref q137, .ref q138, .ref q139, .ref q140, .int 0]))] H := hP
      have hD : va_D A [(q143, .inl (y144, 1, .inr (.inl (fun _ => 0)))), (q77, .inr (20, [.int 1, .ref q78, .int 0, .int 0, .ref q80, .ref q82, .ref q84, .ref q86, .ref q88, .ref q90, .ref q91, .ref q93, .ref q94, .ref q105, .ref q106, .ref q124, .ref q131, .int 0, .int 0, .int 0, .int 0, .int 0, .int 0, .int 0, .int 0, .int 0, .ref q132, .ref q133, .ref q134, .ref q135, .ref q136, .ref q137, .ref q138, .ref q139, .ref q140, .int 0]))] := hD
      have hK : va_K (dC, dI) vwCl [(y144, .long)] s := hK
      refine W.widen (k := 456) (n := 2511905) (by decide +kernel) (by decide +kernel) ?_
      refine lv_istore (lv' := [(6, .int 0), (5, .int 1), (4, .int 0), (3, .ref q143), (2, .ref q77), (1, .ref q1), (0, .ref b)]) hx hb dL_law_690 hl (by decide) rfl (fun ls hl => ?_)
      refine lv_aload_n hx hb dL_law_692 rfl (lv_at hl 4 rfl) ?_
      have hPc := hP.sub (ws' := [(q77, .inr (20, [.int 1, .ref q78, .int 0, .int 0, .ref q80, .ref q82, .ref q84, .ref q86, .ref q88, .ref q90, .ref q91, .ref q93, .ref q94, .ref q105, .ref q106, .ref q124, .ref q131, .int 0, .int 0, .int 0, .int 0, .int 0, .int 0, .int 0, .int 0, .int 0, .ref q132, .ref q133, .ref q134, .ref q135, .ref q136, .ref q137, .ref q138, .ref q139, .ref q140, .int 0]))]) [1] rfl
      have hDc := hD.sub (ws' := [(q77, .inr (20, [.int 1, .ref q78, .int 0, .int 0, .ref q80, .ref q82, .ref q84, .ref q86, .ref q88, .ref q90, .ref q91, .ref q93, .ref q94, .ref q105, .ref q106, .ref q124, .ref q131, .int 0, .int 0, .int 0, .int 0, .int 0, .int 0, .int 0, .int 0, .int 0, .ref q132, .ref q133, .ref q134, .ref q135, .ref q136, .ref q137, .ref q138, .ref q139, .ref q140, .int 0]))]) [1] (by decide) rfl
      have hKc := hK.sub (tys' := []) [] rfl
      have hFc := va_free (wc := [(q77, .inr (20, [.int 1, .ref q78, .int 0, .int 0, .ref q80, .ref q82, .ref q84, .ref q86, .ref q88, .ref q90, .ref q91, .ref q93, .ref q94, .ref q105, .ref q106, .ref q124, .ref q131, .int 0, .int 0, .int 0, .int 0, .int 0, .int 0, .int 0, .int 0, .int 0, .ref q132, .ref q133, .ref q134, .ref q135, .ref q136, .ref q137, .ref q138, .ref q139, .ref q140, .int 0]))]) hD hS hA [1] rfl
      refine va_calli (va_runV (As := []) (rest := []) ⟨hx, hb, hml, hown, hts⟩ (k_X19_thrown l hlt dC dI q77 q78 q80 q82 q84 q86 q88 q90 q91 q93 q94 q105 q106 q124 q131 q132 q133 q134 q135 q136 q137 q138 q139 q140  H.size) (cwV 0 hts gl_8 rfl rfl rfl (by decide +kernel) ⟨Nat.le_of_ble_eq_true rfl, Nat.le_of_ble_eq_true rfl⟩) ⟨fun a U g mk q => by obtain ⟨q0, q1, qP, qK, qD, qN⟩ := q; exact ⟨q0, q1, qP, va_K.moved (u := U) (U := U.calling g mk a) (Vm.Alike.refl U.vm) qK, qD, nv_same rfl rfl qN⟩, va_recv hKc hPc (ci := 20) (q0 := 0) rfl rfl, fun U hU hW => ⟨rfl, by rw [hU], by rw [hU]; exact hPc, va_K.moved hW.alike hKc, hDc.weaken (fun _ _ _ _ => trivial), nv_call hS hFc hU hW hN⟩⟩ rfl rfl hl.1 rfl (lv_room (Nat.le_of_ble_eq_true rfl)) dL_law_693 ⟨by decide +kernel, by decide +kernel⟩) hS (fun q _ h => hFc q h) hFc (fun r571 u t H1 locs ht hvm hw hB hz1 hk1 hS => ?_)
      obtain ⟨hP1, hK1, hD1⟩ := hB
      rw [ht] at hP1
      have hK1 := va_K.moved hvm.symm hK1
      obtain rfl : r571 = 1 := hw
      obtain ⟨hP, hD⟩ := va_join (wr := [(q143, .inl (y144, 1, .inr (.inl (fun _ => 0))))]) (w1 := [(q77, .inr (20, [.int 1, .ref q78, .int 0, .int 0, .ref q80, .ref q82, .ref q84, .ref q86, .ref q88, .ref q90, .ref q91, .ref q93, .ref q94, .ref q105, .ref q106, .ref q124, .ref q131, .int 0, .int 0, .int 0, .int 0, .int 0, .int 0, .int 0, .int 0, .int 0, .ref q132, .ref q133, .ref q134, .ref q135, .ref q136, .ref q137, .ref q138, .ref q139, .ref q140, .int 0]))]) hP hD [1] [0] rfl rfl (by decide) (by decide) hk1 hFc hP1 hD1
      have hK := (hK.sub (tys' := [(y144, .long)]) [0] rfl).app hK1
      generalize H1 = H at hP hS ⊢
      have hP : va_P (dC, dI) vwCl [(q143, .inl (y144, 1, .inr (.inl (fun _ => 0)))), (q77, .inr (20, [.int 1, .ref q78, .int 0, .int 0, .ref q80, .ref q82, .ref q84, .ref q86, .ref q88, .ref q90, .ref q91, .ref q93, .ref q94, .ref q105, .ref q106, .ref q124, .ref q131, .int 0, .int 0, .int 0, .int 0, .int 0, .int 0, .int 0, .int 0, .int 0, .ref q132, .ref q133, .ref q134, .ref q135, .ref q136, .ref q137, .ref q138, .ref q139, .ref q140, .int 0]))] H := hP
      have hD : va_D A [(q143, .inl (y144, 1, .inr (.inl (fun _ => 0)))), (q77, .inr (20, [.int 1, .ref q78, .int 0, .int 0, .ref q80, .ref q82, .ref q84, .ref q86, .ref q88, .ref q90, .ref q91, .ref q93, .ref q94, .ref q105, .ref q106, .ref q124, .ref q131, .int 0, .int 0, .int 0, .int 0, .int 0, .int 0, .int 0, .int 0, .int 0, .ref q132, .ref q133, .ref q134, .ref q135, .ref q136, .ref q137, .ref q138, .ref q139, .ref q140, .int 0]))] := hD
      have hK : va_K (dC, dI) vwCl [(y144, .long)] s := hK
      refine W.widen (k := 456) (n := 2511905) (by decide +kernel) (by decide +kernel) ?_
      refine lv_iload hx hb dL_law_696 (lv_at hl 1 rfl) ?_
      refine lv_icmp_eq (tgt := 703) hx hb dL_law_698 (by decide) (fun _ => ?_) (fun h9 => absurd (by decide) h9)
      refine lv_iload hx hb dL_law_703 (lv_at hl 1 rfl) ?_
      refine lv_if_ne (tgt := 720) hx hb dL_law_705 (by decide) (fun _ => ?_) (fun h9 => absurd h9 (by decide))
      refine lv_goto (tgt := 1493) hx hb dL_law_720 (by decide) ?_
      refine lv_iinc (v := 6) (lv' := [(4, .int 6), (6, .int 0), (5, .int 1), (3, .ref q143), (2, .ref q77), (1, .ref q1), (0, .ref b)]) hx hb dL_law_1493 hl (k := 2) rfl (by decide) (by decide) rfl (fun ls hl => ?_)
      refine lv_goto (tgt := 23) hx hb dL_law_1496 (by decide) ?_
      refine W.widen (k := 600002) (n := 7302232) (by decide +kernel) (by decide +kernel) ?_
      exact kkE _ _ _ hS (lv_sub hl [0, 6] rfl)
    · exact absurd c_1_3 c_8_3
    · exact absurd c_1_3 c_8_3
    · exact absurd c_1_3 c_8_3
    · exact absurd c_1_3 c_8_3
    · exact absurd c_8_1 c_1_1
    · exact absurd c_8_1 c_1_1
    · exact absurd c_8_1 c_1_1
    · exact absurd c_8_0 c_1_0
    · exact absurd c_8_0 c_1_0
    · exact absurd c_8_0 c_1_0
    · exact h9.elim
  · subst h9
    subst h8
    obtain ⟨hP1, hK1, hD1⟩ := hB
    rw [ht] at hP1
    have hK1 := va_K.moved hvm.symm hK1
    obtain ⟨hP, hD⟩ := va_join (wr := [(q77, .inr (20, [.int 0, .ref q78, .int 0, .int 0, .ref q80, .ref q82, .ref q84, .ref q86, .ref q88, .ref q90, .ref q91, .ref q93, .ref q94, .ref q105, .ref q106, .ref q124, .ref q131, .int 0, .int 0, .int 0, .int 0, .int 0, .int 0, .int 0, .int 0, .int 0, .ref q132, .ref q133, .ref q134, .ref q135, .ref q136, .ref q137, .ref q138, .ref q139, .ref q140, .int 0]))]) (w1 := [(q143, .inl (y144, 1, .inr (.inl (fun _ => 0))))]) hP hD [0, 1, 3] [2] rfl rfl (by decide) (by decide) hk1 hFc hP1 hD1
    have hK := (hK.sub (tys' := []) [] rfl).app hK1
    generalize H1 = H at hP hS ⊢
    have hP : va_P (dC, dI) vwCl [(q77, .inr (20, [.int 0, .ref q78, .int 0, .int 0, .ref q80, .ref q82, .ref q84, .ref q86, .ref q88, .ref q90, .ref q91, .ref q93, .ref q94, .ref q105, .ref q106, .ref q124, .ref q131, .int 0, .int 0, .int 0, .int 0, .int 0, .int 0, .int 0, .int 0, .int 0, .ref q132, .ref q133, .ref q134, .ref q135, .ref q136, .ref q137, .ref q138, .ref q139, .ref q140, .int 0])), (q143, .inl (y144, 1, .inr (.inl (fun _ => 0))))] H := hP
    have hD : va_D A [(q77, .inr (20, [.int 0, .ref q78, .int 0, .int 0, .ref q80, .ref q82, .ref q84, .ref q86, .ref q88, .ref q90, .ref q91, .ref q93, .ref q94, .ref q105, .ref q106, .ref q124, .ref q131, .int 0, .int 0, .int 0, .int 0, .int 0, .int 0, .int 0, .int 0, .int 0, .ref q132, .ref q133, .ref q134, .ref q135, .ref q136, .ref q137, .ref q138, .ref q139, .ref q140, .int 0])), (q143, .inl (y144, 1, .inr (.inl (fun _ => 0))))] := hD
    have hK : va_K (dC, dI) vwCl [(y144, .long)] s := hK
    refine W.widen (k := 456) (n := 2511905) (by decide +kernel) (by decide +kernel) ?_
    refine lv_istore (lv' := [(5, .int 1), (4, .int 0), (3, .ref q143), (2, .ref q77), (1, .ref q1), (0, .ref b)]) hx hb dL_law_650 hl (by decide) rfl (fun ls hl => ?_)
    refine lv_aload_n hx hb dL_law_652 rfl (lv_at hl 3 rfl) ?_
    refine lv_aload_n hx hb dL_law_653 rfl (lv_at hl 5 rfl) ?_
    refine lv_iload hx hb dL_law_654 (lv_at hl 1 rfl) ?_
    refine lv_iconst (v := 1) hx hb dL_law_656 (by decide) ?_
    refine lv_iadd hx hb dL_law_657 ?_
    refine lv_topi (fun z572 ez572 => ?_)
    obtain rfl : z572 = 1 := ez572.trans (by decide)
    refine va_sld (i := 1) hx hb hX hbl hbA hS (vp_in_iff.mpr ⟨by decide, by decide⟩) dL_law_658 ?_
    rw [es1]
    refine lv_aload_n hx hb dL_law_659 rfl (lv_at hl 5 rfl) ?_
    refine lv_iload hx hb dL_law_660 (lv_at hl 1 rfl) ?_
    refine lv_iconst (v := 2) hx hb dL_law_662 (by decide) ?_
    refine lv_iadd hx hb dL_law_663 ?_
    refine lv_topi (fun z573 ez573 => ?_)
    obtain rfl : z573 = 2 := ez573.trans (by decide)
    refine va_sld (i := 2) hx hb hX hbl hbA hS (vp_in_iff.mpr ⟨by decide, by decide⟩) dL_law_664 ?_
    rw [es2]
    refine lv_i2l hx hb dL_law_665 rfl ?_
    refine lv_bipush (v := 32) hx hb dL_law_666 (by decide) ?_
    refine lv_lshl hx hb dL_law_668 rfl ?_
    refine lv_topl (fun z574 ez574 => ?_)
    have h9 : z503 = z574 := ez503.trans ez574.symm; subst h9
    refine lv_aload_n hx hb dL_law_669 rfl (lv_at hl 5 rfl) ?_
    refine lv_iload hx hb dL_law_670 (lv_at hl 1 rfl) ?_
    refine lv_iconst (v := 3) hx hb dL_law_672 (by decide) ?_
    refine lv_iadd hx hb dL_law_673 ?_
    refine lv_topi (fun z575 ez575 => ?_)
    obtain rfl : z575 = 3 := ez575.trans (by decide)
    refine va_sld (i := 3) hx hb hX hbl hbA hS (vp_in_iff.mpr ⟨by decide, by decide⟩) dL_law_674 ?_
    rw [es3]
    refine lv_i2l hx hb dL_law_675 rfl ?_
    refine lv_ldc2 hx hb hown (hts (.constantLong RL 99 (4294967295)) tw_72) dL_law_676 ?_
    refine lv_land hx hb dL_law_679 ?_
    refine lv_topl (fun z576 ez576 => ?_)
    have h9 : z505 = z576 := ez505.trans ez576.symm; subst h9
    refine lv_lor hx hb dL_law_680 ?_
    refine lv_topl (fun z577 ez577 => ?_)
    have h9 : z506 = z577 := ez506.trans ez577.symm; subst h9
    refine lv_aload_n hx hb dL_law_681 rfl (lv_at hl 5 rfl) ?_
    refine lv_iload hx hb dL_law_682 (lv_at hl 1 rfl) ?_
    refine lv_iconst (v := 4) hx hb dL_law_684 (by decide) ?_
    refine lv_iadd hx hb dL_law_685 ?_
    refine lv_topi (fun z578 ez578 => ?_)
    obtain rfl : z578 = 4 := ez578.trans (by decide)
    refine va_sld (i := 4) hx hb hX hbl hbA hS (vp_in_iff.mpr ⟨by decide, by decide⟩) dL_law_686 ?_
    rw [es4]
    have hPc := hP.sub (ws' := [(q77, .inr (20, [.int 0, .ref q78, .int 0, .int 0, .ref q80, .ref q82, .ref q84, .ref q86, .ref q88, .ref q90, .ref q91, .ref q93, .ref q94, .ref q105, .ref q106, .ref q124, .ref q131, .int 0, .int 0, .int 0, .int 0, .int 0, .int 0, .int 0, .int 0, .int 0, .ref q132, .ref q133, .ref q134, .ref q135, .ref q136, .ref q137, .ref q138, .ref q139, .ref q140, .int 0]))]) [0] rfl
    have hDc := hD.sub (ws' := [(q77, .inr (20, [.int 0, .ref q78, .int 0, .int 0, .ref q80, .ref q82, .ref q84, .ref q86, .ref q88, .ref q90, .ref q91, .ref q93, .ref q94, .ref q105, .ref q106, .ref q124, .ref q131, .int 0, .int 0, .int 0, .int 0, .int 0, .int 0, .int 0, .int 0, .int 0, .ref q132, .ref q133, .ref q134, .ref q135, .ref q136, .ref q137, .ref q138, .ref q139, .ref q140, .int 0]))]) [0] (by decide) rfl
    have hKc := hK.sub (tys' := []) [] rfl
    have hFc := va_free (wc := [(q77, .inr (20, [.int 0, .ref q78, .int 0, .int 0, .ref q80, .ref q82, .ref q84, .ref q86, .ref q88, .ref q90, .ref q91, .ref q93, .ref q94, .ref q105, .ref q106, .ref q124, .ref q131, .int 0, .int 0, .int 0, .int 0, .int 0, .int 0, .int 0, .int 0, .int 0, .ref q132, .ref q133, .ref q134, .ref q135, .ref q136, .ref q137, .ref q138, .ref q139, .ref q140, .int 0]))]) hD hS hA [0] rfl
    refine va_calli (va_runV (As := [.int x1, .long z506, .int x4]) (rest := []) ⟨hx, hb, hml, hown, hts⟩ (k_X19_outside l hlt dC dI q77 x1 z506 x4 q78 q80 q82 q84 q86 q88 q90 q91 q93 q94 q105 q106 q124 q131 q132 q133 q134 q135 q136 q137 q138 q139 q140  H.size) (cwV 3 hts gl_26 rfl rfl rfl (by decide +kernel) ⟨Nat.le_of_ble_eq_true rfl, Nat.le_of_ble_eq_true rfl⟩) ⟨fun a U g mk q => by obtain ⟨q0, q1, qP, qK, qD, qN⟩ := q; exact ⟨q0, q1, qP, va_K.moved (u := U) (U := U.calling g mk a) (Vm.Alike.refl U.vm) qK, qD, nv_same rfl rfl qN⟩, va_recv hKc hPc (ci := 20) (q0 := 0) rfl rfl, fun U hU hW => ⟨rfl, by rw [hU], by rw [hU]; exact hPc, va_K.moved hW.alike hKc, hDc.weaken (fun _ _ _ _ => trivial), nv_call hS hFc hU hW hN⟩⟩ rfl rfl hl.1 rfl (lv_room (Nat.le_of_ble_eq_true rfl)) dL_law_687 ⟨by decide +kernel, by decide +kernel⟩) hS (fun q _ h => hFc q h) hFc (fun r579 u t H1 locs ht hvm hw hB hz1 hk1 hS => ?_)
    rcases hw with ⟨c_9_0, c_9_1, c_9_2, c_9_3, c_9_4, h9, h8⟩ | ⟨c_9_0, c_9_1, c_9_2, c_9_3, c_9_4, h9, h8⟩ | ⟨c_9_0, c_9_1, c_9_2, c_9_3, c_9_4, h9, h8⟩ | ⟨c_9_0, c_9_1, c_9_2, c_9_3, c_9_4, c_9_5, h9, h8⟩ | ⟨c_9_0, c_9_1, c_9_2, c_9_3, c_9_4, c_9_5, h9, h8⟩ | ⟨c_9_0, c_9_1, c_9_2, c_9_3, h9, h8⟩ | ⟨c_9_0, c_9_1, c_9_2, c_9_3, c_9_4, h9, h8⟩ | ⟨c_9_0, c_9_1, c_9_2, c_9_3, c_9_4, c_9_5, h9, h8⟩ | ⟨c_9_0, c_9_1, c_9_2, c_9_3, c_9_4, c_9_5, c_9_6, h9, h8⟩ | ⟨c_9_0, c_9_1, c_9_2, c_9_3, c_9_4, c_9_5, c_9_6, h9, h8⟩ | ⟨c_9_0, c_9_1, c_9_2, h9, h8⟩ | ⟨c_9_0, c_9_1, c_9_2, c_9_3, h9, h8⟩ | ⟨c_9_0, c_9_1, c_9_2, c_9_3, h9, h8⟩ | ⟨c_9_0, c_9_1, h9, h8⟩ | ⟨c_9_0, c_9_1, c_9_2, h9, h8⟩ | ⟨c_9_0, c_9_1, c_9_2, h9, h8⟩ | h9
    · exact absurd c_1_2 c_9_2
    · exact absurd c_1_2 c_9_2
    · exact absurd c_1_2 c_9_2
    · exact absurd c_1_2 c_9_2
    · exact absurd c_1_2 c_9_2
    · exact absurd c_9_3 c_1_3
    · subst h9
      subst h8
      obtain ⟨hP1, hK1, hD1⟩ := hB
      rw [ht] at hP1
      have hK1 := va_K.moved hvm.symm hK1
      obtain ⟨hP, hD⟩ := va_join (wr := [(q143, .inl (y144, 1, .inr (.inl (fun _ => 0))))]) (w1 := [(q77, .inr (20, [.int 1, .ref q78, .int 0, .int 0, .ref q80, .ref q82, .ref q84, .ref q86, .ref q88, .ref q90, .ref q91, .ref q93, .ref q94, .ref q105, .ref q106, .ref q124, .ref q131, .int 0, .int 0, .int 0, .int 0, .int 0, .int 0, .int 0, .int 0, .int 0, .ref q132, .ref q133, .ref q134, .ref q135, .ref q136, .ref q137, .ref q138, .ref q139, .ref q140, .int 0]))]) hP hD [0] [1] rfl rfl (by decide) (by decide) hk1 hFc hP1 hD1
      have hK := (hK.sub (tys' := [(y144, .long)]) [0] rfl).app hK1
      generalize H1 = H at hP hS ⊢
      have hP : va_P (dC, dI) vwCl [(q143, .inl (y144, 1, .inr (.inl (fun _ => 0)))), (q77, .inr (20, [.int 1, .ref q78, .int 0, .int 0, .ref q80, .ref q82, .ref q84, .ref q86, .ref q88, .ref q90, .ref q91, .ref q93, .ref q94, .ref q105, .ref q106, .ref q124, .ref q131, .int 0, .int 0, .int 0, .int 0, .int 0, .int 0, .int 0, .int 0, .int 0, .ref q132, .ref q133, .ref q134, .ref q135, .ref q136, .ref q137, .ref q138, .ref q139, .ref q140, .int 0]))] H := hP
      have hD : va_D A [(q143, .inl (y144, 1, .inr (.inl (fun _ => 0)))), (q77, .inr (20, [.int 1, .ref q78, .int 0, .int 0, .ref q80, .ref q82, .ref q84, .ref q86, .ref q88, .ref q90, .ref q91, .ref q93, .ref q94, .ref q105, .ref q106, .ref q124, .ref q131, .int 0, .int 0, .int 0, .int 0, .int 0, .int 0, .int 0, .int 0, .int 0, .ref q132, .ref q133, .ref q134, .ref q135, .ref q136, .ref q137, .ref q138, .ref q139, .ref q140, .int 0]))] := hD
      have hK : va_K (dC, dI) vwCl [(y144, .long)] s := hK
      refine W.widen (k := 456) (n := 2511905) (by decide +kernel) (by decide +kernel) ?_
      refine lv_istore (lv' := [(6, .int 0), (5, .int 1), (4, .int 0), (3, .ref q143), (2, .ref q77), (1, .ref q1), (0, .ref b)]) hx hb dL_law_690 hl (by decide) rfl (fun ls hl => ?_)
      refine lv_aload_n hx hb dL_law_692 rfl (lv_at hl 4 rfl) ?_
      have hPc := hP.sub (ws' := [(q77, .inr (20, [.int 1, .ref q78, .int 0, .int 0, .ref q80, .ref q82, .ref q84, .ref q86, .ref q88, .ref q90, .ref q91, .ref q93, .ref q94, .ref q105, .ref q106, .ref q124, .ref q131, .int 0, .int 0, .int 0, .int 0, .int 0, .int 0, .int 0, .int 0, .int 0, .ref q132, .ref q133, .ref q134, .ref q135, .ref q136, .ref q137, .ref q138, .ref q139, .ref q140, .int 0]))]) [1] rfl
      have hDc := hD.sub (ws' := [(q77, .inr (20, [.int 1, .ref q78, .int 0, .int 0, .ref q80, .ref q82, .ref q84, .ref q86, .ref q88, .ref q90, .ref q91, .ref q93, .ref q94, .ref q105, .ref q106, .ref q124, .ref q131, .int 0, .int 0, .int 0, .int 0, .int 0, .int 0, .int 0, .int 0, .int 0, .ref q132, .ref q133, .ref q134, .ref q135, .ref q136, .ref q137, .ref q138, .ref q139, .ref q140, .int 0]))]) [1] (by decide) rfl
      have hKc := hK.sub (tys' := []) [] rfl
      have hFc := va_free (wc := [(q77, .inr (20, [.int 1, .ref q78, .int 0, .int 0, .ref q80, .ref q82, .ref q84, .ref q86, .ref q88, .ref q90, .ref q91, .ref q93, .ref q94, .ref q105, .ref q106, .ref q124, .ref q131, .int 0, .int 0, .int 0, .int 0, .int 0, .int 0, .int 0, .int 0, .int 0, .ref q132, .ref q133, .ref q134, .ref q135, .ref q136, .ref q137, .ref q138, .ref q139, .ref q140, .int 0]))]) hD hS hA [1] rfl
      refine va_calli (va_runV (As := []) (rest := []) ⟨hx, hb, hml, hown, hts⟩ (k_X19_thrown l hlt dC dI q77 q78 q80 q82 q84 q86 q88 q90 q91 q93 q94 q105 q106 q124 q131 q132 q133 q134 q135 q136 q137 q138 q139 q140  H.size) (cwV 0 hts gl_8 rfl rfl rfl (by decide +kernel) ⟨Nat.le_of_ble_eq_true rfl, Nat.le_of_ble_eq_true rfl⟩) ⟨fun a U g mk q => by obtain ⟨q0, q1, qP, qK, qD, qN⟩ := q; exact ⟨q0, q1, qP, va_K.moved (u := U) (U := U.calling g mk a) (Vm.Alike.refl U.vm) qK, qD, nv_same rfl rfl qN⟩, va_recv hKc hPc (ci := 20) (q0 := 0) rfl rfl, fun U hU hW => ⟨rfl, by rw [hU], by rw [hU]; exact hPc, va_K.moved hW.alike hKc, hDc.weaken (fun _ _ _ _ => trivial), nv_call hS hFc hU hW hN⟩⟩ rfl rfl hl.1 rfl (lv_room (Nat.le_of_ble_eq_true rfl)) dL_law_693 ⟨by decide +kernel, by decide +kernel⟩) hS (fun q _ h => hFc q h) hFc (fun r580 u t H1 locs ht hvm hw hB hz1 hk1 hS => ?_)
      obtain ⟨hP1, hK1, hD1⟩ := hB
      rw [ht] at hP1
      have hK1 := va_K.moved hvm.symm hK1
      obtain rfl : r580 = 1 := hw
      obtain ⟨hP, hD⟩ := va_join (wr := [(q143, .inl (y144, 1, .inr (.inl (fun _ => 0))))]) (w1 := [(q77, .inr (20, [.int 1, .ref q78, .int 0, .int 0, .ref q80, .ref q82, .ref q84, .ref q86, .ref q88, .ref q90, .ref q91, .ref q93, .ref q94, .ref q105, .ref q106, .ref q124, .ref q131, .int 0, .int 0, .int 0, .int 0, .int 0, .int 0, .int 0, .int 0, .int 0, .ref q132, .ref q133, .ref q134, .ref q135, .ref q136, .ref q137, .ref q138, .ref q139, .ref q140, .int 0]))]) hP hD [1] [0] rfl rfl (by decide) (by decide) hk1 hFc hP1 hD1
      have hK := (hK.sub (tys' := [(y144, .long)]) [0] rfl).app hK1
      generalize H1 = H at hP hS ⊢
      have hP : va_P (dC, dI) vwCl [(q143, .inl (y144, 1, .inr (.inl (fun _ => 0)))), (q77, .inr (20, [.int 1, .ref q78, .int 0, .int 0, .ref q80, .ref q82, .ref q84, .ref q86, .ref q88, .ref q90, .ref q91, .ref q93, .ref q94, .ref q105, .ref q106, .ref q124, .ref q131, .int 0, .int 0, .int 0, .int 0, .int 0, .int 0, .int 0, .int 0, .int 0, .ref q132, .ref q133, .ref q134, .ref q135, .ref q136, .ref q137, .ref q138, .ref q139, .ref q140, .int 0]))] H := hP
      have hD : va_D A [(q143, .inl (y144, 1, .inr (.inl (fun _ => 0)))), (q77, .inr (20, [.int 1, .ref q78, .int 0, .int 0, .ref q80, .ref q82, .ref q84, .ref q86, .ref q88, .ref q90, .ref q91, .ref q93, .ref q94, .ref q105, .ref q106, .ref q124, .ref q131, .int 0, .int 0, .int 0, .int 0, .int 0, .int 0, .int 0, .int 0, .int 0, .ref q132, .ref q133, .ref q134, .ref q135, .ref q136, .ref q137, .ref q138, .ref q139, .ref q140, .int 0]))] := hD
      have hK : va_K (dC, dI) vwCl [(y144, .long)] s := hK
      refine W.widen (k := 456) (n := 2511905) (by decide +kernel) (by decide +kernel) ?_
      refine lv_iload hx hb dL_law_696 (lv_at hl 1 rfl) ?_
      refine lv_icmp_eq (tgt := 703) hx hb dL_law_698 (by decide) (fun _ => ?_) (fun h9 => absurd (by decide) h9)
      refine lv_iload hx hb dL_law_703 (lv_at hl 1 rfl) ?_
      refine lv_if_ne (tgt := 720) hx hb dL_law_705 (by decide) (fun _ => ?_) (fun h9 => absurd h9 (by decide))
      refine lv_goto (tgt := 1493) hx hb dL_law_720 (by decide) ?_
      refine lv_iinc (v := 6) (lv' := [(4, .int 6), (6, .int 0), (5, .int 1), (3, .ref q143), (2, .ref q77), (1, .ref q1), (0, .ref b)]) hx hb dL_law_1493 hl (k := 2) rfl (by decide) (by decide) rfl (fun ls hl => ?_)
      refine lv_goto (tgt := 23) hx hb dL_law_1496 (by decide) ?_
      refine W.widen (k := 600002) (n := 7302232) (by decide +kernel) (by decide +kernel) ?_
      exact kkE _ _ _ hS (lv_sub hl [0, 6] rfl)
    · exact (cz_2 z506 c_1_3 c_1_4 c_9_4).elim
    · exact (cz_2 z506 c_1_3 c_1_4 c_9_4).elim
    · exact (cz_2 z506 c_1_3 c_1_4 c_9_4).elim
    · exact absurd c_9_1 c_1_1
    · exact absurd c_9_1 c_1_1
    · exact absurd c_9_1 c_1_1
    · exact absurd c_9_0 c_1_0
    · exact absurd c_9_0 c_1_0
    · exact absurd c_9_0 c_1_0
    · exact h9.elim
  · subst h9
    subst h8
    obtain ⟨hP1, hK1, hD1⟩ := hB
    rw [ht] at hP1
    have hK1 := va_K.moved hvm.symm hK1
    obtain ⟨hP, hD⟩ := va_join (wr := [(q77, .inr (20, [.int 0, .ref q78, .int 0, .int 0, .ref q80, .ref q82, .ref q84, .ref q86, .ref q88, .ref q90, .ref q91, .ref q93, .ref q94, .ref q105, .ref q106, .ref q124, .ref q131, .int 0, .int 0, .int 0, .int 0, .int 0, .int 0, .int 0, .int 0, .int 0, .ref q132, .ref q133, .ref q134, .ref q135, .ref q136, .ref q137, .ref q138, .ref q139, .ref q140, .int 0]))]) (w1 := [(q143, .inl (y144, 1, .inr (.inl (fun _ => 0))))]) hP hD [0, 1, 3] [2] rfl rfl (by decide) (by decide) hk1 hFc hP1 hD1
    have hK := (hK.sub (tys' := []) [] rfl).app hK1
    generalize H1 = H at hP hS ⊢
    have hP : va_P (dC, dI) vwCl [(q77, .inr (20, [.int 0, .ref q78, .int 0, .int 0, .ref q80, .ref q82, .ref q84, .ref q86, .ref q88, .ref q90, .ref q91, .ref q93, .ref q94, .ref q105, .ref q106, .ref q124, .ref q131, .int 0, .int 0, .int 0, .int 0, .int 0, .int 0, .int 0, .int 0, .int 0, .ref q132, .ref q133, .ref q134, .ref q135, .ref q136, .ref q137, .ref q138, .ref q139, .ref q140, .int 0])), (q143, .inl (y144, 1, .inr (.inl (fun _ => 0))))] H := hP
    have hD : va_D A [(q77, .inr (20, [.int 0, .ref q78, .int 0, .int 0, .ref q80, .ref q82, .ref q84, .ref q86, .ref q88, .ref q90, .ref q91, .ref q93, .ref q94, .ref q105, .ref q106, .ref q124, .ref q131, .int 0, .int 0, .int 0, .int 0, .int 0, .int 0, .int 0, .int 0, .int 0, .ref q132, .ref q133, .ref q134, .ref q135, .ref q136, .ref q137, .ref q138, .ref q139, .ref q140, .int 0])), (q143, .inl (y144, 1, .inr (.inl (fun _ => 0))))] := hD
    have hK : va_K (dC, dI) vwCl [(y144, .long)] s := hK
    refine W.widen (k := 456) (n := 2511905) (by decide +kernel) (by decide +kernel) ?_
    refine lv_istore (lv' := [(5, .int 1), (4, .int 0), (3, .ref q143), (2, .ref q77), (1, .ref q1), (0, .ref b)]) hx hb dL_law_650 hl (by decide) rfl (fun ls hl => ?_)
    refine lv_aload_n hx hb dL_law_652 rfl (lv_at hl 3 rfl) ?_
    refine lv_aload_n hx hb dL_law_653 rfl (lv_at hl 5 rfl) ?_
    refine lv_iload hx hb dL_law_654 (lv_at hl 1 rfl) ?_
    refine lv_iconst (v := 1) hx hb dL_law_656 (by decide) ?_
    refine lv_iadd hx hb dL_law_657 ?_
    refine lv_topi (fun z581 ez581 => ?_)
    obtain rfl : z581 = 1 := ez581.trans (by decide)
    refine va_sld (i := 1) hx hb hX hbl hbA hS (vp_in_iff.mpr ⟨by decide, by decide⟩) dL_law_658 ?_
    rw [es1]
    refine lv_aload_n hx hb dL_law_659 rfl (lv_at hl 5 rfl) ?_
    refine lv_iload hx hb dL_law_660 (lv_at hl 1 rfl) ?_
    refine lv_iconst (v := 2) hx hb dL_law_662 (by decide) ?_
    refine lv_iadd hx hb dL_law_663 ?_
    refine lv_topi (fun z582 ez582 => ?_)
    obtain rfl : z582 = 2 := ez582.trans (by decide)
    refine va_sld (i := 2) hx hb hX hbl hbA hS (vp_in_iff.mpr ⟨by decide, by decide⟩) dL_law_664 ?_
    rw [es2]
    refine lv_i2l hx hb dL_law_665 rfl ?_
    refine lv_bipush (v := 32) hx hb dL_law_666 (by decide) ?_
    refine lv_lshl hx hb dL_law_668 rfl ?_
    refine lv_topl (fun z583 ez583 => ?_)
    have h9 : z503 = z583 := ez503.trans ez583.symm; subst h9
    refine lv_aload_n hx hb dL_law_669 rfl (lv_at hl 5 rfl) ?_
    refine lv_iload hx hb dL_law_670 (lv_at hl 1 rfl) ?_
    refine lv_iconst (v := 3) hx hb dL_law_672 (by decide) ?_
    refine lv_iadd hx hb dL_law_673 ?_
    refine lv_topi (fun z584 ez584 => ?_)
    obtain rfl : z584 = 3 := ez584.trans (by decide)
    refine va_sld (i := 3) hx hb hX hbl hbA hS (vp_in_iff.mpr ⟨by decide, by decide⟩) dL_law_674 ?_
    rw [es3]
    refine lv_i2l hx hb dL_law_675 rfl ?_
    refine lv_ldc2 hx hb hown (hts (.constantLong RL 99 (4294967295)) tw_72) dL_law_676 ?_
    refine lv_land hx hb dL_law_679 ?_
    refine lv_topl (fun z585 ez585 => ?_)
    have h9 : z505 = z585 := ez505.trans ez585.symm; subst h9
    refine lv_lor hx hb dL_law_680 ?_
    refine lv_topl (fun z586 ez586 => ?_)
    have h9 : z506 = z586 := ez506.trans ez586.symm; subst h9
    refine lv_aload_n hx hb dL_law_681 rfl (lv_at hl 5 rfl) ?_
    refine lv_iload hx hb dL_law_682 (lv_at hl 1 rfl) ?_
    refine lv_iconst (v := 4) hx hb dL_law_684 (by decide) ?_
    refine lv_iadd hx hb dL_law_685 ?_
    refine lv_topi (fun z587 ez587 => ?_)
    obtain rfl : z587 = 4 := ez587.trans (by decide)
    refine va_sld (i := 4) hx hb hX hbl hbA hS (vp_in_iff.mpr ⟨by decide, by decide⟩) dL_law_686 ?_
    rw [es4]
    have hPc := hP.sub (ws' := [(q77, .inr (20, [.int 0, .ref q78, .int 0, .int 0, .ref q80, .ref q82, .ref q84, .ref q86, .ref q88, .ref q90, .ref q91, .ref q93, .ref q94, .ref q105, .ref q106, .ref q124, .ref q131, .int 0, .int 0, .int 0, .int 0, .int 0, .int 0, .int 0, .int 0, .int 0, .ref q132, .ref q133, .ref q134, .ref q135, .ref q136, .ref q137, .ref q138, .ref q139, .ref q140, .int 0]))]) [0] rfl
    have hDc := hD.sub (ws' := [(q77, .inr (20, [.int 0, .ref q78, .int 0, .int 0, .ref q80, .ref q82, .ref q84, .ref q86, .ref q88, .ref q90, .ref q91, .ref q93, .ref q94, .ref q105, .ref q106, .ref q124, .ref q131, .int 0, .int 0, .int 0, .int 0, .int 0, .int 0, .int 0, .int 0, .int 0, .ref q132, .ref q133, .ref q134, .ref q135, .ref q136, .ref q137, .ref q138, .ref q139, .ref q140, .int 0]))]) [0] (by decide) rfl
    have hKc := hK.sub (tys' := []) [] rfl
    have hFc := va_free (wc := [(q77, .inr (20, [.int 0, .ref q78, .int 0, .int 0, .ref q80, .ref q82, .ref q84, .ref q86, .ref q88, .ref q90, .ref q91, .ref q93, .ref q94, .ref q105, .ref q106, .ref q124, .ref q131, .int 0, .int 0, .int 0, .int 0, .int 0, .int 0, .int 0, .int 0, .int 0, .ref q132, .ref q133, .ref q134, .ref q135, .ref q136, .ref q137, .ref q138, .ref q139, .ref q140, .int 0]))]) hD hS hA [0] rfl
    refine va_calli (va_runV (As := [.int x1, .long z506, .int x4]) (rest := []) ⟨hx, hb, hml, hown, hts⟩ (k_X19_outside l hlt dC dI q77 x1 z506 x4 q78 q80 q82 q84 q86 q88 q90 q91 q93 q94 q105 q106 q124 q131 q132 q133 q134 q135 q136 q137 q138 q139 q140  H.size) (cwV 3 hts gl_26 rfl rfl rfl (by decide +kernel) ⟨Nat.le_of_ble_eq_true rfl, Nat.le_of_ble_eq_true rfl⟩) ⟨fun a U g mk q => by obtain ⟨q0, q1, qP, qK, qD, qN⟩ := q; exact ⟨q0, q1, qP, va_K.moved (u := U) (U := U.calling g mk a) (Vm.Alike.refl U.vm) qK, qD, nv_same rfl rfl qN⟩, va_recv hKc hPc (ci := 20) (q0 := 0) rfl rfl, fun U hU hW => ⟨rfl, by rw [hU], by rw [hU]; exact hPc, va_K.moved hW.alike hKc, hDc.weaken (fun _ _ _ _ => trivial), nv_call hS hFc hU hW hN⟩⟩ rfl rfl hl.1 rfl (lv_room (Nat.le_of_ble_eq_true rfl)) dL_law_687 ⟨by decide +kernel, by decide +kernel⟩) hS (fun q _ h => hFc q h) hFc (fun r588 u t H1 locs ht hvm hw hB hz1 hk1 hS => ?_)
    rcases hw with ⟨c_10_0, c_10_1, c_10_2, c_10_3, c_10_4, h9, h8⟩ | ⟨c_10_0, c_10_1, c_10_2, c_10_3, c_10_4, h9, h8⟩ | ⟨c_10_0, c_10_1, c_10_2, c_10_3, c_10_4, h9, h8⟩ | ⟨c_10_0, c_10_1, c_10_2, c_10_3, c_10_4, c_10_5, h9, h8⟩ | ⟨c_10_0, c_10_1, c_10_2, c_10_3, c_10_4, c_10_5, h9, h8⟩ | ⟨c_10_0, c_10_1, c_10_2, c_10_3, h9, h8⟩ | ⟨c_10_0, c_10_1, c_10_2, c_10_3, c_10_4, h9, h8⟩ | ⟨c_10_0, c_10_1, c_10_2, c_10_3, c_10_4, c_10_5, h9, h8⟩ | ⟨c_10_0, c_10_1, c_10_2, c_10_3, c_10_4, c_10_5, c_10_6, h9, h8⟩ | ⟨c_10_0, c_10_1, c_10_2, c_10_3, c_10_4, c_10_5, c_10_6, h9, h8⟩ | ⟨c_10_0, c_10_1, c_10_2, h9, h8⟩ | ⟨c_10_0, c_10_1, c_10_2, c_10_3, h9, h8⟩ | ⟨c_10_0, c_10_1, c_10_2, c_10_3, h9, h8⟩ | ⟨c_10_0, c_10_1, h9, h8⟩ | ⟨c_10_0, c_10_1, c_10_2, h9, h8⟩ | ⟨c_10_0, c_10_1, c_10_2, h9, h8⟩ | h9
    · exact absurd c_1_2 c_10_2
    · exact absurd c_1_2 c_10_2
    · exact absurd c_1_2 c_10_2
    · exact absurd c_1_2 c_10_2
    · exact absurd c_1_2 c_10_2
    · exact absurd c_10_3 c_1_3
    · exact (cz_3 z506 c_1_3 c_1_4 c_10_4).elim
    · subst h9
      subst h8
      obtain ⟨hP1, hK1, hD1⟩ := hB
      rw [ht] at hP1
      have hK1 := va_K.moved hvm.symm hK1
      obtain ⟨hP, hD⟩ := va_join (wr := [(q143, .inl (y144, 1, .inr (.inl (fun _ => 0))))]) (w1 := [(q77, .inr (20, [.int 1, .ref q78, .int 0, .int 0, .ref q80, .ref q82, .ref q84, .ref q86, .ref q88, .ref q90, .ref q91, .ref q93, .ref q94, .ref q105, .ref q106, .ref q124, .ref q131, .int 0, .int 0, .int 0, .int 0, .int 0, .int 0, .int 0, .int 0, .int 0, .ref q132, .ref q133, .ref q134, .ref q135, .ref q136, .ref q137, .ref q138, .ref q139, .ref q140, .int 0]))]) hP hD [0] [1] rfl rfl (by decide) (by decide) hk1 hFc hP1 hD1
      have hK := (hK.sub (tys' := [(y144, .long)]) [0] rfl).app hK1
      generalize H1 = H at hP hS ⊢
      have hP : va_P (dC, dI) vwCl [(q143, .inl (y144, 1, .inr (.inl (fun _ => 0)))), (q77, .inr (20, [.int 1, .ref q78, .int 0, .int 0, .ref q80, .ref q82, .ref q84, .ref q86, .ref q88, .ref q90, .ref q91, .ref q93, .ref q94, .ref q105, .ref q106, .ref q124, .ref q131, .int 0, .int 0, .int 0, .int 0, .int 0, .int 0, .int 0, .int 0, .int 0, .ref q132, .ref q133, .ref q134, .ref q135, .ref q136, .ref q137, .ref q138, .ref q139, .ref q140, .int 0]))] H := hP
      have hD : va_D A [(q143, .inl (y144, 1, .inr (.inl (fun _ => 0)))), (q77, .inr (20, [.int 1, .ref q78, .int 0, .int 0, .ref q80, .ref q82, .ref q84, .ref q86, .ref q88, .ref q90, .ref q91, .ref q93, .ref q94, .ref q105, .ref q106, .ref q124, .ref q131, .int 0, .int 0, .int 0, .int 0, .int 0, .int 0, .int 0, .int 0, .int 0, .ref q132, .ref q133, .ref q134, .ref q135, .ref q136, .ref q137, .ref q138, .ref q139, .ref q140, .int 0]))] := hD
      have hK : va_K (dC, dI) vwCl [(y144, .long)] s := hK
      refine W.widen (k := 456) (n := 2511905) (by decide +kernel) (by decide +kernel) ?_
      refine lv_istore (lv' := [(6, .int 0), (5, .int 1), (4, .int 0), (3, .ref q143), (2, .ref q77), (1, .ref q1), (0, .ref b)]) hx hb dL_law_690 hl (by decide) rfl (fun ls hl => ?_)
      refine lv_aload_n hx hb dL_law_692 rfl (lv_at hl 4 rfl) ?_
      have hPc := hP.sub (ws' := [(q77, .inr (20, [.int 1, .ref q78, .int 0, .int 0, .ref q80, .ref q82, .ref q84, .ref q86, .ref q88, .ref q90, .ref q91, .ref q93, .ref q94, .ref q105, .ref q106, .ref q124, .ref q131, .int 0, .int 0, .int 0, .int 0, .int 0, .int 0, .int 0, .int 0, .int 0, .ref q132, .ref q133, .ref q134, .ref q135, .ref q136, .ref q137, .ref q138, .ref q139, .ref q140, .int 0]))]) [1] rfl
      have hDc := hD.sub (ws' := [(q77, .inr (20, [.int 1, .ref q78, .int 0, .int 0, .ref q80, .ref q82, .ref q84, .ref q86, .ref q88, .ref q90, .ref q91, .ref q93, .ref q94, .ref q105, .ref q106, .ref q124, .ref q131, .int 0, .int 0, .int 0, .int 0, .int 0, .int 0, .int 0, .int 0, .int 0, .ref q132, .ref q133, .ref q134, .ref q135, .ref q136, .ref q137, .ref q138, .ref q139, .ref q140, .int 0]))]) [1] (by decide) rfl
      have hKc := hK.sub (tys' := []) [] rfl
      have hFc := va_free (wc := [(q77, .inr (20, [.int 1, .ref q78, .int 0, .int 0, .ref q80, .ref q82, .ref q84, .ref q86, .ref q88, .ref q90, .ref q91, .ref q93, .ref q94, .ref q105, .ref q106, .ref q124, .ref q131, .int 0, .int 0, .int 0, .int 0, .int 0, .int 0, .int 0, .int 0, .int 0, .ref q132, .ref q133, .ref q134, .ref q135, .ref q136, .ref q137, .ref q138, .ref q139, .ref q140, .int 0]))]) hD hS hA [1] rfl
      refine va_calli (va_runV (As := []) (rest := []) ⟨hx, hb, hml, hown, hts⟩ (k_X19_thrown l hlt dC dI q77 q78 q80 q82 q84 q86 q88 q90 q91 q93 q94 q105 q106 q124 q131 q132 q133 q134 q135 q136 q137 q138 q139 q140  H.size) (cwV 0 hts gl_8 rfl rfl rfl (by decide +kernel) ⟨Nat.le_of_ble_eq_true rfl, Nat.le_of_ble_eq_true rfl⟩) ⟨fun a U g mk q => by obtain ⟨q0, q1, qP, qK, qD, qN⟩ := q; exact ⟨q0, q1, qP, va_K.moved (u := U) (U := U.calling g mk a) (Vm.Alike.refl U.vm) qK, qD, nv_same rfl rfl qN⟩, va_recv hKc hPc (ci := 20) (q0 := 0) rfl rfl, fun U hU hW => ⟨rfl, by rw [hU], by rw [hU]; exact hPc, va_K.moved hW.alike hKc, hDc.weaken (fun _ _ _ _ => trivial), nv_call hS hFc hU hW hN⟩⟩ rfl rfl hl.1 rfl (lv_room (Nat.le_of_ble_eq_true rfl)) dL_law_693 ⟨by decide +kernel, by decide +kernel⟩) hS (fun q _ h => hFc q h) hFc (fun r589 u t H1 locs ht hvm hw hB hz1 hk1 hS => ?_)
      obtain ⟨hP1, hK1, hD1⟩ := hB
      rw [ht] at hP1
      have hK1 := va_K.moved hvm.symm hK1
      obtain rfl : r589 = 1 := hw
      obtain ⟨hP, hD⟩ := va_join (wr := [(q143, .inl (y144, 1, .inr (.inl (fun _ => 0))))]) (w1 := [(q77, .inr (20, [.int 1, .ref q78, .int 0, .int 0, .ref q80, .ref q82, .ref q84, .ref q86, .ref q88, .ref q90, .ref q91, .ref q93, .ref q94, .ref q105, .ref q106, .ref q124, .ref q131, .int 0, .int 0, .int 0, .int 0, .int 0, .int 0, .int 0, .int 0, .int 0, .ref q132, .ref q133, .ref q134, .ref q135, .ref q136, .ref q137, .ref q138, .ref q139, .ref q140, .int 0]))]) hP hD [1] [0] rfl rfl (by decide) (by decide) hk1 hFc hP1 hD1
      have hK := (hK.sub (tys' := [(y144, .long)]) [0] rfl).app hK1
      generalize H1 = H at hP hS ⊢
      have hP : va_P (dC, dI) vwCl [(q143, .inl (y144, 1, .inr (.inl (fun _ => 0)))), (q77, .inr (20, [.int 1, .ref q78, .int 0, .int 0, .ref q80, .ref q82, .ref q84, .ref q86, .ref q88, .ref q90, .ref q91, .ref q93, .ref q94, .ref q105, .ref q106, .ref q124, .ref q131, .int 0, .int 0, .int 0, .int 0, .int 0, .int 0, .int 0, .int 0, .int 0, .ref q132, .ref q133, .ref q134, .ref q135, .ref q136, .ref q137, .ref q138, .ref q139, .ref q140, .int 0]))] H := hP
      have hD : va_D A [(q143, .inl (y144, 1, .inr (.inl (fun _ => 0)))), (q77, .inr (20, [.int 1, .ref q78, .int 0, .int 0, .ref q80, .ref q82, .ref q84, .ref q86, .ref q88, .ref q90, .ref q91, .ref q93, .ref q94, .ref q105, .ref q106, .ref q124, .ref q131, .int 0, .int 0, .int 0, .int 0, .int 0, .int 0, .int 0, .int 0, .int 0, .ref q132, .ref q133, .ref q134, .ref q135, .ref q136, .ref q137, .ref q138, .ref q139, .ref q140, .int 0]))] := hD
      have hK : va_K (dC, dI) vwCl [(y144, .long)] s := hK
      refine W.widen (k := 456) (n := 2511905) (by decide +kernel) (by decide +kernel) ?_
      refine lv_iload hx hb dL_law_696 (lv_at hl 1 rfl) ?_
      refine lv_icmp_eq (tgt := 703) hx hb dL_law_698 (by decide) (fun _ => ?_) (fun h9 => absurd (by decide) h9)
      refine lv_iload hx hb dL_law_703 (lv_at hl 1 rfl) ?_
      refine lv_if_ne (tgt := 720) hx hb dL_law_705 (by decide) (fun _ => ?_) (fun h9 => absurd h9 (by decide))
      refine lv_goto (tgt := 1493) hx hb dL_law_720 (by decide) ?_
      refine lv_iinc (v := 6) (lv' := [(4, .int 6), (6, .int 0), (5, .int 1), (3, .ref q143), (2, .ref q77), (1, .ref q1), (0, .ref b)]) hx hb dL_law_1493 hl (k := 2) rfl (by decide) (by decide) rfl (fun ls hl => ?_)
      refine lv_goto (tgt := 23) hx hb dL_law_1496 (by decide) ?_
      refine W.widen (k := 600002) (n := 7302232) (by decide +kernel) (by decide +kernel) ?_
      exact kkE _ _ _ hS (lv_sub hl [0, 6] rfl)
    · exact absurd c_1_5 c_10_5
    · exact absurd c_1_5 c_10_5
    · exact absurd c_10_1 c_1_1
    · exact absurd c_10_1 c_1_1
    · exact absurd c_10_1 c_1_1
    · exact absurd c_10_0 c_1_0
    · exact absurd c_10_0 c_1_0
    · exact absurd c_10_0 c_1_0
    · exact h9.elim
  · subst h9
    subst h8
    obtain ⟨hP1, hK1, hD1⟩ := hB
    rw [ht] at hP1
    have hK1 := va_K.moved hvm.symm hK1
    obtain ⟨hP, hD⟩ := va_join (wr := [(q77, .inr (20, [.int 0, .ref q78, .int 0, .int 0, .ref q80, .ref q82, .ref q84, .ref q86, .ref q88, .ref q90, .ref q91, .ref q93, .ref q94, .ref q105, .ref q106, .ref q124, .ref q131, .int 0, .int 0, .int 0, .int 0, .int 0, .int 0, .int 0, .int 0, .int 0, .ref q132, .ref q133, .ref q134, .ref q135, .ref q136, .ref q137, .ref q138, .ref q139, .ref q140, .int 0]))]) (w1 := [(q143, .inl (y144, 1, .inr (.inl (fun _ => 0))))]) hP hD [0, 1, 3] [2] rfl rfl (by decide) (by decide) hk1 hFc hP1 hD1
    have hK := (hK.sub (tys' := []) [] rfl).app hK1
    generalize H1 = H at hP hS ⊢
    have hP : va_P (dC, dI) vwCl [(q77, .inr (20, [.int 0, .ref q78, .int 0, .int 0, .ref q80, .ref q82, .ref q84, .ref q86, .ref q88, .ref q90, .ref q91, .ref q93, .ref q94, .ref q105, .ref q106, .ref q124, .ref q131, .int 0, .int 0, .int 0, .int 0, .int 0, .int 0, .int 0, .int 0, .int 0, .ref q132, .ref q133, .ref q134, .ref q135, .ref q136, .ref q137, .ref q138, .ref q139, .ref q140, .int 0])), (q143, .inl (y144, 1, .inr (.inl (fun _ => 0))))] H := hP
    have hD : va_D A [(q77, .inr (20, [.int 0, .ref q78, .int 0, .int 0, .ref q80, .ref q82, .ref q84, .ref q86, .ref q88, .ref q90, .ref q91, .ref q93, .ref q94, .ref q105, .ref q106, .ref q124, .ref q131, .int 0, .int 0, .int 0, .int 0, .int 0, .int 0, .int 0, .int 0, .int 0, .ref q132, .ref q133, .ref q134, .ref q135, .ref q136, .ref q137, .ref q138, .ref q139, .ref q140, .int 0])), (q143, .inl (y144, 1, .inr (.inl (fun _ => 0))))] := hD
    have hK : va_K (dC, dI) vwCl [(y144, .long)] s := hK
    refine W.widen (k := 456) (n := 2511905) (by decide +kernel) (by decide +kernel) ?_
    refine lv_istore (lv' := [(5, .int 1), (4, .int 0), (3, .ref q143), (2, .ref q77), (1, .ref q1), (0, .ref b)]) hx hb dL_law_650 hl (by decide) rfl (fun ls hl => ?_)
    refine lv_aload_n hx hb dL_law_652 rfl (lv_at hl 3 rfl) ?_
    refine lv_aload_n hx hb dL_law_653 rfl (lv_at hl 5 rfl) ?_
    refine lv_iload hx hb dL_law_654 (lv_at hl 1 rfl) ?_
    refine lv_iconst (v := 1) hx hb dL_law_656 (by decide) ?_
    refine lv_iadd hx hb dL_law_657 ?_
    refine lv_topi (fun z590 ez590 => ?_)
    obtain rfl : z590 = 1 := ez590.trans (by decide)
    refine va_sld (i := 1) hx hb hX hbl hbA hS (vp_in_iff.mpr ⟨by decide, by decide⟩) dL_law_658 ?_
    rw [es1]
    refine lv_aload_n hx hb dL_law_659 rfl (lv_at hl 5 rfl) ?_
    refine lv_iload hx hb dL_law_660 (lv_at hl 1 rfl) ?_
    refine lv_iconst (v := 2) hx hb dL_law_662 (by decide) ?_
    refine lv_iadd hx hb dL_law_663 ?_
    refine lv_topi (fun z591 ez591 => ?_)
    obtain rfl : z591 = 2 := ez591.trans (by decide)
    refine va_sld (i := 2) hx hb hX hbl hbA hS (vp_in_iff.mpr ⟨by decide, by decide⟩) dL_law_664 ?_
    rw [es2]
    refine lv_i2l hx hb dL_law_665 rfl ?_
    refine lv_bipush (v := 32) hx hb dL_law_666 (by decide) ?_
    refine lv_lshl hx hb dL_law_668 rfl ?_
    refine lv_topl (fun z592 ez592 => ?_)
    have h9 : z503 = z592 := ez503.trans ez592.symm; subst h9
    refine lv_aload_n hx hb dL_law_669 rfl (lv_at hl 5 rfl) ?_
    refine lv_iload hx hb dL_law_670 (lv_at hl 1 rfl) ?_
    refine lv_iconst (v := 3) hx hb dL_law_672 (by decide) ?_
    refine lv_iadd hx hb dL_law_673 ?_
    refine lv_topi (fun z593 ez593 => ?_)
    obtain rfl : z593 = 3 := ez593.trans (by decide)
    refine va_sld (i := 3) hx hb hX hbl hbA hS (vp_in_iff.mpr ⟨by decide, by decide⟩) dL_law_674 ?_
    rw [es3]
    refine lv_i2l hx hb dL_law_675 rfl ?_
    refine lv_ldc2 hx hb hown (hts (.constantLong RL 99 (4294967295)) tw_72) dL_law_676 ?_
    refine lv_land hx hb dL_law_679 ?_
    refine lv_topl (fun z594 ez594 => ?_)
    have h9 : z505 = z594 := ez505.trans ez594.symm; subst h9
    refine lv_lor hx hb dL_law_680 ?_
    refine lv_topl (fun z595 ez595 => ?_)
    have h9 : z506 = z595 := ez506.trans ez595.symm; subst h9
    refine lv_aload_n hx hb dL_law_681 rfl (lv_at hl 5 rfl) ?_
    refine lv_iload hx hb dL_law_682 (lv_at hl 1 rfl) ?_
    refine lv_iconst (v := 4) hx hb dL_law_684 (by decide) ?_
    refine lv_iadd hx hb dL_law_685 ?_
    refine lv_topi (fun z596 ez596 => ?_)
    obtain rfl : z596 = 4 := ez596.trans (by decide)
    refine va_sld (i := 4) hx hb hX hbl hbA hS (vp_in_iff.mpr ⟨by decide, by decide⟩) dL_law_686 ?_
    rw [es4]
    have hPc := hP.sub (ws' := [(q77, .inr (20, [.int 0, .ref q78, .int 0, .int 0, .ref q80, .ref q82, .ref q84, .ref q86, .ref q88, .ref q90, .ref q91, .ref q93, .ref q94, .ref q105, .ref q106, .ref q124, .ref q131, .int 0, .int 0, .int 0, .int 0, .int 0, .int 0, .int 0, .int 0, .int 0, .ref q132, .ref q133, .ref q134, .ref q135, .ref q136, .ref q137, .ref q138, .ref q139, .ref q140, .int 0]))]) [0] rfl
    have hDc := hD.sub (ws' := [(q77, .inr (20, [.int 0, .ref q78, .int 0, .int 0, .ref q80, .ref q82, .ref q84, .ref q86, .ref q88, .ref q90, .ref q91, .ref q93, .ref q94, .ref q105, .ref q106, .ref q124, .ref q131, .int 0, .int 0, .int 0, .int 0, .int 0, .int 0, .int 0, .int 0, .int 0, .ref q132, .ref q133, .ref q134, .ref q135, .ref q136, .ref q137, .ref q138, .ref q139, .ref q140, .int 0]))]) [0] (by decide) rfl
    have hKc := hK.sub (tys' := []) [] rfl
    have hFc := va_free (wc := [(q77, .inr (20, [.int 0, .ref q78, .int 0, .int 0, .ref q80, .ref q82, .ref q84, .ref q86, .ref q88, .ref q90, .ref q91, .ref q93, .ref q94, .ref q105, .ref q106, .ref q124, .ref q131, .int 0, .int 0, .int 0, .int 0, .int 0, .int 0, .int 0, .int 0, .int 0, .ref q132, .ref q133, .ref q134, .ref q135, .ref q136, .ref q137, .ref q138, .ref q139, .ref q140, .int 0]))]) hD hS hA [0] rfl
    refine va_calli (va_runV (As := [.int x1, .long z506, .int x4]) (rest := []) ⟨hx, hb, hml, hown, hts⟩ (k_X19_outside l hlt dC dI q77 x1 z506 x4 q78 q80 q82 q84 q86 q88 q90 q91 q93 q94 q105 q106 q124 q131 q132 q133 q134 q135 q136 q137 q138 q139 q140  H.size) (cwV 3 hts gl_26 rfl rfl rfl (by decide +kernel) ⟨Nat.le_of_ble_eq_true rfl, Nat.le_of_ble_eq_true rfl⟩) ⟨fun a U g mk q => by obtain ⟨q0, q1, qP, qK, qD, qN⟩ := q; exact ⟨q0, q1, qP, va_K.moved (u := U) (U := U.calling g mk a) (Vm.Alike.refl U.vm) qK, qD, nv_same rfl rfl qN⟩, va_recv hKc hPc (ci := 20) (q0 := 0) rfl rfl, fun U hU hW => ⟨rfl, by rw [hU], by rw [hU]; exact hPc, va_K.moved hW.alike hKc, hDc.weaken (fun _ _ _ _ => trivial), nv_call hS hFc hU hW hN⟩⟩ rfl rfl hl.1 rfl (lv_room (Nat.le_of_ble_eq_true rfl)) dL_law_687 ⟨by decide +kernel, by decide +kernel⟩) hS (fun q _ h => hFc q h) hFc (fun r597 u t H1 locs ht hvm hw hB hz1 hk1 hS => ?_)
    rcases hw with ⟨c_11_0, c_11_1, c_11_2, c_11_3, c_11_4, h9, h8⟩ | ⟨c_11_0, c_11_1, c_11_2, c_11_3, c_11_4, h9, h8⟩ | ⟨c_11_0, c_11_1, c_11_2, c_11_3, c_11_4, h9, h8⟩ | ⟨c_11_0, c_11_1, c_11_2, c_11_3, c_11_4, c_11_5, h9, h8⟩ | ⟨c_11_0, c_11_1, c_11_2, c_11_3, c_11_4, c_11_5, h9, h8⟩ | ⟨c_11_0, c_11_1, c_11_2, c_11_3, h9, h8⟩ | ⟨c_11_0, c_11_1, c_11_2, c_11_3, c_11_4, h9, h8⟩ | ⟨c_11_0, c_11_1, c_11_2, c_11_3, c_11_4, c_11_5, h9, h8⟩ | ⟨c_11_0, c_11_1, c_11_2, c_11_3, c_11_4, c_11_5, c_11_6, h9, h8⟩ | ⟨c_11_0, c_11_1, c_11_2, c_11_3, c_11_4, c_11_5, c_11_6, h9, h8⟩ | ⟨c_11_0, c_11_1, c_11_2, h9, h8⟩ | ⟨c_11_0, c_11_1, c_11_2, c_11_3, h9, h8⟩ | ⟨c_11_0, c_11_1, c_11_2, c_11_3, h9, h8⟩ | ⟨c_11_0, c_11_1, h9, h8⟩ | ⟨c_11_0, c_11_1, c_11_2, h9, h8⟩ | ⟨c_11_0, c_11_1, c_11_2, h9, h8⟩ | h9
    · exact absurd c_1_2 c_11_2
    · exact absurd c_1_2 c_11_2
    · exact absurd c_1_2 c_11_2
    · exact absurd c_1_2 c_11_2
    · exact absurd c_1_2 c_11_2
    · exact absurd c_11_3 c_1_3
    · exact (cz_3 z506 c_1_3 c_1_4 c_11_4).elim
    · exact absurd c_11_5 c_1_5
    · subst h9
      subst h8
      obtain ⟨hP1, hK1, hD1⟩ := hB
      rw [ht] at hP1
      have hK1 := va_K.moved hvm.symm hK1
      obtain ⟨hP, hD⟩ := va_join (wr := [(q143, .inl (y144, 1, .inr (.inl (fun _ => 0))))]) (w1 := [(q77, .inr (20, [.int 1, .ref q78, .int 0, .int 0, .ref q80, .ref q82, .ref q84, .ref q86, .ref q88, .ref q90, .ref q91, .ref q93, .ref q94, .ref q105, .ref q106, .ref q124, .ref q131, .int 0, .int 0, .int 0, .int 0, .int 0, .int 0, .int 0, .int 0, .int 0, .ref q132, .ref q133, .ref q134, .ref q135, .ref q136, .ref q137, .ref q138, .ref q139, .ref q140, .int 0]))]) hP hD [0] [1] rfl rfl (by decide) (by decide) hk1 hFc hP1 hD1
      have hK := (hK.sub (tys' := [(y144, .long)]) [0] rfl).app hK1
      generalize H1 = H at hP hS ⊢
      have hP : va_P (dC, dI) vwCl [(q143, .inl (y144, 1, .inr (.inl (fun _ => 0)))), (q77, .inr (20, [.int 1, .ref q78, .int 0, .int 0, .ref q80, .ref q82, .ref q84, .ref q86, .ref q88, .ref q90, .ref q91, .ref q93, .ref q94, .ref q105, .ref q106, .ref q124, .ref q131, .int 0, .int 0, .int 0, .int 0, .int 0, .int 0, .int 0, .int 0, .int 0, .ref q132, .ref q133, .ref q134, .ref q135, .ref q136, .ref q137, .ref q138, .ref q139, .ref q140, .int 0]))] H := hP
      have hD : va_D A [(q143, .inl (y144, 1, .inr (.inl (fun _ => 0)))), (q77, .inr (20, [.int 1, .ref q78, .int 0, .int 0, .ref q80, .ref q82, .ref q84, .ref q86, .ref q88, .ref q90, .ref q91, .ref q93, .ref q94, .ref q105, .ref q106, .ref q124, .ref q131, .int 0, .int 0, .int 0, .int 0, .int 0, .int 0, .int 0, .int 0, .int 0, .ref q132, .ref q133, .ref q134, .ref q135, .ref q136, .ref q137, .ref q138, .ref q139, .ref q140, .int 0]))] := hD
      have hK : va_K (dC, dI) vwCl [(y144, .long)] s := hK
      refine W.widen (k := 456) (n := 2511905) (by decide +kernel) (by decide +kernel) ?_
      refine lv_istore (lv' := [(6, .int 0), (5, .int 1), (4, .int 0), (3, .ref q143), (2, .ref q77), (1, .ref q1), (0, .ref b)]) hx hb dL_law_690 hl (by decide) rfl (fun ls hl => ?_)
      refine lv_aload_n hx hb dL_law_692 rfl (lv_at hl 4 rfl) ?_
      have hPc := hP.sub (ws' := [(q77, .inr (20, [.int 1, .ref q78, .int 0, .int 0, .ref q80, .ref q82, .ref q84, .ref q86, .ref q88, .ref q90, .ref q91, .ref q93, .ref q94, .ref q105, .ref q106, .ref q124, .ref q131, .int 0, .int 0, .int 0, .int 0, .int 0, .int 0, .int 0, .int 0, .int 0, .ref q132, .ref q133, .ref q134, .ref q135, .ref q136, .ref q137, .ref q138, .ref q139, .ref q140, .int 0]))]) [1] rfl
      have hDc := hD.sub (ws' := [(q77, .inr (20, [.int 1, .ref q78, .int 0, .int 0, .ref q80, .ref q82, .ref q84, .ref q86, .ref q88, .ref q90, .ref q91, .ref q93, .ref q94, .ref q105, .ref q106, .ref q124, .ref q131, .int 0, .int 0, .int 0, .int 0, .int 0, .int 0, .int 0, .int 0, .int 0, .ref q132, .ref q133, .ref q134, .ref q135, .ref q136, .ref q137, .ref q138, .ref q139, .ref q140, .int 0]))]) [1] (by decide) rfl
      have hKc := hK.sub (tys' := []) [] rfl
      have hFc := va_free (wc := [(q77, .inr (20, [.int 1, .ref q78, .int 0, .int 0, .ref q80, .ref q82, .ref q84, .ref q86, .ref q88, .ref q90, .ref q91, .ref q93, .ref q94, .ref q105, .ref q106, .ref q124, .ref q131, .int 0, .int 0, .int 0, .int 0, .int 0, .int 0, .int 0, .int 0, .int 0, .ref q132, .ref q133, .ref q134, .ref q135, .ref q136, .ref q137, .ref q138, .ref q139, .ref q140, .int 0]))]) hD hS hA [1] rfl
      refine va_calli (va_runV (As := []) (rest := []) ⟨hx, hb, hml, hown, hts⟩ (k_X19_thrown l hlt dC dI q77 q78 q80 q82 q84 q86 q88 q90 q91 q93 q94 q105 q106 q124 q131 q132 q133 q134 q135 q136 q137 q138 q139 q140  H.size) (cwV 0 hts gl_8 rfl rfl rfl (by decide +kernel) ⟨Nat.le_of_ble_eq_true rfl, Nat.le_of_ble_eq_true rfl⟩) ⟨fun a U g mk q => by obtain ⟨q0, q1, qP, qK, qD, qN⟩ := q; exact ⟨q0, q1, qP, va_K.moved (u := U) (U := U.calling g mk a) (Vm.Alike.refl U.vm) qK, qD, nv_same rfl rfl qN⟩, va_recv hKc hPc (ci := 20) (q0 := 0) rfl rfl, fun U hU hW => ⟨rfl, by rw [hU], by rw [hU]; exact hPc, va_K.moved hW.alike hKc, hDc.weaken (fun _ _ _ _ => trivial), nv_call hS hFc hU hW hN⟩⟩ rfl rfl hl.1 rfl (lv_room (Nat.le_of_ble_eq_true rfl)) dL_law_693 ⟨by decide +kernel, by decide +kernel⟩) hS (fun q _ h => hFc q h) hFc (fun r598 u t H1 locs ht hvm hw hB hz1 hk1 hS => ?_)
      obtain ⟨hP1, hK1, hD1⟩ := hB
      rw [ht] at hP1
      have hK1 := va_K.moved hvm.symm hK1
      obtain rfl : r598 = 1 := hw
      obtain ⟨hP, hD⟩ := va_join (wr := [(q143, .inl (y144, 1, .inr (.inl (fun _ => 0))))]) (w1 := [(q77, .inr (20, [.int 1, .ref q78, .int 0, .int 0, .ref q80, .ref q82, .ref q84, .ref q86, .ref q88, .ref q90, .ref q91, .ref q93, .ref q94, .ref q105, .ref q106, .ref q124, .ref q131, .int 0, .int 0, .int 0, .int 0, .int 0, .int 0, .int 0, .int 0, .int 0, .ref q132, .ref q133, .ref q134, .ref q135, .ref q136, .ref q137, .ref q138, .ref q139, .ref q140, .int 0]))]) hP hD [1] [0] rfl rfl (by decide) (by decide) hk1 hFc hP1 hD1
      have hK := (hK.sub (tys' := [(y144, .long)]) [0] rfl).app hK1
      generalize H1 = H at hP hS ⊢
      have hP : va_P (dC, dI) vwCl [(q143, .inl (y144, 1, .inr (.inl (fun _ => 0)))), (q77, .inr (20, [.int 1, .ref q78, .int 0, .int 0, .ref q80, .ref q82, .ref q84, .ref q86, .ref q88, .ref q90, .ref q91, .ref q93, .ref q94, .ref q105, .ref q106, .ref q124, .ref q131, .int 0, .int 0, .int 0, .int 0, .int 0, .int 0, .int 0, .int 0, .int 0, .ref q132, .ref q133, .ref q134, .ref q135, .ref q136, .ref q137, .ref q138, .ref q139, .ref q140, .int 0]))] H := hP
      have hD : va_D A [(q143, .inl (y144, 1, .inr (.inl (fun _ => 0)))), (q77, .inr (20, [.int 1, .ref q78, .int 0, .int 0, .ref q80, .ref q82, .ref q84, .ref q86, .ref q88, .ref q90, .ref q91, .ref q93, .ref q94, .ref q105, .ref q106, .ref q124, .ref q131, .int 0, .int 0, .int 0, .int 0, .int 0, .int 0, .int 0, .int 0, .int 0, .ref q132, .ref q133, .ref q134, .ref q135, .ref q136, .ref q137, .ref q138, .ref q139, .ref q140, .int 0]))] := hD
      have hK : va_K (dC, dI) vwCl [(y144, .long)] s := hK
      refine W.widen (k := 456) (n := 2511905) (by decide +kernel) (by decide +kernel) ?_
      refine lv_iload hx hb dL_law_696 (lv_at hl 1 rfl) ?_
      refine lv_icmp_eq (tgt := 703) hx hb dL_law_698 (by decide) (fun _ => ?_) (fun h9 => absurd (by decide) h9)
      refine lv_iload hx hb dL_law_703 (lv_at hl 1 rfl) ?_
      refine lv_if_ne (tgt := 720) hx hb dL_law_705 (by decide) (fun _ => ?_) (fun h9 => absurd h9 (by decide))
      refine lv_goto (tgt := 1493) hx hb dL_law_720 (by decide) ?_
      refine lv_iinc (v := 6) (lv' := [(4, .int 6), (6, .int 0), (5, .int 1), (3, .ref q143), (2, .ref q77), (1, .ref q1), (0, .ref b)]) hx hb dL_law_1493 hl (k := 2) rfl (by decide) (by decide) rfl (fun ls hl => ?_)
      refine lv_goto (tgt := 23) hx hb dL_law_1496 (by decide) ?_
      refine W.widen (k := 600002) (n := 7302232) (by decide +kernel) (by decide +kernel) ?_
      exact kkE _ _ _ hS (lv_sub hl [0, 6] rfl)
    · exact absurd c_1_6 c_11_6
    · exact absurd c_11_1 c_1_1
    · exact absurd c_11_1 c_1_1
    · exact absurd c_11_1 c_1_1
    · exact absurd c_11_0 c_1_0
    · exact absurd c_11_0 c_1_0
    · exact absurd c_11_0 c_1_0
    · exact h9.elim
  · subst h9
    subst h8
    obtain ⟨hP1, hK1, hD1⟩ := hB
    rw [ht] at hP1
    have hK1 := va_K.moved hvm.symm hK1
    obtain ⟨hP, hD⟩ := va_join (wr := [(q77, .inr (20, [.int 0, .ref q78, .int 0, .int 0, .ref q80, .ref q82, .ref q84, .ref q86, .ref q88, .ref q90, .ref q91, .ref q93, .ref q94, .ref q105, .ref q106, .ref q124, .ref q131, .int 0, .int 0, .int 0, .int 0, .int 0, .int 0, .int 0, .int 0, .int 0, .ref q132, .ref q133, .ref q134, .ref q135, .ref q136, .ref q137, .ref q138, .ref q139, .ref q140, .int 0]))]) (w1 := [(q143, .inl (y144, 1, .inr (.inl (fun _ => 0))))]) hP hD [0, 1, 3] [2] rfl rfl (by decide) (by decide) hk1 hFc hP1 hD1
    have hK := (hK.sub (tys' := []) [] rfl).app hK1
    generalize H1 = H at hP hS ⊢
    have hP : va_P (dC, dI) vwCl [(q77, .inr (20, [.int 0, .ref q78, .int 0, .int 0, .ref q80, .ref q82, .ref q84, .ref q86, .ref q88, .ref q90, .ref q91, .ref q93, .ref q94, .ref q105, .ref q106, .ref q124, .ref q131, .int 0, .int 0, .int 0, .int 0, .int 0, .int 0, .int 0, .int 0, .int 0, .ref q132, .ref q133, .ref q134, .ref q135, .ref q136, .ref q137, .ref q138, .ref q139, .ref q140, .int 0])), (q143, .inl (y144, 1, .inr (.inl (fun _ => 0))))] H := hP
    have hD : va_D A [(q77, .inr (20, [.int 0, .ref q78, .int 0, .int 0, .ref q80, .ref q82, .ref q84, .ref q86, .ref q88, .ref q90, .ref q91, .ref q93, .ref q94, .ref q105, .ref q106, .ref q124, .ref q131, .int 0, .int 0, .int 0, .int 0, .int 0, .int 0, .int 0, .int 0, .int 0, .ref q132, .ref q133, .ref q134, .ref q135, .ref q136, .ref q137, .ref q138, .ref q139, .ref q140, .int 0])), (q143, .inl (y144, 1, .inr (.inl (fun _ => 0))))] := hD
    have hK : va_K (dC, dI) vwCl [(y144, .long)] s := hK
    refine W.widen (k := 456) (n := 2511905) (by decide +kernel) (by decide +kernel) ?_
    refine lv_istore (lv' := [(5, .int 2), (4, .int 0), (3, .ref q143), (2, .ref q77), (1, .ref q1), (0, .ref b)]) hx hb dL_law_650 hl (by decide) rfl (fun ls hl => ?_)
    refine lv_aload_n hx hb dL_law_652 rfl (lv_at hl 3 rfl) ?_
    refine lv_aload_n hx hb dL_law_653 rfl (lv_at hl 5 rfl) ?_
    refine lv_iload hx hb dL_law_654 (lv_at hl 1 rfl) ?_
    refine lv_iconst (v := 1) hx hb dL_law_656 (by decide) ?_
    refine lv_iadd hx hb dL_law_657 ?_
    refine lv_topi (fun z599 ez599 => ?_)
    obtain rfl : z599 = 1 := ez599.trans (by decide)
    refine va_sld (i := 1) hx hb hX hbl hbA hS (vp_in_iff.mpr ⟨by decide, by decide⟩) dL_law_658 ?_
    rw [es1]
    refine lv_aload_n hx hb dL_law_659 rfl (lv_at hl 5 rfl) ?_
    refine lv_iload hx hb dL_law_660 (lv_at hl 1 rfl) ?_
    refine lv_iconst (v := 2) hx hb dL_law_662 (by decide) ?_
    refine lv_iadd hx hb dL_law_663 ?_
    refine lv_topi (fun z600 ez600 => ?_)
    obtain rfl : z600 = 2 := ez600.trans (by decide)
    refine va_sld (i := 2) hx hb hX hbl hbA hS (vp_in_iff.mpr ⟨by decide, by decide⟩) dL_law_664 ?_
    rw [es2]
    refine lv_i2l hx hb dL_law_665 rfl ?_
    refine lv_bipush (v := 32) hx hb dL_law_666 (by decide) ?_
    refine lv_lshl hx hb dL_law_668 rfl ?_
    refine lv_topl (fun z601 ez601 => ?_)
    have h9 : z503 = z601 := ez503.trans ez601.symm; subst h9
    refine lv_aload_n hx hb dL_law_669 rfl (lv_at hl 5 rfl) ?_
    refine lv_iload hx hb dL_law_670 (lv_at hl 1 rfl) ?_
    refine lv_iconst (v := 3) hx hb dL_law_672 (by decide) ?_
    refine lv_iadd hx hb dL_law_673 ?_
    refine lv_topi (fun z602 ez602 => ?_)
    obtain rfl : z602 = 3 := ez602.trans (by decide)
    refine va_sld (i := 3) hx hb hX hbl hbA hS (vp_in_iff.mpr ⟨by decide, by decide⟩) dL_law_674 ?_
    rw [es3]
    refine lv_i2l hx hb dL_law_675 rfl ?_
    refine lv_ldc2 hx hb hown (hts (.constantLong RL 99 (4294967295)) tw_72) dL_law_676 ?_
    refine lv_land hx hb dL_law_679 ?_
    refine lv_topl (fun z603 ez603 => ?_)
    have h9 : z505 = z603 := ez505.trans ez603.symm; subst h9
    refine lv_lor hx hb dL_law_680 ?_
    refine lv_topl (fun z604 ez604 => ?_)
    have h9 : z506 = z604 := ez506.trans ez604.symm; subst h9
    refine lv_aload_n hx hb dL_law_681 rfl (lv_at hl 5 rfl) ?_
    refine lv_iload hx hb dL_law_682 (lv_at hl 1 rfl) ?_
    refine lv_iconst (v := 4) hx hb dL_law_684 (by decide) ?_
    refine lv_iadd hx hb dL_law_685 ?_
    refine lv_topi (fun z605 ez605 => ?_)
    obtain rfl : z605 = 4 := ez605.trans (by decide)
    refine va_sld (i := 4) hx hb hX hbl hbA hS (vp_in_iff.mpr ⟨by decide, by decide⟩) dL_law_686 ?_
    rw [es4]
    have hPc := hP.sub (ws' := [(q77, .inr (20, [.int 0, .ref q78, .int 0, .int 0, .ref q80, .ref q82, .ref q84, .ref q86, .ref q88, .ref q90, .ref q91, .ref q93, .ref q94, .ref q105, .ref q106, .ref q124, .ref q131, .int 0, .int 0, .int 0, .int 0, .int 0, .int 0, .int 0, .int 0, .int 0, .ref q132, .ref q133, .ref q134, .ref q135, .ref q136, .ref q137, .ref q138, .ref q139, .ref q140, .int 0]))]) [0] rfl
    have hDc := hD.sub (ws' := [(q77, .inr (20, [.int 0, .ref q78, .int 0, .int 0, .ref q80, .ref q82, .ref q84, .ref q86, .ref q88, .ref q90, .ref q91, .ref q93, .ref q94, .ref q105, .ref q106, .ref q124, .ref q131, .int 0, .int 0, .int 0, .int 0, .int 0, .int 0, .int 0, .int 0, .int 0, .ref q132, .ref q133, .ref q134, .ref q135, .ref q136, .ref q137, .ref q138, .ref q139, .ref q140, .int 0]))]) [0] (by decide) rfl
    have hKc := hK.sub (tys' := []) [] rfl
    have hFc := va_free (wc := [(q77, .inr (20, [.int 0, .ref q78, .int 0, .int 0, .ref q80, .ref q82, .ref q84, .ref q86, .ref q88, .ref q90, .ref q91, .ref q93, .ref q94, .ref q105, .ref q106, .ref q124, .ref q131, .int 0, .int 0, .int 0, .int 0, .int 0, .int 0, .int 0, .int 0, .int 0, .ref q132, .ref q133, .ref q134, .ref q135, .ref q136, .ref q137, .ref q138, .ref q139, .ref q140, .int 0]))]) hD hS hA [0] rfl
    refine va_calli (va_runV (As := [.int x1, .long z506, .int x4]) (rest := []) ⟨hx, hb, hml, hown, hts⟩ (k_X19_outside l hlt dC dI q77 x1 z506 x4 q78 q80 q82 q84 q86 q88 q90 q91 q93 q94 q105 q106 q124 q131 q132 q133 q134 q135 q136 q137 q138 q139 q140  H.size) (cwV 3 hts gl_26 rfl rfl rfl (by decide +kernel) ⟨Nat.le_of_ble_eq_true rfl, Nat.le_of_ble_eq_true rfl⟩) ⟨fun a U g mk q => by obtain ⟨q0, q1, qP, qK, qD, qN⟩ := q; exact ⟨q0, q1, qP, va_K.moved (u := U) (U := U.calling g mk a) (Vm.Alike.refl U.vm) qK, qD, nv_same rfl rfl qN⟩, va_recv hKc hPc (ci := 20) (q0 := 0) rfl rfl, fun U hU hW => ⟨rfl, by rw [hU], by rw [hU]; exact hPc, va_K.moved hW.alike hKc, hDc.weaken (fun _ _ _ _ => trivial), nv_call hS hFc hU hW hN⟩⟩ rfl rfl hl.1 rfl (lv_room (Nat.le_of_ble_eq_true rfl)) dL_law_687 ⟨by decide +kernel, by decide +kernel⟩) hS (fun q _ h => hFc q h) hFc (fun r606 u t H1 locs ht hvm hw hB hz1 hk1 hS => ?_)
    rcases hw with ⟨c_12_0, c_12_1, c_12_2, c_12_3, c_12_4, h9, h8⟩ | ⟨c_12_0, c_12_1, c_12_2, c_12_3, c_12_4, h9, h8⟩ | ⟨c_12_0, c_12_1, c_12_2, c_12_3, c_12_4, h9, h8⟩ | ⟨c_12_0, c_12_1, c_12_2, c_12_3, c_12_4, c_12_5, h9, h8⟩ | ⟨c_12_0, c_12_1, c_12_2, c_12_3, c_12_4, c_12_5, h9, h8⟩ | ⟨c_12_0, c_12_1, c_12_2, c_12_3, h9, h8⟩ | ⟨c_12_0, c_12_1, c_12_2, c_12_3, c_12_4, h9, h8⟩ | ⟨c_12_0, c_12_1, c_12_2, c_12_3, c_12_4, c_12_5, h9, h8⟩ | ⟨c_12_0, c_12_1, c_12_2, c_12_3, c_12_4, c_12_5, c_12_6, h9, h8⟩ | ⟨c_12_0, c_12_1, c_12_2, c_12_3, c_12_4, c_12_5, c_12_6, h9, h8⟩ | ⟨c_12_0, c_12_1, c_12_2, h9, h8⟩ | ⟨c_12_0, c_12_1, c_12_2, c_12_3, h9, h8⟩ | ⟨c_12_0, c_12_1, c_12_2, c_12_3, h9, h8⟩ | ⟨c_12_0, c_12_1, h9, h8⟩ | ⟨c_12_0, c_12_1, c_12_2, h9, h8⟩ | ⟨c_12_0, c_12_1, c_12_2, h9, h8⟩ | h9
    · exact absurd c_1_2 c_12_2
    · exact absurd c_1_2 c_12_2
    · exact absurd c_1_2 c_12_2
    · exact absurd c_1_2 c_12_2
    · exact absurd c_1_2 c_12_2
    · exact absurd c_12_3 c_1_3
    · exact (cz_3 z506 c_1_3 c_1_4 c_12_4).elim
    · exact absurd c_12_5 c_1_5
    · exact absurd c_12_6 c_1_6
    · subst h9
      subst h8
      obtain ⟨hP1, hK1, hD1⟩ := hB
      rw [ht] at hP1
      have hK1 := va_K.moved hvm.symm hK1
      obtain ⟨hP, hD⟩ := va_join (wr := [(q143, .inl (y144, 1, .inr (.inl (fun _ => 0))))]) (w1 := [(q77, .inr (20, [.int 2, .ref q78, .int 0, .int 0, .ref q80, .ref q82, .ref q84, .ref q86, .ref q88, .ref q90, .ref q91, .ref q93, .ref q94, .ref q105, .ref q106, .ref q124, .ref q131, .int 0, .int 0, .int 0, .int 0, .int 0, .int 0, .int 0, .int 0, .int 0, .ref q132, .ref q133, .ref q134, .ref q135, .ref q136, .ref q137, .ref q138, .ref q139, .ref q140, .int 0]))]) hP hD [0] [1] rfl rfl (by decide) (by decide) hk1 hFc hP1 hD1
      have hK := (hK.sub (tys' := [(y144, .long)]) [0] rfl).app hK1
      generalize H1 = H at hP hS ⊢
      have hP : va_P (dC, dI) vwCl [(q143, .inl (y144, 1, .inr (.inl (fun _ => 0)))), (q77, .inr (20, [.int 2, .ref q78, .int 0, .int 0, .ref q80, .ref q82, .ref q84, .ref q86, .ref q88, .ref q90, .ref q91, .ref q93, .ref q94, .ref q105, .ref q106, .ref q124, .ref q131, .int 0, .int 0, .int 0, .int 0, .int 0, .int 0, .int 0, .int 0, .int 0, .ref q132, .ref q133, .ref q134, .ref q135, .ref q136, .ref q137, .ref q138, .ref q139, .ref q140, .int 0]))] H := hP
      have hD : va_D A [(q143, .inl (y144, 1, .inr (.inl (fun _ => 0)))), (q77, .inr (20, [.int 2, .ref q78, .int 0, .int 0, .ref q80, .ref q82, .ref q84, .ref q86, .ref q88, .ref q90, .ref q91, .ref q93, .ref q94, .ref q105, .ref q106, .ref q124, .ref q131, .int 0, .int 0, .int 0, .int 0, .int 0, .int 0, .int 0, .int 0, .int 0, .ref q132, .ref q133, .ref q134, .ref q135, .ref q136, .ref q137, .ref q138, .ref q139, .ref q140, .int 0]))] := hD
      have hK : va_K (dC, dI) vwCl [(y144, .long)] s := hK
      refine W.widen (k := 456) (n := 2511905) (by decide +kernel) (by decide +kernel) ?_
      refine lv_istore (lv' := [(6, .int 0), (5, .int 2), (4, .int 0), (3, .ref q143), (2, .ref q77), (1, .ref q1), (0, .ref b)]) hx hb dL_law_690 hl (by decide) rfl (fun ls hl => ?_)
      refine lv_aload_n hx hb dL_law_692 rfl (lv_at hl 4 rfl) ?_
      have hPc := hP.sub (ws' := [(q77, .inr (20, [.int 2, .ref q78, .int 0, .int 0, .ref q80, .ref q82, .ref q84, .ref q86, .ref q88, .ref q90, .ref q91, .ref q93, .ref q94, .ref q105, .ref q106, .ref q124, .ref q131, .int 0, .int 0, .int 0, .int 0, .int 0, .int 0, .int 0, .int 0, .int 0, .ref q132, .ref q133, .ref q134, .ref q135, .ref q136, .ref q137, .ref q138, .ref q139, .ref q140, .int 0]))]) [1] rfl
      have hDc := hD.sub (ws' := [(q77, .inr (20, [.int 2, .ref q78, .int 0, .int 0, .ref q80, .ref q82, .ref q84, .ref q86, .ref q88, .ref q90, .ref q91, .ref q93, .ref q94, .ref q105, .ref q106, .ref q124, .ref q131, .int 0, .int 0, .int 0, .int 0, .int 0, .int 0, .int 0, .int 0, .int 0, .ref q132, .ref q133, .ref q134, .ref q135, .ref q136, .ref q137, .ref q138, .ref q139, .ref q140, .int 0]))]) [1] (by decide) rfl
      have hKc := hK.sub (tys' := []) [] rfl
      have hFc := va_free (wc := [(q77, .inr (20, [.int 2, .ref q78, .int 0, .int 0, .ref q80, .ref q82, .ref q84, .ref q86, .ref q88, .ref q90, .ref q91, .ref q93, .ref q94, .ref q105, .ref q106, .ref q124, .ref q131, .int 0, .int 0, .int 0, .int 0, .int 0, .int 0, .int 0, .int 0, .int 0, .ref q132, .ref q133, .ref q134, .ref q135, .ref q136, .ref q137, .ref q138, .ref q139, .ref q140, .int 0]))]) hD hS hA [1] rfl
      refine va_calli (va_runV (As := []) (rest := []) ⟨hx, hb, hml, hown, hts⟩ (k_X19_thrown_v2 l hlt dC dI q77 q78 q80 q82 q84 q86 q88 q90 q91 q93 q94 q105 q106 q124 q131 q132 q133 q134 q135 q136 q137 q138 q139 q140  H.size) (cwV 0 hts gl_22 rfl rfl rfl (by decide +kernel) ⟨Nat.le_of_ble_eq_true rfl, Nat.le_of_ble_eq_true rfl⟩) ⟨fun a U g mk q => by obtain ⟨q0, q1, qP, qK, qD, qN⟩ := q; exact ⟨q0, q1, qP, va_K.moved (u := U) (U := U.calling g mk a) (Vm.Alike.refl U.vm) qK, qD, nv_same rfl rfl qN⟩, va_recv hKc hPc (ci := 20) (q0 := 0) rfl rfl, fun U hU hW => ⟨rfl, by rw [hU], by rw [hU]; exact hPc, va_K.moved hW.alike hKc, hDc.weaken (fun _ _ _ _ => trivial), nv_call hS hFc hU hW hN⟩⟩ rfl rfl hl.1 rfl (lv_room (Nat.le_of_ble_eq_true rfl)) dL_law_693 ⟨by decide +kernel, by decide +kernel⟩) hS (fun q _ h => hFc q h) hFc (fun r607 u t H1 locs ht hvm hw hB hz1 hk1 hS => ?_)
      obtain ⟨hP1, hK1, hD1⟩ := hB
      rw [ht] at hP1
      have hK1 := va_K.moved hvm.symm hK1
      obtain rfl : r607 = 2 := hw
      obtain ⟨hP, hD⟩ := va_join (wr := [(q143, .inl (y144, 1, .inr (.inl (fun _ => 0))))]) (w1 := [(q77, .inr (20, [.int 2, .ref q78, .int 0, .int 0, .ref q80, .ref q82, .ref q84, .ref q86, .ref q88, .ref q90, .ref q91, .ref q93, .ref q94, .ref q105, .ref q106, .ref q124, .ref q131, .int 0, .int 0, .int 0, .int 0, .int 0, .int 0, .int 0, .int 0, .int 0, .ref q132, .ref q133, .ref q134, .ref q135, .ref q136, .ref q137, .ref q138, .ref q139, .ref q140, .int 0]))]) hP hD [1] [0] rfl rfl (by decide) (by decide) hk1 hFc hP1 hD1
      have hK := (hK.sub (tys' := [(y144, .long)]) [0] rfl).app hK1
      generalize H1 = H at hP hS ⊢
      have hP : va_P (dC, dI) vwCl [(q143, .inl (y144, 1, .inr (.inl (fun _ => 0)))), (q77, .inr (20, [.int 2, .ref q78, .int 0, .int 0, .ref q80, .ref q82, .ref q84, .ref q86, .ref q88, .ref q90, .ref q91, .ref q93, .ref q94, .ref q105, .ref q106, .ref q124, .ref q131, .int 0, .int 0, .int 0, .int 0, .int 0, .int 0, .int 0, .int 0, .int 0, .ref q132, .ref q133, .ref q134, .ref q135, .ref q136, .ref q137, .ref q138, .ref q139, .ref q140, .int 0]))] H := hP
      have hD : va_D A [(q143, .inl (y144, 1, .inr (.inl (fun _ => 0)))), (q77, .inr (20, [.int 2, .ref q78, .int 0, .int 0, .ref q80, .ref q82, .ref q84, .ref q86, .ref q88, .ref q90, .ref q91, .ref q93, .ref q94, .ref q105, .ref q106, .ref q124, .ref q131, .int 0, .int 0, .int 0, .int 0, .int 0, .int 0, .int 0, .int 0, .int 0, .ref q132, .ref q133, .ref q134, .ref q135, .ref q136, .ref q137, .ref q138, .ref q139, .ref q140, .int 0]))] := hD
      have hK : va_K (dC, dI) vwCl [(y144, .long)] s := hK
      refine W.widen (k := 456) (n := 2511905) (by decide +kernel) (by decide +kernel) ?_
      refine lv_iload hx hb dL_law_696 (lv_at hl 1 rfl) ?_
      refine lv_icmp_eq (tgt := 703) hx hb dL_law_698 (by decide) (fun _ => ?_) (fun h9 => absurd (by decide) h9)
      refine lv_iload hx hb dL_law_703 (lv_at hl 1 rfl) ?_
      refine lv_if_ne (tgt := 720) hx hb dL_law_705 (by decide) (fun _ => ?_) (fun h9 => absurd h9 (by decide))
      refine lv_goto (tgt := 1493) hx hb dL_law_720 (by decide) ?_
      refine lv_iinc (v := 6) (lv' := [(4, .int 6), (6, .int 0), (5, .int 2), (3, .ref q143), (2, .ref q77), (1, .ref q1), (0, .ref b)]) hx hb dL_law_1493 hl (k := 2) rfl (by decide) (by decide) rfl (fun ls hl => ?_)
      refine lv_goto (tgt := 23) hx hb dL_law_1496 (by decide) ?_
      refine W.widen (k := 600002) (n := 7302232) (by decide +kernel) (by decide +kernel) ?_
      exact kkE _ _ _ hS (lv_sub hl [0, 6] rfl)
    · exact absurd c_12_1 c_1_1
    · exact absurd c_12_1 c_1_1
    · exact absurd c_12_1 c_1_1
    · exact absurd c_12_0 c_1_0
    · exact absurd c_12_0 c_1_0
    · exact absurd c_12_0 c_1_0
    · exact h9.elim
  · subst h9
    subst h8
    obtain ⟨hP1, hK1, hD1⟩ := hB
    rw [ht] at hP1
    have hK1 := va_K.moved hvm.symm hK1
    obtain ⟨hP, hD⟩ := va_join (wr := [(q77, .inr (20, [.int 0, .ref q78, .int 0, .int 0, .ref q80, .ref q82, .ref q84, .ref q86, .ref q88, .ref q90, .ref q91, .ref q93, .ref q94, .ref q105, .ref q106, .ref q124, .ref q131, .int 0, .int 0, .int 0, .int 0, .int 0, .int 0, .int 0, .int 0, .int 0, .ref q132, .ref q133, .ref q134, .ref q135, .ref q136, .ref q137, .ref q138, .ref q139, .ref q140, .int 0]))]) (w1 := [(q143, .inl (y144, 1, .inr (.inl (fun _ => 0))))]) hP hD [0, 1, 3] [2] rfl rfl (by decide) (by decide) hk1 hFc hP1 hD1
    have hK := (hK.sub (tys' := []) [] rfl).app hK1
    generalize H1 = H at hP hS ⊢
    have hP : va_P (dC, dI) vwCl [(q77, .inr (20, [.int 0, .ref q78, .int 0, .int 0, .ref q80, .ref q82, .ref q84, .ref q86, .ref q88, .ref q90, .ref q91, .ref q93, .ref q94, .ref q105, .ref q106, .ref q124, .ref q131, .int 0, .int 0, .int 0, .int 0, .int 0, .int 0, .int 0, .int 0, .int 0, .ref q132, .ref q133, .ref q134, .ref q135, .ref q136, .ref q137, .ref q138, .ref q139, .ref q140, .int 0])), (q143, .inl (y144, 1, .inr (.inl (fun _ => 0))))] H := hP
    have hD : va_D A [(q77, .inr (20, [.int 0, .ref q78, .int 0, .int 0, .ref q80, .ref q82, .ref q84, .ref q86, .ref q88, .ref q90, .ref q91, .ref q93, .ref q94, .ref q105, .ref q106, .ref q124, .ref q131, .int 0, .int 0, .int 0, .int 0, .int 0, .int 0, .int 0, .int 0, .int 0, .ref q132, .ref q133, .ref q134, .ref q135, .ref q136, .ref q137, .ref q138, .ref q139, .ref q140, .int 0])), (q143, .inl (y144, 1, .inr (.inl (fun _ => 0))))] := hD
    have hK : va_K (dC, dI) vwCl [(y144, .long)] s := hK
    refine W.widen (k := 456) (n := 2511905) (by decide +kernel) (by decide +kernel) ?_
    refine lv_istore (lv' := [(5, .int 1), (4, .int 0), (3, .ref q143), (2, .ref q77), (1, .ref q1), (0, .ref b)]) hx hb dL_law_650 hl (by decide) rfl (fun ls hl => ?_)
    refine lv_aload_n hx hb dL_law_652 rfl (lv_at hl 3 rfl) ?_
    refine lv_aload_n hx hb dL_law_653 rfl (lv_at hl 5 rfl) ?_
    refine lv_iload hx hb dL_law_654 (lv_at hl 1 rfl) ?_
    refine lv_iconst (v := 1) hx hb dL_law_656 (by decide) ?_
    refine lv_iadd hx hb dL_law_657 ?_
    refine lv_topi (fun z608 ez608 => ?_)
    obtain rfl : z608 = 1 := ez608.trans (by decide)
    refine va_sld (i := 1) hx hb hX hbl hbA hS (vp_in_iff.mpr ⟨by decide, by decide⟩) dL_law_658 ?_
    rw [es1]
    refine lv_aload_n hx hb dL_law_659 rfl (lv_at hl 5 rfl) ?_
    refine lv_iload hx hb dL_law_660 (lv_at hl 1 rfl) ?_
    refine lv_iconst (v := 2) hx hb dL_law_662 (by decide) ?_
    refine lv_iadd hx hb dL_law_663 ?_
    refine lv_topi (fun z609 ez609 => ?_)
    obtain rfl : z609 = 2 := ez609.trans (by decide)
    refine va_sld (i := 2) hx hb hX hbl hbA hS (vp_in_iff.mpr ⟨by decide, by decide⟩) dL_law_664 ?_
    rw [es2]
    refine lv_i2l hx hb dL_law_665 rfl ?_
    refine lv_bipush (v := 32) hx hb dL_law_666 (by decide) ?_
    refine lv_lshl hx hb dL_law_668 rfl ?_
    refine lv_topl (fun z610 ez610 => ?_)
    have h9 : z503 = z610 := ez503.trans ez610.symm; subst h9
    refine lv_aload_n hx hb dL_law_669 rfl (lv_at hl 5 rfl) ?_
    refine lv_iload hx hb dL_law_670 (lv_at hl 1 rfl) ?_
    refine lv_iconst (v := 3) hx hb dL_law_672 (by decide) ?_
    refine lv_iadd hx hb dL_law_673 ?_
    refine lv_topi (fun z611 ez611 => ?_)
    obtain rfl : z611 = 3 := ez611.trans (by decide)
    refine va_sld (i := 3) hx hb hX hbl hbA hS (vp_in_iff.mpr ⟨by decide, by decide⟩) dL_law_674 ?_
    rw [es3]
    refine lv_i2l hx hb dL_law_675 rfl ?_
    refine lv_ldc2 hx hb hown (hts (.constantLong RL 99 (4294967295)) tw_72) dL_law_676 ?_
    refine lv_land hx hb dL_law_679 ?_
    refine lv_topl (fun z612 ez612 => ?_)
    have h9 : z505 = z612 := ez505.trans ez612.symm; subst h9
    refine lv_lor hx hb dL_law_680 ?_
    refine lv_topl (fun z613 ez613 => ?_)
    have h9 : z506 = z613 := ez506.trans ez613.symm; subst h9
    refine lv_aload_n hx hb dL_law_681 rfl (lv_at hl 5 rfl) ?_
    refine lv_iload hx hb dL_law_682 (lv_at hl 1 rfl) ?_
    refine lv_iconst (v := 4) hx hb dL_law_684 (by decide) ?_
    refine lv_iadd hx hb dL_law_685 ?_
    refine lv_topi (fun z614 ez614 => ?_)
    obtain rfl : z614 = 4 := ez614.trans (by decide)
    refine va_sld (i := 4) hx hb hX hbl hbA hS (vp_in_iff.mpr ⟨by decide, by decide⟩) dL_law_686 ?_
    rw [es4]
    have hPc := hP.sub (ws' := [(q77, .inr (20, [.int 0, .ref q78, .int 0, .int 0, .ref q80, .ref q82, .ref q84, .ref q86, .ref q88, .ref q90, .ref q91, .ref q93, .ref q94, .ref q105, .ref q106, .ref q124, .ref q131, .int 0, .int 0, .int 0, .int 0, .int 0, .int 0, .int 0, .int 0, .int 0, .ref q132, .ref q133, .ref q134, .ref q135, .ref q136, .ref q137, .ref q138, .ref q139, .ref q140, .int 0]))]) [0] rfl
    have hDc := hD.sub (ws' := [(q77, .inr (20, [.int 0, .ref q78, .int 0, .int 0, .ref q80, .ref q82, .ref q84, .ref q86, .ref q88, .ref q90, .ref q91, .ref q93, .ref q94, .ref q105, .ref q106, .ref q124, .ref q131, .int 0, .int 0, .int 0, .int 0, .int 0, .int 0, .int 0, .int 0, .int 0, .ref q132, .ref q133, .ref q134, .ref q135, .ref q136, .ref q137, .ref q138, .ref q139, .ref q140, .int 0]))]) [0] (by decide) rfl
    have hKc := hK.sub (tys' := []) [] rfl
    have hFc := va_free (wc := [(q77, .inr (20, [.int 0, .ref q78, .int 0, .int 0, .ref q80, .ref q82, .ref q84, .ref q86, .ref q88, .ref q90, .ref q91, .ref q93, .ref q94, .ref q105, .ref q106, .ref q124, .ref q131, .int 0, .int 0, .int 0, .int 0, .int 0, .int 0, .int 0, .int 0, .int 0, .ref q132, .ref q133, .ref q134, .ref q135, .ref q136, .ref q137, .ref q138, .ref q139, .ref q140, .int 0]))]) hD hS hA [0] rfl
    refine va_calli (va_runV (As := [.int x1, .long z506, .int x4]) (rest := []) ⟨hx, hb, hml, hown, hts⟩ (k_X19_outside l hlt dC dI q77 x1 z506 x4 q78 q80 q82 q84 q86 q88 q90 q91 q93 q94 q105 q106 q124 q131 q132 q133 q134 q135 q136 q137 q138 q139 q140  H.size) (cwV 3 hts gl_26 rfl rfl rfl (by decide +kernel) ⟨Nat.le_of_ble_eq_true rfl, Nat.le_of_ble_eq_true rfl⟩) ⟨fun a U g mk q => by obtain ⟨q0, q1, qP, qK, qD, qN⟩ := q; exact ⟨q0, q1, qP, va_K.moved (u := U) (U := U.calling g mk a) (Vm.Alike.refl U.vm) qK, qD, nv_same rfl rfl qN⟩, va_recv hKc hPc (ci := 20) (q0 := 0) rfl rfl, fun U hU hW => ⟨rfl, by rw [hU], by rw [hU]; exact hPc, va_K.moved hW.alike hKc, hDc.weaken (fun _ _ _ _ => trivial), nv_call hS hFc hU hW hN⟩⟩ rfl rfl hl.1 rfl (lv_room (Nat.le_of_ble_eq_true rfl)) dL_law_687 ⟨by decide +kernel, by decide +kernel⟩) hS (fun q _ h => hFc q h) hFc (fun r615 u t H1 locs ht hvm hw hB hz1 hk1 hS => ?_)
    rcases hw with ⟨c_13_0, c_13_1, c_13_2, c_13_3, c_13_4, h9, h8⟩ | ⟨c_13_0, c_13_1, c_13_2, c_13_3, c_13_4, h9, h8⟩ | ⟨c_13_0, c_13_1, c_13_2, c_13_3, c_13_4, h9, h8⟩ | ⟨c_13_0, c_13_1, c_13_2, c_13_3, c_13_4, c_13_5, h9, h8⟩ | ⟨c_13_0, c_13_1, c_13_2, c_13_3, c_13_4, c_13_5, h9, h8⟩ | ⟨c_13_0, c_13_1, c_13_2, c_13_3, h9, h8⟩ | ⟨c_13_0, c_13_1, c_13_2, c_13_3, c_13_4, h9, h8⟩ | ⟨c_13_0, c_13_1, c_13_2, c_13_3, c_13_4, c_13_5, h9, h8⟩ | ⟨c_13_0, c_13_1, c_13_2, c_13_3, c_13_4, c_13_5, c_13_6, h9, h8⟩ | ⟨c_13_0, c_13_1, c_13_2, c_13_3, c_13_4, c_13_5, c_13_6, h9, h8⟩ | ⟨c_13_0, c_13_1, c_13_2, h9, h8⟩ | ⟨c_13_0, c_13_1, c_13_2, c_13_3, h9, h8⟩ | ⟨c_13_0, c_13_1, c_13_2, c_13_3, h9, h8⟩ | ⟨c_13_0, c_13_1, h9, h8⟩ | ⟨c_13_0, c_13_1, c_13_2, h9, h8⟩ | ⟨c_13_0, c_13_1, c_13_2, h9, h8⟩ | h9
    · exact absurd c_1_3 c_13_3
    · exact absurd c_1_3 c_13_3
    · subst h9
      subst h8
      obtain ⟨hP1, hK1, hD1⟩ := hB
      rw [ht] at hP1
      have hK1 := va_K.moved hvm.symm hK1
      obtain ⟨hP, hD⟩ := va_join (wr := [(q143, .inl (y144, 1, .inr (.inl (fun _ => 0))))]) (w1 := [(q77, .inr (20, [.int 1, .ref q78, .int 0, .int 0, .ref q80, .ref q82, .ref q84, .ref q86, .ref q88, .ref q90, .ref q91, .ref q93, .ref q94, .ref q105, .ref q106, .ref q124, .ref q131, .int 0, .int 0, .int 0, .int 0, .int 0, .int 0, .int 0, .int 0, .int 0, .ref q132, .ref q133, .ref q134, .ref q135, .ref q136, .ref q137, .ref q138, .ref q139, .ref q140, .int 0]))]) hP hD [0] [1] rfl rfl (by decide) (by decide) hk1 hFc hP1 hD1
      have hK := (hK.sub (tys' := [(y144, .long)]) [0] rfl).app hK1
      generalize H1 = H at hP hS ⊢
      have hP : va_P (dC, dI) vwCl [(q143, .inl (y144, 1, .inr (.inl (fun _ => 0)))), (q77, .inr (20, [.int 1, .ref q78, .int 0, .int 0, .ref q80, .ref q82, .ref q84, .ref q86, .ref q88, .ref q90, .ref q91, .ref q93, .ref q94, .ref q105, .ref q106, .ref q124, .ref q131, .int 0, .int 0, .int 0, .int 0, .int 0, .int 0, .int 0, .int 0, .int 0, .ref q132, .ref q133, .ref q134, .ref q135, .ref q136, .ref q137, .ref q138, .ref q139, .ref q140, .int 0]))] H := hP
      have hD : va_D A [(q143, .inl (y144, 1, .inr (.inl (fun _ => 0)))), (q77, .inr (20, [.int 1, .ref q78, .int 0, .int 0, .ref q80, .ref q82, .ref q84, .ref q86, .ref q88, .ref q90, .ref q91, .ref q93, .ref q94, .ref q105, .ref q106, .ref q124, .ref q131, .int 0, .int 0, .int 0, .int 0, .int 0, .int 0, .int 0, .int 0, .int 0, .ref q132, .ref q133, .ref q134, .ref q135, .ref q136, .ref q137, .ref q138, .ref q139, .ref q140, .int 0]))] := hD
      have hK : va_K (dC, dI) vwCl [(y144, .long)] s := hK
      refine W.widen (k := 456) (n := 2511905) (by decide +kernel) (by decide +kernel) ?_
      refine lv_istore (lv' := [(6, .int 0), (5, .int 1), (4, .int 0), (3, .ref q143), (2, .ref q77), (1, .ref q1), (0, .ref b)]) hx hb dL_law_690 hl (by decide) rfl (fun ls hl => ?_)
      refine lv_aload_n hx hb dL_law_692 rfl (lv_at hl 4 rfl) ?_
      have hPc := hP.sub (ws' := [(q77, .inr (20, [.int 1, .ref q78, .int 0, .int 0, .ref q80, .ref q82, .ref q84, .ref q86, .ref q88, .ref q90, .ref q91, .ref q93, .ref q94, .ref q105, .ref q106, .ref q124, .ref q131, .int 0, .int 0, .int 0, .int 0, .int 0, .int 0, .int 0, .int 0, .int 0, .ref q132, .ref q133, .ref q134, .ref q135, .ref q136, .ref q137, .ref q138, .ref q139, .ref q140, .int 0]))]) [1] rfl
      have hDc := hD.sub (ws' := [(q77, .inr (20, [.int 1, .ref q78, .int 0, .int 0, .ref q80, .ref q82, .ref q84, .ref q86, .ref q88, .ref q90, .ref q91, .ref q93, .ref q94, .ref q105, .ref q106, .ref q124, .ref q131, .int 0, .int 0, .int 0, .int 0, .int 0, .int 0, .int 0, .int 0, .int 0, .ref q132, .ref q133, .ref q134, .ref q135, .ref q136, .ref q137, .ref q138, .ref q139, .ref q140, .int 0]))]) [1] (by decide) rfl
      have hKc := hK.sub (tys' := []) [] rfl
      have hFc := va_free (wc := [(q77, .inr (20, [.int 1, .ref q78, .int 0, .int 0, .ref q80, .ref q82, .ref q84, .ref q86, .ref q88, .ref q90, .ref q91, .ref q93, .ref q94, .ref q105, .ref q106, .ref q124, .ref q131, .int 0, .int 0, .int 0, .int 0, .int 0, .int 0, .int 0, .int 0, .int 0, .ref q132, .ref q133, .ref q134, .ref q135, .ref q136, .ref q137, .ref q138, .ref q139, .ref q140, .int 0]))]) hD hS hA [1] rfl
      refine va_calli (va_runV (As := []) (rest := []) ⟨hx, hb, hml, hown, hts⟩ (k_X19_thrown l hlt dC dI q77 q78 q80 q82 q84 q86 q88 q90 q91 q93 q94 q105 q106 q124 q131 q132 q133 q134 q135 q136 q137 q138 q139 q140  H.size) (cwV 0 hts gl_8 rfl rfl rfl (by decide +kernel) ⟨Nat.le_of_ble_eq_true rfl, Nat.le_of_ble_eq_true rfl⟩) ⟨fun a U g mk q => by obtain ⟨q0, q1, qP, qK, qD, qN⟩ := q; exact ⟨q0, q1, qP, va_K.moved (u := U) (U := U.calling g mk a) (Vm.Alike.refl U.vm) qK, qD, nv_same rfl rfl qN⟩, va_recv hKc hPc (ci := 20) (q0 := 0) rfl rfl, fun U hU hW => ⟨rfl, by rw [hU], by rw [hU]; exact hPc, va_K.moved hW.alike hKc, hDc.weaken (fun _ _ _ _ => trivial), nv_call hS hFc hU hW hN⟩⟩ rfl rfl hl.1 rfl (lv_room (Nat.le_of_ble_eq_true rfl)) dL_law_693 ⟨by decide +kernel, by decide +kernel⟩) hS (fun q _ h => hFc q h) hFc (fun r616 u t H1 locs ht hvm hw hB hz1 hk1 hS => ?_)
      obtain ⟨hP1, hK1, hD1⟩ := hB
      rw [ht] at hP1
      have hK1 := va_K.moved hvm.symm hK1
      obtain rfl : r616 = 1 := hw
      obtain ⟨hP, hD⟩ := va_join (wr := [(q143, .inl (y144, 1, .inr (.inl (fun _ => 0))))]) (w1 := [(q77, .inr (20, [.int 1, .ref q78, .int 0, .int 0, .ref q80, .ref q82, .ref q84, .ref q86, .ref q88, .ref q90, .ref q91, .ref q93, .ref q94, .ref q105, .ref q106, .ref q124, .ref q131, .int 0, .int 0, .int 0, .int 0, .int 0, .int 0, .int 0, .int 0, .int 0, .ref q132, .ref q133, .ref q134, .ref q135, .ref q136, .ref q137, .ref q138, .ref q139, .ref q140, .int 0]))]) hP hD [1] [0] rfl rfl (by decide) (by decide) hk1 hFc hP1 hD1
      have hK := (hK.sub (tys' := [(y144, .long)]) [0] rfl).app hK1
      generalize H1 = H at hP hS ⊢
      have hP : va_P (dC, dI) vwCl [(q143, .inl (y144, 1, .inr (.inl (fun _ => 0)))), (q77, .inr (20, [.int 1, .ref q78, .int 0, .int 0, .ref q80, .ref q82, .ref q84, .ref q86, .ref q88, .ref q90, .ref q91, .ref q93, .ref q94, .ref q105, .ref q106, .ref q124, .ref q131, .int 0, .int 0, .int 0, .int 0, .int 0, .int 0, .int 0, .int 0, .int 0, .ref q132, .ref q133, .ref q134, .ref q135, .ref q136, .ref q137, .ref q138, .ref q139, .ref q140, .int 0]))] H := hP
      have hD : va_D A [(q143, .inl (y144, 1, .inr (.inl (fun _ => 0)))), (q77, .inr (20, [.int 1, .ref q78, .int 0, .int 0, .ref q80, .ref q82, .ref q84, .ref q86, .ref q88, .ref q90, .ref q91, .ref q93, .ref q94, .ref q105, .ref q106, .ref q124, .ref q131, .int 0, .int 0, .int 0, .int 0, .int 0, .int 0, .int 0, .int 0, .int 0, .ref q132, .ref q133, .ref q134, .ref q135, .ref q136, .ref q137, .ref q138, .ref q139, .ref q140, .int 0]))] := hD
      have hK : va_K (dC, dI) vwCl [(y144, .long)] s := hK
      refine W.widen (k := 456) (n := 2511905) (by decide +kernel) (by decide +kernel) ?_
      refine lv_iload hx hb dL_law_696 (lv_at hl 1 rfl) ?_
      refine lv_icmp_eq (tgt := 703) hx hb dL_law_698 (by decide) (fun _ => ?_) (fun h9 => absurd (by decide) h9)
      refine lv_iload hx hb dL_law_703 (lv_at hl 1 rfl) ?_
      refine lv_if_ne (tgt := 720) hx hb dL_law_705 (by decide) (fun _ => ?_) (fun h9 => absurd h9 (by decide))
      refine lv_goto (tgt := 1493) hx hb dL_law_720 (by decide) ?_
      refine lv_iinc (v := 6) (lv' := [(4, .int 6), (6, .int 0), (5, .int 1), (3, .ref q143), (2, .ref q77), (1, .ref q1), (0, .ref b)]) hx hb dL_law_1493 hl (k := 2) rfl (by decide) (by decide) rfl (fun ls hl => ?_)
      refine lv_goto (tgt := 23) hx hb dL_law_1496 (by decide) ?_
      refine W.widen (k := 600002) (n := 7302232) (by decide +kernel) (by decide +kernel) ?_
      exact kkE _ _ _ hS (lv_sub hl [0, 6] rfl)
    · exact absurd c_1_4 c_13_4
    · exact absurd c_1_4 c_13_4
    · exact absurd c_13_2 c_1_2
    · exact absurd c_13_2 c_1_2
    · exact absurd c_13_2 c_1_2
    · exact absurd c_13_2 c_1_2
    · exact absurd c_13_2 c_1_2
    · exact absurd c_13_1 c_1_1
    · exact absurd c_13_1 c_1_1
    · exact absurd c_13_1 c_1_1
    · exact absurd c_13_0 c_1_0
    · exact absurd c_13_0 c_1_0
    · exact absurd c_13_0 c_1_0
    · exact h9.elim
  · subst h9
    subst h8
    obtain ⟨hP1, hK1, hD1⟩ := hB
    rw [ht] at hP1
    have hK1 := va_K.moved hvm.symm hK1
    obtain ⟨hP, hD⟩ := va_join (wr := [(q77, .inr (20, [.int 0, .ref q78, .int 0, .int 0, .ref q80, .ref q82, .ref q84, .ref q86, .ref q88, .ref q90, .ref q91, .ref q93, .ref q94, .ref q105, .ref q106, .ref q124, .ref q131, .int 0, .int 0, .int 0, .int 0, .int 0, .int 0, .int 0, .int 0, .int 0, .ref q132, .ref q133, .ref q134, .ref q135, .ref q136, .ref q137, .ref q138, .ref q139, .ref q140, .int 0]))]) (w1 := [(q143, .inl (y144, 1, .inr (.inl (fun _ => 0))))]) hP hD [0, 1, 3] [2] rfl rfl (by decide) (by decide) hk1 hFc hP1 hD1
    have hK := (hK.sub (tys' := []) [] rfl).app hK1
    generalize H1 = H at hP hS ⊢
    have hP : va_P (dC, dI) vwCl [(q77, .inr (20, [.int 0, .ref q78, .int 0, .int 0, .ref q80, .ref q82, .ref q84, .ref q86, .ref q88, .ref q90, .ref q91, .ref q93, .ref q94, .ref q105, .ref q106, .ref q124, .ref q131, .int 0, .int 0, .int 0, .int 0, .int 0, .int 0, .int 0, .int 0, .int 0, .ref q132, .ref q133, .ref q134, .ref q135, .ref q136, .ref q137, .ref q138, .ref q139, .ref q140, .int 0])), (q143, .inl (y144, 1, .inr (.inl (fun _ => 0))))] H := hP
    have hD : va_D A [(q77, .inr (20, [.int 0, .ref q78, .int 0, .int 0, .ref q80, .ref q82, .ref q84, .ref q86, .ref q88, .ref q90, .ref q91, .ref q93, .ref q94, .ref q105, .ref q106, .ref q124, .ref q131, .int 0, .int 0, .int 0, .int 0, .int 0, .int 0, .int 0, .int 0, .int 0, .ref q132, .ref q133, .ref q134, .ref q135, .ref q136, .ref q137, .ref q138, .ref q139, .ref q140, .int 0])), (q143, .inl (y144, 1, .inr (.inl (fun _ => 0))))] := hD
    have hK : va_K (dC, dI) vwCl [(y144, .long)] s := hK
    refine W.widen (k := 456) (n := 2511905) (by decide +kernel) (by decide +kernel) ?_
    refine lv_istore (lv' := [(5, .int 1), (4, .int 0), (3, .ref q143), (2, .ref q77), (1, .ref q1), (0, .ref b)]) hx hb dL_law_650 hl (by decide) rfl (fun ls hl => ?_)
    refine lv_aload_n hx hb dL_law_652 rfl (lv_at hl 3 rfl) ?_
    refine lv_aload_n hx hb dL_law_653 rfl (lv_at hl 5 rfl) ?_
    refine lv_iload hx hb dL_law_654 (lv_at hl 1 rfl) ?_
    refine lv_iconst (v := 1) hx hb dL_law_656 (by decide) ?_
    refine lv_iadd hx hb dL_law_657 ?_
    refine lv_topi (fun z617 ez617 => ?_)
    obtain rfl : z617 = 1 := ez617.trans (by decide)
    refine va_sld (i := 1) hx hb hX hbl hbA hS (vp_in_iff.mpr ⟨by decide, by decide⟩) dL_law_658 ?_
    rw [es1]
    refine lv_aload_n hx hb dL_law_659 rfl (lv_at hl 5 rfl) ?_
    refine lv_iload hx hb dL_law_660 (lv_at hl 1 rfl) ?_
    refine lv_iconst (v := 2) hx hb dL_law_662 (by decide) ?_
    refine lv_iadd hx hb dL_law_663 ?_
    refine lv_topi (fun z618 ez618 => ?_)
    obtain rfl : z618 = 2 := ez618.trans (by decide)
    refine va_sld (i := 2) hx hb hX hbl hbA hS (vp_in_iff.mpr ⟨by decide, by decide⟩) dL_law_664 ?_
    rw [es2]
    refine lv_i2l hx hb dL_law_665 rfl ?_
    refine lv_bipush (v := 32) hx hb dL_law_666 (by decide) ?_
    refine lv_lshl hx hb dL_law_668 rfl ?_
    refine lv_topl (fun z619 ez619 => ?_)
    have h9 : z503 = z619 := ez503.trans ez619.symm; subst h9
    refine lv_aload_n hx hb dL_law_669 rfl (lv_at hl 5 rfl) ?_
    refine lv_iload hx hb dL_law_670 (lv_at hl 1 rfl) ?_
    refine lv_iconst (v := 3) hx hb dL_law_672 (by decide) ?_
    refine lv_iadd hx hb dL_law_673 ?_
    refine lv_topi (fun z620 ez620 => ?_)
    obtain rfl : z620 = 3 := ez620.trans (by decide)
    refine va_sld (i := 3) hx hb hX hbl hbA hS (vp_in_iff.mpr ⟨by decide, by decide⟩) dL_law_674 ?_
    rw [es3]
    refine lv_i2l hx hb dL_law_675 rfl ?_
    refine lv_ldc2 hx hb hown (hts (.constantLong RL 99 (4294967295)) tw_72) dL_law_676 ?_
    refine lv_land hx hb dL_law_679 ?_
    refine lv_topl (fun z621 ez621 => ?_)
    have h9 : z505 = z621 := ez505.trans ez621.symm; subst h9
    refine lv_lor hx hb dL_law_680 ?_
    refine lv_topl (fun z622 ez622 => ?_)
    have h9 : z506 = z622 := ez506.trans ez622.symm; subst h9
    refine lv_aload_n hx hb dL_law_681 rfl (lv_at hl 5 rfl) ?_
    refine lv_iload hx hb dL_law_682 (lv_at hl 1 rfl) ?_
    refine lv_iconst (v := 4) hx hb dL_law_684 (by decide) ?_
    refine lv_iadd hx hb dL_law_685 ?_
    refine lv_topi (fun z623 ez623 => ?_)
    obtain rfl : z623 = 4 := ez623.trans (by decide)
    refine va_sld (i := 4) hx hb hX hbl hbA hS (vp_in_iff.mpr ⟨by decide, by decide⟩) dL_law_686 ?_
    rw [es4]
    have hPc := hP.sub (ws' := [(q77, .inr (20, [.int 0, .ref q78, .int 0, .int 0, .ref q80, .ref q82, .ref q84, .ref q86, .ref q88, .ref q90, .ref q91, .ref q93, .ref q94, .ref q105, .ref q106, .ref q124, .ref q131, .int 0, .int 0, .int 0, .int 0, .int 0, .int 0, .int 0, .int 0, .int 0, .ref q132, .ref q133, .ref q134, .ref q135, .ref q136, .ref q137, .ref q138, .ref q139, .ref q140, .int 0]))]) [0] rfl
    have hDc := hD.sub (ws' := [(q77, .inr (20, [.int 0, .ref q78, .int 0, .int 0, .ref q80, .ref q82, .ref q84, .ref q86, .ref q88, .ref q90, .ref q91, .ref q93, .ref q94, .ref q105, .ref q106, .ref q124, .ref q131, .int 0, .int 0, .int 0, .int 0, .int 0, .int 0, .int 0, .int 0, .int 0, .ref q132, .ref q133, .ref q134, .ref q135, .ref q136, .ref q137, .ref q138, .ref q139, .ref q140, .int 0]))]) [0] (by decide) rfl
    have hKc := hK.sub (tys' := []) [] rfl
    have hFc := va_free (wc := [(q77, .inr (20, [.int 0, .ref q78, .int 0, .int 0, .ref q80, .ref q82, .ref q84, .ref q86, .ref q88, .ref q90, .ref q91, .ref q93, .ref q94, .ref q105, .ref q106, .ref q124, .ref q131, .int 0, .int 0, .int 0, .int 0, .int 0, .int 0, .int 0, .int 0, .int 0, .ref q132, .ref q133, .ref q134, .ref q135, .ref q136, .ref q137, .ref q138, .ref q139, .ref q140, .int 0]))]) hD hS hA [0] rfl
    refine va_calli (va_runV (As := [.int x1, .long z506, .int x4]) (rest := []) ⟨hx, hb, hml, hown, hts⟩ (k_X19_outside l hlt dC dI q77 x1 z506 x4 q78 q80 q82 q84 q86 q88 q90 q91 q93 q94 q105 q106 q124 q131 q132 q133 q134 q135 q136 q137 q138 q139 q140  H.size) (cwV 3 hts gl_26 rfl rfl rfl (by decide +kernel) ⟨Nat.le_of_ble_eq_true rfl, Nat.le_of_ble_eq_true rfl⟩) ⟨fun a U g mk q => by obtain ⟨q0, q1, qP, qK, qD, qN⟩ := q; exact ⟨q0, q1, qP, va_K.moved (u := U) (U := U.calling g mk a) (Vm.Alike.refl U.vm) qK, qD, nv_same rfl rfl qN⟩, va_recv hKc hPc (ci := 20) (q0 := 0) rfl rfl, fun U hU hW => ⟨rfl, by rw [hU], by rw [hU]; exact hPc, va_K.moved hW.alike hKc, hDc.weaken (fun _ _ _ _ => trivial), nv_call hS hFc hU hW hN⟩⟩ rfl rfl hl.1 rfl (lv_room (Nat.le_of_ble_eq_true rfl)) dL_law_687 ⟨by decide +kernel, by decide +kernel⟩) hS (fun q _ h => hFc q h) hFc (fun r624 u t H1 locs ht hvm hw hB hz1 hk1 hS => ?_)
    rcases hw with ⟨c_14_0, c_14_1, c_14_2, c_14_3, c_14_4, h9, h8⟩ | ⟨c_14_0, c_14_1, c_14_2, c_14_3, c_14_4, h9, h8⟩ | ⟨c_14_0, c_14_1, c_14_2, c_14_3, c_14_4, h9, h8⟩ | ⟨c_14_0, c_14_1, c_14_2, c_14_3, c_14_4, c_14_5, h9, h8⟩ | ⟨c_14_0, c_14_1, c_14_2, c_14_3, c_14_4, c_14_5, h9, h8⟩ | ⟨c_14_0, c_14_1, c_14_2, c_14_3, h9, h8⟩ | ⟨c_14_0, c_14_1, c_14_2, c_14_3, c_14_4, h9, h8⟩ | ⟨c_14_0, c_14_1, c_14_2, c_14_3, c_14_4, c_14_5, h9, h8⟩ | ⟨c_14_0, c_14_1, c_14_2, c_14_3, c_14_4, c_14_5, c_14_6, h9, h8⟩ | ⟨c_14_0, c_14_1, c_14_2, c_14_3, c_14_4, c_14_5, c_14_6, h9, h8⟩ | ⟨c_14_0, c_14_1, c_14_2, h9, h8⟩ | ⟨c_14_0, c_14_1, c_14_2, c_14_3, h9, h8⟩ | ⟨c_14_0, c_14_1, c_14_2, c_14_3, h9, h8⟩ | ⟨c_14_0, c_14_1, h9, h8⟩ | ⟨c_14_0, c_14_1, c_14_2, h9, h8⟩ | ⟨c_14_0, c_14_1, c_14_2, h9, h8⟩ | h9
    · exact absurd c_1_3 c_14_3
    · exact absurd c_1_3 c_14_3
    · exact absurd c_14_4 c_1_4
    · subst h9
      subst h8
      obtain ⟨hP1, hK1, hD1⟩ := hB
      rw [ht] at hP1
      have hK1 := va_K.moved hvm.symm hK1
      obtain ⟨hP, hD⟩ := va_join (wr := [(q143, .inl (y144, 1, .inr (.inl (fun _ => 0))))]) (w1 := [(q77, .inr (20, [.int 1, .ref q78, .int 0, .int 0, .ref q80, .ref q82, .ref q84, .ref q86, .ref q88, .ref q90, .ref q91, .ref q93, .ref q94, .ref q105, .ref q106, .ref q124, .ref q131, .int 0, .int 0, .int 0, .int 0, .int 0, .int 0, .int 0, .int 0, .int 0, .ref q132, .ref q133, .ref q134, .ref q135, .ref q136, .ref q137, .ref q138, .ref q139, .ref q140, .int 0]))]) hP hD [0] [1] rfl rfl (by decide) (by decide) hk1 hFc hP1 hD1
      have hK := (hK.sub (tys' := [(y144, .long)]) [0] rfl).app hK1
      generalize H1 = H at hP hS ⊢
      have hP : va_P (dC, dI) vwCl [(q143, .inl (y144, 1, .inr (.inl (fun _ => 0)))), (q77, .inr (20, [.int 1, .ref q78, .int 0, .int 0, .ref q80, .ref q82, .ref q84, .ref q86, .ref q88, .ref q90, .ref q91, .ref q93, .ref q94, .ref q105, .ref q106, .ref q124, .ref q131, .int 0, .int 0, .int 0, .int 0, .int 0, .int 0, .int 0, .int 0, .int 0, .ref q132, .ref q133, .ref q134, .ref q135, .ref q136, .ref q137, .ref q138, .ref q139, .ref q140, .int 0]))] H := hP
      have hD : va_D A [(q143, .inl (y144, 1, .inr (.inl (fun _ => 0)))), (q77, .inr (20, [.int 1, .ref q78, .int 0, .int 0, .ref q80, .ref q82, .ref q84, .ref q86, .ref q88, .ref q90, .ref q91, .ref q93, .ref q94, .ref q105, .ref q106, .ref q124, .ref q131, .int 0, .int 0, .int 0, .int 0, .int 0, .int 0, .int 0, .int 0, .int 0, .ref q132, .ref q133, .ref q134, .ref q135, .ref q136, .ref q137, .ref q138, .ref q139, .ref q140, .int 0]))] := hD
      have hK : va_K (dC, dI) vwCl [(y144, .long)] s := hK
      refine W.widen (k := 456) (n := 2511905) (by decide +kernel) (by decide +kernel) ?_
      refine lv_istore (lv' := [(6, .int 0), (5, .int 1), (4, .int 0), (3, .ref q143), (2, .ref q77), (1, .ref q1), (0, .ref b)]) hx hb dL_law_690 hl (by decide) rfl (fun ls hl => ?_)
      refine lv_aload_n hx hb dL_law_692 rfl (lv_at hl 4 rfl) ?_
      have hPc := hP.sub (ws' := [(q77, .inr (20, [.int 1, .ref q78, .int 0, .int 0, .ref q80, .ref q82, .ref q84, .ref q86, .ref q88, .ref q90, .ref q91, .ref q93, .ref q94, .ref q105, .ref q106, .ref q124, .ref q131, .int 0, .int 0, .int 0, .int 0, .int 0, .int 0, .int 0, .int 0, .int 0, .ref q132, .ref q133, .ref q134, .ref q135, .ref q136, .ref q137, .ref q138, .ref q139, .ref q140, .int 0]))]) [1] rfl
      have hDc := hD.sub (ws' := [(q77, .inr (20, [.int 1, .ref q78, .int 0, .int 0, .ref q80, .ref q82, .ref q84, .ref q86, .ref q88, .ref q90, .ref q91, .ref q93, .ref q94, .ref q105, .ref q106, .ref q124, .ref q131, .int 0, .int 0, .int 0, .int 0, .int 0, .int 0, .int 0, .int 0, .int 0, .ref q132, .ref q133, .ref q134, .ref q135, .ref q136, .ref q137, .ref q138, .ref q139, .ref q140, .int 0]))]) [1] (by decide) rfl
      have hKc := hK.sub (tys' := []) [] rfl
      have hFc := va_free (wc := [(q77, .inr (20, [.int 1, .ref q78, .int 0, .int 0, .ref q80, .ref q82, .ref q84, .ref q86, .ref q88, .ref q90, .ref q91, .ref q93, .ref q94, .ref q105, .ref q106, .ref q124, .ref q131, .int 0, .int 0, .int 0, .int 0, .int 0, .int 0, .int 0, .int 0, .int 0, .ref q132, .ref q133, .ref q134, .ref q135, .ref q136, .ref q137, .ref q138, .ref q139, .ref q140, .int 0]))]) hD hS hA [1] rfl
      refine va_calli (va_runV (As := []) (rest := []) ⟨hx, hb, hml, hown, hts⟩ (k_X19_thrown l hlt dC dI q77 q78 q80 q82 q84 q86 q88 q90 q91 q93 q94 q105 q106 q124 q131 q132 q133 q134 q135 q136 q137 q138 q139 q140  H.size) (cwV 0 hts gl_8 rfl rfl rfl (by decide +kernel) ⟨Nat.le_of_ble_eq_true rfl, Nat.le_of_ble_eq_true rfl⟩) ⟨fun a U g mk q => by obtain ⟨q0, q1, qP, qK, qD, qN⟩ := q; exact ⟨q0, q1, qP, va_K.moved (u := U) (U := U.calling g mk a) (Vm.Alike.refl U.vm) qK, qD, nv_same rfl rfl qN⟩, va_recv hKc hPc (ci := 20) (q0 := 0) rfl rfl, fun U hU hW => ⟨rfl, by rw [hU], by rw [hU]; exact hPc, va_K.moved hW.alike hKc, hDc.weaken (fun _ _ _ _ => trivial), nv_call hS hFc hU hW hN⟩⟩ rfl rfl hl.1 rfl (lv_room (Nat.le_of_ble_eq_true rfl)) dL_law_693 ⟨by decide +kernel, by decide +kernel⟩) hS (fun q _ h => hFc q h) hFc (fun r625 u t H1 locs ht hvm hw hB hz1 hk1 hS => ?_)
      obtain ⟨hP1, hK1, hD1⟩ := hB
      rw [ht] at hP1
      have hK1 := va_K.moved hvm.symm hK1
      obtain rfl : r625 = 1 := hw
      obtain ⟨hP, hD⟩ := va_join (wr := [(q143, .inl (y144, 1, .inr (.inl (fun _ => 0))))]) (w1 := [(q77, .inr (20, [.int 1, .ref q78, .int 0, .int 0, .ref q80, .ref q82, .ref q84, .ref q86, .ref q88, .ref q90, .ref q91, .ref q93, .ref q94, .ref q105, .ref q106, .ref q124, .ref q131, .int 0, .int 0, .int 0, .int 0, .int 0, .int 0, .int 0, .int 0, .int 0, .ref q132, .ref q133, .ref q134, .ref q135, .ref q136, .ref q137, .ref q138, .ref q139, .ref q140, .int 0]))]) hP hD [1] [0] rfl rfl (by decide) (by decide) hk1 hFc hP1 hD1
      have hK := (hK.sub (tys' := [(y144, .long)]) [0] rfl).app hK1
      generalize H1 = H at hP hS ⊢
      have hP : va_P (dC, dI) vwCl [(q143, .inl (y144, 1, .inr (.inl (fun _ => 0)))), (q77, .inr (20, [.int 1, .ref q78, .int 0, .int 0, .ref q80, .ref q82, .ref q84, .ref q86, .ref q88, .ref q90, .ref q91, .ref q93, .ref q94, .ref q105, .ref q106, .ref q124, .ref q131, .int 0, .int 0, .int 0, .int 0, .int 0, .int 0, .int 0, .int 0, .int 0, .ref q132, .ref q133, .ref q134, .ref q135, .ref q136, .ref q137, .ref q138, .ref q139, .ref q140, .int 0]))] H := hP
      have hD : va_D A [(q143, .inl (y144, 1, .inr (.inl (fun _ => 0)))), (q77, .inr (20, [.int 1, .ref q78, .int 0, .int 0, .ref q80, .ref q82, .ref q84, .ref q86, .ref q88, .ref q90, .ref q91, .ref q93, .ref q94, .ref q105, .ref q106, .ref q124, .ref q131, .int 0, .int 0, .int 0, .int 0, .int 0, .int 0, .int 0, .int 0, .int 0, .ref q132, .ref q133, .ref q134, .ref q135, .ref q136, .ref q137, .ref q138, .ref q139, .ref q140, .int 0]))] := hD
      have hK : va_K (dC, dI) vwCl [(y144, .long)] s := hK
      refine W.widen (k := 456) (n := 2511905) (by decide +kernel) (by decide +kernel) ?_
      refine lv_iload hx hb dL_law_696 (lv_at hl 1 rfl) ?_
      refine lv_icmp_eq (tgt := 703) hx hb dL_law_698 (by decide) (fun _ => ?_) (fun h9 => absurd (by decide) h9)
      refine lv_iload hx hb dL_law_703 (lv_at hl 1 rfl) ?_
      refine lv_if_ne (tgt := 720) hx hb dL_law_705 (by decide) (fun _ => ?_) (fun h9 => absurd h9 (by decide))
      refine lv_goto (tgt := 1493) hx hb dL_law_720 (by decide) ?_
      refine lv_iinc (v := 6) (lv' := [(4, .int 6), (6, .int 0), (5, .int 1), (3, .ref q143), (2, .ref q77), (1, .ref q1), (0, .ref b)]) hx hb dL_law_1493 hl (k := 2) rfl (by decide) (by decide) rfl (fun ls hl => ?_)
      refine lv_goto (tgt := 23) hx hb dL_law_1496 (by decide) ?_
      refine W.widen (k := 600002) (n := 7302232) (by decide +kernel) (by decide +kernel) ?_
      exact kkE _ _ _ hS (lv_sub hl [0, 6] rfl)
    · exact absurd c_1_5 c_14_5
    · exact absurd c_14_2 c_1_2
    · exact absurd c_14_2 c_1_2
    · exact absurd c_14_2 c_1_2
    · exact absurd c_14_2 c_1_2
    · exact absurd c_14_2 c_1_2
    · exact absurd c_14_1 c_1_1
    · exact absurd c_14_1 c_1_1
    · exact absurd c_14_1 c_1_1
    · exact absurd c_14_0 c_1_0
    · exact absurd c_14_0 c_1_0
    · exact absurd c_14_0 c_1_0
    · exact h9.elim
  · subst h9
    subst h8
    obtain ⟨hP1, hK1, hD1⟩ := hB
    rw [ht] at hP1
    have hK1 := va_K.moved hvm.symm hK1
    obtain ⟨hP, hD⟩ := va_join (wr := [(q77, .inr (20, [.int 0, .ref q78, .int 0, .int 0, .ref q80, .ref q82, .ref q84, .ref q86, .ref q88, .ref q90, .ref q91, .ref q93, .ref q94, .ref q105, .ref q106, .ref q124, .ref q131, .int 0, .int 0, .int 0, .int 0, .int 0, .int 0, .int 0, .int 0, .int 0, .ref q132, .ref q133, .ref q134, .ref q135, .ref q136, .ref q137, .ref q138, .ref q139, .ref q140, .int 0]))]) (w1 := [(q143, .inl (y144, 1, .inr (.inl (fun _ => 0))))]) hP hD [0, 1, 3] [2] rfl rfl (by decide) (by decide) hk1 hFc hP1 hD1
    have hK := (hK.sub (tys' := []) [] rfl).app hK1
    generalize H1 = H at hP hS ⊢
    have hP : va_P (dC, dI) vwCl [(q77, .inr (20, [.int 0, .ref q78, .int 0, .int 0, .ref q80, .ref q82, .ref q84, .ref q86, .ref q88, .ref q90, .ref q91, .ref q93, .ref q94, .ref q105, .ref q106, .ref q124, .ref q131, .int 0, .int 0, .int 0, .int 0, .int 0, .int 0, .int 0, .int 0, .int 0, .ref q132, .ref q133, .ref q134, .ref q135, .ref q136, .ref q137, .ref q138, .ref q139, .ref q140, .int 0])), (q143, .inl (y144, 1, .inr (.inl (fun _ => 0))))] H := hP
    have hD : va_D A [(q77, .inr (20, [.int 0, .ref q78, .int 0, .int 0, .ref q80, .ref q82, .ref q84, .ref q86, .ref q88, .ref q90, .ref q91, .ref q93, .ref q94, .ref q105, .ref q106, .ref q124, .ref q131, .int 0, .int 0, .int 0, .int 0, .int 0, .int 0, .int 0, .int 0, .int 0, .ref q132, .ref q133, .ref q134, .ref q135, .ref q136, .ref q137, .ref q138, .ref q139, .ref q140, .int 0])), (q143, .inl (y144, 1, .inr (.inl (fun _ => 0))))] := hD
    have hK : va_K (dC, dI) vwCl [(y144, .long)] s := hK
    refine W.widen (k := 456) (n := 2511905) (by decide +kernel) (by decide +kernel) ?_
    refine lv_istore (lv' := [(5, .int 2), (4, .int 0), (3, .ref q143), (2, .ref q77), (1, .ref q1), (0, .ref b)]) hx hb dL_law_650 hl (by decide) rfl (fun ls hl => ?_)
    refine lv_aload_n hx hb dL_law_652 rfl (lv_at hl 3 rfl) ?_
    refine lv_aload_n hx hb dL_law_653 rfl (lv_at hl 5 rfl) ?_
    refine lv_iload hx hb dL_law_654 (lv_at hl 1 rfl) ?_
    refine lv_iconst (v := 1) hx hb dL_law_656 (by decide) ?_
    refine lv_iadd hx hb dL_law_657 ?_
    refine lv_topi (fun z626 ez626 => ?_)
    obtain rfl : z626 = 1 := ez626.trans (by decide)
    refine va_sld (i := 1) hx hb hX hbl hbA hS (vp_in_iff.mpr ⟨by decide, by decide⟩) dL_law_658 ?_
    rw [es1]
    refine lv_aload_n hx hb dL_law_659 rfl (lv_at hl 5 rfl) ?_
    refine lv_iload hx hb dL_law_660 (lv_at hl 1 rfl) ?_
    refine lv_iconst (v := 2) hx hb dL_law_662 (by decide) ?_
    refine lv_iadd hx hb dL_law_663 ?_
    refine lv_topi (fun z627 ez627 => ?_)
    obtain rfl : z627 = 2 := ez627.trans (by decide)
    refine va_sld (i := 2) hx hb hX hbl hbA hS (vp_in_iff.mpr ⟨by decide, by decide⟩) dL_law_664 ?_
    rw [es2]
    refine lv_i2l hx hb dL_law_665 rfl ?_
    refine lv_bipush (v := 32) hx hb dL_law_666 (by decide) ?_
    refine lv_lshl hx hb dL_law_668 rfl ?_
    refine lv_topl (fun z628 ez628 => ?_)
    have h9 : z503 = z628 := ez503.trans ez628.symm; subst h9
    refine lv_aload_n hx hb dL_law_669 rfl (lv_at hl 5 rfl) ?_
    refine lv_iload hx hb dL_law_670 (lv_at hl 1 rfl) ?_
    refine lv_iconst (v := 3) hx hb dL_law_672 (by decide) ?_
    refine lv_iadd hx hb dL_law_673 ?_
    refine lv_topi (fun z629 ez629 => ?_)
    obtain rfl : z629 = 3 := ez629.trans (by decide)
    refine va_sld (i := 3) hx hb hX hbl hbA hS (vp_in_iff.mpr ⟨by decide, by decide⟩) dL_law_674 ?_
    rw [es3]
    refine lv_i2l hx hb dL_law_675 rfl ?_
    refine lv_ldc2 hx hb hown (hts (.constantLong RL 99 (4294967295)) tw_72) dL_law_676 ?_
    refine lv_land hx hb dL_law_679 ?_
    refine lv_topl (fun z630 ez630 => ?_)
    have h9 : z505 = z630 := ez505.trans ez630.symm; subst h9
    refine lv_lor hx hb dL_law_680 ?_
    refine lv_topl (fun z631 ez631 => ?_)
    have h9 : z506 = z631 := ez506.trans ez631.symm; subst h9
    refine lv_aload_n hx hb dL_law_681 rfl (lv_at hl 5 rfl) ?_
    refine lv_iload hx hb dL_law_682 (lv_at hl 1 rfl) ?_
    refine lv_iconst (v := 4) hx hb dL_law_684 (by decide) ?_
    refine lv_iadd hx hb dL_law_685 ?_
    refine lv_topi (fun z632 ez632 => ?_)
    obtain rfl : z632 = 4 := ez632.trans (by decide)
    refine va_sld (i := 4) hx hb hX hbl hbA hS (vp_in_iff.mpr ⟨by decide, by decide⟩) dL_law_686 ?_
    rw [es4]
    have hPc := hP.sub (ws' := [(q77, .inr (20, [.int 0, .ref q78, .int 0, .int 0, .ref q80, .ref q82, .ref q84, .ref q86, .ref q88, .ref q90, .ref q91, .ref q93, .ref q94, .ref q105, .ref q106, .ref q124, .ref q131, .int 0, .int 0, .int 0, .int 0, .int 0, .int 0, .int 0, .int 0, .int 0, .ref q132, .ref q133, .ref q134, .ref q135, .ref q136, .ref q137, .ref q138, .ref q139, .ref q140, .int 0]))]) [0] rfl
    have hDc := hD.sub (ws' := [(q77, .inr (20, [.int 0, .ref q78, .int 0, .int 0, .ref q80, .ref q82, .ref q84, .ref q86, .ref q88, .ref q90, .ref q91, .ref q93, .ref q94, .ref q105, .ref q106, .ref q124, .ref q131, .int 0, .int 0, .int 0, .int 0, .int 0, .int 0, .int 0, .int 0, .int 0, .ref q132, .ref q133, .ref q134, .ref q135, .ref q136, .ref q137, .ref q138, .ref q139, .ref q140, .int 0]))]) [0] (by decide) rfl
    have hKc := hK.sub (tys' := []) [] rfl
    have hFc := va_free (wc := [(q77, .inr (20, [.int 0, .ref q78, .int 0, .int 0, .ref q80, .ref q82, .ref q84, .ref q86, .ref q88, .ref q90, .ref q91, .ref q93, .ref q94, .ref q105, .ref q106, .ref q124, .ref q131, .int 0, .int 0, .int 0, .int 0, .int 0, .int 0, .int 0, .int 0, .int 0, .ref q132, .ref q133, .ref q134, .ref q135, .ref q136, .ref q137, .ref q138, .ref q139, .ref q140, .int 0]))]) hD hS hA [0] rfl
    refine va_calli (va_runV (As := [.int x1, .long z506, .int x4]) (rest := []) ⟨hx, hb, hml, hown, hts⟩ (k_X19_outside l hlt dC dI q77 x1 z506 x4 q78 q80 q82 q84 q86 q88 q90 q91 q93 q94 q105 q106 q124 q131 q132 q133 q134 q135 q136 q137 q138 q139 q140  H.size) (cwV 3 hts gl_26 rfl rfl rfl (by decide +kernel) ⟨Nat.le_of_ble_eq_true rfl, Nat.le_of_ble_eq_true rfl⟩) ⟨fun a U g mk q => by obtain ⟨q0, q1, qP, qK, qD, qN⟩ := q; exact ⟨q0, q1, qP, va_K.moved (u := U) (U := U.calling g mk a) (Vm.Alike.refl U.vm) qK, qD, nv_same rfl rfl qN⟩, va_recv hKc hPc (ci := 20) (q0 := 0) rfl rfl, fun U hU hW => ⟨rfl, by rw [hU], by rw [hU]; exact hPc, va_K.moved hW.alike hKc, hDc.weaken (fun _ _ _ _ => trivial), nv_call hS hFc hU hW hN⟩⟩ rfl rfl hl.1 rfl (lv_room (Nat.le_of_ble_eq_true rfl)) dL_law_687 ⟨by decide +kernel, by decide +kernel⟩) hS (fun q _ h => hFc q h) hFc (fun r633 u t H1 locs ht hvm hw hB hz1 hk1 hS => ?_)
    rcases hw with ⟨c_15_0, c_15_1, c_15_2, c_15_3, c_15_4, h9, h8⟩ | ⟨c_15_0, c_15_1, c_15_2, c_15_3, c_15_4, h9, h8⟩ | ⟨c_15_0, c_15_1, c_15_2, c_15_3, c_15_4, h9, h8⟩ | ⟨c_15_0, c_15_1, c_15_2, c_15_3, c_15_4, c_15_5, h9, h8⟩ | ⟨c_15_0, c_15_1, c_15_2, c_15_3, c_15_4, c_15_5, h9, h8⟩ | ⟨c_15_0, c_15_1, c_15_2, c_15_3, h9, h8⟩ | ⟨c_15_0, c_15_1, c_15_2, c_15_3, c_15_4, h9, h8⟩ | ⟨c_15_0, c_15_1, c_15_2, c_15_3, c_15_4, c_15_5, h9, h8⟩ | ⟨c_15_0, c_15_1, c_15_2, c_15_3, c_15_4, c_15_5, c_15_6, h9, h8⟩ | ⟨c_15_0, c_15_1, c_15_2, c_15_3, c_15_4, c_15_5, c_15_6, h9, h8⟩ | ⟨c_15_0, c_15_1, c_15_2, h9, h8⟩ | ⟨c_15_0, c_15_1, c_15_2, c_15_3, h9, h8⟩ | ⟨c_15_0, c_15_1, c_15_2, c_15_3, h9, h8⟩ | ⟨c_15_0, c_15_1, h9, h8⟩ | ⟨c_15_0, c_15_1, c_15_2, h9, h8⟩ | ⟨c_15_0, c_15_1, c_15_2, h9, h8⟩ | h9
    · exact absurd c_1_3 c_15_3
    · exact absurd c_1_3 c_15_3
    · exact absurd c_15_4 c_1_4
    · exact absurd c_15_5 c_1_5
    · subst h9
      subst h8
      obtain ⟨hP1, hK1, hD1⟩ := hB
      rw [ht] at hP1
      have hK1 := va_K.moved hvm.symm hK1
      obtain ⟨hP, hD⟩ := va_join (wr := [(q143, .inl (y144, 1, .inr (.inl (fun _ => 0))))]) (w1 := [(q77, .inr (20, [.int 2, .ref q78, .int 0, .int 0, .ref q80, .ref q82, .ref q84, .ref q86, .ref q88, .ref q90, .ref q91, .ref q93, .ref q94, .ref q105, .ref q106, .ref q124, .ref q131, .int 0, .int 0, .int 0, .int 0, .int 0, .int 0, .int 0, .int 0, .int 0, .ref q132, .ref q133, .ref q134, .ref q135, .ref q136, .ref q137, .ref q138, .ref q139, .ref q140, .int 0]))]) hP hD [0] [1] rfl rfl (by decide) (by decide) hk1 hFc hP1 hD1
      have hK := (hK.sub (tys' := [(y144, .long)]) [0] rfl).app hK1
      generalize H1 = H at hP hS ⊢
      have hP : va_P (dC, dI) vwCl [(q143, .inl (y144, 1, .inr (.inl (fun _ => 0)))), (q77, .inr (20, [.int 2, .ref q78, .int 0, .int 0, .ref q80, .ref q82, .ref q84, .ref q86, .ref q88, .ref q90, .ref q91, .ref q93, .ref q94, .ref q105, .ref q106, .ref q124, .ref q131, .int 0, .int 0, .int 0, .int 0, .int 0, .int 0, .int 0, .int 0, .int 0, .ref q132, .ref q133, .ref q134, .ref q135, .ref q136, .ref q137, .ref q138, .ref q139, .ref q140, .int 0]))] H := hP
      have hD : va_D A [(q143, .inl (y144, 1, .inr (.inl (fun _ => 0)))), (q77, .inr (20, [.int 2, .ref q78, .int 0, .int 0, .ref q80, .ref q82, .ref q84, .ref q86, .ref q88, .ref q90, .ref q91, .ref q93, .ref q94, .ref q105, .ref q106, .ref q124, .ref q131, .int 0, .int 0, .int 0, .int 0, .int 0, .int 0, .int 0, .int 0, .int 0, .ref q132, .ref q133, .ref q134, .ref q135, .ref q136, .ref q137, .ref q138, .ref q139, .ref q140, .int 0]))] := hD
      have hK : va_K (dC, dI) vwCl [(y144, .long)] s := hK
      refine W.widen (k := 456) (n := 2511905) (by decide +kernel) (by decide +kernel) ?_
      refine lv_istore (lv' := [(6, .int 0), (5, .int 2), (4, .int 0), (3, .ref q143), (2, .ref q77), (1, .ref q1), (0, .ref b)]) hx hb dL_law_690 hl (by decide) rfl (fun ls hl => ?_)
      refine lv_aload_n hx hb dL_law_692 rfl (lv_at hl 4 rfl) ?_
      have hPc := hP.sub (ws' := [(q77, .inr (20, [.int 2, .ref q78, .int 0, .int 0, .ref q80, .ref q82, .ref q84, .ref q86, .ref q88, .ref q90, .ref q91, .ref q93, .ref q94, .ref q105, .ref q106, .ref q124, .ref q131, .int 0, .int 0, .int 0, .int 0, .int 0, .int 0, .int 0, .int 0, .int 0, .ref q132, .ref q133, .ref q134, .ref q135, .ref q136, .ref q137, .ref q138, .ref q139, .ref q140, .int 0]))]) [1] rfl
      have hDc := hD.sub (ws' := [(q77, .inr (20, [.int 2, .ref q78, .int 0, .int 0, .ref q80, .ref q82, .ref q84, .ref q86, .ref q88, .ref q90, .ref q91, .ref q93, .ref q94, .ref q105, .ref q106, .ref q124, .ref q131, .int 0, .int 0, .int 0, .int 0, .int 0, .int 0, .int 0, .int 0, .int 0, .ref q132, .ref q133, .ref q134, .ref q135, .ref q136, .ref q137, .ref q138, .ref q139, .ref q140, .int 0]))]) [1] (by decide) rfl
      have hKc := hK.sub (tys' := []) [] rfl
      have hFc := va_free (wc := [(q77, .inr (20, [.int 2, .ref q78, .int 0, .int 0, .ref q80, .ref q82, .ref q84, .ref q86, .ref q88, .ref q90, .ref q91, .ref q93, .ref q94, .ref q105, .ref q106, .ref q124, .ref q131, .int 0, .int 0, .int 0, .int 0, .int 0, .int 0, .int 0, .int 0, .int 0, .ref q132, .ref q133, .ref q134, .ref q135, .ref q136, .ref q137, .ref q138, .ref q139, .ref q140, .int 0]))]) hD hS hA [1] rfl
      refine va_calli (va_runV (As := []) (rest := []) ⟨hx, hb, hml, hown, hts⟩ (k_X19_thrown_v2 l hlt dC dI q77 q78 q80 q82 q84 q86 q88 q90 q91 q93 q94 q105 q106 q124 q131 q132 q133 q134 q135 q136 q137 q138 q139 q140  H.size) (cwV 0 hts gl_22 rfl rfl rfl (by decide +kernel) ⟨Nat.le_of_ble_eq_true rfl, Nat.le_of_ble_eq_true rfl⟩) ⟨fun a U g mk q => by obtain ⟨q0, q1, qP, qK, qD, qN⟩ := q; exact ⟨q0, q1, qP, va_K.moved (u := U) (U := U.calling g mk a) (Vm.Alike.refl U.vm) qK, qD, nv_same rfl rfl qN⟩, va_recv hKc hPc (ci := 20) (q0 := 0) rfl rfl, fun U hU hW => ⟨rfl, by rw [hU], by rw [hU]; exact hPc, va_K.moved hW.alike hKc, hDc.weaken (fun _ _ _ _ => trivial), nv_call hS hFc hU hW hN⟩⟩ rfl rfl hl.1 rfl (lv_room (Nat.le_of_ble_eq_true rfl)) dL_law_693 ⟨by decide +kernel, by decide +kernel⟩) hS (fun q _ h => hFc q h) hFc (fun r634 u t H1 locs ht hvm hw hB hz1 hk1 hS => ?_)
      obtain ⟨hP1, hK1, hD1⟩ := hB
      rw [ht] at hP1
      have hK1 := va_K.moved hvm.symm hK1
      obtain rfl : r634 = 2 := hw
      obtain ⟨hP, hD⟩ := va_join (wr := [(q143, .inl (y144, 1, .inr (.inl (fun _ => 0))))]) (w1 := [(q77, .inr (20, [.int 2, .ref q78, .int 0, .int 0, .ref q80, .ref q82, .ref q84, .ref q86, .ref q88, .ref q90, .ref q91, .ref q93, .ref q94, .ref q105, .ref q106, .ref q124, .ref q131, .int 0, .int 0, .int 0, .int 0, .int 0, .int 0, .int 0, .int 0, .int 0, .ref q132, .ref q133, .ref q134, .ref q135, .ref q136, .ref q137, .ref q138, .ref q139, .ref q140, .int 0]))]) hP hD [1] [0] rfl rfl (by decide) (by decide) hk1 hFc hP1 hD1
      have hK := (hK.sub (tys' := [(y144, .long)]) [0] rfl).app hK1
      generalize H1 = H at hP hS ⊢
      have hP : va_P (dC, dI) vwCl [(q143, .inl (y144, 1, .inr (.inl (fun _ => 0)))), (q77, .inr (20, [.int 2, .ref q78, .int 0, .int 0, .ref q80, .ref q82, .ref q84, .ref q86, .ref q88, .ref q90, .ref q91, .ref q93, .ref q94, .ref q105, .ref q106, .ref q124, .ref q131, .int 0, .int 0, .int 0, .int 0, .int 0, .int 0, .int 0, .int 0, .int 0, .ref q132, .ref q133, .ref q134, .ref q135, .ref q136, .ref q137, .ref q138, .ref q139, .ref q140, .int 0]))] H := hP
      have hD : va_D A [(q143, .inl (y144, 1, .inr (.inl (fun _ => 0)))), (q77, .inr (20, [.int 2, .ref q78, .int 0, .int 0, .ref q80, .ref q82, .ref q84, .ref q86, .ref q88, .ref q90, .ref q91, .ref q93, .ref q94, .ref q105, .ref q106, .ref q124, .ref q131, .int 0, .int 0, .int 0, .int 0, .int 0, .int 0, .int 0, .int 0, .int 0, .ref q132, .ref q133, .ref q134, .ref q135, .ref q136, .ref q137, .ref q138, .ref q139, .ref q140, .int 0]))] := hD
      have hK : va_K (dC, dI) vwCl [(y144, .long)] s := hK
      refine W.widen (k := 456) (n := 2511905) (by decide +kernel) (by decide +kernel) ?_
      refine lv_iload hx hb dL_law_696 (lv_at hl 1 rfl) ?_
      refine lv_icmp_eq (tgt := 703) hx hb dL_law_698 (by decide) (fun _ => ?_) (fun h9 => absurd (by decide) h9)
      refine lv_iload hx hb dL_law_703 (lv_at hl 1 rfl) ?_
      refine lv_if_ne (tgt := 720) hx hb dL_law_705 (by decide) (fun _ => ?_) (fun h9 => absurd h9 (by decide))
      refine lv_goto (tgt := 1493) hx hb dL_law_720 (by decide) ?_
      refine lv_iinc (v := 6) (lv' := [(4, .int 6), (6, .int 0), (5, .int 2), (3, .ref q143), (2, .ref q77), (1, .ref q1), (0, .ref b)]) hx hb dL_law_1493 hl (k := 2) rfl (by decide) (by decide) rfl (fun ls hl => ?_)
      refine lv_goto (tgt := 23) hx hb dL_law_1496 (by decide) ?_
      refine W.widen (k := 600002) (n := 7302232) (by decide +kernel) (by decide +kernel) ?_
      exact kkE _ _ _ hS (lv_sub hl [0, 6] rfl)
    · exact absurd c_15_2 c_1_2
    · exact absurd c_15_2 c_1_2
    · exact absurd c_15_2 c_1_2
    · exact absurd c_15_2 c_1_2
    · exact absurd c_15_2 c_1_2
    · exact absurd c_15_1 c_1_1
    · exact absurd c_15_1 c_1_1
    · exact absurd c_15_1 c_1_1
    · exact absurd c_15_0 c_1_0
    · exact absurd c_15_0 c_1_0
    · exact absurd c_15_0 c_1_0
    · exact h9.elim
  · subst h9
    subst h8
    obtain ⟨hP1, hK1, hD1⟩ := hB
    rw [ht] at hP1
    have hK1 := va_K.moved hvm.symm hK1
    obtain ⟨hP, hD⟩ := va_join (wr := [(q77, .inr (20, [.int 0, .ref q78, .int 0, .int 0, .ref q80, .ref q82, .ref q84, .ref q86, .ref q88, .ref q90, .ref q91, .ref q93, .ref q94, .ref q105, .ref q106, .ref q124, .ref q131, .int 0, .int 0, .int 0, .int 0, .int 0, .int 0, .int 0, .int 0, .int 0, .ref q132, .ref q133, .ref q134, .ref q135, .ref q136, .ref q137, .ref q138, .ref q139, .ref q140, .int 0]))]) (w1 := [(q143, .inl (y144, 1, .inr (.inl (fun _ => 0))))]) hP hD [0, 1, 3] [2] rfl rfl (by decide) (by decide) hk1 hFc hP1 hD1
    have hK := (hK.sub (tys' := []) [] rfl).app hK1
    generalize H1 = H at hP hS ⊢
    have hP : va_P (dC, dI) vwCl [(q77, .inr (20, [.int 0, .ref q78, .int 0, .int 0, .ref q80, .ref q82, .ref q84, .ref q86, .ref q88, .ref q90, .ref q91, .ref q93, .ref q94, .ref q105, .ref q106, .ref q124, .ref q131, .int 0, .int 0, .int 0, .int 0, .int 0, .int 0, .int 0, .int 0, .int 0, .ref q132, .ref q133, .ref q134, .ref q135, .ref q136, .ref q137, .ref q138, .ref q139, .ref q140, .int 0])), (q143, .inl (y144, 1, .inr (.inl (fun _ => 0))))] H := hP
    have hD : va_D A [(q77, .inr (20, [.int 0, .ref q78, .int 0, .int 0, .ref q80, .ref q82, .ref q84, .ref q86, .ref q88, .ref q90, .ref q91, .ref q93, .ref q94, .ref q105, .ref q106, .ref q124, .ref q131, .int 0, .int 0, .int 0, .int 0, .int 0, .int 0, .int 0, .int 0, .int 0, .ref q132, .ref q133, .ref q134, .ref q135, .ref q136, .ref q137, .ref q138, .ref q139, .ref q140, .int 0])), (q143, .inl (y144, 1, .inr (.inl (fun _ => 0))))] := hD
    have hK : va_K (dC, dI) vwCl [(y144, .long)] s := hK
    refine W.widen (k := 456) (n := 2511905) (by decide +kernel) (by decide +kernel) ?_
    refine lv_istore (lv' := [(5, .int 1), (4, .int 0), (3, .ref q143), (2, .ref q77), (1, .ref q1), (0, .ref b)]) hx hb dL_law_650 hl (by decide) rfl (fun ls hl => ?_)
    refine lv_aload_n hx hb dL_law_652 rfl (lv_at hl 3 rfl) ?_
    refine lv_aload_n hx hb dL_law_653 rfl (lv_at hl 5 rfl) ?_
    refine lv_iload hx hb dL_law_654 (lv_at hl 1 rfl) ?_
    refine lv_iconst (v := 1) hx hb dL_law_656 (by decide) ?_
    refine lv_iadd hx hb dL_law_657 ?_
    refine lv_topi (fun z635 ez635 => ?_)
    obtain rfl : z635 = 1 := ez635.trans (by decide)
    refine va_sld (i := 1) hx hb hX hbl hbA hS (vp_in_iff.mpr ⟨by decide, by decide⟩) dL_law_658 ?_
    rw [es1]
    refine lv_aload_n hx hb dL_law_659 rfl (lv_at hl 5 rfl) ?_
    refine lv_iload hx hb dL_law_660 (lv_at hl 1 rfl) ?_
    refine lv_iconst (v := 2) hx hb dL_law_662 (by decide) ?_
    refine lv_iadd hx hb dL_law_663 ?_
    refine lv_topi (fun z636 ez636 => ?_)
    obtain rfl : z636 = 2 := ez636.trans (by decide)
    refine va_sld (i := 2) hx hb hX hbl hbA hS (vp_in_iff.mpr ⟨by decide, by decide⟩) dL_law_664 ?_
    rw [es2]
    refine lv_i2l hx hb dL_law_665 rfl ?_
    refine lv_bipush (v := 32) hx hb dL_law_666 (by decide) ?_
    refine lv_lshl hx hb dL_law_668 rfl ?_
    refine lv_topl (fun z637 ez637 => ?_)
    have h9 : z503 = z637 := ez503.trans ez637.symm; subst h9
    refine lv_aload_n hx hb dL_law_669 rfl (lv_at hl 5 rfl) ?_
    refine lv_iload hx hb dL_law_670 (lv_at hl 1 rfl) ?_
    refine lv_iconst (v := 3) hx hb dL_law_672 (by decide) ?_
    refine lv_iadd hx hb dL_law_673 ?_
    refine lv_topi (fun z638 ez638 => ?_)
    obtain rfl : z638 = 3 := ez638.trans (by decide)
    refine va_sld (i := 3) hx hb hX hbl hbA hS (vp_in_iff.mpr ⟨by decide, by decide⟩) dL_law_674 ?_
    rw [es3]
    refine lv_i2l hx hb dL_law_675 rfl ?_
    refine lv_ldc2 hx hb hown (hts (.constantLong RL 99 (4294967295)) tw_72) dL_law_676 ?_
    refine lv_land hx hb dL_law_679 ?_
    refine lv_topl (fun z639 ez639 => ?_)
    have h9 : z505 = z639 := ez505.trans ez639.symm; subst h9
    refine lv_lor hx hb dL_law_680 ?_
    refine lv_topl (fun z640 ez640 => ?_)
    have h9 : z506 = z640 := ez506.trans ez640.symm; subst h9
    refine lv_aload_n hx hb dL_law_681 rfl (lv_at hl 5 rfl) ?_
    refine lv_iload hx hb dL_law_682 (lv_at hl 1 rfl) ?_
    refine lv_iconst (v := 4) hx hb dL_law_684 (by decide) ?_
    refine lv_iadd hx hb dL_law_685 ?_
    refine lv_topi (fun z641 ez641 => ?_)
    obtain rfl : z641 = 4 := ez641.trans (by decide)
    refine va_sld (i := 4) hx hb hX hbl hbA hS (vp_in_iff.mpr ⟨by decide, by decide⟩) dL_law_686 ?_
    rw [es4]
    have hPc := hP.sub (ws' := [(q77, .inr (20, [.int 0, .ref q78, .int 0, .int 0, .ref q80, .ref q82, .ref q84, .ref q86, .ref q88, .ref q90, .ref q91, .ref q93, .ref q94, .ref q105, .ref q106, .ref q124, .ref q131, .int 0, .int 0, .int 0, .int 0, .int 0, .int 0, .int 0, .int 0, .int 0, .ref q132, .ref q133, .ref q134, .ref q135, .ref q136, .ref q137, .ref q138, .ref q139, .ref q140, .int 0]))]) [0] rfl
    have hDc := hD.sub (ws' := [(q77, .inr (20, [.int 0, .ref q78, .int 0, .int 0, .ref q80, .ref q82, .ref q84, .ref q86, .ref q88, .ref q90, .ref q91, .ref q93, .ref q94, .ref q105, .ref q106, .ref q124, .ref q131, .int 0, .int 0, .int 0, .int 0, .int 0, .int 0, .int 0, .int 0, .int 0, .ref q132, .ref q133, .ref q134, .ref q135, .ref q136, .ref q137, .ref q138, .ref q139, .ref q140, .int 0]))]) [0] (by decide) rfl
    have hKc := hK.sub (tys' := []) [] rfl
    have hFc := va_free (wc := [(q77, .inr (20, [.int 0, .ref q78, .int 0, .int 0, .ref q80, .ref q82, .ref q84, .ref q86, .ref q88, .ref q90, .ref q91, .ref q93, .ref q94, .ref q105, .ref q106, .ref q124, .ref q131, .int 0, .int 0, .int 0, .int 0, .int 0, .int 0, .int 0, .int 0, .int 0, .ref q132, .ref q133, .ref q134, .ref q135, .ref q136, .ref q137, .ref q138, .ref q139, .ref q140, .int 0]))]) hD hS hA [0] rfl
    refine va_calli (va_runV (As := [.int x1, .long z506, .int x4]) (rest := []) ⟨hx, hb, hml, hown, hts⟩ (k_X19_outside l hlt dC dI q77 x1 z506 x4 q78 q80 q82 q84 q86 q88 q90 q91 q93 q94 q105 q106 q124 q131 q132 q133 q134 q135 q136 q137 q138 q139 q140  H.size) (cwV 3 hts gl_26 rfl rfl rfl (by decide +kernel) ⟨Nat.le_of_ble_eq_true rfl, Nat.le_of_ble_eq_true rfl⟩) ⟨fun a U g mk q => by obtain ⟨q0, q1, qP, qK, qD, qN⟩ := q; exact ⟨q0, q1, qP, va_K.moved (u := U) (U := U.calling g mk a) (Vm.Alike.refl U.vm) qK, qD, nv_same rfl rfl qN⟩, va_recv hKc hPc (ci := 20) (q0 := 0) rfl rfl, fun U hU hW => ⟨rfl, by rw [hU], by rw [hU]; exact hPc, va_K.moved hW.alike hKc, hDc.weaken (fun _ _ _ _ => trivial), nv_call hS hFc hU hW hN⟩⟩ rfl rfl hl.1 rfl (lv_room (Nat.le_of_ble_eq_true rfl)) dL_law_687 ⟨by decide +kernel, by decide +kernel⟩) hS (fun q _ h => hFc q h) hFc (fun r642 u t H1 locs ht hvm hw hB hz1 hk1 hS => ?_)
    rcases hw with ⟨c_16_0, c_16_1, c_16_2, c_16_3, c_16_4, h9, h8⟩ | ⟨c_16_0, c_16_1, c_16_2, c_16_3, c_16_4, h9, h8⟩ | ⟨c_16_0, c_16_1, c_16_2, c_16_3, c_16_4, h9, h8⟩ | ⟨c_16_0, c_16_1, c_16_2, c_16_3, c_16_4, c_16_5, h9, h8⟩ | ⟨c_16_0, c_16_1, c_16_2, c_16_3, c_16_4, c_16_5, h9, h8⟩ | ⟨c_16_0, c_16_1, c_16_2, c_16_3, h9, h8⟩ | ⟨c_16_0, c_16_1, c_16_2, c_16_3, c_16_4, h9, h8⟩ | ⟨c_16_0, c_16_1, c_16_2, c_16_3, c_16_4, c_16_5, h9, h8⟩ | ⟨c_16_0, c_16_1, c_16_2, c_16_3, c_16_4, c_16_5, c_16_6, h9, h8⟩ | ⟨c_16_0, c_16_1, c_16_2, c_16_3, c_16_4, c_16_5, c_16_6, h9, h8⟩ | ⟨c_16_0, c_16_1, c_16_2, h9, h8⟩ | ⟨c_16_0, c_16_1, c_16_2, c_16_3, h9, h8⟩ | ⟨c_16_0, c_16_1, c_16_2, c_16_3, h9, h8⟩ | ⟨c_16_0, c_16_1, h9, h8⟩ | ⟨c_16_0, c_16_1, c_16_2, h9, h8⟩ | ⟨c_16_0, c_16_1, c_16_2, h9, h8⟩ | h9
    · subst h9
      subst h8
      obtain ⟨hP1, hK1, hD1⟩ := hB
      rw [ht] at hP1
      have hK1 := va_K.moved hvm.symm hK1
      obtain ⟨hP, hD⟩ := va_join (wr := [(q143, .inl (y144, 1, .inr (.inl (fun _ => 0))))]) (w1 := [(q77, .inr (20, [.int 1, .ref q78, .int 0, .int 0, .ref q80, .ref q82, .ref q84, .ref q86, .ref q88, .ref q90, .ref q91, .ref q93, .ref q94, .ref q105, .ref q106, .ref q124, .ref q131, .int 0, .int 0, .int 0, .int 0, .int 0, .int 0, .int 0, .int 0, .int 0, .ref q132, .ref q133, .ref q134, .ref q135, .ref q136, .ref q137, .ref q138, .ref q139, .ref q140, .int 0]))]) hP hD [0] [1] rfl rfl (by decide) (by decide) hk1 hFc hP1 hD1
      have hK := (hK.sub (tys' := [(y144, .long)]) [0] rfl).app hK1
      generalize H1 = H at hP hS ⊢
      have hP : va_P (dC, dI) vwCl [(q143, .inl (y144, 1, .inr (.inl (fun _ => 0)))), (q77, .inr (20, [.int 1, .ref q78, .int 0, .int 0, .ref q80, .ref q82, .ref q84, .ref q86, .ref q88, .ref q90, .ref q91, .ref q93, .ref q94, .ref q105, .ref q106, .ref q124, .ref q131, .int 0, .int 0, .int 0, .int 0, .int 0, .int 0, .int 0, .int 0, .int 0, .ref q132, .ref q133, .ref q134, .ref q135, .ref q136, .ref q137, .ref q138, .ref q139, .ref q140, .int 0]))] H := hP
      have hD : va_D A [(q143, .inl (y144, 1, .inr (.inl (fun _ => 0)))), (q77, .inr (20, [.int 1, .ref q78, .int 0, .int 0, .ref q80, .ref q82, .ref q84, .ref q86, .ref q88, .ref q90, .ref q91, .ref q93, .ref q94, .ref q105, .ref q106, .ref q124, .ref q131, .int 0, .int 0, .int 0, .int 0, .int 0, .int 0, .int 0, .int 0, .int 0, .ref q132, .ref q133, .ref q134, .ref q135, .ref q136, .ref q137, .ref q138, .ref q139, .ref q140, .int 0]))] := hD
      have hK : va_K (dC, dI) vwCl [(y144, .long)] s := hK
      refine W.widen (k := 456) (n := 2511905) (by decide +kernel) (by decide +kernel) ?_
      refine lv_istore (lv' := [(6, .int 0), (5, .int 1), (4, .int 0), (3, .ref q143), (2, .ref q77), (1, .ref q1), (0, .ref b)]) hx hb dL_law_690 hl (by decide) rfl (fun ls hl => ?_)
      refine lv_aload_n hx hb dL_law_692 rfl (lv_at hl 4 rfl) ?_
      have hPc := hP.sub (ws' := [(q77, .inr (20, [.int 1, .ref q78, .int 0, .int 0, .ref q80, .ref q82, .ref q84, .ref q86, .ref q88, .ref q90, .ref q91, .ref q93, .ref q94, .ref q105, .ref q106, .ref q124, .ref q131, .int 0, .int 0, .int 0, .int 0, .int 0, .int 0, .int 0, .int 0, .int 0, .ref q132, .ref q133, .ref q134, .ref q135, .ref q136, .ref q137, .ref q138, .ref q139, .ref q140, .int 0]))]) [1] rfl
      have hDc := hD.sub (ws' := [(q77, .inr (20, [.int 1, .ref q78, .int 0, .int 0, .ref q80, .ref q82, .ref q84, .ref q86, .ref q88, .ref q90, .ref q91, .ref q93, .ref q94, .ref q105, .ref q106, .ref q124, .ref q131, .int 0, .int 0, .int 0, .int 0, .int 0, .int 0, .int 0, .int 0, .int 0, .ref q132, .ref q133, .ref q134, .ref q135, .ref q136, .ref q137, .ref q138, .ref q139, .ref q140, .int 0]))]) [1] (by decide) rfl
      have hKc := hK.sub (tys' := []) [] rfl
      have hFc := va_free (wc := [(q77, .inr (20, [.int 1, .ref q78, .int 0, .int 0, .ref q80, .ref q82, .ref q84, .ref q86, .ref q88, .ref q90, .ref q91, .ref q93, .ref q94, .ref q105, .ref q106, .ref q124, .ref q131, .int 0, .int 0, .int 0, .int 0, .int 0, .int 0, .int 0, .int 0, .int 0, .ref q132, .ref q133, .ref q134, .ref q135, .ref q136, .ref q137, .ref q138, .ref q139, .ref q140, .int 0]))]) hD hS hA [1] rfl
      refine va_calli (va_runV (As := []) (rest := []) ⟨hx, hb, hml, hown, hts⟩ (k_X19_thrown l hlt dC dI q77 q78 q80 q82 q84 q86 q88 q90 q91 q93 q94 q105 q106 q124 q131 q132 q133 q134 q135 q136 q137 q138 q139 q140  H.size) (cwV 0 hts gl_8 rfl rfl rfl (by decide +kernel) ⟨Nat.le_of_ble_eq_true rfl, Nat.le_of_ble_eq_true rfl⟩) ⟨fun a U g mk q => by obtain ⟨q0, q1, qP, qK, qD, qN⟩ := q; exact ⟨q0, q1, qP, va_K.moved (u := U) (U := U.calling g mk a) (Vm.Alike.refl U.vm) qK, qD, nv_same rfl rfl qN⟩, va_recv hKc hPc (ci := 20) (q0 := 0) rfl rfl, fun U hU hW => ⟨rfl, by rw [hU], by rw [hU]; exact hPc, va_K.moved hW.alike hKc, hDc.weaken (fun _ _ _ _ => trivial), nv_call hS hFc hU hW hN⟩⟩ rfl rfl hl.1 rfl (lv_room (Nat.le_of_ble_eq_true rfl)) dL_law_693 ⟨by decide +kernel, by decide +kernel⟩) hS (fun q _ h => hFc q h) hFc (fun r643 u t H1 locs ht hvm hw hB hz1 hk1 hS => ?_)
      obtain ⟨hP1, hK1, hD1⟩ := hB
      rw [ht] at hP1
      have hK1 := va_K.moved hvm.symm hK1
      obtain rfl : r643 = 1 := hw
      obtain ⟨hP, hD⟩ := va_join (wr := [(q143, .inl (y144, 1, .inr (.inl (fun _ => 0))))]) (w1 := [(q77, .inr (20, [.int 1, .ref q78, .int 0, .int 0, .ref q80, .ref q82, .ref q84, .ref q86, .ref q88, .ref q90, .ref q91, .ref q93, .ref q94, .ref q105, .ref q106, .ref q124, .ref q131, .int 0, .int 0, .int 0, .int 0, .int 0, .int 0, .int 0, .int 0, .int 0, .ref q132, .ref q133, .ref q134, .ref q135, .ref q136, .ref q137, .ref q138, .ref q139, .ref q140, .int 0]))]) hP hD [1] [0] rfl rfl (by decide) (by decide) hk1 hFc hP1 hD1
      have hK := (hK.sub (tys' := [(y144, .long)]) [0] rfl).app hK1
      generalize H1 = H at hP hS ⊢
      have hP : va_P (dC, dI) vwCl [(q143, .inl (y144, 1, .inr (.inl (fun _ => 0)))), (q77, .inr (20, [.int 1, .ref q78, .int 0, .int 0, .ref q80, .ref q82, .ref q84, .ref q86, .ref q88, .ref q90, .ref q91, .ref q93, .ref q94, .ref q105, .ref q106, .ref q124, .ref q131, .int 0, .int 0, .int 0, .int 0, .int 0, .int 0, .int 0, .int 0, .int 0, .ref q132, .ref q133, .ref q134, .ref q135, .ref q136, .ref q137, .ref q138, .ref q139, .ref q140, .int 0]))] H := hP
      have hD : va_D A [(q143, .inl (y144, 1, .inr (.inl (fun _ => 0)))), (q77, .inr (20, [.int 1, .ref q78, .int 0, .int 0, .ref q80, .ref q82, .ref q84, .ref q86, .ref q88, .ref q90, .ref q91, .ref q93, .ref q94, .ref q105, .ref q106, .ref q124, .ref q131, .int 0, .int 0, .int 0, .int 0, .int 0, .int 0, .int 0, .int 0, .int 0, .ref q132, .ref q133, .ref q134, .ref q135, .ref q136, .ref q137, .ref q138, .ref q139, .ref q140, .int 0]))] := hD
      have hK : va_K (dC, dI) vwCl [(y144, .long)] s := hK
      refine W.widen (k := 456) (n := 2511905) (by decide +kernel) (by decide +kernel) ?_
      refine lv_iload hx hb dL_law_696 (lv_at hl 1 rfl) ?_
      refine lv_icmp_eq (tgt := 703) hx hb dL_law_698 (by decide) (fun _ => ?_) (fun h9 => absurd (by decide) h9)
      refine lv_iload hx hb dL_law_703 (lv_at hl 1 rfl) ?_
      refine lv_if_ne (tgt := 720) hx hb dL_law_705 (by decide) (fun _ => ?_) (fun h9 => absurd h9 (by decide))
      refine lv_goto (tgt := 1493) hx hb dL_law_720 (by decide) ?_
      refine lv_iinc (v := 6) (lv' := [(4, .int 6), (6, .int 0), (5, .int 1), (3, .ref q143), (2, .ref q77), (1, .ref q1), (0, .ref b)]) hx hb dL_law_1493 hl (k := 2) rfl (by decide) (by decide) rfl (fun ls hl => ?_)
      refine lv_goto (tgt := 23) hx hb dL_law_1496 (by decide) ?_
      refine W.widen (k := 600002) (n := 7302232) (by decide +kernel) (by decide +kernel) ?_
      exact kkE _ _ _ hS (lv_sub hl [0, 6] rfl)
    · exact absurd c_16_4 c_1_4
    · exact absurd c_16_3 c_1_3
    · exact absurd c_16_3 c_1_3
    · exact absurd c_16_3 c_1_3
    · exact absurd c_16_2 c_1_2
    · exact absurd c_16_2 c_1_2
    · exact absurd c_16_2 c_1_2
    · exact absurd c_16_2 c_1_2
    · exact absurd c_16_2 c_1_2
    · exact absurd c_16_1 c_1_1
    · exact absurd c_16_1 c_1_1
    · exact absurd c_16_1 c_1_1
    · exact absurd c_16_0 c_1_0
    · exact absurd c_16_0 c_1_0
    · exact absurd c_16_0 c_1_0
    · exact h9.elim
  · subst h9
    subst h8
    obtain ⟨hP1, hK1, hD1⟩ := hB
    rw [ht] at hP1
    have hK1 := va_K.moved hvm.symm hK1
    obtain ⟨hP, hD⟩ := va_join (wr := [(q77, .inr (20, [.int 0, .ref q78, .int 0, .int 0, .ref q80, .ref q82, .ref q84, .ref q86, .ref q88, .ref q90, .ref q91, .ref q93, .ref q94, .ref q105, .ref q106, .ref q124, .ref q131, .int 0, .int 0, .int 0, .int 0, .int 0, .int 0, .int 0, .int 0, .int 0, .ref q132, .ref q133, .ref q134, .ref q135, .ref q136, .ref q137, .ref q138, .ref q139, .ref q140, .int 0]))]) (w1 := [(q143, .inl (y144, 1, .inr (.inl (fun _ => 0))))]) hP hD [0, 1, 3] [2] rfl rfl (by decide) (by decide) hk1 hFc hP1 hD1
    have hK := (hK.sub (tys' := []) [] rfl).app hK1
    generalize H1 = H at hP hS ⊢
    have hP : va_P (dC, dI) vwCl [(q77, .inr (20, [.int 0, .ref q78, .int 0, .int 0, .ref q80, .ref q82, .ref q84, .ref q86, .ref q88, .ref q90, .ref q91, .ref q93, .ref q94, .ref q105, .ref q106, .ref q124, .ref q131, .int 0, .int 0, .int 0, .int 0, .int 0, .int 0, .int 0, .int 0, .int 0, .ref q132, .ref q133, .ref q134, .ref q135, .ref q136, .ref q137, .ref q138, .ref q139, .ref q140, .int 0])), (q143, .inl (y144, 1, .inr (.inl (fun _ => 0))))] H := hP
    have hD : va_D A [(q77, .inr (20, [.int 0, .ref q78, .int 0, .int 0, .ref q80, .ref q82, .ref q84, .ref q86, .ref q88, .ref q90, .ref q91, .ref q93, .ref q94, .ref q105, .ref q106, .ref q124, .ref q131, .int 0, .int 0, .int 0, .int 0, .int 0, .int 0, .int 0, .int 0, .int 0, .ref q132, .ref q133, .ref q134, .ref q135, .ref q136, .ref q137, .ref q138, .ref q139, .ref q140, .int 0])), (q143, .inl (y144, 1, .inr (.inl (fun _ => 0))))] := hD
    have hK : va_K (dC, dI) vwCl [(y144, .long)] s := hK
    refine W.widen (k := 456) (n := 2511905) (by decide +kernel) (by decide +kernel) ?_
    refine lv_istore (lv' := [(5, .int 2), (4, .int 0), (3, .ref q143), (2, .ref q77), (1, .ref q1), (0, .ref b)]) hx hb dL_law_650 hl (by decide) rfl (fun ls hl => ?_)
    refine lv_aload_n hx hb dL_law_652 rfl (lv_at hl 3 rfl) ?_
    refine lv_aload_n hx hb dL_law_653 rfl (lv_at hl 5 rfl) ?_
    refine lv_iload hx hb dL_law_654 (lv_at hl 1 rfl) ?_
    refine lv_iconst (v := 1) hx hb dL_law_656 (by decide) ?_
    refine lv_iadd hx hb dL_law_657 ?_
    refine lv_topi (fun z644 ez644 => ?_)
    obtain rfl : z644 = 1 := ez644.trans (by decide)
    refine va_sld (i := 1) hx hb hX hbl hbA hS (vp_in_iff.mpr ⟨by decide, by decide⟩) dL_law_658 ?_
    rw [es1]
    refine lv_aload_n hx hb dL_law_659 rfl (lv_at hl 5 rfl) ?_
    refine lv_iload hx hb dL_law_660 (lv_at hl 1 rfl) ?_
    refine lv_iconst (v := 2) hx hb dL_law_662 (by decide) ?_
    refine lv_iadd hx hb dL_law_663 ?_
    refine lv_topi (fun z645 ez645 => ?_)
    obtain rfl : z645 = 2 := ez645.trans (by decide)
    refine va_sld (i := 2) hx hb hX hbl hbA hS (vp_in_iff.mpr ⟨by decide, by decide⟩) dL_law_664 ?_
    rw [es2]
    refine lv_i2l hx hb dL_law_665 rfl ?_
    refine lv_bipush (v := 32) hx hb dL_law_666 (by decide) ?_
    refine lv_lshl hx hb dL_law_668 rfl ?_
    refine lv_topl (fun z646 ez646 => ?_)
    have h9 : z503 = z646 := ez503.trans ez646.symm; subst h9
    refine lv_aload_n hx hb dL_law_669 rfl (lv_at hl 5 rfl) ?_
    refine lv_iload hx hb dL_law_670 (lv_at hl 1 rfl) ?_
    refine lv_iconst (v := 3) hx hb dL_law_672 (by decide) ?_
    refine lv_iadd hx hb dL_law_673 ?_
    refine lv_topi (fun z647 ez647 => ?_)
    obtain rfl : z647 = 3 := ez647.trans (by decide)
    refine va_sld (i := 3) hx hb hX hbl hbA hS (vp_in_iff.mpr ⟨by decide, by decide⟩) dL_law_674 ?_
    rw [es3]
    refine lv_i2l hx hb dL_law_675 rfl ?_
    refine lv_ldc2 hx hb hown (hts (.constantLong RL 99 (4294967295)) tw_72) dL_law_676 ?_
    refine lv_land hx hb dL_law_679 ?_
    refine lv_topl (fun z648 ez648 => ?_)
    have h9 : z505 = z648 := ez505.trans ez648.symm; subst h9
    refine lv_lor hx hb dL_law_680 ?_
    refine lv_topl (fun z649 ez649 => ?_)
    have h9 : z506 = z649 := ez506.trans ez649.symm; subst h9
    refine lv_aload_n hx hb dL_law_681 rfl (lv_at hl 5 rfl) ?_
    refine lv_iload hx hb dL_law_682 (lv_at hl 1 rfl) ?_
    refine lv_iconst (v := 4) hx hb dL_law_684 (by decide) ?_
    refine lv_iadd hx hb dL_law_685 ?_
    refine lv_topi (fun z650 ez650 => ?_)
    obtain rfl : z650 = 4 := ez650.trans (by decide)
    refine va_sld (i := 4) hx hb hX hbl hbA hS (vp_in_iff.mpr ⟨by decide, by decide⟩) dL_law_686 ?_
    rw [es4]
    have hPc := hP.sub (ws' := [(q77, .inr (20, [.int 0, .ref q78, .int 0, .int 0, .ref q80, .ref q82, .ref q84, .ref q86, .ref q88, .ref q90, .ref q91, .ref q93, .ref q94, .ref q105, .ref q106, .ref q124, .ref q131, .int 0, .int 0, .int 0, .int 0, .int 0, .int 0, .int 0, .int 0, .int 0, .ref q132, .ref q133, .ref q134, .ref q135, .ref q136, .ref q137, .ref q138, .ref q139, .ref q140, .int 0]))]) [0] rfl
    have hDc := hD.sub (ws' := [(q77, .inr (20, [.int 0, .ref q78, .int 0, .int 0, .ref q80, .ref q82, .ref q84, .ref q86, .ref q88, .ref q90, .ref q91, .ref q93, .ref q94, .ref q105, .ref q106, .ref q124, .ref q131, .int 0, .int 0, .int 0, .int 0, .int 0, .int 0, .int 0, .int 0, .int 0, .ref q132, .ref q133, .ref q134, .ref q135, .ref q136, .ref q137, .ref q138, .ref q139, .ref q140, .int 0]))]) [0] (by decide) rfl
    have hKc := hK.sub (tys' := []) [] rfl
    have hFc := va_free (wc := [(q77, .inr (20, [.int 0, .ref q78, .int 0, .int 0, .ref q80, .ref q82, .ref q84, .ref q86, .ref q88, .ref q90, .ref q91, .ref q93, .ref q94, .ref q105, .ref q106, .ref q124, .ref q131, .int 0, .int 0, .int 0, .int 0, .int 0, .int 0, .int 0, .int 0, .int 0, .ref q132, .ref q133, .ref q134, .ref q135, .ref q136, .ref q137, .ref q138, .ref q139, .ref q140, .int 0]))]) hD hS hA [0] rfl
    refine va_calli (va_runV (As := [.int x1, .long z506, .int x4]) (rest := []) ⟨hx, hb, hml, hown, hts⟩ (k_X19_outside l hlt dC dI q77 x1 z506 x4 q78 q80 q82 q84 q86 q88 q90 q91 q93 q94 q105 q106 q124 q131 q132 q133 q134 q135 q136 q137 q138 q139 q140  H.size) (cwV 3 hts gl_26 rfl rfl rfl (by decide +kernel) ⟨Nat.le_of_ble_eq_true rfl, Nat.le_of_ble_eq_true rfl⟩) ⟨fun a U g mk q => by obtain ⟨q0, q1, qP, qK, qD, qN⟩ := q; exact ⟨q0, q1, qP, va_K.moved (u := U) (U := U.calling g mk a) (Vm.Alike.refl U.vm) qK, qD, nv_same rfl rfl qN⟩, va_recv hKc hPc (ci := 20) (q0 := 0) rfl rfl, fun U hU hW => ⟨rfl, by rw [hU], by rw [hU]; exact hPc, va_K.moved hW.alike hKc, hDc.weaken (fun _ _ _ _ => trivial), nv_call hS hFc hU hW hN⟩⟩ rfl rfl hl.1 rfl (lv_room (Nat.le_of_ble_eq_true rfl)) dL_law_687 ⟨by decide +kernel, by decide +kernel⟩) hS (fun q _ h => hFc q h) hFc (fun r651 u t H1 locs ht hvm hw hB hz1 hk1 hS => ?_)
    rcases hw with ⟨c_17_0, c_17_1, c_17_2, c_17_3, c_17_4, h9, h8⟩ | ⟨c_17_0, c_17_1, c_17_2, c_17_3, c_17_4, h9, h8⟩ | ⟨c_17_0, c_17_1, c_17_2, c_17_3, c_17_4, h9, h8⟩ | ⟨c_17_0, c_17_1, c_17_2, c_17_3, c_17_4, c_17_5, h9, h8⟩ | ⟨c_17_0, c_17_1, c_17_2, c_17_3, c_17_4, c_17_5, h9, h8⟩ | ⟨c_17_0, c_17_1, c_17_2, c_17_3, h9, h8⟩ | ⟨c_17_0, c_17_1, c_17_2, c_17_3, c_17_4, h9, h8⟩ | ⟨c_17_0, c_17_1, c_17_2, c_17_3, c_17_4, c_17_5, h9, h8⟩ | ⟨c_17_0, c_17_1, c_17_2, c_17_3, c_17_4, c_17_5, c_17_6, h9, h8⟩ | ⟨c_17_0, c_17_1, c_17_2, c_17_3, c_17_4, c_17_5, c_17_6, h9, h8⟩ | ⟨c_17_0, c_17_1, c_17_2, h9, h8⟩ | ⟨c_17_0, c_17_1, c_17_2, c_17_3, h9, h8⟩ | ⟨c_17_0, c_17_1, c_17_2, c_17_3, h9, h8⟩ | ⟨c_17_0, c_17_1, h9, h8⟩ | ⟨c_17_0, c_17_1, c_17_2, h9, h8⟩ | ⟨c_17_0, c_17_1, c_17_2, h9, h8⟩ | h9
    · exact absurd c_1_4 c_17_4
    · subst h9
      subst h8
      obtain ⟨hP1, hK1, hD1⟩ := hB
      rw [ht] at hP1
      have hK1 := va_K.moved hvm.symm hK1
      obtain ⟨hP, hD⟩ := va_join (wr := [(q143, .inl (y144, 1, .inr (.inl (fun _ => 0))))]) (w1 := [(q77, .inr (20, [.int 2, .ref q78, .int 0, .int 0, .ref q80, .ref q82, .ref q84, .ref q86, .ref q88, .ref q90, .ref q91, .ref q93, .ref q94, .ref q105, .ref q106, .ref q124, .ref q131, .int 0, .int 0, .int 0, .int 0, .int 0, .int 0, .int 0, .int 0, .int 0, .ref q132, .ref q133, .ref q134, .ref q135, .ref q136, .ref q137, .ref q138, .ref q139, .ref q140, .int 0]))]) hP hD [0] [1] rfl rfl (by decide) (by decide) hk1 hFc hP1 hD1
      have hK := (hK.sub (tys' := [(y144, .long)]) [0] rfl).app hK1
      generalize H1 = H at hP hS ⊢
      have hP : va_P (dC, dI) vwCl [(q143, .inl (y144, 1, .inr (.inl (fun _ => 0)))), (q77, .inr (20, [.int 2, .ref q78, .int 0, .int 0, .ref q80, .ref q82, .ref q84, .ref q86, .ref q88, .ref q90, .ref q91, .ref q93, .ref q94, .ref q105, .ref q106, .ref q124, .ref q131, .int 0, .int 0, .int 0, .int 0, .int 0, .int 0, .int 0, .int 0, .int 0, .ref q132, .ref q133, .ref q134, .ref q135, .ref q136, .ref q137, .ref q138, .ref q139, .ref q140, .int 0]))] H := hP
      have hD : va_D A [(q143, .inl (y144, 1, .inr (.inl (fun _ => 0)))), (q77, .inr (20, [.int 2, .ref q78, .int 0, .int 0, .ref q80, .ref q82, .ref q84, .ref q86, .ref q88, .ref q90, .ref q91, .ref q93, .ref q94, .ref q105, .ref q106, .ref q124, .ref q131, .int 0, .int 0, .int 0, .int 0, .int 0, .int 0, .int 0, .int 0, .int 0, .ref q132, .ref q133, .ref q134, .ref q135, .ref q136, .ref q137, .ref q138, .ref q139, .ref q140, .int 0]))] := hD
      have hK : va_K (dC, dI) vwCl [(y144, .long)] s := hK
      refine W.widen (k := 456) (n := 2511905) (by decide +kernel) (by decide +kernel) ?_
      refine lv_istore (lv' := [(6, .int 0), (5, .int 2), (4, .int 0), (3, .ref q143), (2, .ref q77), (1, .ref q1), (0, .ref b)]) hx hb dL_law_690 hl (by decide) rfl (fun ls hl => ?_)
      refine lv_aload_n hx hb dL_law_692 rfl (lv_at hl 4 rfl) ?_
      have hPc := hP.sub (ws' := [(q77, .inr (20, [.int 2, .ref q78, .int 0, .int 0, .ref q80, .ref q82, .ref q84, .ref q86, .ref q88, .ref q90, .ref q91, .ref q93, .ref q94, .ref q105, .ref q106, .ref q124, .ref q131, .int 0, .int 0, .int 0, .int 0, .int 0, .int 0, .int 0, .int 0, .int 0, .ref q132, .ref q133, .ref q134, .ref q135, .ref q136, .ref q137, .ref q138, .ref q139, .ref q140, .int 0]))]) [1] rfl
      have hDc := hD.sub (ws' := [(q77, .inr (20, [.int 2, .ref q78, .int 0, .int 0, .ref q80, .ref q82, .ref q84, .ref q86, .ref q88, .ref q90, .ref q91, .ref q93, .ref q94, .ref q105, .ref q106, .ref q124, .ref q131, .int 0, .int 0, .int 0, .int 0, .int 0, .int 0, .int 0, .int 0, .int 0, .ref q132, .ref q133, .ref q134, .ref q135, .ref q136, .ref q137, .ref q138, .ref q139, .ref q140, .int 0]))]) [1] (by decide) rfl
      have hKc := hK.sub (tys' := []) [] rfl
      have hFc := va_free (wc := [(q77, .inr (20, [.int 2, .ref q78, .int 0, .int 0, .ref q80, .ref q82, .ref q84, .ref q86, .ref q88, .ref q90, .ref q91, .ref q93, .ref q94, .ref q105, .ref q106, .ref q124, .ref q131, .int 0, .int 0, .int 0, .int 0, .int 0, .int 0, .int 0, .int 0, .int 0, .ref q132, .ref q133, .ref q134, .ref q135, .ref q136, .ref q137, .ref q138, .ref q139, .ref q140, .int 0]))]) hD hS hA [1] rfl
      refine va_calli (va_runV (As := []) (rest := []) ⟨hx, hb, hml, hown, hts⟩ (k_X19_thrown_v2 l hlt dC dI q77 q78 q80 q82 q84 q86 q88 q90 q91 q93 q94 q105 q106 q124 q131 q132 q133 q134 q135 q136 q137 q138 q139 q140  H.size) (cwV 0 hts gl_22 rfl rfl rfl (by decide +kernel) ⟨Nat.le_of_ble_eq_true rfl, Nat.le_of_ble_eq_true rfl⟩) ⟨fun a U g mk q => by obtain ⟨q0, q1, qP, qK, qD, qN⟩ := q; exact ⟨q0, q1, qP, va_K.moved (u := U) (U := U.calling g mk a) (Vm.Alike.refl U.vm) qK, qD, nv_same rfl rfl qN⟩, va_recv hKc hPc (ci := 20) (q0 := 0) rfl rfl, fun U hU hW => ⟨rfl, by rw [hU], by rw [hU]; exact hPc, va_K.moved hW.alike hKc, hDc.weaken (fun _ _ _ _ => trivial), nv_call hS hFc hU hW hN⟩⟩ rfl rfl hl.1 rfl (lv_room (Nat.le_of_ble_eq_true rfl)) dL_law_693 ⟨by decide +kernel, by decide +kernel⟩) hS (fun q _ h => hFc q h) hFc (fun r652 u t H1 locs ht hvm hw hB hz1 hk1 hS => ?_)
      obtain ⟨hP1, hK1, hD1⟩ := hB
      rw [ht] at hP1
      have hK1 := va_K.moved hvm.symm hK1
      obtain rfl : r652 = 2 := hw
      obtain ⟨hP, hD⟩ := va_join (wr := [(q143, .inl (y144, 1, .inr (.inl (fun _ => 0))))]) (w1 := [(q77, .inr (20, [.int 2, .ref q78, .int 0, .int 0, .ref q80, .ref q82, .ref q84, .ref q86, .ref q88, .ref q90, .ref q91, .ref q93, .ref q94, .ref q105, .ref q106, .ref q124, .ref q131, .int 0, .int 0, .int 0, .int 0, .int 0, .int 0, .int 0, .int 0, .int 0, .ref q132, .ref q133, .ref q134, .ref q135, .ref q136, .ref q137, .ref q138, .ref q139, .ref q140, .int 0]))]) hP hD [1] [0] rfl rfl (by decide) (by decide) hk1 hFc hP1 hD1
      have hK := (hK.sub (tys' := [(y144, .long)]) [0] rfl).app hK1
      generalize H1 = H at hP hS ⊢
      have hP : va_P (dC, dI) vwCl [(q143, .inl (y144, 1, .inr (.inl (fun _ => 0)))), (q77, .inr (20, [.int 2, .ref q78, .int 0, .int 0, .ref q80, .ref q82, .ref q84, .ref q86, .ref q88, .ref q90, .ref q91, .ref q93, .ref q94, .ref q105, .ref q106, .ref q124, .ref q131, .int 0, .int 0, .int 0, .int 0, .int 0, .int 0, .int 0, .int 0, .int 0, .ref q132, .ref q133, .ref q134, .ref q135, .ref q136, .ref q137, .ref q138, .ref q139, .ref q140, .int 0]))] H := hP
      have hD : va_D A [(q143, .inl (y144, 1, .inr (.inl (fun _ => 0)))), (q77, .inr (20, [.int 2, .ref q78, .int 0, .int 0, .ref q80, .ref q82, .ref q84, .ref q86, .ref q88, .ref q90, .ref q91, .ref q93, .ref q94, .ref q105, .ref q106, .ref q124, .ref q131, .int 0, .int 0, .int 0, .int 0, .int 0, .int 0, .int 0, .int 0, .int 0, .ref q132, .ref q133, .ref q134, .ref q135, .ref q136, .ref q137, .ref q138, .ref q139, .ref q140, .int 0]))] := hD
      have hK : va_K (dC, dI) vwCl [(y144, .long)] s := hK
      refine W.widen (k := 456) (n := 2511905) (by decide +kernel) (by decide +kernel) ?_
      refine lv_iload hx hb dL_law_696 (lv_at hl 1 rfl) ?_
      refine lv_icmp_eq (tgt := 703) hx hb dL_law_698 (by decide) (fun _ => ?_) (fun h9 => absurd (by decide) h9)
      refine lv_iload hx hb dL_law_703 (lv_at hl 1 rfl) ?_
      refine lv_if_ne (tgt := 720) hx hb dL_law_705 (by decide) (fun _ => ?_) (fun h9 => absurd h9 (by decide))
      refine lv_goto (tgt := 1493) hx hb dL_law_720 (by decide) ?_
      refine lv_iinc (v := 6) (lv' := [(4, .int 6), (6, .int 0), (5, .int 2), (3, .ref q143), (2, .ref q77), (1, .ref q1), (0, .ref b)]) hx hb dL_law_1493 hl (k := 2) rfl (by decide) (by decide) rfl (fun ls hl => ?_)
      refine lv_goto (tgt := 23) hx hb dL_law_1496 (by decide) ?_
      refine W.widen (k := 600002) (n := 7302232) (by decide +kernel) (by decide +kernel) ?_
      exact kkE _ _ _ hS (lv_sub hl [0, 6] rfl)
    · exact absurd c_17_3 c_1_3
    · exact absurd c_17_3 c_1_3
    · exact absurd c_17_3 c_1_3
    · exact absurd c_17_2 c_1_2
    · exact absurd c_17_2 c_1_2
    · exact absurd c_17_2 c_1_2
    · exact absurd c_17_2 c_1_2
    · exact absurd c_17_2 c_1_2
    · exact absurd c_17_1 c_1_1
    · exact absurd c_17_1 c_1_1
    · exact absurd c_17_1 c_1_1
    · exact absurd c_17_0 c_1_0
    · exact absurd c_17_0 c_1_0
    · exact absurd c_17_0 c_1_0
    · exact h9.elim
  · exact h9.elim
