set_option maxHeartbeats 40000000 in
set_option maxRecDepth 100000 in
theorem k_X14_pack (l : Launch) (hlt : l.stackTraces = false) (dC : Nat → ClassId) (dI : Nat → Nat → Nat) (c0 : Nat) (c1 : ClassId) (c2 : Nat) (c3 : Nat) (c4 : Nat) (c5 : Nat) (c6 : Nat) (sz : Nat) : Met l yX14_pack ow_k_X14_pack ({ frames := 2, cells := 0, slots := 0, locals := 45 }) (va_Pc [.ref c2] (fun U => U.heap.size = sz ∧ va_P (dC, dI) vwCl [(c0, .inl (c1, 32768, .inl (fun _ => 0))), (c2, .inr (15, [.int 0, .ref c3, .ref c4, .ref c5, .ref c6, .ref c0, .int 0, .null, .int 0, .int 0, .int 0]))] U.heap ∧ va_K (dC, dI) vwCl [(c1, .int)] U ∧ va_D (fun _ => True) [(c0, .inl (c1, 32768, .inl (fun _ => 0))), (c2, .inr (15, [.int 0, .ref c3, .ref c4, .ref c5, .ref c6, .ref c0, .int 0, .null, .int 0, .int 0, .int 0]))] ∧ nv_E (va_A [(c0, .inl (c1, 32768, .inl (fun _ => 0))), (c2, .inr (15, [.int 0, .ref c3, .ref c4, .ref c5, .ref c6, .ref c0, .int 0, .null, .int 0, .int 0, .int 0]))] sz) U)) (va_Qi (fun r _ => r = 1) (fun (_ : Unit) t => ∃ (f1 : Nat → Int32), va_P (dC, dI) vwCl [(c0, .inl (c1, 32768, .inl f1)), (c2, .inr (15, [.int 0, .ref c3, .ref c4, .ref c5, .ref c6, .ref c0, .int 1, .null, .int 0, .int 0, .int 0]))] t.heap ∧ va_K (dC, dI) vwCl [(c1, .int)] t ∧ va_D (va_A [(c0, .inl (c1, 32768, .inl (fun _ => 0))), (c2, .inr (15, [.int 0, .ref c3, .ref c4, .ref c5, .ref c6, .ref c0, .int 0, .null, .int 0, .int 0, .int 0]))] sz) [(c0, .inl (c1, 32768, .inl f1)), (c2, .inr (15, [.int 0, .ref c3, .ref c4, .ref c5, .ref c6, .ref c0, .int 1, .null, .int 0, .int 0, .int 0]))]) (va_A [(c0, .inl (c1, 32768, .inl (fun _ => 0))), (c2, .inr (15, [.int 0, .ref c3, .ref c4, .ref c5, .ref c6, .ref c0, .int 0, .null, .int 0, .int 0, .int 0]))] sz)) 0 0 (va_A [(c0, .inl (c1, 32768, .inl (fun _ => 0))), (c2, .inr (15, [.int 0, .ref c3, .ref c4, .ref c5, .ref c6, .ref c0, .int 0, .null, .int 0, .int 0, .int 0]))] sz) := by
  refine Met.ofW (cc := cX14_pack) (maxL := 4) (ret := (some .int)) (by decide) rfl ?_
  intro p e s m args below meth c s₁ B hml hv
  obtain ⟨rfl, hsz, hP, hK, hD0, hN⟩ := hv
  have hx := B.exec
  have hb := B.bytes
  have hr := B.returns
  have hts := atoms_spec (ws := ow_k_X14_pack) B.pre
  have hown : s.vm.findClass RX14 = some m.cls := findClass_of_methodNamed B.named
  have hlocks := B.notSynchronized
  subst hsz
  have hD := hD0.self (sz := s.heap.size)
  generalize hAe : va_A [(c0, .inl (c1, 32768, .inl (fun _ => 0))), (c2, .inr (15, [.int 0, .ref c3, .ref c4, .ref c5, .ref c6, .ref c0, .int 0, .null, .int 0, .int 0, .int 0]))] s.heap.size = A at hD hN ⊢
  have hA : ∀ q : Nat, s.heap.size ≤ q → A q := fun q h => by rw [← hAe]; exact Or.inr h
  have hS : va_S A s.heap s.heap [] := va_S.rf
  have hl := lv_entry ([.ref c2]) (n := 4) (Nat.le_of_ble_eq_true rfl)
  rw [lg_entry_eq]
  generalize (lg_sl ([.ref c2]) ++ List.replicate (4 - (lg_sl ([.ref c2])).length) Slot.unset).toArray = ls at hl ⊢
  have hl : lv_has ls 4 [(0, .ref c2)] := hl
  refine lv_aload_n hx hb dX14_pack_0 rfl (lv_at hl 0 rfl) ?_
  refine lv_iconst (v := 0) hx hb dX14_pack_1 (by decide) ?_
  refine va_put (D := (dC, dI)) (ci := 15) (v := .int 0) (ty := .int) (C := RX14) (T := TX14) (N := 11) hx hb hts hi_k_X14_pack_X14 tyX14 tyX14_ok nmX14 hown hK hP hD hS 1 rfl rfl 6 (by decide) (hts (.fieldLink RX14 31 "TimeMachineModel$Codec" "size" "I") (List.mem_of_getElem? (i := 1) rfl)) (fun _ h9 => h9) rfl (by decide +kernel) rfl rfl (Nat.le_of_ble_eq_true rfl) dX14_pack_2 (fun H locs hP hD hS => ?_)
  have hP : va_P (dC, dI) vwCl [(c0, .inl (c1, 32768, .inl (fun _ => 0))), (c2, .inr (15, [.int 0, .ref c3, .ref c4, .ref c5, .ref c6, .ref c0, .int 0, .null, .int 0, .int 0, .int 0]))] H := hP
  have hD : va_D A [(c0, .inl (c1, 32768, .inl (fun _ => 0))), (c2, .inr (15, [.int 0, .ref c3, .ref c4, .ref c5, .ref c6, .ref c0, .int 0, .null, .int 0, .int 0, .int 0]))] := hD
  refine lv_aload_n hx hb dX14_pack_5 rfl (lv_at hl 0 rfl) ?_
  refine lv_aload_n hx hb dX14_pack_6 rfl (lv_at hl 0 rfl) ?_
  refine va_get (D := (dC, dI)) (ci := 15) (v := .int 0) (C := RX14) (T := TX14) (N := 11) hx hb hts hi_k_X14_pack_X14 hown hK hP 1 rfl rfl 0 (by decide) (hts (.fieldLink RX14 27 "TimeMachineModel$Codec" "events" "I") (List.mem_of_getElem? (i := 2) rfl)) (fun _ h9 => h9) rfl dX14_pack_7 ?_
  refine lv_i2l (v := 0) hx hb dX14_pack_10 (by decide) ?_
  have hPc := hP.sub (ws' := [(c0, .inl (c1, 32768, .inl (fun _ => 0))), (c2, .inr (15, [.int 0, .ref c3, .ref c4, .ref c5, .ref c6, .ref c0, .int 0, .null, .int 0, .int 0, .int 0]))]) [0, 1] rfl
  have hDc := hD.sub (ws' := [(c0, .inl (c1, 32768, .inl (fun _ => 0))), (c2, .inr (15, [.int 0, .ref c3, .ref c4, .ref c5, .ref c6, .ref c0, .int 0, .null, .int 0, .int 0, .int 0]))]) [0, 1] (by decide) rfl
  have hKc := hK.sub (tys' := [(c1, .int)]) [0] rfl
  have hFc := va_free (wc := [(c0, .inl (c1, 32768, .inl (fun _ => 0))), (c2, .inr (15, [.int 0, .ref c3, .ref c4, .ref c5, .ref c6, .ref c0, .int 0, .null, .int 0, .int 0, .int 0]))]) hD hS hA [0, 1] rfl
  refine va_callv (va_runV (As := [.long 0]) (rest := []) ⟨hx, hb, hml, hown, hts⟩ (k_X14_varint l hlt dC dI c0 c1 c2 c3 c4 c5 c6  H.size) (cwV 1 hts gi_k_X14_pack_0 rfl rfl rfl (by decide +kernel) ⟨Nat.le_of_ble_eq_true rfl, Nat.le_of_ble_eq_true rfl⟩) ⟨fun a U g mk q => by obtain ⟨q0, q1, qP, qK, qD, qN⟩ := q; exact ⟨q0, q1, qP, va_K.moved (u := U) (U := U.calling g mk a) (Vm.Alike.refl U.vm) qK, qD, nv_same rfl rfl qN⟩, va_recv hKc hPc (ci := 15) (q0 := 1) rfl rfl, fun U hU hW => ⟨rfl, by rw [hU], by rw [hU]; exact hPc, va_K.moved hW.alike hKc, hDc.weaken (fun _ _ _ _ => trivial), nv_call hS hFc hU hW hN⟩⟩ rfl rfl hl.1 rfl (lv_room (Nat.le_of_ble_eq_true rfl)) dX14_pack_11 ⟨by decide +kernel, by decide +kernel⟩) hS (fun q _ h => hFc q h) hFc (fun u t H1 locs ht hvm hw hB hz1 hk1 hS => ?_)
  obtain ⟨f1, hP1, hK1, hD1⟩ := hB
  rw [ht] at hP1
  have hK1 := va_K.moved hvm.symm hK1
  obtain ⟨hP, hD⟩ := va_join (wr := []) (w1 := [(c0, .inl (c1, 32768, .inl f1)), (c2, .inr (15, [.int 0, .ref c3, .ref c4, .ref c5, .ref c6, .ref c0, .int 1, .null, .int 0, .int 0, .int 0]))]) hP hD [0, 1] [] rfl rfl (by decide) (by decide) hk1 hFc hP1 hD1
  have hK := (hK.sub (tys' := []) [] rfl).app hK1
  generalize H1 = H at hP hS ⊢
  have hP : va_P (dC, dI) vwCl [(c0, .inl (c1, 32768, .inl f1)), (c2, .inr (15, [.int 0, .ref c3, .ref c4, .ref c5, .ref c6, .ref c0, .int 1, .null, .int 0, .int 0, .int 0]))] H := hP
  have hD : va_D A [(c0, .inl (c1, 32768, .inl f1)), (c2, .inr (15, [.int 0, .ref c3, .ref c4, .ref c5, .ref c6, .ref c0, .int 1, .null, .int 0, .int 0, .int 0]))] := hD
  have hK : va_K (dC, dI) vwCl [(c1, .int)] s := hK
  refine W.widen (k := 0) (n := 0) (by decide +kernel) (by decide +kernel) ?_
  refine lv_iconst (v := 0) hx hb dX14_pack_14 (by decide) ?_
  refine lv_istore_n (lv' := [(1, .int 0), (0, .ref c2)]) hx hb dX14_pack_15 rfl hl (by decide) rfl (fun ls hl => ?_)
  refine lv_iconst (v := 0) hx hb dX14_pack_16 (by decide) ?_
  refine lv_istore_n (lv' := [(2, .int 0), (1, .int 0), (0, .ref c2)]) hx hb dX14_pack_17 rfl hl (by decide) rfl (fun ls hl => ?_)
  refine lv_iload_n hx hb dX14_pack_18 rfl (lv_at hl 0 rfl) ?_
  refine lv_aload_n hx hb dX14_pack_19 rfl (lv_at hl 2 rfl) ?_
  refine va_get (D := (dC, dI)) (ci := 15) (v := .int 0) (C := RX14) (T := TX14) (N := 11) hx hb hts hi_k_X14_pack_X14 hown hK hP 1 rfl rfl 0 (by decide) (hts (.fieldLink RX14 27 "TimeMachineModel$Codec" "events" "I") (List.mem_of_getElem? (i := 2) rfl)) (fun _ h9 => h9) rfl dX14_pack_20 ?_
  refine lv_icmp_ge (tgt := 102) hx hb dX14_pack_23 (by decide) (fun _ => ?_) (fun h9 => absurd (by decide) h9)
  refine lv_aload_n hx hb dX14_pack_102 rfl (lv_at hl 2 rfl) ?_
  refine va_get (D := (dC, dI)) (ci := 15) (v := .int 1) (C := RX14) (T := TX14) (N := 11) hx hb hts hi_k_X14_pack_X14 hown hK hP 1 rfl rfl 6 (by decide) (hts (.fieldLink RX14 31 "TimeMachineModel$Codec" "size" "I") (List.mem_of_getElem? (i := 1) rfl)) (fun _ h9 => h9) rfl dX14_pack_103 ?_
  have hP9 := hP.sub (ws' := [(c0, .inl (c1, 32768, .inl f1)), (c2, .inr (15, [.int 0, .ref c3, .ref c4, .ref c5, .ref c6, .ref c0, .int 1, .null, .int 0, .int 0, .int 0]))]) [0, 1] rfl
  have hD9 := hD.sub (ws' := [(c0, .inl (c1, 32768, .inl f1)), (c2, .inr (15, [.int 0, .ref c3, .ref c4, .ref c5, .ref c6, .ref c0, .int 1, .null, .int 0, .int 0, .int 0]))]) [0, 1] (by decide) rfl
  have hK9 := hK.sub (tys' := [(c1, .int)]) [0] rfl
  refine W.widen (k := 0) (n := 0) (by decide +kernel) (by decide +kernel) ?_
  exact W.iret (v := 1) hx hb hr (fun t ht hW => ⟨⟨1, (), rfl, rfl, f1, by rw [ht]; exact hP9, va_K.moved hW.alike hK9, hD9⟩, hS.F ht⟩) hS.2.2 dX14_pack_106
def ow_k_X19_pack : List Cond := .code yX19_pack cX19_pack 2 (some .int) :: ([.fieldLink RX19 113 "TimeMachineModel" "code" "I", .fieldLink RX19 74 "TimeMachineModel" "codec" "LTimeMachineModel$Codec;", .methodLink RX19 356 yX14_clear, .instanceMethod yX14_clear, .selects RX14 yX14_clear yX14_clear, .initialized RX14, .fieldLink RX19 192 "TimeMachineModel" "events" "I", .methodLink RX19 363 yX14_pack, .instanceMethod yX14_pack, .selects RX14 yX14_pack yX14_pack, .fieldLink RX19 366 "TimeMachineModel" "logged" "I", .fieldLink RX19 110 "TimeMachineModel" "log" "[I"] ++ (u_ws RX19 TX19 36 ++ (u_ws RX14 TX14 11 ++ (ow_k_X14_clear ++ (ow_k_X14_pack ++ [])))))
theorem gd_k_X19_pack : ∀ w ∈ ow_k_X19_pack, (w.onTables && w.keeps) = true ∨ ∃ ty, w = Cond.arrayClass ty := List.forall_mem_cons.mpr ⟨good_of_word rfl, List.forall_mem_append.mpr ⟨fun w h => good_of_word (List.all_eq_true.mp (by decide +kernel) w h), List.forall_mem_append.mpr ⟨gu_X19, List.forall_mem_append.mpr ⟨gu_X14, List.forall_mem_append.mpr ⟨gd_k_X14_clear, List.forall_mem_append.mpr ⟨gd_k_X14_pack, fun _ h => nomatch h⟩⟩⟩⟩⟩⟩
theorem hi_k_X19_pack_X19 : ∀ w ∈ u_ws RX19 TX19 36, w ∈ ow_k_X19_pack := fun w h => List.mem_cons_of_mem _ (List.mem_append_right _ (List.mem_append_left _ h))
theorem hi_k_X19_pack_X14 : ∀ w ∈ u_ws RX14 TX14 11, w ∈ ow_k_X19_pack := fun w h => List.mem_cons_of_mem _ (List.mem_append_right _ (List.mem_append_right _ (List.mem_append_left _ h)))
theorem gi_k_X19_pack_0 : GoodIn ow_k_X19_pack (wsV RX19 356 RX14 yX14_clear ow_k_X14_clear) := goodIn_app (goodIn_of _ (by decide +kernel)) (fun w h => ⟨List.mem_cons_of_mem _ (List.mem_append_right _ (List.mem_append_right _ (List.mem_append_right _ (List.mem_append_left _ h)))), gd_k_X14_clear w h⟩)
theorem gi_k_X19_pack_1 : GoodIn ow_k_X19_pack (wsV RX19 363 RX14 yX14_pack ow_k_X14_pack) := goodIn_app (goodIn_of _ (by decide +kernel)) (fun w h => ⟨List.mem_cons_of_mem _ (List.mem_append_right _ (List.mem_append_right _ (List.mem_append_right _ (List.mem_append_right _ (List.mem_append_left _ h))))), gd_k_X14_pack w h⟩)
set_option maxHeartbeats 40000000 in
set_option maxRecDepth 100000 in
theorem k_X19_pack (l : Launch) (hlt : l.stackTraces = false) (dC : Nat → ClassId) (dI : Nat → Nat → Nat) (c0 : Nat) (c1 : Nat) (c2 : Nat) (c3 : ClassId) (c4 : Nat) (c5 : ClassId) (c6 : Nat) (c7 : Nat) (c8 : Nat) (c9 : Nat) (c10 : Nat) (c11 : Nat) (c12 : Nat) (c13 : Nat) (c14 : Nat) (c15 : Nat) (c16 : Nat) (c17 : Nat) (c18 : Nat) (c19 : Nat) (c20 : Nat) (c21 : Nat) (c22 : Nat) (c23 : Nat) (c24 : Nat) (c25 : Nat) (c26 : Nat) (c27 : Nat) (c28 : Nat) (c29 : Nat) (c30 : Nat) (sz : Nat) : Met l yX19_pack ow_k_X19_pack ({ frames := 3, cells := 0, slots := 0, locals := 68 }) (va_Pc [.ref c0] (fun U => U.heap.size = sz ∧ va_P (dC, dI) vwCl [(c0, .inr (20, [.int 0, .ref c6, .int 0, .int 0, .ref c7, .ref c8, .ref c9, .ref c10, .ref c11, .ref c12, .ref c13, .ref c14, .ref c15, .ref c16, .ref c17, .ref c1, .ref c18, .int 0, .int 0, .int 0, .int 0, .int 0, .int 0, .int 0, .int 0, .int 0, .ref c19, .ref c20, .ref c21, .ref c22, .ref c23, .ref c24, .ref c25, .ref c26, .ref c4, .int 0])), (c1, .inr (15, [.int 0, .ref c27, .ref c28, .ref c29, .ref c30, .ref c2, .int 0, .null, .int 0, .int 0, .int 0])), (c2, .inl (c3, 32768, .inl (fun _ => 0))), (c4, .inl (c5, 32768, .inl (fun _ => 0)))] U.heap ∧ va_K (dC, dI) vwCl [(c3, .int), (c5, .int)] U ∧ va_D (fun _ => True) [(c0, .inr (20, [.int 0, .ref c6, .int 0, .int 0, .ref c7, .ref c8, .ref c9, .ref c10, .ref c11, .ref c12, .ref c13, .ref c14, .ref c15, .ref c16, .ref c17, .ref c1, .ref c18, .int 0, .int 0, .int 0, .int 0, .int 0, .int 0, .int 0, .int 0, .int 0, .ref c19, .ref c20, .ref c21, .ref c22, .ref c23, .ref c24, .ref c25, .ref c26, .ref c4, .int 0])), (c1, .inr (15, [.int 0, .ref c27, .ref c28, .ref c29, .ref c30, .ref c2, .int 0, .null, .int 0, .int 0, .int 0])), (c2, .inl (c3, 32768, .inl (fun _ => 0))), (c4, .inl (c5, 32768, .inl (fun _ => 0)))] ∧ nv_E (va_A [(c0, .inr (20, [.int 0, .ref c6, .int 0, .int 0, .ref c7, .ref c8, .ref c9, .ref c10, .ref c11, .ref c12, .ref c13, .ref c14, .ref c15, .ref c16, .ref c17, .ref c1, .ref c18, .int 0, .int 0, .int 0, .int 0, .int 0, .int 0, .int 0, .int 0, .int 0, .ref c19, .ref c20, .ref c21, .ref c22, .ref c23, .ref c24, .ref c25, .ref c26, .ref c4, .int 0])), (c1, .inr (15, [.int 0, .ref c27, .ref c28, .ref c29, .ref c30, .ref c2, .int 0, .null, .int 0, .int 0, .int 0])), (c2, .inl (c3, 32768, .inl (fun _ => 0))), (c4, .inl (c5, 32768, .inl (fun _ => 0)))] sz) U)) (va_Qi (fun r _ => r = 1) (fun (_ : Unit) t => ∃ (f2 : Nat → Int32) (f5 : Nat → Int32), va_P (dC, dI) vwCl [(c0, .inr (20, [.int 0, .ref c6, .int 0, .int 0, .ref c7, .ref c8, .ref c9, .ref c10, .ref c11, .ref c12, .ref c13, .ref c14, .ref c15, .ref c16, .ref c17, .ref c1, .ref c18, .int 0, .int 0, .int 0, .int 0, .int 0, .int 0, .int 0, .int 0, .int 0, .ref c19, .ref c20, .ref c21, .ref c22, .ref c23, .ref c24, .ref c25, .ref c26, .ref c4, .int 1])), (c4, .inl (c5, 32768, .inl f5)), (c2, .inl (c3, 32768, .inl f2)), (c1, .inr (15, [.int 0, .ref c27, .ref c28, .ref c29, .ref c30, .ref c2, .int 1, .null, .int 0, .int 0, .int 0]))] t.heap ∧ va_K (dC, dI) vwCl [(c5, .int), (c3, .int)] t ∧ va_D (va_A [(c0, .inr (20, [.int 0, .ref c6, .int 0, .int 0, .ref c7, .ref c8, .ref c9, .ref c10, .ref c11, .ref c12, .ref c13, .ref c14, .ref c15, .ref c16, .ref c17, .ref c1, .ref c18, .int 0, .int 0, .int 0, .int 0, .int 0, .int 0, .int 0, .int 0, .int 0, .ref c19, .ref c20, .ref c21, .ref c22, .ref c23, .ref c24, .ref c25, .ref c26, .ref c4, .int 0])), (c1, .inr (15, [.int 0, .ref c27, .ref c28, .ref c29, .ref c30, .ref c2, .int 0, .null, .int 0, .int 0, .int 0])), (c2, .inl (c3, 32768, .inl (fun _ => 0))), (c4, .inl (c5, 32768, .inl (fun _ => 0)))] sz) [(c0, .inr (20, [.int 0, .ref c6, .int 0, .int 0, .ref c7, .ref c8, .ref c9, .ref c10, .ref c11, .ref c12, .ref c13, .ref c14, .ref c15, .ref c16, .ref c17, .ref c1, .ref c18, .int 0, .int 0, .int 0, .int 0, .int 0, .int 0, .int 0, .int 0, .int 0, .ref c19, .ref c20, .ref c21, .ref c22, .ref c23, .ref c24, .ref c25, .ref c26, .ref c4, .int 1])), (c4, .inl (c5, 32768, .inl f5)), (c2, .inl (c3, 32768, .inl f2)), (c1, .inr (15, [.int 0, .ref c27, .ref c28, .ref c29, .ref c30, .ref c2, .int 1, .null, .int 0, .int 0, .int 0]))]) (va_A [(c0, .inr (20, [.int 0, .ref c6, .int 0, .int 0, .ref c7, .ref c8, .ref c9, .ref c10, .ref c11, .ref c12, .ref c13, .ref c14, .ref c15, .ref c16, .ref c17, .ref c1, .ref c18, .int 0, .int 0, .int 0, .int 0, .int 0, .int 0, .int 0, .int 0, .int 0, .ref c19, .ref c20, .ref c21, .ref c22, .ref c23, .ref c24, .ref c25, .ref c26, .ref c4, .int 0])), (c1, .inr (15, [.int 0, .ref c27, .ref c28, .ref c29, .ref c30, .ref c2, .int 0, .null, .int 0, .int 0, .int 0])), (c2, .inl (c3, 32768, .inl (fun _ => 0))), (c4, .inl (c5, 32768, .inl (fun _ => 0)))] sz)) 0 0 (va_A [(c0, .inr (20, [.int 0, .ref c6, .int 0, .int 0, .ref c7, .ref c8, .ref c9, .ref c10, .ref c11, .ref c12, .ref c13, .ref c14, .ref c15, .ref c16, .ref c17, .ref c1, .ref c18, .int 0, .int 0, .int 0, .int 0, .int 0, .int 0, .int 0, .int 0, .int 0, .ref c19, .ref c20, .ref c21, .ref c22, .ref c23, .ref c24, .ref c25, .ref c26, .ref c4, .int 0])), (c1, .inr (15, [.int 0, .ref c27, .ref c28, .ref c29, .ref c30, .ref c2, .int 0, .null, .int 0, .int 0, .int 0])), (c2, .inl (c3, 32768, .inl (fun _ => 0))), (c4, .inl (c5, 32768, .inl (fun _ => 0)))] sz) := by
  refine Met.ofW (cc := cX19_pack) (maxL := 2) (ret := (some .int)) (by decide) rfl ?_
  intro p e s m args below meth c s₁ B hml hv
  obtain ⟨rfl, hsz, hP, hK, hD0, hN⟩ := hv
  have hx := B.exec
  have hb := B.bytes
  have hr := B.returns
  have hts := atoms_spec (ws := ow_k_X19_pack) B.pre
  have hown : s.vm.findClass RX19 = some m.cls := findClass_of_methodNamed B.named
  have hlocks := B.notSynchronized
  subst hsz
  have hD := hD0.self (sz := s.heap.size)
  generalize hAe : va_A [(c0, .inr (20, [.int 0, .ref c6, .int 0, .int 0, .ref c7, .ref c8, .ref c9, .ref c10, .ref c11, .ref c12, .ref c13, .ref c14, .ref c15, .ref c16, .ref c17, .ref c1, .ref c18, .int 0, .int 0, .int 0, .int 0, .int 0, .int 0, .int 0, .int 0, .int 0, .ref c19, .ref c20, .ref c21, .ref c22, .ref c23, .ref c24, .ref c25, .ref c26, .ref c4, .int 0])), (c1, .inr (15, [.int 0, .ref c27, .ref c28, .ref c29, .ref c30, .ref c2, .int 0, .null, .int 0, .int 0, .int 0])), (c2, .inl (c3, 32768, .inl (fun _ => 0))), (c4, .inl (c5, 32768, .inl (fun _ => 0)))] s.heap.size = A at hD hN ⊢
  have hA : ∀ q : Nat, s.heap.size ≤ q → A q := fun q h => by rw [← hAe]; exact Or.inr h
  have hS : va_S A s.heap s.heap [] := va_S.rf
  have hl := lv_entry ([.ref c0]) (n := 2) (Nat.le_of_ble_eq_true rfl)
  rw [lg_entry_eq]
  generalize (lg_sl ([.ref c0]) ++ List.replicate (2 - (lg_sl ([.ref c0])).length) Slot.unset).toArray = ls at hl ⊢
  have hl : lv_has ls 2 [(0, .ref c0)] := hl
  refine lv_aload_n hx hb dX19_pack_0 rfl (lv_at hl 0 rfl) ?_
  refine lv_iconst (v := 0) hx hb dX19_pack_1 (by decide) ?_
  refine va_put (D := (dC, dI)) (ci := 20) (v := .int 0) (ty := .int) (C := RX19) (T := TX19) (N := 36) hx hb hts hi_k_X19_pack_X19 tyX19 tyX19_ok nmX19 hown hK hP hD hS 0 rfl rfl 0 (by decide) (hts (.fieldLink RX19 113 "TimeMachineModel" "code" "I") (List.mem_of_getElem? (i := 1) rfl)) (fun _ h9 => h9) rfl (by decide +kernel) rfl rfl (Nat.le_of_ble_eq_true rfl) dX19_pack_2 (fun H locs hP hD hS => ?_)
  have hP : va_P (dC, dI) vwCl [(c0, .inr (20, [.int 0, .ref c6, .int 0, .int 0, .ref c7, .ref c8, .ref c9, .ref c10, .ref c11, .ref c12, .ref c13, .ref c14, .ref c15, .ref c16, .ref c17, .ref c1, .ref c18, .int 0, .int 0, .int 0, .int 0, .int 0, .int 0, .int 0, .int 0, .int 0, .ref c19, .ref c20, .ref c21, .ref c22, .ref c23, .ref c24, .ref c25, .ref c26, .ref c4, .int 0])), (c1, .inr (15, [.int 0, .ref c27, .ref c28, .ref c29, .ref c30, .ref c2, .int 0, .null, .int 0, .int 0, .int 0])), (c2, .inl (c3, 32768, .inl (fun _ => 0))), (c4, .inl (c5, 32768, .inl (fun _ => 0)))] H := hP
  have hD : va_D A [(c0, .inr (20, [.int 0, .ref c6, .int 0, .int 0, .ref c7, .ref c8, .ref c9, .ref c10, .ref c11, .ref c12, .ref c13, .ref c14, .ref c15, .ref c16, .ref c17, .ref c1, .ref c18, .int 0, .int 0, .int 0, .int 0, .int 0, .int 0, .int 0, .int 0, .int 0, .ref c19, .ref c20, .ref c21, .ref c22, .ref c23, .ref c24, .ref c25, .ref c26, .ref c4, .int 0])), (c1, .inr (15, [.int 0, .ref c27, .ref c28, .ref c29, .ref c30, .ref c2, .int 0, .null, .int 0, .int 0, .int 0])), (c2, .inl (c3, 32768, .inl (fun _ => 0))), (c4, .inl (c5, 32768, .inl (fun _ => 0)))] := hD
  refine lv_aload_n hx hb dX19_pack_5 rfl (lv_at hl 0 rfl) ?_
  refine va_get (D := (dC, dI)) (ci := 20) (v := .ref c1) (C := RX19) (T := TX19) (N := 36) hx hb hts hi_k_X19_pack_X19 hown hK hP 0 rfl rfl 15 (by decide) (hts (.fieldLink RX19 74 "TimeMachineModel" "codec" "LTimeMachineModel$Codec;") (List.mem_of_getElem? (i := 2) rfl)) (fun _ h9 => h9) rfl dX19_pack_6 ?_
  have hPc := hP.sub (ws' := [(c1, .inr (15, [.int 0, .ref c27, .ref c28, .ref c29, .ref c30, .ref c2, .int 0, .null, .int 0, .int 0, .int 0]))]) [1] rfl
  have hDc := hD.sub (ws' := [(c1, .inr (15, [.int 0, .ref c27, .ref c28, .ref c29, .ref c30, .ref c2, .int 0, .null, .int 0, .int 0, .int 0]))]) [1] (by decide) rfl
  have hKc := hK.sub (tys' := []) [] rfl
  have hFc := va_free (wc := [(c1, .inr (15, [.int 0, .ref c27, .ref c28, .ref c29, .ref c30, .ref c2, .int 0, .null, .int 0, .int 0, .int 0]))]) hD hS hA [1] rfl
  refine va_callv (va_runV (As := []) (rest := []) ⟨hx, hb, hml, hown, hts⟩ (k_X14_clear l hlt dC dI c1 c27 c28 c29 c30 c2  H.size) (cwV 0 hts gi_k_X19_pack_0 rfl rfl rfl (by decide +kernel) ⟨Nat.le_of_ble_eq_true rfl, Nat.le_of_ble_eq_true rfl⟩) ⟨fun a U g mk q => by obtain ⟨q0, q1, qP, qK, qD, qN⟩ := q; exact ⟨q0, q1, qP, va_K.moved (u := U) (U := U.calling g mk a) (Vm.Alike.refl U.vm) qK, qD, nv_same rfl rfl qN⟩, va_recv hKc hPc (ci := 15) (q0 := 0) rfl rfl, fun U hU hW => ⟨rfl, by rw [hU], by rw [hU]; exact hPc, va_K.moved hW.alike hKc, hDc.weaken (fun _ _ _ _ => trivial), nv_call hS hFc hU hW hN⟩⟩ rfl rfl hl.1 rfl (lv_room (Nat.le_of_ble_eq_true rfl)) dX19_pack_9 ⟨by decide +kernel, by decide +kernel⟩) hS (fun q _ h => hFc q h) hFc (fun u t H1 locs ht hvm hw hB hz1 hk1 hS => ?_)
  obtain ⟨hP1, hK1, hD1⟩ := hB
  rw [ht] at hP1
  have hK1 := va_K.moved hvm.symm hK1
  obtain ⟨hP, hD⟩ := va_join (wr := [(c0, .inr (20, [.int 0, .ref c6, .int 0, .int 0, .ref c7, .ref c8, .ref c9, .ref c10, .ref c11, .ref c12, .ref c13, .ref c14, .ref c15, .ref c16, .ref c17, .ref c1, .ref c18, .int 0, .int 0, .int 0, .int 0, .int 0, .int 0, .int 0, .int 0, .int 0, .ref c19, .ref c20, .ref c21, .ref c22, .ref c23, .ref c24, .ref c25, .ref c26, .ref c4, .int 0])), (c2, .inl (c3, 32768, .inl (fun _ => 0))), (c4, .inl (c5, 32768, .inl (fun _ => 0)))]) (w1 := [(c1, .inr (15, [.int 0, .ref c27, .ref c28, .ref c29, .ref c30, .ref c2, .int 0, .null, .int 0, .int 0, .int 0]))]) hP hD [1] [0, 2, 3] rfl rfl (by decide) (by decide) hk1 hFc hP1 hD1
  have hK := (hK.sub (tys' := [(c3, .int), (c5, .int)]) [0, 1] rfl).app hK1
  generalize H1 = H at hP hS ⊢
  have hP : va_P (dC, dI) vwCl [(c0, .inr (20, [.int 0, .ref c6, .int 0, .int 0, .ref c7, .ref c8, .ref c9, .ref c10, .ref c11, .ref c12, .ref c13, .ref c14, .ref c15, .ref c16, .ref c17, .ref c1, .ref c18, .int 0, .int 0, .int 0, .int 0, .int 0, .int 0, .int 0, .int 0, .int 0, .ref c19, .ref c20, .ref c21, .ref c22, .ref c23, .ref c24, .ref c25, .ref c26, .ref c4, .int 0])), (c2, .inl (c3, 32768, .inl (fun _ => 0))), (c4, .inl (c5, 32768, .inl (fun _ => 0))), (c1, .inr (15, [.int 0, .ref c27, .ref c28, .ref c29, .ref c30, .ref c2, .int 0, .null, .int 0, .int 0, .int 0]))] H := hP
  have hD : va_D A [(c0, .inr (20, [.int 0, .ref c6, .int 0, .int 0, .ref c7, .ref c8, .ref c9, .ref c10, .ref c11, .ref c12, .ref c13, .ref c14, .ref c15, .ref c16, .ref c17, .ref c1, .ref c18, .int 0, .int 0, .int 0, .int 0, .int 0, .int 0, .int 0, .int 0, .int 0, .ref c19, .ref c20, .ref c21, .ref c22, .ref c23, .ref c24, .ref c25, .ref c26, .ref c4, .int 0])), (c2, .inl (c3, 32768, .inl (fun _ => 0))), (c4, .inl (c5, 32768, .inl (fun _ => 0))), (c1, .inr (15, [.int 0, .ref c27, .ref c28, .ref c29, .ref c30, .ref c2, .int 0, .null, .int 0, .int 0, .int 0]))] := hD
  have hK : va_K (dC, dI) vwCl [(c3, .int), (c5, .int)] s := hK
  refine W.widen (k := 0) (n := 0) (by decide +kernel) (by decide +kernel) ?_
  refine lv_iconst (v := 0) hx hb dX19_pack_12 (by decide) ?_
  refine lv_istore_n (lv' := [(1, .int 0), (0, .ref c0)]) hx hb dX19_pack_13 rfl hl (by decide) rfl (fun ls hl => ?_)
  refine lv_iload_n hx hb dX19_pack_14 rfl (lv_at hl 0 rfl) ?_
  refine lv_aload_n hx hb dX19_pack_15 rfl (lv_at hl 1 rfl) ?_
  refine va_get (D := (dC, dI)) (ci := 20) (v := .int 0) (C := RX19) (T := TX19) (N := 36) hx hb hts hi_k_X19_pack_X19 hown hK hP 0 rfl rfl 22 (by decide) (hts (.fieldLink RX19 192 "TimeMachineModel" "events" "I") (List.mem_of_getElem? (i := 7) rfl)) (fun _ h9 => h9) rfl dX19_pack_16 ?_
  refine lv_icmp_ge (tgt := 77) hx hb dX19_pack_19 (by decide) (fun _ => ?_) (fun h9 => absurd (by decide) h9)
  refine lv_aload_n hx hb dX19_pack_77 rfl (lv_at hl 1 rfl) ?_
  refine lv_aload_n hx hb dX19_pack_78 rfl (lv_at hl 1 rfl) ?_
  refine va_get (D := (dC, dI)) (ci := 20) (v := .ref c1) (C := RX19) (T := TX19) (N := 36) hx hb hts hi_k_X19_pack_X19 hown hK hP 0 rfl rfl 15 (by decide) (hts (.fieldLink RX19 74 "TimeMachineModel" "codec" "LTimeMachineModel$Codec;") (List.mem_of_getElem? (i := 2) rfl)) (fun _ h9 => h9) rfl dX19_pack_79 ?_
  have hPc := hP.sub (ws' := [(c2, .inl (c3, 32768, .inl (fun _ => 0))), (c1, .inr (15, [.int 0, .ref c27, .ref c28, .ref c29, .ref c30, .ref c2, .int 0, .null, .int 0, .int 0, .int 0]))]) [1, 3] rfl
  have hDc := hD.sub (ws' := [(c2, .inl (c3, 32768, .inl (fun _ => 0))), (c1, .inr (15, [.int 0, .ref c27, .ref c28, .ref c29, .ref c30, .ref c2, .int 0, .null, .int 0, .int 0, .int 0]))]) [1, 3] (by decide) rfl
  have hKc := hK.sub (tys' := [(c3, .int)]) [0] rfl
  have hFc := va_free (wc := [(c2, .inl (c3, 32768, .inl (fun _ => 0))), (c1, .inr (15, [.int 0, .ref c27, .ref c28, .ref c29, .ref c30, .ref c2, .int 0, .null, .int 0, .int 0, .int 0]))]) hD hS hA [1, 3] rfl
  refine va_calli (va_runV (As := []) (rest := [.ref c0]) ⟨hx, hb, hml, hown, hts⟩ (k_X14_pack l hlt dC dI c2 c3 c1 c27 c28 c29 c30  H.size) (cwV 0 hts gi_k_X19_pack_1 rfl rfl rfl (by decide +kernel) ⟨Nat.le_of_ble_eq_true rfl, Nat.le_of_ble_eq_true rfl⟩) ⟨fun a U g mk q => by obtain ⟨q0, q1, qP, qK, qD, qN⟩ := q; exact ⟨q0, q1, qP, va_K.moved (u := U) (U := U.calling g mk a) (Vm.Alike.refl U.vm) qK, qD, nv_same rfl rfl qN⟩, va_recv hKc hPc (ci := 15) (q0 := 1) rfl rfl, fun U hU hW => ⟨rfl, by rw [hU], by rw [hU]; exact hPc, va_K.moved hW.alike hKc, hDc.weaken (fun _ _ _ _ => trivial), nv_call hS hFc hU hW hN⟩⟩ rfl rfl hl.1 rfl (lv_room (Nat.le_of_ble_eq_true rfl)) dX19_pack_82 ⟨by decide +kernel, by decide +kernel⟩) hS (fun q _ h => hFc q h) hFc (fun r3 u t H1 locs ht hvm hw hB hz1 hk1 hS => ?_)
  obtain ⟨f2, hP1, hK1, hD1⟩ := hB
  rw [ht] at hP1
  have hK1 := va_K.moved hvm.symm hK1
  obtain rfl : r3 = 1 := hw
  obtain ⟨hP, hD⟩ := va_join (wr := [(c0, .inr (20, [.int 0, .ref c6, .int 0, .int 0, .ref c7, .ref c8, .ref c9, .ref c10, .ref c11, .ref c12, .ref c13, .ref c14, .ref c15, .ref c16, .ref c17, .ref c1, .ref c18, .int 0, .int 0, .int 0, .int 0, .int 0, .int 0, .int 0, .int 0, .int 0, .ref c19, .ref c20, .ref c21, .ref c22, .ref c23, .ref c24, .ref c25, .ref c26, .ref c4, .int 0])), (c4, .inl (c5, 32768, .inl (fun _ => 0)))]) (w1 := [(c2, .inl (c3, 32768, .inl f2)), (c1, .inr (15, [.int 0, .ref c27, .ref c28, .ref c29, .ref c30, .ref c2, .int 1, .null, .int 0, .int 0, .int 0]))]) hP hD [1, 3] [0, 2] rfl rfl (by decide) (by decide) hk1 hFc hP1 hD1
  have hK := (hK.sub (tys' := [(c5, .int)]) [1] rfl).app hK1
  generalize H1 = H at hP hS ⊢
  have hP : va_P (dC, dI) vwCl [(c0, .inr (20, [.int 0, .ref c6, .int 0, .int 0, .ref c7, .ref c8, .ref c9, .ref c10, .ref c11, .ref c12, .ref c13, .ref c14, .ref c15, .ref c16, .ref c17, .ref c1, .ref c18, .int 0, .int 0, .int 0, .int 0, .int 0, .int 0, .int 0, .int 0, .int 0, .ref c19, .ref c20, .ref c21, .ref c22, .ref c23, .ref c24, .ref c25, .ref c26, .ref c4, .int 0])), (c4, .inl (c5, 32768, .inl (fun _ => 0))), (c2, .inl (c3, 32768, .inl f2)), (c1, .inr (15, [.int 0, .ref c27, .ref c28, .ref c29, .ref c30, .ref c2, .int 1, .null, .int 0, .int 0, .int 0]))] H := hP
  have hD : va_D A [(c0, .inr (20, [.int 0, .ref c6, .int 0, .int 0, .ref c7, .ref c8, .ref c9, .ref c10, .ref c11, .ref c12, .ref c13, .ref c14, .ref c15, .ref c16, .ref c17, .ref c1, .ref c18, .int 0, .int 0, .int 0, .int 0, .int 0, .int 0, .int 0, .int 0, .int 0, .ref c19, .ref c20, .ref c21, .ref c22, .ref c23, .ref c24, .ref c25, .ref c26, .ref c4, .int 0])), (c4, .inl (c5, 32768, .inl (fun _ => 0))), (c2, .inl (c3, 32768, .inl f2)), (c1, .inr (15, [.int 0, .ref c27, .ref c28, .ref c29, .ref c30, .ref c2, .int 1, .null, .int 0, .int 0, .int 0]))] := hD
  have hK : va_K (dC, dI) vwCl [(c5, .int), (c3, .int)] s := hK
  refine W.widen (k := 0) (n := 0) (by decide +kernel) (by decide +kernel) ?_
  refine va_put (D := (dC, dI)) (ci := 20) (v := .int 1) (ty := .int) (C := RX19) (T := TX19) (N := 36) hx hb hts hi_k_X19_pack_X19 tyX19 tyX19_ok nmX19 hown hK hP hD hS 0 rfl rfl 35 (by decide) (hts (.fieldLink RX19 366 "TimeMachineModel" "logged" "I") (List.mem_of_getElem? (i := 11) rfl)) (fun _ h9 => h9) rfl (by decide +kernel) rfl rfl (Nat.le_of_ble_eq_true rfl) dX19_pack_85 (fun H locs hP hD hS => ?_)
  have hP : va_P (dC, dI) vwCl [(c0, .inr (20, [.int 0, .ref c6, .int 0, .int 0, .ref c7, .ref c8, .ref c9, .ref c10, .ref c11, .ref c12, .ref c13, .ref c14, .ref c15, .ref c16, .ref c17, .ref c1, .ref c18, .int 0, .int 0, .int 0, .int 0, .int 0, .int 0, .int 0, .int 0, .int 0, .ref c19, .ref c20, .ref c21, .ref c22, .ref c23, .ref c24, .ref c25, .ref c26, .ref c4, .int 1])), (c4, .inl (c5, 32768, .inl (fun _ => 0))), (c2, .inl (c3, 32768, .inl f2)), (c1, .inr (15, [.int 0, .ref c27, .ref c28, .ref c29, .ref c30, .ref c2, .int 1, .null, .int 0, .int 0, .int 0]))] H := hP
  have hD : va_D A [(c0, .inr (20, [.int 0, .ref c6, .int 0, .int 0, .ref c7, .ref c8, .ref c9, .ref c10, .ref c11, .ref c12, .ref c13, .ref c14, .ref c15, .ref c16, .ref c17, .ref c1, .ref c18, .int 0, .int 0, .int 0, .int 0, .int 0, .int 0, .int 0, .int 0, .int 0, .ref c19, .ref c20, .ref c21, .ref c22, .ref c23, .ref c24, .ref c25, .ref c26, .ref c4, .int 1])), (c4, .inl (c5, 32768, .inl (fun _ => 0))), (c2, .inl (c3, 32768, .inl f2)), (c1, .inr (15, [.int 0, .ref c27, .ref c28, .ref c29, .ref c30, .ref c2, .int 1, .null, .int 0, .int 0, .int 0]))] := hD
  refine lv_iconst (v := 0) hx hb dX19_pack_88 (by decide) ?_
  refine lv_istore_n (lv' := [(1, .int 0), (0, .ref c0)]) hx hb dX19_pack_89 rfl hl (by decide) rfl (fun ls hl => ?_)
  refine lv_iload_n hx hb dX19_pack_90 rfl (lv_at hl 0 rfl) ?_
  refine lv_aload_n hx hb dX19_pack_91 rfl (lv_at hl 1 rfl) ?_
  refine va_get (D := (dC, dI)) (ci := 20) (v := .int 1) (C := RX19) (T := TX19) (N := 36) hx hb hts hi_k_X19_pack_X19 hown hK hP 0 rfl rfl 35 (by decide) (hts (.fieldLink RX19 366 "TimeMachineModel" "logged" "I") (List.mem_of_getElem? (i := 11) rfl)) (fun _ h9 => h9) rfl dX19_pack_92 ?_
  refine lv_icmp_ge (tgt := 119) hx hb dX19_pack_95 (by decide) (fun h9 => absurd h9 (by decide)) (fun _ => ?_)
  refine lv_aload_n hx hb dX19_pack_98 rfl (lv_at hl 1 rfl) ?_
  refine va_get (D := (dC, dI)) (ci := 20) (v := .ref c4) (C := RX19) (T := TX19) (N := 36) hx hb hts hi_k_X19_pack_X19 hown hK hP 0 rfl rfl 34 (by decide) (hts (.fieldLink RX19 110 "TimeMachineModel" "log" "[I") (List.mem_of_getElem? (i := 12) rfl)) (fun _ h9 => h9) rfl dX19_pack_99 ?_
  refine lv_iload_n hx hb dX19_pack_102 rfl (lv_at hl 0 rfl) ?_
  refine lv_aload_n hx hb dX19_pack_103 rfl (lv_at hl 1 rfl) ?_
  refine va_get (D := (dC, dI)) (ci := 20) (v := .ref c1) (C := RX19) (T := TX19) (N := 36) hx hb hts hi_k_X19_pack_X19 hown hK hP 0 rfl rfl 15 (by decide) (hts (.fieldLink RX19 74 "TimeMachineModel" "codec" "LTimeMachineModel$Codec;") (List.mem_of_getElem? (i := 2) rfl)) (fun _ h9 => h9) rfl dX19_pack_104 ?_
  refine va_getN (D := (dC, dI)) (ci := 15) (v := .ref c2) (C := RX14) (T := TX14) (N := 11) hx hb hts hi_k_X19_pack_X14 hown hK hP 3 rfl rfl 5 (by decide) (va_Nw.use rfl (hN.1 ("TimeMachineModel", 369, "TimeMachineModel$Codec", "packed", "[I", "TimeMachineModel") (by decide))) (fun _ h9 => h9) rfl dX19_pack_107 ?_
  refine lv_iload_n hx hb dX19_pack_110 rfl (lv_at hl 0 rfl) ?_
  refine va_iald (i := 0) hx hb hK hP 2 1 rfl rfl (vp_in_iff.mpr ⟨by decide, by decide⟩) dX19_pack_111 ?_
  refine lv_topi (fun z4 ez4 => ?_)
  refine va_iast (i := 0) (x := z4) hx hb hK hP hD hS 1 0 rfl rfl (vp_in_iff.mpr ⟨by decide, by decide⟩) dX19_pack_112 (fun H locs hP hD hS => ?_)
  generalize hf5 : upd (fun _ => 0) (Int32.toNatClampNeg 0) z4 = f5 at hP hD
  have hP : va_P (dC, dI) vwCl [(c0, .inr (20, [.int 0, .ref c6, .int 0, .int 0, .ref c7, .ref c8, .ref c9, .ref c10, .ref c11, .ref c12, .ref c13, .ref c14, .ref c15, .ref c16, .ref c17, .ref c1, .ref c18, .int 0, .int 0, .int 0, .int 0, .int 0, .int 0, .int 0, .int 0, .int 0, .ref c19, .ref c20, .ref c21, .ref c22, .ref c23, .ref c24, .ref c25, .ref c26, .ref c4, .int 1])), (c4, .inl (c5, 32768, .inl f5)), (c2, .inl (c3, 32768, .inl f2)), (c1, .inr (15, [.int 0, .ref c27, .ref c28, .ref c29, .ref c30, .ref c2, .int 1, .null, .int 0, .int 0, .int 0]))] H := hP
  have hD : va_D A [(c0, .inr (20, [.int 0, .ref c6, .int 0, .int 0, .ref c7, .ref c8, .ref c9, .ref c10, .ref c11, .ref c12, .ref c13, .ref c14, .ref c15, .ref c16, .ref c17, .ref c1, .ref c18, .int 0, .int 0, .int 0, .int 0, .int 0, .int 0, .int 0, .int 0, .int 0, .ref c19, .ref c20, .ref c21, .ref c22, .ref c23, .ref c24, .ref c25, .ref c26, .ref c4, .int 1])), (c4, .inl (c5, 32768, .inl f5)), (c2, .inl (c3, 32768, .inl f2)), (c1, .inr (15, [.int 0, .ref c27, .ref c28, .ref c29, .ref c30, .ref c2, .int 1, .null, .int 0, .int 0, .int 0]))] := hD
  refine lv_iinc (v := 1) (lv' := [(1, .int 1), (0, .ref c0)]) hx hb dX19_pack_113 hl (k := 0) rfl (by decide) (by decide) rfl (fun ls hl => ?_)
  refine lv_goto (tgt := 90) hx hb dX19_pack_116 (by decide) ?_
  refine lv_iload_n hx hb dX19_pack_90 rfl (lv_at hl 0 rfl) ?_
  refine lv_aload_n hx hb dX19_pack_91 rfl (lv_at hl 1 rfl) ?_
  refine va_get (D := (dC, dI)) (ci := 20) (v := .int 1) (C := RX19) (T := TX19) (N := 36) hx hb hts hi_k_X19_pack_X19 hown hK hP 0 rfl rfl 35 (by decide) (hts (.fieldLink RX19 366 "TimeMachineModel" "logged" "I") (List.mem_of_getElem? (i := 11) rfl)) (fun _ h9 => h9) rfl dX19_pack_92 ?_
  refine lv_icmp_ge (tgt := 119) hx hb dX19_pack_95 (by decide) (fun _ => ?_) (fun h9 => absurd (by decide) h9)
  refine lv_aload_n hx hb dX19_pack_119 rfl (lv_at hl 1 rfl) ?_
  refine va_get (D := (dC, dI)) (ci := 20) (v := .int 1) (C := RX19) (T := TX19) (N := 36) hx hb hts hi_k_X19_pack_X19 hown hK hP 0 rfl rfl 35 (by decide) (hts (.fieldLink RX19 366 "TimeMachineModel" "logged" "I") (List.mem_of_getElem? (i := 11) rfl)) (fun _ h9 => h9) rfl dX19_pack_120 ?_
  have hP9 := hP.sub (ws' := [(c0, .inr (20, [.int 0, .ref c6, .int 0, .int 0, .ref c7, .ref c8, .ref c9, .ref c10, .ref c11, .ref c12, .ref c13, .ref c14, .ref c15, .ref c16, .ref c17, .ref c1, .ref c18, .int 0, .int 0, .int 0, .int 0, .int 0, .int 0, .int 0, .int 0, .int 0, .ref c19, .ref c20, .ref c21, .ref c22, .ref c23, .ref c24, .ref c25, .ref c26, .ref c4, .int 1])), (c4, .inl (c5, 32768, .inl f5)), (c2, .inl (c3, 32768, .inl f2)), (c1, .inr (15, [.int 0, .ref c27, .ref c28, .ref c29, .ref c30, .ref c2, .int 1, .null, .int 0, .int 0, .int 0]))]) [0, 1, 2, 3] rfl
  have hD9 := hD.sub (ws' := [(c0, .inr (20, [.int 0, .ref c6, .int 0, .int 0, .ref c7, .ref c8, .ref c9, .ref c10, .ref c11, .ref c12, .ref c13, .ref c14, .ref c15, .ref c16, .ref c17, .ref c1, .ref c18, .int 0, .int 0, .int 0, .int 0, .int 0, .int 0, .int 0, .int 0, .int 0, .ref c19, .ref c20, .ref c21, .ref c22, .ref c23, .ref c24, .ref c25, .ref c26, .ref c4, .int 1])), (c4, .inl (c5, 32768, .inl f5)), (c2, .inl (c3, 32768, .inl f2)), (c1, .inr (15, [.int 0, .ref c27, .ref c28, .ref c29, .ref c30, .ref c2, .int 1, .null, .int 0, .int 0, .int 0]))]) [0, 1, 2, 3] (by decide) rfl
  have hK9 := hK.sub (tys' := [(c5, .int), (c3, .int)]) [0, 1] rfl
  refine W.widen (k := 0) (n := 0) (by decide +kernel) (by decide +kernel) ?_
  exact W.iret (v := 1) hx hb hr (fun t ht hW => ⟨⟨1, (), rfl, rfl, f2, f5, by rw [ht]; exact hP9, va_K.moved hW.alike hK9, hD9⟩, hS.F ht⟩) hS.2.2 dX19_pack_123
def ow_k_X12_logByte : List Cond := .code yX12_logByte cX12_logByte 2 (some .int) :: ([.fieldLink RX12 287 "TimeMachine" "logged" "I"] ++ (u_ws RX12 TX12 12 ++ []))
theorem gd_k_X12_logByte : ∀ w ∈ ow_k_X12_logByte, (w.onTables && w.keeps) = true ∨ ∃ ty, w = Cond.arrayClass ty := List.forall_mem_cons.mpr ⟨good_of_word rfl, List.forall_mem_append.mpr ⟨fun w h => good_of_word (List.all_eq_true.mp (by decide +kernel) w h), List.forall_mem_append.mpr ⟨gu_X12, fun _ h => nomatch h⟩⟩⟩
theorem hi_k_X12_logByte_X12 : ∀ w ∈ u_ws RX12 TX12 12, w ∈ ow_k_X12_logByte := fun w h => List.mem_cons_of_mem _ (List.mem_append_right _ (List.mem_append_left _ h))
set_option maxHeartbeats 40000000 in
set_option maxRecDepth 100000 in
theorem k_X12_logByte (l : Launch) (hlt : l.stackTraces = false) (dC : Nat → ClassId) (dI : Nat → Nat → Nat) (c0 : Nat) (c1 : Int32) (c2 : Nat) (c3 : Nat) (c4 : Nat) (c5 : Nat) (c6 : Nat) (c7 : Nat) (c8 : Nat) (c9 : Nat) (c10 : Nat) (sz : Nat) : Met l yX12_logByte ow_k_X12_logByte ({ frames := 0, cells := 0, slots := 0, locals := 0 }) (va_Pc [.ref c0, .int c1] (fun U => U.heap.size = sz ∧ va_P (dC, dI) vwCl [(c0, .inr (13, [.ref c2, .int 0, .int 0, .ref c3, .ref c4, .ref c5, .ref c6, .ref c7, .ref c8, .ref c9, .int 0, .ref c10]))] U.heap ∧ va_K (dC, dI) vwCl [] U ∧ va_D (fun _ => True) [(c0, .inr (13, [.ref c2, .int 0, .int 0, .ref c3, .ref c4, .ref c5, .ref c6, .ref c7, .ref c8, .ref c9, .int 0, .ref c10]))] ∧ nv_E (va_A [(c0, .inr (13, [.ref c2, .int 0, .int 0, .ref c3, .ref c4, .ref c5, .ref c6, .ref c7, .ref c8, .ref c9, .int 0, .ref c10]))] sz) U)) (va_Qi (fun r _ => ((c1 < 0) ∧ r = (-1)) ∨ ((¬ c1 < 0) ∧ r = (-1)) ∨ False) (fun (_ : Unit) t => True) (va_A [(c0, .inr (13, [.ref c2, .int 0, .int 0, .ref c3, .ref c4, .ref c5, .ref c6, .ref c7, .ref c8, .ref c9, .int 0, .ref c10]))] sz)) 0 0 (va_A [(c0, .inr (13, [.ref c2, .int 0, .int 0, .ref c3, .ref c4, .ref c5, .ref c6, .ref c7, .ref c8, .ref c9, .int 0, .ref c10]))] sz) := by
  refine Met.ofW (cc := cX12_logByte) (maxL := 2) (ret := (some .int)) (by decide) rfl ?_
  intro p e s m args below meth c s₁ B hml hv
  obtain ⟨rfl, hsz, hP, hK, hD0, hN⟩ := hv
  have hx := B.exec
  have hb := B.bytes
  have hr := B.returns
  have hts := atoms_spec (ws := ow_k_X12_logByte) B.pre
  have hown : s.vm.findClass RX12 = some m.cls := findClass_of_methodNamed B.named
  have hlocks := B.notSynchronized
  subst hsz
  have hD := hD0.self (sz := s.heap.size)
  generalize hAe : va_A [(c0, .inr (13, [.ref c2, .int 0, .int 0, .ref c3, .ref c4, .ref c5, .ref c6, .ref c7, .ref c8, .ref c9, .int 0, .ref c10]))] s.heap.size = A at hD hN ⊢
  have hA : ∀ q : Nat, s.heap.size ≤ q → A q := fun q h => by rw [← hAe]; exact Or.inr h
  have hS : va_S A s.heap s.heap [] := va_S.rf
  have hl := lv_entry ([.ref c0, .int c1]) (n := 2) (Nat.le_of_ble_eq_true rfl)
  rw [lg_entry_eq]
  generalize (lg_sl ([.ref c0, .int c1]) ++ List.replicate (2 - (lg_sl ([.ref c0, .int c1])).length) Slot.unset).toArray = ls at hl ⊢
  have hl : lv_has ls 2 [(0, .ref c0), (1, .int c1)] := hl
  refine lv_iload_n hx hb dX12_logByte_0 rfl (lv_at hl 1 rfl) ?_
  refine lv_if_lt (tgt := 12) hx hb dX12_logByte_1 (by decide) (fun c_1 => ?_) (fun c_1 => ?_)
  · refine lv_iconst (v := (-1)) hx hb dX12_logByte_12 (by decide) ?_
    refine lv_goto (tgt := 26) hx hb dX12_logByte_13 (by decide) ?_
    refine W.widen (k := 0) (n := 0) (by decide +kernel) (by decide +kernel) ?_
    exact W.iret (v := (-1)) hx hb hr (fun t ht hW => ⟨⟨(-1), (), rfl, Or.inl ⟨c_1, rfl⟩, trivial⟩, hS.F ht⟩) hS.2.2 dX12_logByte_26
  · refine lv_iload_n hx hb dX12_logByte_4 rfl (lv_at hl 1 rfl) ?_
    refine lv_aload_n hx hb dX12_logByte_5 rfl (lv_at hl 0 rfl) ?_
    refine va_get (D := (dC, dI)) (ci := 13) (v := .int 0) (C := RX12) (T := TX12) (N := 12) hx hb hts hi_k_X12_logByte_X12 hown hK hP 0 rfl rfl 10 (by decide) (hts (.fieldLink RX12 287 "TimeMachine" "logged" "I") (List.mem_of_getElem? (i := 1) rfl)) (fun _ h9 => h9) rfl dX12_logByte_6 ?_
    refine lv_icmp_lt (tgt := 16) hx hb dX12_logByte_9 (by decide) (fun h9 => absurd h9 c_1) (fun _ => ?_)
    refine lv_iconst (v := (-1)) hx hb dX12_logByte_12 (by decide) ?_
    refine lv_goto (tgt := 26) hx hb dX12_logByte_13 (by decide) ?_
    refine W.widen (k := 0) (n := 0) (by decide +kernel) (by decide +kernel) ?_
    exact W.iret (v := (-1)) hx hb hr (fun t ht hW => ⟨⟨(-1), (), rfl, Or.inr (Or.inl ⟨c_1, rfl⟩), trivial⟩, hS.F ht⟩) hS.2.2 dX12_logByte_26
def ow_k_X19_logByte : List Cond := .code yX19_logByte cX19_logByte 2 (some .int) :: ([.fieldLink RX19 113 "TimeMachineModel" "code" "I", .fieldLink RX19 366 "TimeMachineModel" "logged" "I"] ++ (u_ws RX19 TX19 36 ++ []))
theorem gd_k_X19_logByte : ∀ w ∈ ow_k_X19_logByte, (w.onTables && w.keeps) = true ∨ ∃ ty, w = Cond.arrayClass ty := List.forall_mem_cons.mpr ⟨good_of_word rfl, List.forall_mem_append.mpr ⟨fun w h => good_of_word (List.all_eq_true.mp (by decide +kernel) w h), List.forall_mem_append.mpr ⟨gu_X19, fun _ h => nomatch h⟩⟩⟩
theorem hi_k_X19_logByte_X19 : ∀ w ∈ u_ws RX19 TX19 36, w ∈ ow_k_X19_logByte := fun w h => List.mem_cons_of_mem _ (List.mem_append_right _ (List.mem_append_left _ h))
set_option maxHeartbeats 40000000 in
set_option maxRecDepth 100000 in
theorem k_X19_logByte (l : Launch) (hlt : l.stackTraces = false) (dC : Nat → ClassId) (dI : Nat → Nat → Nat) (c0 : Nat) (c1 : Int32) (c2 : Nat) (c3 : Nat) (c4 : Nat) (c5 : Nat) (c6 : Nat) (c7 : Nat) (c8 : Nat) (c9 : Nat) (c10 : Nat) (c11 : Nat) (c12 : Nat) (c13 : Nat) (c14 : Nat) (c15 : Nat) (c16 : Nat) (c17 : Nat) (c18 : Nat) (c19 : Nat) (c20 : Nat) (c21 : Nat) (c22 : Nat) (c23 : Nat) (c24 : Nat) (sz : Nat) : Met l yX19_logByte ow_k_X19_logByte ({ frames := 0, cells := 0, slots := 0, locals := 0 }) (va_Pc [.ref c0, .int c1] (fun U => U.heap.size = sz ∧ va_P (dC, dI) vwCl [(c0, .inr (20, [.int 0, .ref c2, .int 0, .int 0, .ref c3, .ref c4, .ref c5, .ref c6, .ref c7, .ref c8, .ref c9, .ref c10, .ref c11, .ref c12, .ref c13, .ref c14, .ref c15, .int 0, .int 0, .int 0, .int 0, .int 0, .int 0, .int 0, .int 0, .int 0, .ref c16, .ref c17, .ref c18, .ref c19, .ref c20, .ref c21, .ref c22, .ref c23, .ref c24, .int 0]))] U.heap ∧ va_K (dC, dI) vwCl [] U ∧ va_D (fun _ => True) [(c0, .inr (20, [.int 0, .ref c2, .int 0, .int 0, .ref c3, .ref c4, .ref c5, .ref c6, .ref c7, .ref c8, .ref c9, .ref c10, .ref c11, .ref c12, .ref c13, .ref c14, .ref c15, .int 0, .int 0, .int 0, .int 0, .int 0, .int 0, .int 0, .int 0, .int 0, .ref c16, .ref c17, .ref c18, .ref c19, .ref c20, .ref c21, .ref c22, .ref c23, .ref c24, .int 0]))] ∧ nv_E (va_A [(c0, .inr (20, [.int 0, .ref c2, .int 0, .int 0, .ref c3, .ref c4, .ref c5, .ref c6, .ref c7, .ref c8, .ref c9, .ref c10, .ref c11, .ref c12, .ref c13, .ref c14, .ref c15, .int 0, .int 0, .int 0, .int 0, .int 0, .int 0, .int 0, .int 0, .int 0, .ref c16, .ref c17, .ref c18, .ref c19, .ref c20, .ref c21, .ref c22, .ref c23, .ref c24, .int 0]))] sz) U)) (va_Qi (fun r _ => ((c1 < 0) ∧ r = (-1)) ∨ ((¬ c1 < 0) ∧ r = (-1)) ∨ False) (fun (_ : Unit) t => True) (va_A [(c0, .inr (20, [.int 0, .ref c2, .int 0, .int 0, .ref c3, .ref c4, .ref c5, .ref c6, .ref c7, .ref c8, .ref c9, .ref c10, .ref c11, .ref c12, .ref c13, .ref c14, .ref c15, .int 0, .int 0, .int 0, .int 0, .int 0, .int 0, .int 0, .int 0, .int 0, .ref c16, .ref c17, .ref c18, .ref c19, .ref c20, .ref c21, .ref c22, .ref c23, .ref c24, .int 0]))] sz)) 0 0 (va_A [(c0, .inr (20, [.int 0, .ref c2, .int 0, .int 0, .ref c3, .ref c4, .ref c5, .ref c6, .ref c7, .ref c8, .ref c9, .ref c10, .ref c11, .ref c12, .ref c13, .ref c14, .ref c15, .int 0, .int 0, .int 0, .int 0, .int 0, .int 0, .int 0, .int 0, .int 0, .ref c16, .ref c17, .ref c18, .ref c19, .ref c20, .ref c21, .ref c22, .ref c23, .ref c24, .int 0]))] sz) := by
  refine Met.ofW (cc := cX19_logByte) (maxL := 2) (ret := (some .int)) (by decide) rfl ?_
  intro p e s m args below meth c s₁ B hml hv
  obtain ⟨rfl, hsz, hP, hK, hD0, hN⟩ := hv
  have hx := B.exec
  have hb := B.bytes
  have hr := B.returns
  have hts := atoms_spec (ws := ow_k_X19_logByte) B.pre
  have hown : s.vm.findClass RX19 = some m.cls := findClass_of_methodNamed B.named
  have hlocks := B.notSynchronized
  subst hsz
  have hD := hD0.self (sz := s.heap.size)
  generalize hAe : va_A [(c0, .inr (20, [.int 0, .ref c2, .int 0, .int 0, .ref c3, .ref c4, .ref c5, .ref c6, .ref c7, .ref c8, .ref c9, .ref c10, .ref c11, .ref c12, .ref c13, .ref c14, .ref c15, .int 0, .int 0, .int 0, .int 0, .int 0, .int 0, .int 0, .int 0, .int 0, .ref c16, .ref c17, .ref c18, .ref c19, .ref c20, .ref c21, .ref c22, .ref c23, .ref c24, .int 0]))] s.heap.size = A at hD hN ⊢
  have hA : ∀ q : Nat, s.heap.size ≤ q → A q := fun q h => by rw [← hAe]; exact Or.inr h
  have hS : va_S A s.heap s.heap [] := va_S.rf
  have hl := lv_entry ([.ref c0, .int c1]) (n := 2) (Nat.le_of_ble_eq_true rfl)
  rw [lg_entry_eq]
  generalize (lg_sl ([.ref c0, .int c1]) ++ List.replicate (2 - (lg_sl ([.ref c0, .int c1])).length) Slot.unset).toArray = ls at hl ⊢
  have hl : lv_has ls 2 [(0, .ref c0), (1, .int c1)] := hl
  refine lv_aload_n hx hb dX19_logByte_0 rfl (lv_at hl 0 rfl) ?_
  refine lv_iconst (v := 0) hx hb dX19_logByte_1 (by decide) ?_
  refine va_put (D := (dC, dI)) (ci := 20) (v := .int 0) (ty := .int) (C := RX19) (T := TX19) (N := 36) hx hb hts hi_k_X19_logByte_X19 tyX19 tyX19_ok nmX19 hown hK hP hD hS 0 rfl rfl 0 (by decide) (hts (.fieldLink RX19 113 "TimeMachineModel" "code" "I") (List.mem_of_getElem? (i := 1) rfl)) (fun _ h9 => h9) rfl (by decide +kernel) rfl rfl (Nat.le_of_ble_eq_true rfl) dX19_logByte_2 (fun H locs hP hD hS => ?_)
  have hP : va_P (dC, dI) vwCl [(c0, .inr (20, [.int 0, .ref c2, .int 0, .int 0, .ref c3, .ref c4, .ref c5, .ref c6, .ref c7, .ref c8, .ref c9, .ref c10, .ref c11, .ref c12, .ref c13, .ref c14, .ref c15, .int 0, .int 0, .int 0, .int 0, .int 0, .int 0, .int 0, .int 0, .int 0, .ref c16, .ref c17, .ref c18, .ref c19, .ref c20, .ref c21, .ref c22, .ref c23, .ref c24, .int 0]))] H := hP
  have hD : va_D A [(c0, .inr (20, [.int 0, .ref c2, .int 0, .int 0, .ref c3, .ref c4, .ref c5, .ref c6, .ref c7, .ref c8, .ref c9, .ref c10, .ref c11, .ref c12, .ref c13, .ref c14, .ref c15, .int 0, .int 0, .int 0, .int 0, .int 0, .int 0, .int 0, .int 0, .int 0, .ref c16, .ref c17, .ref c18, .ref c19, .ref c20, .ref c21, .ref c22, .ref c23, .ref c24, .int 0]))] := hD
  refine lv_iload_n hx hb dX19_logByte_5 rfl (lv_at hl 1 rfl) ?_
  refine lv_if_lt (tgt := 17) hx hb dX19_logByte_6 (by decide) (fun c_1 => ?_) (fun c_1 => ?_)
  · refine lv_iconst (v := (-1)) hx hb dX19_logByte_17 (by decide) ?_
    refine lv_goto (tgt := 27) hx hb dX19_logByte_18 (by decide) ?_
    refine W.widen (k := 0) (n := 0) (by decide +kernel) (by decide +kernel) ?_
    exact W.iret (v := (-1)) hx hb hr (fun t ht hW => ⟨⟨(-1), (), rfl, Or.inl ⟨c_1, rfl⟩, trivial⟩, hS.F ht⟩) hS.2.2 dX19_logByte_27
  · refine lv_iload_n hx hb dX19_logByte_9 rfl (lv_at hl 1 rfl) ?_
    refine lv_aload_n hx hb dX19_logByte_10 rfl (lv_at hl 0 rfl) ?_
    refine va_get (D := (dC, dI)) (ci := 20) (v := .int 0) (C := RX19) (T := TX19) (N := 36) hx hb hts hi_k_X19_logByte_X19 hown hK hP 0 rfl rfl 35 (by decide) (hts (.fieldLink RX19 366 "TimeMachineModel" "logged" "I") (List.mem_of_getElem? (i := 2) rfl)) (fun _ h9 => h9) rfl dX19_logByte_11 ?_
    refine lv_icmp_lt (tgt := 21) hx hb dX19_logByte_14 (by decide) (fun h9 => absurd h9 c_1) (fun _ => ?_)
    refine lv_iconst (v := (-1)) hx hb dX19_logByte_17 (by decide) ?_
    refine lv_goto (tgt := 27) hx hb dX19_logByte_18 (by decide) ?_
    refine W.widen (k := 0) (n := 0) (by decide +kernel) (by decide +kernel) ?_
    exact W.iret (v := (-1)) hx hb hr (fun t ht hW => ⟨⟨(-1), (), rfl, Or.inr (Or.inl ⟨c_1, rfl⟩), trivial⟩, hS.F ht⟩) hS.2.2 dX19_logByte_27
def ow_k_X3_told : List Cond := .code yX3_told cX3_told 3 (some .long) :: ([.constantLong RX3 42 (-1), .fieldLink RX3 35 "TimeMachine$Events" "recorded" "I"] ++ (u_ws RX3 TX3 11 ++ []))
theorem gd_k_X3_told : ∀ w ∈ ow_k_X3_told, (w.onTables && w.keeps) = true ∨ ∃ ty, w = Cond.arrayClass ty := List.forall_mem_cons.mpr ⟨good_of_word rfl, List.forall_mem_append.mpr ⟨fun w h => good_of_word (List.all_eq_true.mp (by decide +kernel) w h), List.forall_mem_append.mpr ⟨gu_X3, fun _ h => nomatch h⟩⟩⟩
theorem hi_k_X3_told_X3 : ∀ w ∈ u_ws RX3 TX3 11, w ∈ ow_k_X3_told := fun w h => List.mem_cons_of_mem _ (List.mem_append_right _ (List.mem_append_left _ h))
set_option maxHeartbeats 40000000 in
set_option maxRecDepth 100000 in
theorem k_X3_told (l : Launch) (hlt : l.stackTraces = false) (dC : Nat → ClassId) (dI : Nat → Nat → Nat) (c0 : Nat) (c1 : Int32) (c2 : Int32) (c3 : Nat) (c4 : Nat) (c5 : Nat) (c6 : Nat) (c7 : Nat) (sz : Nat) : Met l yX3_told ow_k_X3_told ({ frames := 0, cells := 0, slots := 0, locals := 0 }) (va_Pc [.ref c0, .int c1, .int c2] (fun U => U.heap.size = sz ∧ va_P (dC, dI) vwCl [(c0, .inr (4, [.ref c3, .ref c4, .ref c5, .ref c6, .int 0, .int 0, .ref c7, .int 0, .int 0, .int 0, .int 0]))] U.heap ∧ va_K (dC, dI) vwCl [] U ∧ va_D (fun _ => True) [(c0, .inr (4, [.ref c3, .ref c4, .ref c5, .ref c6, .int 0, .int 0, .ref c7, .int 0, .int 0, .int 0, .int 0]))] ∧ nv_E (va_A [(c0, .inr (4, [.ref c3, .ref c4, .ref c5, .ref c6, .int 0, .int 0, .ref c7, .int 0, .int 0, .int 0, .int 0]))] sz) U)) (va_Ql (fun r _ => ((c1 < 0) ∧ r = (-1)) ∨ ((¬ c1 < 0) ∧ r = (-1)) ∨ False) (fun (_ : Unit) t => va_P (dC, dI) vwCl [(c0, .inr (4, [.ref c3, .ref c4, .ref c5, .ref c6, .int 0, .int 0, .ref c7, .int 0, .int 0, .int 0, .int 0]))] t.heap ∧ va_K (dC, dI) vwCl [] t ∧ va_D (va_A [(c0, .inr (4, [.ref c3, .ref c4, .ref c5, .ref c6, .int 0, .int 0, .ref c7, .int 0, .int 0, .int 0, .int 0]))] sz) [(c0, .inr (4, [.ref c3, .ref c4, .ref c5, .ref c6, .int 0, .int 0, .ref c7, .int 0, .int 0, .int 0, .int 0]))]) (va_A [(c0, .inr (4, [.ref c3, .ref c4, .ref c5, .ref c6, .int 0, .int 0, .ref c7, .int 0, .int 0, .int 0, .int 0]))] sz)) 0 0 (va_A [(c0, .inr (4, [.ref c3, .ref c4, .ref c5, .ref c6, .int 0, .int 0, .ref c7, .int 0, .int 0, .int 0, .int 0]))] sz) := by
  refine Met.ofW (cc := cX3_told) (maxL := 3) (ret := (some .long)) (by decide) rfl ?_
  intro p e s m args below meth c s₁ B hml hv
  obtain ⟨rfl, hsz, hP, hK, hD0, hN⟩ := hv
  have hx := B.exec
  have hb := B.bytes
  have hr := B.returns
  have hts := atoms_spec (ws := ow_k_X3_told) B.pre
  have hown : s.vm.findClass RX3 = some m.cls := findClass_of_methodNamed B.named
  have hlocks := B.notSynchronized
  subst hsz
  have hD := hD0.self (sz := s.heap.size)
  generalize hAe : va_A [(c0, .inr (4, [.ref c3, .ref c4, .ref c5, .ref c6, .int 0, .int 0, .ref c7, .int 0, .int 0, .int 0, .int 0]))] s.heap.size = A at hD hN ⊢
  have hA : ∀ q : Nat, s.heap.size ≤ q → A q := fun q h => by rw [← hAe]; exact Or.inr h
  have hS : va_S A s.heap s.heap [] := va_S.rf
  have hl := lv_entry ([.ref c0, .int c1, .int c2]) (n := 3) (Nat.le_of_ble_eq_true rfl)
  rw [lg_entry_eq]
  generalize (lg_sl ([.ref c0, .int c1, .int c2]) ++ List.replicate (3 - (lg_sl ([.ref c0, .int c1, .int c2])).length) Slot.unset).toArray = ls at hl ⊢
  have hl : lv_has ls 3 [(0, .ref c0), (1, .int c1), (2, .int c2)] := hl
  refine lv_iload_n hx hb dX3_told_0 rfl (lv_at hl 1 rfl) ?_
  refine lv_if_lt (tgt := 12) hx hb dX3_told_1 (by decide) (fun c_1 => ?_) (fun c_1 => ?_)
  · refine lv_ldc2 hx hb hown (hts (.constantLong RX3 42 (-1)) (List.mem_of_getElem? (i := 1) rfl)) dX3_told_12 ?_
    refine W.widen (k := 0) (n := 0) (by decide +kernel) (by decide +kernel) ?_
    exact W.lret (v := (-1)) hx hb hr (fun t ht hW => ⟨⟨(-1), (), rfl, Or.inl ⟨c_1, rfl⟩, by rw [ht]; exact hP, va_K.moved hW.alike hK, hD⟩, hS.F ht⟩) hS.2.2 dX3_told_15
  · refine lv_iload_n hx hb dX3_told_4 rfl (lv_at hl 1 rfl) ?_
    refine lv_aload_n hx hb dX3_told_5 rfl (lv_at hl 0 rfl) ?_
    refine va_get (D := (dC, dI)) (ci := 4) (v := .int 0) (C := RX3) (T := TX3) (N := 11) hx hb hts hi_k_X3_told_X3 hown hK hP 0 rfl rfl 4 (by decide) (hts (.fieldLink RX3 35 "TimeMachine$Events" "recorded" "I") (List.mem_of_getElem? (i := 2) rfl)) (fun _ h9 => h9) rfl dX3_told_6 ?_
    refine lv_icmp_lt (tgt := 16) hx hb dX3_told_9 (by decide) (fun h9 => absurd h9 c_1) (fun _ => ?_)
    refine lv_ldc2 hx hb hown (hts (.constantLong RX3 42 (-1)) (List.mem_of_getElem? (i := 1) rfl)) dX3_told_12 ?_
    refine W.widen (k := 0) (n := 0) (by decide +kernel) (by decide +kernel) ?_
    exact W.lret (v := (-1)) hx hb hr (fun t ht hW => ⟨⟨(-1), (), rfl, Or.inr (Or.inl ⟨c_1, rfl⟩), by rw [ht]; exact hP, va_K.moved hW.alike hK, hD⟩, hS.F ht⟩) hS.2.2 dX3_told_15
def ow_k_X12_event : List Cond := .code yX12_event cX12_event 3 (some .long) :: ([.fieldLink RX12 33 "TimeMachine" "timeline" "LTimeMachine$Timeline;", .fieldLink RX12 280 "TimeMachine$Timeline" "events" "LTimeMachine$Events;", .methodLink RX12 290 yX3_told, .instanceMethod yX3_told, .selects RX3 yX3_told yX3_told, .initialized RX3] ++ (u_ws RX12 TX12 12 ++ (u_ws RX11 TX11 16 ++ (ow_k_X3_told ++ []))))
theorem gd_k_X12_event : ∀ w ∈ ow_k_X12_event, (w.onTables && w.keeps) = true ∨ ∃ ty, w = Cond.arrayClass ty := List.forall_mem_cons.mpr ⟨good_of_word rfl, List.forall_mem_append.mpr ⟨fun w h => good_of_word (List.all_eq_true.mp (by decide +kernel) w h), List.forall_mem_append.mpr ⟨gu_X12, List.forall_mem_append.mpr ⟨gu_X11, List.forall_mem_append.mpr ⟨gd_k_X3_told, fun _ h => nomatch h⟩⟩⟩⟩⟩
theorem hi_k_X12_event_X12 : ∀ w ∈ u_ws RX12 TX12 12, w ∈ ow_k_X12_event := fun w h => List.mem_cons_of_mem _ (List.mem_append_right _ (List.mem_append_left _ h))
theorem hi_k_X12_event_X11 : ∀ w ∈ u_ws RX11 TX11 16, w ∈ ow_k_X12_event := fun w h => List.mem_cons_of_mem _ (List.mem_append_right _ (List.mem_append_right _ (List.mem_append_left _ h)))
theorem gi_k_X12_event_0 : GoodIn ow_k_X12_event (wsV RX12 290 RX3 yX3_told ow_k_X3_told) := goodIn_app (goodIn_of _ (by decide +kernel)) (fun w h => ⟨List.mem_cons_of_mem _ (List.mem_append_right _ (List.mem_append_right _ (List.mem_append_right _ (List.mem_append_left _ h)))), gd_k_X3_told w h⟩)
set_option maxHeartbeats 40000000 in
set_option maxRecDepth 100000 in
theorem k_X12_event (l : Launch) (hlt : l.stackTraces = false) (dC : Nat → ClassId) (dI : Nat → Nat → Nat) (c0 : Nat) (c1 : Nat) (c2 : Nat) (c3 : Int32) (c4 : Int32) (c5 : Nat) (c6 : Nat) (c7 : Nat) (c8 : Nat) (c9 : Nat) (c10 : Nat) (c11 : Nat) (c12 : Nat) (c13 : Nat) (c14 : Nat) (c15 : Nat) (c16 : Nat) (c17 : Nat) (c18 : Nat) (c19 : Nat) (c20 : Nat) (c21 : Nat) (c22 : Nat) (c23 : Nat) (c24 : Nat) (sz : Nat) : Met l yX12_event ow_k_X12_event ({ frames := 1, cells := 0, slots := 0, locals := 22 }) (va_Pc [.ref c0, .int c3, .int c4] (fun U => U.heap.size = sz ∧ va_P (dC, dI) vwCl [(c0, .inr (13, [.ref c5, .int 0, .int 0, .ref c6, .ref c7, .ref c8, .ref c1, .ref c9, .ref c10, .ref c11, .int 0, .ref c12])), (c1, .inr (12, [.ref c13, .ref c2, .ref c14, .ref c15, .ref c16, .ref c17, .int 0, .ref c18, .ref c19, .int 0, .int 0, .int 0, .int 0, .int 0, .int 0, .int 0])), (c2, .inr (4, [.ref c20, .ref c21, .ref c22, .ref c23, .int 0, .int 0, .ref c24, .int 0, .int 0, .int 0, .int 0]))] U.heap ∧ va_K (dC, dI) vwCl [] U ∧ va_D (fun _ => True) [(c0, .inr (13, [.ref c5, .int 0, .int 0, .ref c6, .ref c7, .ref c8, .ref c1, .ref c9, .ref c10, .ref c11, .int 0, .ref c12])), (c1, .inr (12, [.ref c13, .ref c2, .ref c14, .ref c15, .ref c16, .ref c17, .int 0, .ref c18, .ref c19, .int 0, .int 0, .int 0, .int 0, .int 0, .int 0, .int 0])), (c2, .inr (4, [.ref c20, .ref c21, .ref c22, .ref c23, .int 0, .int 0, .ref c24, .int 0, .int 0, .int 0, .int 0]))] ∧ nv_E (va_A [(c0, .inr (13, [.ref c5, .int 0, .int 0, .ref c6, .ref c7, .ref c8, .ref c1, .ref c9, .ref c10, .ref c11, .int 0, .ref c12])), (c1, .inr (12, [.ref c13, .ref c2, .ref c14, .ref c15, .ref c16, .ref c17, .int 0, .ref c18, .ref c19, .int 0, .int 0, .int 0, .int 0, .int 0, .int 0, .int 0])), (c2, .inr (4, [.ref c20, .ref c21, .ref c22, .ref c23, .int 0, .int 0, .ref c24, .int 0, .int 0, .int 0, .int 0]))] sz) U)) (va_Ql (fun r _ => r = (-1)) (fun (_ : Unit) t => va_P (dC, dI) vwCl [(c0, .inr (13, [.ref c5, .int 0, .int 0, .ref c6, .ref c7, .ref c8, .ref c1, .ref c9, .ref c10, .ref c11, .int 0, .ref c12])), (c1, .inr (12, [.ref c13, .ref c2, .ref c14, .ref c15, .ref c16, .ref c17, .int 0, .ref c18, .ref c19, .int 0, .int 0, .int 0, .int 0, .int 0, .int 0, .int 0])), (c2, .inr (4, [.ref c20, .ref c21, .ref c22, .ref c23, .int 0, .int 0, .ref c24, .int 0, .int 0, .int 0, .int 0]))] t.heap ∧ va_K (dC, dI) vwCl [] t ∧ va_D (va_A [(c0, .inr (13, [.ref c5, .int 0, .int 0, .ref c6, .ref c7, .ref c8, .ref c1, .ref c9, .ref c10, .ref c11, .int 0, .ref c12])), (c1, .inr (12, [.ref c13, .ref c2, .ref c14, .ref c15, .ref c16, .ref c17, .int 0, .ref c18, .ref c19, .int 0, .int 0, .int 0, .int 0, .int 0, .int 0, .int 0])), (c2, .inr (4, [.ref c20, .ref c21, .ref c22, .ref c23, .int 0, .int 0, .ref c24, .int 0, .int 0, .int 0, .int 0]))] sz) [(c0, .inr (13, [.ref c5, .int 0, .int 0, .ref c6, .ref c7, .ref c8, .ref c1, .ref c9, .ref c10, .ref c11, .int 0, .ref c12])), (c1, .inr (12, [.ref c13, .ref c2, .ref c14, .ref c15, .ref c16, .ref c17, .int 0, .ref c18, .ref c19, .int 0, .int 0, .int 0, .int 0, .int 0, .int 0, .int 0])), (c2, .inr (4, [.ref c20, .ref c21, .ref c22, .ref c23, .int 0, .int 0, .ref c24, .int 0, .int 0, .int 0, .int 0]))]) (va_A [(c0, .inr (13, [.ref c5, .int 0, .int 0, .ref c6, .ref c7, .ref c8, .ref c1, .ref c9, .ref c10, .ref c11, .int 0, .ref c12])), (c1, .inr (12, [.ref c13, .ref c2, .ref c14, .ref c15, .ref c16, .ref c17, .int 0, .ref c18, .ref c19, .int 0, .int 0, .int 0, .int 0, .int 0, .int 0, .int 0])), (c2, .inr (4, [.ref c20, .ref c21, .ref c22, .ref c23, .int 0, .int 0, .ref c24, .int 0, .int 0, .int 0, .int 0]))] sz)) 0 0 (va_A [(c0, .inr (13, [.ref c5, .int 0, .int 0, .ref c6, .ref c7, .ref c8, .ref c1, .ref c9, .ref c10, .ref c11, .int 0, .ref c12])), (c1, .inr (12, [.ref c13, .ref c2, .ref c14, .ref c15, .ref c16, .ref c17, .int 0, .ref c18, .ref c19, .int 0, .int 0, .int 0, .int 0, .int 0, .int 0, .int 0])), (c2, .inr (4, [.ref c20, .ref c21, .ref c22, .ref c23, .int 0, .int 0, .ref c24, .int 0, .int 0, .int 0, .int 0]))] sz) := by
  refine Met.ofW (cc := cX12_event) (maxL := 3) (ret := (some .long)) (by decide) rfl ?_
  intro p e s m args below meth c s₁ B hml hv
  obtain ⟨rfl, hsz, hP, hK, hD0, hN⟩ := hv
  have hx := B.exec
  have hb := B.bytes
  have hr := B.returns
  have hts := atoms_spec (ws := ow_k_X12_event) B.pre
  have hown : s.vm.findClass RX12 = some m.cls := findClass_of_methodNamed B.named
  have hlocks := B.notSynchronized
  subst hsz
  have hD := hD0.self (sz := s.heap.size)
  generalize hAe : va_A [(c0, .inr (13, [.ref c5, .int 0, .int 0, .ref c6, .ref c7, .ref c8, .ref c1, .ref c9, .ref c10, .ref c11, .int 0, .ref c12])), (c1, .inr (12, [.ref c13, .ref c2, .ref c14, .ref c15, .ref c16, .ref c17, .int 0, .ref c18, .ref c19, .int 0, .int 0, .int 0, .int 0, .int 0, .int 0, .int 0])), (c2, .inr (4, [.ref c20, .ref c21, .ref c22, .ref c23, .int 0, .int 0, .ref c24, .int 0, .int 0, .int 0, .int 0]))] s.heap.size = A at hD hN ⊢
  have hA : ∀ q : Nat, s.heap.size ≤ q → A q := fun q h => by rw [← hAe]; exact Or.inr h
  have hS : va_S A s.heap s.heap [] := va_S.rf
  have hl := lv_entry ([.ref c0, .int c3, .int c4]) (n := 3) (Nat.le_of_ble_eq_true rfl)
  rw [lg_entry_eq]
  generalize (lg_sl ([.ref c0, .int c3, .int c4]) ++ List.replicate (3 - (lg_sl ([.ref c0, .int c3, .int c4])).length) Slot.unset).toArray = ls at hl ⊢
  have hl : lv_has ls 3 [(0, .ref c0), (1, .int c3), (2, .int c4)] := hl
  refine lv_aload_n hx hb dX12_event_0 rfl (lv_at hl 0 rfl) ?_
  refine va_get (D := (dC, dI)) (ci := 13) (v := .ref c1) (C := RX12) (T := TX12) (N := 12) hx hb hts hi_k_X12_event_X12 hown hK hP 0 rfl rfl 6 (by decide) (hts (.fieldLink RX12 33 "TimeMachine" "timeline" "LTimeMachine$Timeline;") (List.mem_of_getElem? (i := 1) rfl)) (fun _ h9 => h9) rfl dX12_event_1 ?_
  refine va_get (D := (dC, dI)) (ci := 12) (v := .ref c2) (C := RX11) (T := TX11) (N := 16) hx hb hts hi_k_X12_event_X11 hown hK hP 1 rfl rfl 1 (by decide) (hts (.fieldLink RX12 280 "TimeMachine$Timeline" "events" "LTimeMachine$Events;") (List.mem_of_getElem? (i := 2) rfl)) (fun _ h9 => h9) rfl dX12_event_4 ?_
  refine lv_iload_n hx hb dX12_event_7 rfl (lv_at hl 1 rfl) ?_
  refine lv_iload_n hx hb dX12_event_8 rfl (lv_at hl 2 rfl) ?_
  have hPc := hP.sub (ws' := [(c2, .inr (4, [.ref c20, .ref c21, .ref c22, .ref c23, .int 0, .int 0, .ref c24, .int 0, .int 0, .int 0, .int 0]))]) [2] rfl
  have hDc := hD.sub (ws' := [(c2, .inr (4, [.ref c20, .ref c21, .ref c22, .ref c23, .int 0, .int 0, .ref c24, .int 0, .int 0, .int 0, .int 0]))]) [2] (by decide) rfl
  have hKc := hK.sub (tys' := []) [] rfl
  have hFc := va_free (wc := [(c2, .inr (4, [.ref c20, .ref c21, .ref c22, .ref c23, .int 0, .int 0, .ref c24, .int 0, .int 0, .int 0, .int 0]))]) hD hS hA [2] rfl
  refine va_calll (va_runV (As := [.int c3, .int c4]) (rest := []) ⟨hx, hb, hml, hown, hts⟩ (k_X3_told l hlt dC dI c2 c3 c4 c20 c21 c22 c23 c24  s.heap.size) (cwV 2 hts gi_k_X12_event_0 rfl rfl rfl (by decide +kernel) ⟨Nat.le_of_ble_eq_true rfl, Nat.le_of_ble_eq_true rfl⟩) ⟨fun a U g mk q => by obtain ⟨q0, q1, qP, qK, qD, qN⟩ := q; exact ⟨q0, q1, qP, va_K.moved (u := U) (U := U.calling g mk a) (Vm.Alike.refl U.vm) qK, qD, nv_same rfl rfl qN⟩, va_recv hKc hPc (ci := 4) (q0 := 0) rfl rfl, fun U hU hW => ⟨rfl, by rw [hU], by rw [hU]; exact hPc, va_K.moved hW.alike hKc, hDc.weaken (fun _ _ _ _ => trivial), nv_call hS hFc hU hW hN⟩⟩ rfl rfl hl.1 rfl (lv_room (Nat.le_of_ble_eq_true rfl)) dX12_event_9 ⟨by decide +kernel, by decide +kernel⟩) hS (fun q _ h => hFc q h) hFc (fun r1 u t H1 locs ht hvm hw hB hz1 hk1 hS => ?_)
  obtain ⟨hP1, hK1, hD1⟩ := hB
  rw [ht] at hP1
  have hK1 := va_K.moved hvm.symm hK1
  obtain rfl : r1 = (-1) := by rcases hw with ⟨_, h9⟩ | ⟨_, h9⟩ | h9 <;> first | exact h9 | exact h9.elim
  obtain ⟨hP, hD⟩ := va_join (wr := [(c0, .inr (13, [.ref c5, .int 0, .int 0, .ref c6, .ref c7, .ref c8, .ref c1, .ref c9, .ref c10, .ref c11, .int 0, .ref c12])), (c1, .inr (12, [.ref c13, .ref c2, .ref c14, .ref c15, .ref c16, .ref c17, .int 0, .ref c18, .ref c19, .int 0, .int 0, .int 0, .int 0, .int 0, .int 0, .int 0]))]) (w1 := [(c2, .inr (4, [.ref c20, .ref c21, .ref c22, .ref c23, .int 0, .int 0, .ref c24, .int 0, .int 0, .int 0, .int 0]))]) hP hD [2] [0, 1] rfl rfl (by decide) (by decide) hk1 hFc hP1 hD1
  have hK := (hK.sub (tys' := []) [] rfl).app hK1
  generalize H1 = H at hP hS ⊢
  have hP : va_P (dC, dI) vwCl [(c0, .inr (13, [.ref c5, .int 0, .int 0, .ref c6, .ref c7, .ref c8, .ref c1, .ref c9, .ref c10, .ref c11, .int 0, .ref c12])), (c1, .inr (12, [.ref c13, .ref c2, .ref c14, .ref c15, .ref c16, .ref c17, .int 0, .ref c18, .ref c19, .int 0, .int 0, .int 0, .int 0, .int 0, .int 0, .int 0])), (c2, .inr (4, [.ref c20, .ref c21, .ref c22, .ref c23, .int 0, .int 0, .ref c24, .int 0, .int 0, .int 0, .int 0]))] H := hP
  have hD : va_D A [(c0, .inr (13, [.ref c5, .int 0, .int 0, .ref c6, .ref c7, .ref c8, .ref c1, .ref c9, .ref c10, .ref c11, .int 0, .ref c12])), (c1, .inr (12, [.ref c13, .ref c2, .ref c14, .ref c15, .ref c16, .ref c17, .int 0, .ref c18, .ref c19, .int 0, .int 0, .int 0, .int 0, .int 0, .int 0, .int 0])), (c2, .inr (4, [.ref c20, .ref c21, .ref c22, .ref c23, .int 0, .int 0, .ref c24, .int 0, .int 0, .int 0, .int 0]))] := hD
  have hK : va_K (dC, dI) vwCl [] s := hK
  refine W.widen (k := 0) (n := 0) (by decide +kernel) (by decide +kernel) ?_
  have hP9 := hP.sub (ws' := [(c0, .inr (13, [.ref c5, .int 0, .int 0, .ref c6, .ref c7, .ref c8, .ref c1, .ref c9, .ref c10, .ref c11, .int 0, .ref c12])), (c1, .inr (12, [.ref c13, .ref c2, .ref c14, .ref c15, .ref c16, .ref c17, .int 0, .ref c18, .ref c19, .int 0, .int 0, .int 0, .int 0, .int 0, .int 0, .int 0])), (c2, .inr (4, [.ref c20, .ref c21, .ref c22, .ref c23, .int 0, .int 0, .ref c24, .int 0, .int 0, .int 0, .int 0]))]) [0, 1, 2] rfl
  have hD9 := hD.sub (ws' := [(c0, .inr (13, [.ref c5, .int 0, .int 0, .ref c6, .ref c7, .ref c8, .ref c1, .ref c9, .ref c10, .ref c11, .int 0, .ref c12])), (c1, .inr (12, [.ref c13, .ref c2, .ref c14, .ref c15, .ref c16, .ref c17, .int 0, .ref c18, .ref c19, .int 0, .int 0, .int 0, .int 0, .int 0, .int 0, .int 0])), (c2, .inr (4, [.ref c20, .ref c21, .ref c22, .ref c23, .int 0, .int 0, .ref c24, .int 0, .int 0, .int 0, .int 0]))]) [0, 1, 2] (by decide) rfl
  have hK9 := hK.sub (tys' := []) [] rfl
  refine W.widen (k := 0) (n := 0) (by decide +kernel) (by decide +kernel) ?_
  exact W.lret (v := (-1)) hx hb hr (fun t ht hW => ⟨⟨(-1), (), rfl, rfl, by rw [ht]; exact hP9, va_K.moved hW.alike hK9, hD9⟩, hS.F ht⟩) hS.2.2 dX12_event_12
def ow_k_X19_event : List Cond := .code yX19_event cX19_event 3 (some .long) :: ([.fieldLink RX19 113 "TimeMachineModel" "code" "I", .constantLong RX19 292 (-1), .fieldLink RX19 192 "TimeMachineModel" "events" "I"] ++ (u_ws RX19 TX19 36 ++ []))
theorem gd_k_X19_event : ∀ w ∈ ow_k_X19_event, (w.onTables && w.keeps) = true ∨ ∃ ty, w = Cond.arrayClass ty := List.forall_mem_cons.mpr ⟨good_of_word rfl, List.forall_mem_append.mpr ⟨fun w h => good_of_word (List.all_eq_true.mp (by decide +kernel) w h), List.forall_mem_append.mpr ⟨gu_X19, fun _ h => nomatch h⟩⟩⟩
theorem hi_k_X19_event_X19 : ∀ w ∈ u_ws RX19 TX19 36, w ∈ ow_k_X19_event := fun w h => List.mem_cons_of_mem _ (List.mem_append_right _ (List.mem_append_left _ h))
set_option maxHeartbeats 40000000 in
set_option maxRecDepth 100000 in
theorem k_X19_event (l : Launch) (hlt : l.stackTraces = false) (dC : Nat → ClassId) (dI : Nat → Nat → Nat) (c0 : Nat) (c1 : Int32) (c2 : Int32) (c3 : Nat) (c4 : Nat) (c5 : Nat) (c6 : Nat) (c7 : Nat) (c8 : Nat) (c9 : Nat) (c10 : Nat) (c11 : Nat) (c12 : Nat) (c13 : Nat) (c14 : Nat) (c15 : Nat) (c16 : Nat) (c17 : Nat) (c18 : Nat) (c19 : Nat) (c20 : Nat) (c21 : Nat) (c22 : Nat) (c23 : Nat) (c24 : Nat) (c25 : Nat) (sz : Nat) : Met l yX19_event ow_k_X19_event ({ frames := 0, cells := 0, slots := 0, locals := 0 }) (va_Pc [.ref c0, .int c1, .int c2] (fun U => U.heap.size = sz ∧ va_P (dC, dI) vwCl [(c0, .inr (20, [.int 0, .ref c3, .int 0, .int 0, .ref c4, .ref c5, .ref c6, .ref c7, .ref c8, .ref c9, .ref c10, .ref c11, .ref c12, .ref c13, .ref c14, .ref c15, .ref c16, .int 0, .int 0, .int 0, .int 0, .int 0, .int 0, .int 0, .int 0, .int 0, .ref c17, .ref c18, .ref c19, .ref c20, .ref c21, .ref c22, .ref c23, .ref c24, .ref c25, .int 0]))] U.heap ∧ va_K (dC, dI) vwCl [] U ∧ va_D (fun _ => True) [(c0, .inr (20, [.int 0, .ref c3, .int 0, .int 0, .ref c4, .ref c5, .ref c6, .ref c7, .ref c8, .ref c9, .ref c10, .ref c11, .ref c12, .ref c13, .ref c14, .ref c15, .ref c16, .int 0, .int 0, .int 0, .int 0, .int 0, .int 0, .int 0, .int 0, .int 0, .ref c17, .ref c18, .ref c19, .ref c20, .ref c21, .ref c22, .ref c23, .ref c24, .ref c25, .int 0]))] ∧ nv_E (va_A [(c0, .inr (20, [.int 0, .ref c3, .int 0, .int 0, .ref c4, .ref c5, .ref c6, .ref c7, .ref c8, .ref c9, .ref c10, .ref c11, .ref c12, .ref c13, .ref c14, .ref c15, .ref c16, .int 0, .int 0, .int 0, .int 0, .int 0, .int 0, .int 0, .int 0, .int 0, .ref c17, .ref c18, .ref c19, .ref c20, .ref c21, .ref c22, .ref c23, .ref c24, .ref c25, .int 0]))] sz) U)) (va_Ql (fun r _ => ((c1 < 0) ∧ r = (-1)) ∨ ((¬ c1 < 0) ∧ r = (-1)) ∨ False) (fun (_ : Unit) t => True) (va_A [(c0, .inr (20, [.int 0, .ref c3, .int 0, .int 0, .ref c4, .ref c5, .ref c6, .ref c7, .ref c8, .ref c9, .ref c10, .ref c11, .ref c12, .ref c13, .ref c14, .ref c15, .ref c16, .int 0, .int 0, .int 0, .int 0, .int 0, .int 0, .int 0, .int 0, .int 0, .ref c17, .ref c18, .ref c19, .ref c20, .ref c21, .ref c22, .ref c23, .ref c24, .ref c25, .int 0]))] sz)) 0 0 (va_A [(c0, .inr (20, [.int 0, .ref c3, .int 0, .int 0, .ref c4, .ref c5, .ref c6, .ref c7, .ref c8, .ref c9, .ref c10, .ref c11, .ref c12, .ref c13, .ref c14, .ref c15, .ref c16, .int 0, .int 0, .int 0, .int 0, .int 0, .int 0, .int 0, .int 0, .int 0, .ref c17, .ref c18, .ref c19, .ref c20, .ref c21, .ref c22, .ref c23, .ref c24, .ref c25, .int 0]))] sz) := by
  refine Met.ofW (cc := cX19_event) (maxL := 3) (ret := (some .long)) (by decide) rfl ?_
  intro p e s m args below meth c s₁ B hml hv
  obtain ⟨rfl, hsz, hP, hK, hD0, hN⟩ := hv
  have hx := B.exec
  have hb := B.bytes
  have hr := B.returns
  have hts := atoms_spec (ws := ow_k_X19_event) B.pre
  have hown : s.vm.findClass RX19 = some m.cls := findClass_of_methodNamed B.named
  have hlocks := B.notSynchronized
  subst hsz
  have hD := hD0.self (sz := s.heap.size)
  generalize hAe : va_A [(c0, .inr (20, [.int 0, .ref c3, .int 0, .int 0, .ref c4, .ref c5, .ref c6, .ref c7, .ref c8, .ref c9, .ref c10, .ref c11, .ref c12, .ref c13, .ref c14, .ref c15, .ref c16, .int 0, .int 0, .int 0, .int 0, .int 0, .int 0, .int 0, .int 0, .int 0, .ref c17, .ref c18, .ref c19, .ref c20, .ref c21, .ref c22, .ref c23, .ref c24, .ref c25, .int 0]))] s.heap.size = A at hD hN ⊢
  have hA : ∀ q : Nat, s.heap.size ≤ q → A q := fun q h => by rw [← hAe]; exact Or.inr h
  have hS : va_S A s.heap s.heap [] := va_S.rf
  have hl := lv_entry ([.ref c0, .int c1, .int c2]) (n := 3) (Nat.le_of_ble_eq_true rfl)
  rw [lg_entry_eq]
  generalize (lg_sl ([.ref c0, .int c1, .int c2]) ++ List.replicate (3 - (lg_sl ([.ref c0, .int c1, .int c2])).length) Slot.unset).toArray = ls at hl ⊢
  have hl : lv_has ls 3 [(0, .ref c0), (1, .int c1), (2, .int c2)] := hl
  refine lv_aload_n hx hb dX19_event_0 rfl (lv_at hl 0 rfl) ?_
  refine lv_iconst (v := 0) hx hb dX19_event_1 (by decide) ?_
  refine va_put (D := (dC, dI)) (ci := 20) (v := .int 0) (ty := .int) (C := RX19) (T := TX19) (N := 36) hx hb hts hi_k_X19_event_X19 tyX19 tyX19_ok nmX19 hown hK hP hD hS 0 rfl rfl 0 (by decide) (hts (.fieldLink RX19 113 "TimeMachineModel" "code" "I") (List.mem_of_getElem? (i := 1) rfl)) (fun _ h9 => h9) rfl (by decide +kernel) rfl rfl (Nat.le_of_ble_eq_true rfl) dX19_event_2 (fun H locs hP hD hS => ?_)
  have hP : va_P (dC, dI) vwCl [(c0, .inr (20, [.int 0, .ref c3, .int 0, .int 0, .ref c4, .ref c5, .ref c6, .ref c7, .ref c8, .ref c9, .ref c10, .ref c11, .ref c12, .ref c13, .ref c14, .ref c15, .ref c16, .int 0, .int 0, .int 0, .int 0, .int 0, .int 0, .int 0, .int 0, .int 0, .ref c17, .ref c18, .ref c19, .ref c20, .ref c21, .ref c22, .ref c23, .ref c24, .ref c25, .int 0]))] H := hP
  have hD : va_D A [(c0, .inr (20, [.int 0, .ref c3, .int 0, .int 0, .ref c4, .ref c5, .ref c6, .ref c7, .ref c8, .ref c9, .ref c10, .ref c11, .ref c12, .ref c13, .ref c14, .ref c15, .ref c16, .int 0, .int 0, .int 0, .int 0, .int 0, .int 0, .int 0, .int 0, .int 0, .ref c17, .ref c18, .ref c19, .ref c20, .ref c21, .ref c22, .ref c23, .ref c24, .ref c25, .int 0]))] := hD
  refine lv_iload_n hx hb dX19_event_5 rfl (lv_at hl 1 rfl) ?_
  refine lv_if_lt (tgt := 17) hx hb dX19_event_6 (by decide) (fun c_1 => ?_) (fun c_1 => ?_)
  · refine lv_ldc2 hx hb hown (hts (.constantLong RX19 292 (-1)) (List.mem_of_getElem? (i := 2) rfl)) dX19_event_17 ?_
    refine W.widen (k := 0) (n := 0) (by decide +kernel) (by decide +kernel) ?_
    exact W.lret (v := (-1)) hx hb hr (fun t ht hW => ⟨⟨(-1), (), rfl, Or.inl ⟨c_1, rfl⟩, trivial⟩, hS.F ht⟩) hS.2.2 dX19_event_20
  · refine lv_iload_n hx hb dX19_event_9 rfl (lv_at hl 1 rfl) ?_
    refine lv_aload_n hx hb dX19_event_10 rfl (lv_at hl 0 rfl) ?_
    refine va_get (D := (dC, dI)) (ci := 20) (v := .int 0) (C := RX19) (T := TX19) (N := 36) hx hb hts hi_k_X19_event_X19 hown hK hP 0 rfl rfl 22 (by decide) (hts (.fieldLink RX19 192 "TimeMachineModel" "events" "I") (List.mem_of_getElem? (i := 3) rfl)) (fun _ h9 => h9) rfl dX19_event_11 ?_
    refine lv_icmp_lt (tgt := 21) hx hb dX19_event_14 (by decide) (fun h9 => absurd h9 c_1) (fun _ => ?_)
    refine lv_ldc2 hx hb hown (hts (.constantLong RX19 292 (-1)) (List.mem_of_getElem? (i := 2) rfl)) dX19_event_17 ?_
    refine W.widen (k := 0) (n := 0) (by decide +kernel) (by decide +kernel) ?_
    exact W.lret (v := (-1)) hx hb hr (fun t ht hW => ⟨⟨(-1), (), rfl, Or.inr (Or.inl ⟨c_1, rfl⟩), trivial⟩, hS.F ht⟩) hS.2.2 dX19_event_20
