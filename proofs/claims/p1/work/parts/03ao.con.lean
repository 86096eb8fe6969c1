set_option maxHeartbeats 40000000 in
set_option maxRecDepth 100000 in
theorem k_X12_feed (l : Launch) (hlt : l.stackTraces = false) (dC : Nat → ClassId) (dI : Nat → Nat → Nat) (c0 : Nat) (c1 : Nat) (c2 : ClassId) (c3 : Int32) (c4 : Int32) (c5 : Int32) (c6 : Int32) (c7 : Int32) (c8 : Nat) (c9 : Nat) (c10 : Nat) (c11 : Nat) (c12 : Nat) (c13 : Nat) (c14 : Nat) (c15 : Nat) (sz : Nat) : Met l yX12_feed ow_k_X12_feed ({ frames := 1, cells := 0, slots := 0, locals := 22 }) (va_Pc [.ref c0, .int c3, .int c4, .int c5, .int c6, .int c7] (fun U => U.heap.size = sz ∧ va_P (dC, dI) vwCl [(c0, .inr (13, [.ref c1, .int 0, .int 0, .ref c8, .ref c9, .ref c10, .ref c11, .ref c12, .ref c13, .ref c14, .int 0, .ref c15])), (c1, .inl (c2, 32768, .inl (fun _ => 0)))] U.heap ∧ va_K (dC, dI) vwCl [(c2, .byte)] U ∧ va_D (fun _ => True) [(c0, .inr (13, [.ref c1, .int 0, .int 0, .ref c8, .ref c9, .ref c10, .ref c11, .ref c12, .ref c13, .ref c14, .int 0, .ref c15])), (c1, .inl (c2, 32768, .inl (fun _ => 0)))] ∧ nv_E (va_A [(c0, .inr (13, [.ref c1, .int 0, .int 0, .ref c8, .ref c9, .ref c10, .ref c11, .ref c12, .ref c13, .ref c14, .int 0, .ref c15])), (c1, .inl (c2, 32768, .inl (fun _ => 0)))] sz) U)) (va_Qi (fun r _ => r = 20) (fun (_ : Unit) t => ∃ (f10 : Nat → Int32), va_P (dC, dI) vwCl [(c0, .inr (13, [.ref c1, .int 20, .int 1, .ref c8, .ref c9, .ref c10, .ref c11, .ref c12, .ref c13, .ref c14, .int 0, .ref c15])), (c1, .inl (c2, 32768, .inl f10))] t.heap ∧ va_K (dC, dI) vwCl [(c2, .byte)] t ∧ va_D (va_A [(c0, .inr (13, [.ref c1, .int 0, .int 0, .ref c8, .ref c9, .ref c10, .ref c11, .ref c12, .ref c13, .ref c14, .int 0, .ref c15])), (c1, .inl (c2, 32768, .inl (fun _ => 0)))] sz) [(c0, .inr (13, [.ref c1, .int 20, .int 1, .ref c8, .ref c9, .ref c10, .ref c11, .ref c12, .ref c13, .ref c14, .int 0, .ref c15])), (c1, .inl (c2, 32768, .inl f10))]) (va_A [(c0, .inr (13, [.ref c1, .int 0, .int 0, .ref c8, .ref c9, .ref c10, .ref c11, .ref c12, .ref c13, .ref c14, .int 0, .ref c15])), (c1, .inl (c2, 32768, .inl (fun _ => 0)))] sz)) 0 0 (va_A [(c0, .inr (13, [.ref c1, .int 0, .int 0, .ref c8, .ref c9, .ref c10, .ref c11, .ref c12, .ref c13, .ref c14, .int 0, .ref c15])), (c1, .inl (c2, 32768, .inl (fun _ => 0)))] sz) := by
  refine Met.ofW (cc := cX12_feed) (maxL := 6) (ret := (some .int)) (by decide) rfl ?_
  intro p e s m args below meth c s₁ B hml hv
  obtain ⟨rfl, hsz, hP, hK, hD0, hN⟩ := hv
  have hx := B.exec
  have hb := B.bytes
  have hr := B.returns
  have hts := atoms_spec (ws := ow_k_X12_feed) B.pre
  have hown : s.vm.findClass RX12 = some m.cls := findClass_of_methodNamed B.named
  have hlocks := B.notSynchronized
  subst hsz
  have hD := hD0.self (sz := s.heap.size)
  generalize hAe : va_A [(c0, .inr (13, [.ref c1, .int 0, .int 0, .ref c8, .ref c9, .ref c10, .ref c11, .ref c12, .ref c13, .ref c14, .int 0, .ref c15])), (c1, .inl (c2, 32768, .inl (fun _ => 0)))] s.heap.size = A at hD hN ⊢
  have hA : ∀ q : Nat, s.heap.size ≤ q → A q := fun q h => by rw [← hAe]; exact Or.inr h
  have hS : va_S A s.heap s.heap [] := va_S.rf
  have hl := lv_entry ([.ref c0, .int c3, .int c4, .int c5, .int c6, .int c7]) (n := 6) (Nat.le_of_ble_eq_true rfl)
  rw [lg_entry_eq]
  generalize (lg_sl ([.ref c0, .int c3, .int c4, .int c5, .int c6, .int c7]) ++ List.replicate (6 - (lg_sl ([.ref c0, .int c3, .int c4, .int c5, .int c6, .int c7])).length) Slot.unset).toArray = ls at hl ⊢
  have hl : lv_has ls 6 [(0, .ref c0), (1, .int c3), (2, .int c4), (3, .int c5), (4, .int c6), (5, .int c7)] := hl
  refine lv_aload_n hx hb dX12_feed_0 rfl (lv_at hl 0 rfl) ?_
  refine va_get (D := (dC, dI)) (ci := 13) (v := .int 0) (C := RX12) (T := TX12) (N := 12) hx hb hts hi_k_X12_feed_X12 hown hK hP 0 rfl rfl 1 (by decide) (hts (.fieldLink RX12 58 "TimeMachine" "taped" "I") (List.mem_of_getElem? (i := 1) rfl)) (fun _ h9 => h9) rfl dX12_feed_1 ?_
  refine lv_bipush (v := 20) hx hb dX12_feed_4 (by decide) ?_
  refine lv_iadd hx hb dX12_feed_6 ?_
  refine lv_topi (fun z1 ez1 => ?_)
  obtain rfl : z1 = 20 := ez1.trans (by decide)
  refine lv_ldc hx hb hown (hts (.constant RX12 9 (32768)) (List.mem_of_getElem? (i := 2) rfl)) dX12_feed_7 ?_
  refine lv_icmp_le (tgt := 14) hx hb dX12_feed_9 (by decide) (fun _ => ?_) (fun h9 => absurd (by decide) h9)
  refine lv_aload_n hx hb dX12_feed_14 rfl (lv_at hl 0 rfl) ?_
  refine lv_iload_n hx hb dX12_feed_15 rfl (lv_at hl 1 rfl) ?_
  have hPc := hP.sub (ws' := [(c0, .inr (13, [.ref c1, .int 0, .int 0, .ref c8, .ref c9, .ref c10, .ref c11, .ref c12, .ref c13, .ref c14, .int 0, .ref c15])), (c1, .inl (c2, 32768, .inl (fun _ => 0)))]) [0, 1] rfl
  have hDc := hD.sub (ws' := [(c0, .inr (13, [.ref c1, .int 0, .int 0, .ref c8, .ref c9, .ref c10, .ref c11, .ref c12, .ref c13, .ref c14, .int 0, .ref c15])), (c1, .inl (c2, 32768, .inl (fun _ => 0)))]) [0, 1] (by decide) rfl
  have hKc := hK.sub (tys' := [(c2, .byte)]) [0] rfl
  have hFc := va_free (wc := [(c0, .inr (13, [.ref c1, .int 0, .int 0, .ref c8, .ref c9, .ref c10, .ref c11, .ref c12, .ref c13, .ref c14, .int 0, .ref c15])), (c1, .inl (c2, 32768, .inl (fun _ => 0)))]) hD hS hA [0, 1] rfl
  refine va_callv (va_runV (As := [.int c3]) (rest := []) ⟨hx, hb, hml, hown, hts⟩ (k_X12_putOnTape l hlt dC dI c0 c1 c2 c3 c8 c9 c10 c11 c12 c13 c14 c15  s.heap.size) (cwV 1 hts gi_k_X12_feed_0 rfl rfl rfl (by decide +kernel) ⟨Nat.le_of_ble_eq_true rfl, Nat.le_of_ble_eq_true rfl⟩) ⟨fun a U g mk q => by obtain ⟨q0, q1, qP, qK, qD, qN⟩ := q; exact ⟨q0, q1, qP, va_K.moved (u := U) (U := U.calling g mk a) (Vm.Alike.refl U.vm) qK, qD, nv_same rfl rfl qN⟩, va_recv hKc hPc (ci := 13) (q0 := 0) rfl rfl, fun U hU hW => ⟨rfl, by rw [hU], by rw [hU]; exact hPc, va_K.moved hW.alike hKc, hDc.weaken (fun _ _ _ _ => trivial), nv_call hS hFc hU hW hN⟩⟩ rfl rfl hl.1 rfl (lv_room (Nat.le_of_ble_eq_true rfl)) dX12_feed_16 ⟨by decide +kernel, by decide +kernel⟩) hS (fun q _ h => hFc q h) hFc (fun u t H1 locs ht hvm hw hB hz1 hk1 hS => ?_)
  obtain ⟨f2, hP1, hK1, hD1⟩ := hB
  rw [ht] at hP1
  have hK1 := va_K.moved hvm.symm hK1
  obtain ⟨hP, hD⟩ := va_join (wr := []) (w1 := [(c0, .inr (13, [.ref c1, .int 4, .int 0, .ref c8, .ref c9, .ref c10, .ref c11, .ref c12, .ref c13, .ref c14, .int 0, .ref c15])), (c1, .inl (c2, 32768, .inl f2))]) hP hD [0, 1] [] rfl rfl (by decide) (by decide) hk1 hFc hP1 hD1
  have hK := (hK.sub (tys' := []) [] rfl).app hK1
  generalize H1 = H at hP hS ⊢
  have hP : va_P (dC, dI) vwCl [(c0, .inr (13, [.ref c1, .int 4, .int 0, .ref c8, .ref c9, .ref c10, .ref c11, .ref c12, .ref c13, .ref c14, .int 0, .ref c15])), (c1, .inl (c2, 32768, .inl f2))] H := hP
  have hD : va_D A [(c0, .inr (13, [.ref c1, .int 4, .int 0, .ref c8, .ref c9, .ref c10, .ref c11, .ref c12, .ref c13, .ref c14, .int 0, .ref c15])), (c1, .inl (c2, 32768, .inl f2))] := hD
  have hK : va_K (dC, dI) vwCl [(c2, .byte)] s := hK
  refine W.widen (k := 0) (n := 0) (by decide +kernel) (by decide +kernel) ?_
  refine lv_aload_n hx hb dX12_feed_19 rfl (lv_at hl 0 rfl) ?_
  refine lv_iload_n hx hb dX12_feed_20 rfl (lv_at hl 2 rfl) ?_
  have hPc := hP.sub (ws' := [(c0, .inr (13, [.ref c1, .int 4, .int 0, .ref c8, .ref c9, .ref c10, .ref c11, .ref c12, .ref c13, .ref c14, .int 0, .ref c15])), (c1, .inl (c2, 32768, .inl f2))]) [0, 1] rfl
  have hDc := hD.sub (ws' := [(c0, .inr (13, [.ref c1, .int 4, .int 0, .ref c8, .ref c9, .ref c10, .ref c11, .ref c12, .ref c13, .ref c14, .int 0, .ref c15])), (c1, .inl (c2, 32768, .inl f2))]) [0, 1] (by decide) rfl
  have hKc := hK.sub (tys' := [(c2, .byte)]) [0] rfl
  have hFc := va_free (wc := [(c0, .inr (13, [.ref c1, .int 4, .int 0, .ref c8, .ref c9, .ref c10, .ref c11, .ref c12, .ref c13, .ref c14, .int 0, .ref c15])), (c1, .inl (c2, 32768, .inl f2))]) hD hS hA [0, 1] rfl
  refine va_callv (va_runV (As := [.int c4]) (rest := []) ⟨hx, hb, hml, hown, hts⟩ (k_X12_putOnTape_v1 l hlt dC dI c0 c1 c2 f2 c4 c8 c9 c10 c11 c12 c13 c14 c15  H.size) (cwV 1 hts gi_k_X12_feed_1 rfl rfl rfl (by decide +kernel) ⟨Nat.le_of_ble_eq_true rfl, Nat.le_of_ble_eq_true rfl⟩) ⟨fun a U g mk q => by obtain ⟨q0, q1, qP, qK, qD, qN⟩ := q; exact ⟨q0, q1, qP, va_K.moved (u := U) (U := U.calling g mk a) (Vm.Alike.refl U.vm) qK, qD, nv_same rfl rfl qN⟩, va_recv hKc hPc (ci := 13) (q0 := 0) rfl rfl, fun U hU hW => ⟨rfl, by rw [hU], by rw [hU]; exact hPc, va_K.moved hW.alike hKc, hDc.weaken (fun _ _ _ _ => trivial), nv_call hS hFc hU hW hN⟩⟩ rfl rfl hl.1 rfl (lv_room (Nat.le_of_ble_eq_true rfl)) dX12_feed_21 ⟨by decide +kernel, by decide +kernel⟩) hS (fun q _ h => hFc q h) hFc (fun u t H1 locs ht hvm hw hB hz1 hk1 hS => ?_)
  obtain ⟨f4, hP1, hK1, hD1⟩ := hB
  rw [ht] at hP1
  have hK1 := va_K.moved hvm.symm hK1
  obtain ⟨hP, hD⟩ := va_join (wr := []) (w1 := [(c0, .inr (13, [.ref c1, .int 8, .int 0, .ref c8, .ref c9, .ref c10, .ref c11, .ref c12, .ref c13, .ref c14, .int 0, .ref c15])), (c1, .inl (c2, 32768, .inl f4))]) hP hD [0, 1] [] rfl rfl (by decide) (by decide) hk1 hFc hP1 hD1
  have hK := (hK.sub (tys' := []) [] rfl).app hK1
  generalize H1 = H at hP hS ⊢
  have hP : va_P (dC, dI) vwCl [(c0, .inr (13, [.ref c1, .int 8, .int 0, .ref c8, .ref c9, .ref c10, .ref c11, .ref c12, .ref c13, .ref c14, .int 0, .ref c15])), (c1, .inl (c2, 32768, .inl f4))] H := hP
  have hD : va_D A [(c0, .inr (13, [.ref c1, .int 8, .int 0, .ref c8, .ref c9, .ref c10, .ref c11, .ref c12, .ref c13, .ref c14, .int 0, .ref c15])), (c1, .inl (c2, 32768, .inl f4))] := hD
  have hK : va_K (dC, dI) vwCl [(c2, .byte)] s := hK
  refine W.widen (k := 0) (n := 0) (by decide +kernel) (by decide +kernel) ?_
  refine lv_aload_n hx hb dX12_feed_24 rfl (lv_at hl 0 rfl) ?_
  refine lv_iload_n hx hb dX12_feed_25 rfl (lv_at hl 3 rfl) ?_
  have hPc := hP.sub (ws' := [(c0, .inr (13, [.ref c1, .int 8, .int 0, .ref c8, .ref c9, .ref c10, .ref c11, .ref c12, .ref c13, .ref c14, .int 0, .ref c15])), (c1, .inl (c2, 32768, .inl f4))]) [0, 1] rfl
  have hDc := hD.sub (ws' := [(c0, .inr (13, [.ref c1, .int 8, .int 0, .ref c8, .ref c9, .ref c10, .ref c11, .ref c12, .ref c13, .ref c14, .int 0, .ref c15])), (c1, .inl (c2, 32768, .inl f4))]) [0, 1] (by decide) rfl
  have hKc := hK.sub (tys' := [(c2, .byte)]) [0] rfl
  have hFc := va_free (wc := [(c0, .inr (13, [.ref c1, .int 8, .int 0, .ref c8, .ref c9, .ref c10, .ref c11, .ref c12, .ref c13, .ref c14, .int 0, .ref c15])), (c1, .inl (c2, 32768, .inl f4))]) hD hS hA [0, 1] rfl
  refine va_callv (va_runV (As := [.int c5]) (rest := []) ⟨hx, hb, hml, hown, hts⟩ (k_X12_putOnTape_v2 l hlt dC dI c0 c1 c2 f4 c5 c8 c9 c10 c11 c12 c13 c14 c15  H.size) (cwV 1 hts gi_k_X12_feed_2 rfl rfl rfl (by decide +kernel) ⟨Nat.le_of_ble_eq_true rfl, Nat.le_of_ble_eq_true rfl⟩) ⟨fun a U g mk q => by obtain ⟨q0, q1, qP, qK, qD, qN⟩ := q; exact ⟨q0, q1, qP, va_K.moved (u := U) (U := U.calling g mk a) (Vm.Alike.refl U.vm) qK, qD, nv_same rfl rfl qN⟩, va_recv hKc hPc (ci := 13) (q0 := 0) rfl rfl, fun U hU hW => ⟨rfl, by rw [hU], by rw [hU]; exact hPc, va_K.moved hW.alike hKc, hDc.weaken (fun _ _ _ _ => trivial), nv_call hS hFc hU hW hN⟩⟩ rfl rfl hl.1 rfl (lv_room (Nat.le_of_ble_eq_true rfl)) dX12_feed_26 ⟨by decide +kernel, by decide +kernel⟩) hS (fun q _ h => hFc q h) hFc (fun u t H1 locs ht hvm hw hB hz1 hk1 hS => ?_)
  obtain ⟨f6, hP1, hK1, hD1⟩ := hB
  rw [ht] at hP1
  have hK1 := va_K.moved hvm.symm hK1
  obtain ⟨hP, hD⟩ := va_join (wr := []) (w1 := [(c0, .inr (13, [.ref c1, .int 12, .int 0, .ref c8, .ref c9, .ref c10, .ref c11, .ref c12, .ref c13, .ref c14, .int 0, .ref c15])), (c1, .inl (c2, 32768, .inl f6))]) hP hD [0, 1] [] rfl rfl (by decide) (by decide) hk1 hFc hP1 hD1
  have hK := (hK.sub (tys' := []) [] rfl).app hK1
  generalize H1 = H at hP hS ⊢
  have hP : va_P (dC, dI) vwCl [(c0, .inr (13, [.ref c1, .int 12, .int 0, .ref c8, .ref c9, .ref c10, .ref c11, .ref c12, .ref c13, .ref c14, .int 0, .ref c15])), (c1, .inl (c2, 32768, .inl f6))] H := hP
  have hD : va_D A [(c0, .inr (13, [.ref c1, .int 12, .int 0, .ref c8, .ref c9, .ref c10, .ref c11, .ref c12, .ref c13, .ref c14, .int 0, .ref c15])), (c1, .inl (c2, 32768, .inl f6))] := hD
  have hK : va_K (dC, dI) vwCl [(c2, .byte)] s := hK
  refine W.widen (k := 0) (n := 0) (by decide +kernel) (by decide +kernel) ?_
  refine lv_aload_n hx hb dX12_feed_29 rfl (lv_at hl 0 rfl) ?_
  refine lv_iload hx hb dX12_feed_30 (lv_at hl 4 rfl) ?_
  have hPc := hP.sub (ws' := [(c0, .inr (13, [.ref c1, .int 12, .int 0, .ref c8, .ref c9, .ref c10, .ref c11, .ref c12, .ref c13, .ref c14, .int 0, .ref c15])), (c1, .inl (c2, 32768, .inl f6))]) [0, 1] rfl
  have hDc := hD.sub (ws' := [(c0, .inr (13, [.ref c1, .int 12, .int 0, .ref c8, .ref c9, .ref c10, .ref c11, .ref c12, .ref c13, .ref c14, .int 0, .ref c15])), (c1, .inl (c2, 32768, .inl f6))]) [0, 1] (by decide) rfl
  have hKc := hK.sub (tys' := [(c2, .byte)]) [0] rfl
  have hFc := va_free (wc := [(c0, .inr (13, [.ref c1, .int 12, .int 0, .ref c8, .ref c9, .ref c10, .ref c11, .ref c12, .ref c13, .ref c14, .int 0, .ref c15])), (c1, .inl (c2, 32768, .inl f6))]) hD hS hA [0, 1] rfl
  refine va_callv (va_runV (As := [.int c6]) (rest := []) ⟨hx, hb, hml, hown, hts⟩ (k_X12_putOnTape_v3 l hlt dC dI c0 c1 c2 f6 c6 c8 c9 c10 c11 c12 c13 c14 c15  H.size) (cwV 1 hts gi_k_X12_feed_3 rfl rfl rfl (by decide +kernel) ⟨Nat.le_of_ble_eq_true rfl, Nat.le_of_ble_eq_true rfl⟩) ⟨fun a U g mk q => by obtain ⟨q0, q1, qP, qK, qD, qN⟩ := q; exact ⟨q0, q1, qP, va_K.moved (u := U) (U := U.calling g mk a) (Vm.Alike.refl U.vm) qK, qD, nv_same rfl rfl qN⟩, va_recv hKc hPc (ci := 13) (q0 := 0) rfl rfl, fun U hU hW => ⟨rfl, by rw [hU], by rw [hU]; exact hPc, va_K.moved hW.alike hKc, hDc.weaken (fun _ _ _ _ => trivial), nv_call hS hFc hU hW hN⟩⟩ rfl rfl hl.1 rfl (lv_room (Nat.le_of_ble_eq_true rfl)) dX12_feed_32 ⟨by decide +kernel, by decide +kernel⟩) hS (fun q _ h => hFc q h) hFc (fun u t H1 locs ht hvm hw hB hz1 hk1 hS => ?_)
  obtain ⟨f8, hP1, hK1, hD1⟩ := hB
  rw [ht] at hP1
  have hK1 := va_K.moved hvm.symm hK1
  obtain ⟨hP, hD⟩ := va_join (wr := []) (w1 := [(c0, .inr (13, [.ref c1, .int 16, .int 0, .ref c8, .ref c9, .ref c10, .ref c11, .ref c12, .ref c13, .ref c14, .int 0, .ref c15])), (c1, .inl (c2, 32768, .inl f8))]) hP hD [0, 1] [] rfl rfl (by decide) (by decide) hk1 hFc hP1 hD1
  have hK := (hK.sub (tys' := []) [] rfl).app hK1
  generalize H1 = H at hP hS ⊢
  have hP : va_P (dC, dI) vwCl [(c0, .inr (13, [.ref c1, .int 16, .int 0, .ref c8, .ref c9, .ref c10, .ref c11, .ref c12, .ref c13, .ref c14, .int 0, .ref c15])), (c1, .inl (c2, 32768, .inl f8))] H := hP
  have hD : va_D A [(c0, .inr (13, [.ref c1, .int 16, .int 0, .ref c8, .ref c9, .ref c10, .ref c11, .ref c12, .ref c13, .ref c14, .int 0, .ref c15])), (c1, .inl (c2, 32768, .inl f8))] := hD
  have hK : va_K (dC, dI) vwCl [(c2, .byte)] s := hK
  refine W.widen (k := 0) (n := 0) (by decide +kernel) (by decide +kernel) ?_
  refine lv_aload_n hx hb dX12_feed_35 rfl (lv_at hl 0 rfl) ?_
  refine lv_iload hx hb dX12_feed_36 (lv_at hl 5 rfl) ?_
  have hPc := hP.sub (ws' := [(c0, .inr (13, [.ref c1, .int 16, .int 0, .ref c8, .ref c9, .ref c10, .ref c11, .ref c12, .ref c13, .ref c14, .int 0, .ref c15])), (c1, .inl (c2, 32768, .inl f8))]) [0, 1] rfl
  have hDc := hD.sub (ws' := [(c0, .inr (13, [.ref c1, .int 16, .int 0, .ref c8, .ref c9, .ref c10, .ref c11, .ref c12, .ref c13, .ref c14, .int 0, .ref c15])), (c1, .inl (c2, 32768, .inl f8))]) [0, 1] (by decide) rfl
  have hKc := hK.sub (tys' := [(c2, .byte)]) [0] rfl
  have hFc := va_free (wc := [(c0, .inr (13, [.ref c1, .int 16, .int 0, .ref c8, .ref c9, .ref c10, .ref c11, .ref c12, .ref c13, .ref c14, .int 0, .ref c15])), (c1, .inl (c2, 32768, .inl f8))]) hD hS hA [0, 1] rfl
  refine va_callv (va_runV (As := [.int c7]) (rest := []) ⟨hx, hb, hml, hown, hts⟩ (k_X12_putOnTape_v4 l hlt dC dI c0 c1 c2 f8 c7 c8 c9 c10 c11 c12 c13 c14 c15  H.size) (cwV 1 hts gi_k_X12_feed_4 rfl rfl rfl (by decide +kernel) ⟨Nat.le_of_ble_eq_true rfl, Nat.le_of_ble_eq_true rfl⟩) ⟨fun a U g mk q => by obtain ⟨q0, q1, qP, qK, qD, qN⟩ := q; exact ⟨q0, q1, qP, va_K.moved (u := U) (U := U.calling g mk a) (Vm.Alike.refl U.vm) qK, qD, nv_same rfl rfl qN⟩, va_recv hKc hPc (ci := 13) (q0 := 0) rfl rfl, fun U hU hW => ⟨rfl, by rw [hU], by rw [hU]; exact hPc, va_K.moved hW.alike hKc, hDc.weaken (fun _ _ _ _ => trivial), nv_call hS hFc hU hW hN⟩⟩ rfl rfl hl.1 rfl (lv_room (Nat.le_of_ble_eq_true rfl)) dX12_feed_38 ⟨by decide +kernel, by decide +kernel⟩) hS (fun q _ h => hFc q h) hFc (fun u t H1 locs ht hvm hw hB hz1 hk1 hS => ?_)
  obtain ⟨f10, hP1, hK1, hD1⟩ := hB
  rw [ht] at hP1
  have hK1 := va_K.moved hvm.symm hK1
  obtain ⟨hP, hD⟩ := va_join (wr := []) (w1 := [(c0, .inr (13, [.ref c1, .int 20, .int 0, .ref c8, .ref c9, .ref c10, .ref c11, .ref c12, .ref c13, .ref c14, .int 0, .ref c15])), (c1, .inl (c2, 32768, .inl f10))]) hP hD [0, 1] [] rfl rfl (by decide) (by decide) hk1 hFc hP1 hD1
  have hK := (hK.sub (tys' := []) [] rfl).app hK1
  generalize H1 = H at hP hS ⊢
  have hP : va_P (dC, dI) vwCl [(c0, .inr (13, [.ref c1, .int 20, .int 0, .ref c8, .ref c9, .ref c10, .ref c11, .ref c12, .ref c13, .ref c14, .int 0, .ref c15])), (c1, .inl (c2, 32768, .inl f10))] H := hP
  have hD : va_D A [(c0, .inr (13, [.ref c1, .int 20, .int 0, .ref c8, .ref c9, .ref c10, .ref c11, .ref c12, .ref c13, .ref c14, .int 0, .ref c15])), (c1, .inl (c2, 32768, .inl f10))] := hD
  have hK : va_K (dC, dI) vwCl [(c2, .byte)] s := hK
  refine W.widen (k := 0) (n := 0) (by decide +kernel) (by decide +kernel) ?_
  refine lv_aload_n hx hb dX12_feed_41 rfl (lv_at hl 0 rfl) ?_
  refine lv_iconst (v := 1) hx hb dX12_feed_42 (by decide) ?_
  refine va_put (D := (dC, dI)) (ci := 13) (v := .int 1) (ty := .boolean) (C := RX12) (T := TX12) (N := 12) hx hb hts hi_k_X12_feed_X12 tyX12 tyX12_ok nmX12 hown hK hP hD hS 0 rfl rfl 2 (by decide) (hts (.fieldLink RX12 66 "TimeMachine" "fresh" "Z") (List.mem_of_getElem? (i := 7) rfl)) (fun _ h9 => h9) rfl (by decide +kernel) rfl rfl (Nat.le_of_ble_eq_true rfl) dX12_feed_43 (fun H locs hP hD hS => ?_)
  have hP : va_P (dC, dI) vwCl [(c0, .inr (13, [.ref c1, .int 20, .int 1, .ref c8, .ref c9, .ref c10, .ref c11, .ref c12, .ref c13, .ref c14, .int 0, .ref c15])), (c1, .inl (c2, 32768, .inl f10))] H := hP
  have hD : va_D A [(c0, .inr (13, [.ref c1, .int 20, .int 1, .ref c8, .ref c9, .ref c10, .ref c11, .ref c12, .ref c13, .ref c14, .int 0, .ref c15])), (c1, .inl (c2, 32768, .inl f10))] := hD
  refine lv_aload_n hx hb dX12_feed_46 rfl (lv_at hl 0 rfl) ?_
  refine va_get (D := (dC, dI)) (ci := 13) (v := .int 20) (C := RX12) (T := TX12) (N := 12) hx hb hts hi_k_X12_feed_X12 hown hK hP 0 rfl rfl 1 (by decide) (hts (.fieldLink RX12 58 "TimeMachine" "taped" "I") (List.mem_of_getElem? (i := 1) rfl)) (fun _ h9 => h9) rfl dX12_feed_47 ?_
  have hP9 := hP.sub (ws' := [(c0, .inr (13, [.ref c1, .int 20, .int 1, .ref c8, .ref c9, .ref c10, .ref c11, .ref c12, .ref c13, .ref c14, .int 0, .ref c15])), (c1, .inl (c2, 32768, .inl f10))]) [0, 1] rfl
  have hD9 := hD.sub (ws' := [(c0, .inr (13, [.ref c1, .int 20, .int 1, .ref c8, .ref c9, .ref c10, .ref c11, .ref c12, .ref c13, .ref c14, .int 0, .ref c15])), (c1, .inl (c2, 32768, .inl f10))]) [0, 1] (by decide) rfl
  have hK9 := hK.sub (tys' := [(c2, .byte)]) [0] rfl
  refine W.widen (k := 0) (n := 0) (by decide +kernel) (by decide +kernel) ?_
  exact W.iret (v := 20) hx hb hr (fun t ht hW => ⟨⟨20, (), rfl, rfl, f10, by rw [ht]; exact hP9, va_K.moved hW.alike hK9, hD9⟩, hS.F ht⟩) hS.2.2 dX12_feed_50
def ow_k_X19_feed : List Cond := .code yX19_feed cX19_feed 8 (some .int) :: ([.fieldLink RX19 113 "TimeMachineModel" "code" "I", .fieldLink RX19 117 "TimeMachineModel" "taped" "I", .constant RX19 9 (32768), .fieldLink RX19 10 "TimeMachineModel" "tape" "[I", .fieldLink RX19 120 "TimeMachineModel" "fed" "Z"] ++ (u_ws RX19 TX19 36 ++ []))
theorem gd_k_X19_feed : ∀ w ∈ ow_k_X19_feed, (w.onTables && w.keeps) = true ∨ ∃ ty, w = Cond.arrayClass ty := List.forall_mem_cons.mpr ⟨good_of_word rfl, List.forall_mem_append.mpr ⟨fun w h => good_of_word (List.all_eq_true.mp (by decide +kernel) w h), List.forall_mem_append.mpr ⟨gu_X19, fun _ h => nomatch h⟩⟩⟩
theorem hi_k_X19_feed_X19 : ∀ w ∈ u_ws RX19 TX19 36, w ∈ ow_k_X19_feed := fun w h => List.mem_cons_of_mem _ (List.mem_append_right _ (List.mem_append_left _ h))
set_option maxHeartbeats 40000000 in
set_option maxRecDepth 100000 in
theorem k_X19_feed_s0 {p : Program} {l : Launch} {e : Env} {s : State} {m : MethodId} {args : Array Value} {below : List Frame} {meth : Method} {c : Code} {Q : State → Prop} {A : Nat → Prop} (dC : Nat → ClassId) (dI : Nat → Nat → Nat) (c0 : Nat) (c1 : Nat) (c2 : ClassId) (c3 : Int32) (c4 : Int32) (c5 : Int32) (c6 : Int32) (c7 : Int32) (c8 : Nat) (c9 : Nat) (c10 : Nat) (c11 : Nat) (c12 : Nat) (c13 : Nat) (c14 : Nat) (c15 : Nat) (c16 : Nat) (c17 : Nat) (c18 : Nat) (c19 : Nat) (c20 : Nat) (c21 : Nat) (c22 : Nat) (c23 : Nat) (c24 : Nat) (c25 : Nat) (c26 : Nat) (c27 : Nat) (c28 : Nat) (c29 : Nat) (hlt : l.stackTraces = false) (hx : p.tables.exec = Jvm.exec) (hb : c.code = cX19_feed) (hml : c.maxLocals = 8) (hown : s.vm.findClass RX19 = some m.cls) (hts : ∀ w ∈ ow_k_X19_feed, w.before args s = true) (hN : nv_E A s) (hA : ∀ q : Nat, s.heap.size ≤ q → A q) {H : Heap} {locs : List Loc} {ls : Array Slot} (hK : va_K (dC, dI) vwCl [(c2, .int)] s) (hP : va_P (dC, dI) vwCl [(c0, .inr (20, [.int 0, .ref c1, .int 0, .int 0, .ref c8, .ref c9, .ref c10, .ref c11, .ref c12, .ref c13, .ref c14, .ref c15, .ref c16, .ref c17, .ref c18, .ref c19, .ref c20, .int 0, .int 0, .int 0, .int 0, .int 0, .int 0, .int 0, .int 0, .int 0, .ref c21, .ref c22, .ref c23, .ref c24, .ref c25, .ref c26, .ref c27, .ref c28, .ref c29, .int 0])), (c1, .inl (c2, 32768, .inl (fun _ => 0)))] H) (hD : va_D A [(c0, .inr (20, [.int 0, .ref c1, .int 0, .int 0, .ref c8, .ref c9, .ref c10, .ref c11, .ref c12, .ref c13, .ref c14, .ref c15, .ref c16, .ref c17, .ref c18, .ref c19, .ref c20, .int 0, .int 0, .int 0, .int 0, .int 0, .int 0, .int 0, .int 0, .int 0, .ref c21, .ref c22, .ref c23, .ref c24, .ref c25, .ref c26, .ref c27, .ref c28, .ref c29, .int 0])), (c1, .inl (c2, 32768, .inl (fun _ => 0)))]) (hS : va_S A s.heap H locs) (hl : lv_has ls 8 [(0, .ref c0), (1, .int c3), (2, .int c4), (3, .int c5), (4, .int c6), (5, .int c7)]) (kk : ∀ (f14 : Nat → Int32) (H : Heap) (locs : List Loc) (ls : Array Slot), va_K (dC, dI) vwCl [(c2, .int)] s → va_P (dC, dI) vwCl [(c0, .inr (20, [.int 0, .ref c1, .int 2, .int 0, .ref c8, .ref c9, .ref c10, .ref c11, .ref c12, .ref c13, .ref c14, .ref c15, .ref c16, .ref c17, .ref c18, .ref c19, .ref c20, .int 0, .int 0, .int 0, .int 0, .int 0, .int 0, .int 0, .int 0, .int 0, .ref c21, .ref c22, .ref c23, .ref c24, .ref c25, .ref c26, .ref c27, .ref c28, .ref c29, .int 0])), (c1, .inl (c2, 32768, .inl f14))] H → va_D A [(c0, .inr (20, [.int 0, .ref c1, .int 2, .int 0, .ref c8, .ref c9, .ref c10, .ref c11, .ref c12, .ref c13, .ref c14, .ref c15, .ref c16, .ref c17, .ref c18, .ref c19, .ref c20, .int 0, .int 0, .int 0, .int 0, .int 0, .int 0, .int 0, .int 0, .int 0, .ref c21, .ref c22, .ref c23, .ref c24, .ref c25, .ref c26, .ref c27, .ref c28, .ref c29, .int 0])), (c1, .inl (c2, 32768, .inl f14))] → va_S A s.heap H locs → lv_has ls 8 [(7, .int c3), (6, .int 2), (0, .ref c0), (1, .int c3), (2, .int c4), (3, .int c5), (4, .int c6), (5, .int c7)] → W p l e (headSpec ow_k_X19_feed ({ frames := 0, cells := 0, slots := 0, locals := 0 })).room s m args below meth c H locs 0 0 Q (F0 m 85 ls [.int 2, .ref c1])) : W p l e (headSpec ow_k_X19_feed ({ frames := 0, cells := 0, slots := 0, locals := 0 })).room s m args below meth c H locs 0 0 Q (F0 m 0 ls []) := by
  refine lv_aload_n hx hb dX19_feed_0 rfl (lv_at hl 0 rfl) ?_
  refine lv_iconst (v := 0) hx hb dX19_feed_1 (by decide) ?_
  refine va_put (D := (dC, dI)) (ci := 20) (v := .int 0) (ty := .int) (C := RX19) (T := TX19) (N := 36) hx hb hts hi_k_X19_feed_X19 tyX19 tyX19_ok nmX19 hown hK hP hD hS 0 rfl rfl 0 (by decide) (hts (.fieldLink RX19 113 "TimeMachineModel" "code" "I") (List.mem_of_getElem? (i := 1) rfl)) (fun _ h9 => h9) rfl (by decide +kernel) rfl rfl (Nat.le_of_ble_eq_true rfl) dX19_feed_2 (fun H locs hP hD hS => ?_)
  have hP : va_P (dC, dI) vwCl [(c0, .inr (20, [.int 0, .ref c1, .int 0, .int 0, .ref c8, .ref c9, .ref c10, .ref c11, .ref c12, .ref c13, .ref c14, .ref c15, .ref c16, .ref c17, .ref c18, .ref c19, .ref c20, .int 0, .int 0, .int 0, .int 0, .int 0, .int 0, .int 0, .int 0, .int 0, .ref c21, .ref c22, .ref c23, .ref c24, .ref c25, .ref c26, .ref c27, .ref c28, .ref c29, .int 0])), (c1, .inl (c2, 32768, .inl (fun _ => 0)))] H := hP
  have hD : va_D A [(c0, .inr (20, [.int 0, .ref c1, .int 0, .int 0, .ref c8, .ref c9, .ref c10, .ref c11, .ref c12, .ref c13, .ref c14, .ref c15, .ref c16, .ref c17, .ref c18, .ref c19, .ref c20, .int 0, .int 0, .int 0, .int 0, .int 0, .int 0, .int 0, .int 0, .int 0, .ref c21, .ref c22, .ref c23, .ref c24, .ref c25, .ref c26, .ref c27, .ref c28, .ref c29, .int 0])), (c1, .inl (c2, 32768, .inl (fun _ => 0)))] := hD
  refine lv_aload_n hx hb dX19_feed_5 rfl (lv_at hl 0 rfl) ?_
  refine va_get (D := (dC, dI)) (ci := 20) (v := .int 0) (C := RX19) (T := TX19) (N := 36) hx hb hts hi_k_X19_feed_X19 hown hK hP 0 rfl rfl 2 (by decide) (hts (.fieldLink RX19 117 "TimeMachineModel" "taped" "I") (List.mem_of_getElem? (i := 2) rfl)) (fun _ h9 => h9) rfl dX19_feed_6 ?_
  refine lv_bipush (v := 20) hx hb dX19_feed_9 (by decide) ?_
  refine lv_iadd hx hb dX19_feed_11 ?_
  refine lv_topi (fun z1 ez1 => ?_)
  obtain rfl : z1 = 20 := ez1.trans (by decide)
  refine lv_ldc hx hb hown (hts (.constant RX19 9 (32768)) (List.mem_of_getElem? (i := 3) rfl)) dX19_feed_12 ?_
  refine lv_icmp_le (tgt := 19) hx hb dX19_feed_14 (by decide) (fun _ => ?_) (fun h9 => absurd (by decide) h9)
  refine lv_iconst (v := 0) hx hb dX19_feed_19 (by decide) ?_
  refine lv_istore (lv' := [(6, .int 0), (0, .ref c0), (1, .int c3), (2, .int c4), (3, .int c5), (4, .int c6), (5, .int c7)]) hx hb dX19_feed_20 hl (by decide) rfl (fun ls hl => ?_)
  refine lv_iload hx hb dX19_feed_22 (lv_at hl 0 rfl) ?_
  refine lv_bipush (v := 20) hx hb dX19_feed_24 (by decide) ?_
  refine lv_icmp_ge (tgt := 119) hx hb dX19_feed_26 (by decide) (fun h9 => absurd h9 (by decide)) (fun _ => ?_)
  refine lv_iload hx hb dX19_feed_29 (lv_at hl 0 rfl) ?_
  refine lv_iconst (v := 4) hx hb dX19_feed_31 (by decide) ?_
  refine lv_icmp_ge (tgt := 39) hx hb dX19_feed_32 (by decide) (fun h9 => absurd h9 (by decide)) (fun _ => ?_)
  refine lv_iload_n hx hb dX19_feed_35 rfl (lv_at hl 2 rfl) ?_
  refine lv_goto (tgt := 75) hx hb dX19_feed_36 (by decide) ?_
  refine lv_istore (lv' := [(7, .int c3), (6, .int 0), (0, .ref c0), (1, .int c3), (2, .int c4), (3, .int c5), (4, .int c6), (5, .int c7)]) hx hb dX19_feed_75 hl (by decide) rfl (fun ls hl => ?_)
  refine lv_aload_n hx hb dX19_feed_77 rfl (lv_at hl 2 rfl) ?_
  refine va_get (D := (dC, dI)) (ci := 20) (v := .ref c1) (C := RX19) (T := TX19) (N := 36) hx hb hts hi_k_X19_feed_X19 hown hK hP 0 rfl rfl 1 (by decide) (hts (.fieldLink RX19 10 "TimeMachineModel" "tape" "[I") (List.mem_of_getElem? (i := 4) rfl)) (fun _ h9 => h9) rfl dX19_feed_78 ?_
  refine lv_aload_n hx hb dX19_feed_81 rfl (lv_at hl 2 rfl) ?_
  refine va_get (D := (dC, dI)) (ci := 20) (v := .int 0) (C := RX19) (T := TX19) (N := 36) hx hb hts hi_k_X19_feed_X19 hown hK hP 0 rfl rfl 2 (by decide) (hts (.fieldLink RX19 117 "TimeMachineModel" "taped" "I") (List.mem_of_getElem? (i := 2) rfl)) (fun _ h9 => h9) rfl dX19_feed_82 ?_
  refine lv_iload hx hb dX19_feed_85 (lv_at hl 0 rfl) ?_
  refine lv_bipush (v := 24) hx hb dX19_feed_87 (by decide) ?_
  refine lv_bipush (v := 8) hx hb dX19_feed_89 (by decide) ?_
  refine lv_iload hx hb dX19_feed_91 (lv_at hl 1 rfl) ?_
  refine lv_iconst (v := 4) hx hb dX19_feed_93 (by decide) ?_
  refine lv_irem hx hb dX19_feed_94 (by decide) ?_
  refine lv_topi (fun z2 ez2 => ?_)
  obtain rfl : z2 = 0 := ez2.trans (by decide)
  refine lv_imul hx hb dX19_feed_95 ?_
  refine lv_topi (fun z3 ez3 => ?_)
  obtain rfl : z3 = 0 := ez3.trans (by decide)
  refine lv_isub hx hb dX19_feed_96 ?_
  refine lv_topi (fun z4 ez4 => ?_)
  obtain rfl : z4 = 24 := ez4.trans (by decide)
  refine lv_ishr hx hb dX19_feed_97 ?_
  refine lv_topi (fun z5 ez5 => ?_)
  refine lv_sipush (v := 255) hx hb dX19_feed_98 (by decide) ?_
  refine lv_iand hx hb dX19_feed_101 ?_
  refine lv_topi (fun z6 ez6 => ?_)
  refine va_iast (i := 0) (x := z6) hx hb hK hP hD hS 1 0 rfl rfl (vp_in_iff.mpr ⟨by decide, by decide⟩) dX19_feed_102 (fun H locs hP hD hS => ?_)
  generalize hf7 : upd (fun _ => 0) (Int32.toNatClampNeg 0) z6 = f7 at hP hD
  have hP : va_P (dC, dI) vwCl [(c0, .inr (20, [.int 0, .ref c1, .int 0, .int 0, .ref c8, .ref c9, .ref c10, .ref c11, .ref c12, .ref c13, .ref c14, .ref c15, .ref c16, .ref c17, .ref c18, .ref c19, .ref c20, .int 0, .int 0, .int 0, .int 0, .int 0, .int 0, .int 0, .int 0, .int 0, .ref c21, .ref c22, .ref c23, .ref c24, .ref c25, .ref c26, .ref c27, .ref c28, .ref c29, .int 0])), (c1, .inl (c2, 32768, .inl f7))] H := hP
  have hD : va_D A [(c0, .inr (20, [.int 0, .ref c1, .int 0, .int 0, .ref c8, .ref c9, .ref c10, .ref c11, .ref c12, .ref c13, .ref c14, .ref c15, .ref c16, .ref c17, .ref c18, .ref c19, .ref c20, .int 0, .int 0, .int 0, .int 0, .int 0, .int 0, .int 0, .int 0, .int 0, .ref c21, .ref c22, .ref c23, .ref c24, .ref c25, .ref c26, .ref c27, .ref c28, .ref c29, .int 0])), (c1, .inl (c2, 32768, .inl f7))] := hD
  refine lv_aload_n hx hb dX19_feed_103 rfl (lv_at hl 2 rfl) ?_
  refine lv_dup hx hb dX19_feed_104 rfl ?_
  refine va_get (D := (dC, dI)) (ci := 20) (v := .int 0) (C := RX19) (T := TX19) (N := 36) hx hb hts hi_k_X19_feed_X19 hown hK hP 0 rfl rfl 2 (by decide) (hts (.fieldLink RX19 117 "TimeMachineModel" "taped" "I") (List.mem_of_getElem? (i := 2) rfl)) (fun _ h9 => h9) rfl dX19_feed_105 ?_
  refine lv_iconst (v := 1) hx hb dX19_feed_108 (by decide) ?_
  refine lv_iadd hx hb dX19_feed_109 ?_
  refine lv_topi (fun z8 ez8 => ?_)
  obtain rfl : z8 = 1 := ez8.trans (by decide)
  refine va_put (D := (dC, dI)) (ci := 20) (v := .int 1) (ty := .int) (C := RX19) (T := TX19) (N := 36) hx hb hts hi_k_X19_feed_X19 tyX19 tyX19_ok nmX19 hown hK hP hD hS 0 rfl rfl 2 (by decide) (hts (.fieldLink RX19 117 "TimeMachineModel" "taped" "I") (List.mem_of_getElem? (i := 2) rfl)) (fun _ h9 => h9) rfl (by decide +kernel) rfl rfl (Nat.le_of_ble_eq_true rfl) dX19_feed_110 (fun H locs hP hD hS => ?_)
  have hP : va_P (dC, dI) vwCl [(c0, .inr (20, [.int 0, .ref c1, .int 1, .int 0, .ref c8, .ref c9, .ref c10, .ref c11, .ref c12, .ref c13, .ref c14, .ref c15, .ref c16, .ref c17, .ref c18, .ref c19, .ref c20, .int 0, .int 0, .int 0, .int 0, .int 0, .int 0, .int 0, .int 0, .int 0, .ref c21, .ref c22, .ref c23, .ref c24, .ref c25, .ref c26, .ref c27, .ref c28, .ref c29, .int 0])), (c1, .inl (c2, 32768, .inl f7))] H := hP
  have hD : va_D A [(c0, .inr (20, [.int 0, .ref c1, .int 1, .int 0, .ref c8, .ref c9, .ref c10, .ref c11, .ref c12, .ref c13, .ref c14, .ref c15, .ref c16, .ref c17, .ref c18, .ref c19, .ref c20, .int 0, .int 0, .int 0, .int 0, .int 0, .int 0, .int 0, .int 0, .int 0, .ref c21, .ref c22, .ref c23, .ref c24, .ref c25, .ref c26, .ref c27, .ref c28, .ref c29, .int 0])), (c1, .inl (c2, 32768, .inl f7))] := hD
  refine lv_iinc (v := 1) (lv' := [(6, .int 1), (7, .int c3), (0, .ref c0), (1, .int c3), (2, .int c4), (3, .int c5), (4, .int c6), (5, .int c7)]) hx hb dX19_feed_113 hl (k := 1) rfl (by decide) (by decide) rfl (fun ls hl => ?_)
  refine lv_goto (tgt := 22) hx hb dX19_feed_116 (by decide) ?_
  refine lv_iload hx hb dX19_feed_22 (lv_at hl 0 rfl) ?_
  refine lv_bipush (v := 20) hx hb dX19_feed_24 (by decide) ?_
  refine lv_icmp_ge (tgt := 119) hx hb dX19_feed_26 (by decide) (fun h9 => absurd h9 (by decide)) (fun _ => ?_)
  refine lv_iload hx hb dX19_feed_29 (lv_at hl 0 rfl) ?_
  refine lv_iconst (v := 4) hx hb dX19_feed_31 (by decide) ?_
  refine lv_icmp_ge (tgt := 39) hx hb dX19_feed_32 (by decide) (fun h9 => absurd h9 (by decide)) (fun _ => ?_)
  refine lv_iload_n hx hb dX19_feed_35 rfl (lv_at hl 3 rfl) ?_
  refine lv_goto (tgt := 75) hx hb dX19_feed_36 (by decide) ?_
  refine lv_istore (lv' := [(7, .int c3), (6, .int 1), (0, .ref c0), (1, .int c3), (2, .int c4), (3, .int c5), (4, .int c6), (5, .int c7)]) hx hb dX19_feed_75 hl (by decide) rfl (fun ls hl => ?_)
  refine lv_aload_n hx hb dX19_feed_77 rfl (lv_at hl 2 rfl) ?_
  refine va_get (D := (dC, dI)) (ci := 20) (v := .ref c1) (C := RX19) (T := TX19) (N := 36) hx hb hts hi_k_X19_feed_X19 hown hK hP 0 rfl rfl 1 (by decide) (hts (.fieldLink RX19 10 "TimeMachineModel" "tape" "[I") (List.mem_of_getElem? (i := 4) rfl)) (fun _ h9 => h9) rfl dX19_feed_78 ?_
  refine lv_aload_n hx hb dX19_feed_81 rfl (lv_at hl 2 rfl) ?_
  refine va_get (D := (dC, dI)) (ci := 20) (v := .int 1) (C := RX19) (T := TX19) (N := 36) hx hb hts hi_k_X19_feed_X19 hown hK hP 0 rfl rfl 2 (by decide) (hts (.fieldLink RX19 117 "TimeMachineModel" "taped" "I") (List.mem_of_getElem? (i := 2) rfl)) (fun _ h9 => h9) rfl dX19_feed_82 ?_
  refine lv_iload hx hb dX19_feed_85 (lv_at hl 0 rfl) ?_
  refine lv_bipush (v := 24) hx hb dX19_feed_87 (by decide) ?_
  refine lv_bipush (v := 8) hx hb dX19_feed_89 (by decide) ?_
  refine lv_iload hx hb dX19_feed_91 (lv_at hl 1 rfl) ?_
  refine lv_iconst (v := 4) hx hb dX19_feed_93 (by decide) ?_
  refine lv_irem hx hb dX19_feed_94 (by decide) ?_
  refine lv_topi (fun z9 ez9 => ?_)
  obtain rfl : z9 = 1 := ez9.trans (by decide)
  refine lv_imul hx hb dX19_feed_95 ?_
  refine lv_topi (fun z10 ez10 => ?_)
  obtain rfl : z10 = 8 := ez10.trans (by decide)
  refine lv_isub hx hb dX19_feed_96 ?_
  refine lv_topi (fun z11 ez11 => ?_)
  obtain rfl : z11 = 16 := ez11.trans (by decide)
  refine lv_ishr hx hb dX19_feed_97 ?_
  refine lv_topi (fun z12 ez12 => ?_)
  refine lv_sipush (v := 255) hx hb dX19_feed_98 (by decide) ?_
  refine lv_iand hx hb dX19_feed_101 ?_
  refine lv_topi (fun z13 ez13 => ?_)
  refine va_iast (i := 1) (x := z13) hx hb hK hP hD hS 1 0 rfl rfl (vp_in_iff.mpr ⟨by decide, by decide⟩) dX19_feed_102 (fun H locs hP hD hS => ?_)
  generalize hf14 : upd f7 (Int32.toNatClampNeg 1) z13 = f14 at hP hD
  have hP : va_P (dC, dI) vwCl [(c0, .inr (20, [.int 0, .ref c1, .int 1, .int 0, .ref c8, .ref c9, .ref c10, .ref c11, .ref c12, .ref c13, .ref c14, .ref c15, .ref c16, .ref c17, .ref c18, .ref c19, .ref c20, .int 0, .int 0, .int 0, .int 0, .int 0, .int 0, .int 0, .int 0, .int 0, .ref c21, .ref c22, .ref c23, .ref c24, .ref c25, .ref c26, .ref c27, .ref c28, .ref c29, .int 0])), (c1, .inl (c2, 32768, .inl f14))] H := hP
  have hD : va_D A [(c0, .inr (20, [.int 0, .ref c1, .int 1, .int 0, .ref c8, .ref c9, .ref c10, .ref c11, .ref c12, .ref c13, .ref c14, .ref c15, .ref c16, .ref c17, .ref c18, .ref c19, .ref c20, .int 0, .int 0, .int 0, .int 0, .int 0, .int 0, .int 0, .int 0, .int 0, .ref c21, .ref c22, .ref c23, .ref c24, .ref c25, .ref c26, .ref c27, .ref c28, .ref c29, .int 0])), (c1, .inl (c2, 32768, .inl f14))] := hD
  refine lv_aload_n hx hb dX19_feed_103 rfl (lv_at hl 2 rfl) ?_
  refine lv_dup hx hb dX19_feed_104 rfl ?_
  refine va_get (D := (dC, dI)) (ci := 20) (v := .int 1) (C := RX19) (T := TX19) (N := 36) hx hb hts hi_k_X19_feed_X19 hown hK hP 0 rfl rfl 2 (by decide) (hts (.fieldLink RX19 117 "TimeMachineModel" "taped" "I") (List.mem_of_getElem? (i := 2) rfl)) (fun _ h9 => h9) rfl dX19_feed_105 ?_
  refine lv_iconst (v := 1) hx hb dX19_feed_108 (by decide) ?_
  refine lv_iadd hx hb dX19_feed_109 ?_
  refine lv_topi (fun z15 ez15 => ?_)
  obtain rfl : z15 = 2 := ez15.trans (by decide)
  refine va_put (D := (dC, dI)) (ci := 20) (v := .int 2) (ty := .int) (C := RX19) (T := TX19) (N := 36) hx hb hts hi_k_X19_feed_X19 tyX19 tyX19_ok nmX19 hown hK hP hD hS 0 rfl rfl 2 (by decide) (hts (.fieldLink RX19 117 "TimeMachineModel" "taped" "I") (List.mem_of_getElem? (i := 2) rfl)) (fun _ h9 => h9) rfl (by decide +kernel) rfl rfl (Nat.le_of_ble_eq_true rfl) dX19_feed_110 (fun H locs hP hD hS => ?_)
  have hP : va_P (dC, dI) vwCl [(c0, .inr (20, [.int 0, .ref c1, .int 2, .int 0, .ref c8, .ref c9, .ref c10, .ref c11, .ref c12, .ref c13, .ref c14, .ref c15, .ref c16, .ref c17, .ref c18, .ref c19, .ref c20, .int 0, .int 0, .int 0, .int 0, .int 0, .int 0, .int 0, .int 0, .int 0, .ref c21, .ref c22, .ref c23, .ref c24, .ref c25, .ref c26, .ref c27, .ref c28, .ref c29, .int 0])), (c1, .inl (c2, 32768, .inl f14))] H := hP
  have hD : va_D A [(c0, .inr (20, [.int 0, .ref c1, .int 2, .int 0, .ref c8, .ref c9, .ref c10, .ref c11, .ref c12, .ref c13, .ref c14, .ref c15, .ref c16, .ref c17, .ref c18, .ref c19, .ref c20, .int 0, .int 0, .int 0, .int 0, .int 0, .int 0, .int 0, .int 0, .int 0, .ref c21, .ref c22, .ref c23, .ref c24, .ref c25, .ref c26, .ref c27, .ref c28, .ref c29, .int 0])), (c1, .inl (c2, 32768, .inl f14))] := hD
  refine lv_iinc (v := 2) (lv' := [(6, .int 2), (7, .int c3), (0, .ref c0), (1, .int c3), (2, .int c4), (3, .int c5), (4, .int c6), (5, .int c7)]) hx hb dX19_feed_113 hl (k := 1) rfl (by decide) (by decide) rfl (fun ls hl => ?_)
  refine lv_goto (tgt := 22) hx hb dX19_feed_116 (by decide) ?_
  refine lv_iload hx hb dX19_feed_22 (lv_at hl 0 rfl) ?_
  refine lv_bipush (v := 20) hx hb dX19_feed_24 (by decide) ?_
  refine lv_icmp_ge (tgt := 119) hx hb dX19_feed_26 (by decide) (fun h9 => absurd h9 (by decide)) (fun _ => ?_)
  refine lv_iload hx hb dX19_feed_29 (lv_at hl 0 rfl) ?_
  refine lv_iconst (v := 4) hx hb dX19_feed_31 (by decide) ?_
  refine lv_icmp_ge (tgt := 39) hx hb dX19_feed_32 (by decide) (fun h9 => absurd h9 (by decide)) (fun _ => ?_)
  refine lv_iload_n hx hb dX19_feed_35 rfl (lv_at hl 3 rfl) ?_
  refine lv_goto (tgt := 75) hx hb dX19_feed_36 (by decide) ?_
  refine lv_istore (lv' := [(7, .int c3), (6, .int 2), (0, .ref c0), (1, .int c3), (2, .int c4), (3, .int c5), (4, .int c6), (5, .int c7)]) hx hb dX19_feed_75 hl (by decide) rfl (fun ls hl => ?_)
  refine lv_aload_n hx hb dX19_feed_77 rfl (lv_at hl 2 rfl) ?_
  refine va_get (D := (dC, dI)) (ci := 20) (v := .ref c1) (C := RX19) (T := TX19) (N := 36) hx hb hts hi_k_X19_feed_X19 hown hK hP 0 rfl rfl 1 (by decide) (hts (.fieldLink RX19 10 "TimeMachineModel" "tape" "[I") (List.mem_of_getElem? (i := 4) rfl)) (fun _ h9 => h9) rfl dX19_feed_78 ?_
  refine lv_aload_n hx hb dX19_feed_81 rfl (lv_at hl 2 rfl) ?_
  refine va_get (D := (dC, dI)) (ci := 20) (v := .int 2) (C := RX19) (T := TX19) (N := 36) hx hb hts hi_k_X19_feed_X19 hown hK hP 0 rfl rfl 2 (by decide) (hts (.fieldLink RX19 117 "TimeMachineModel" "taped" "I") (List.mem_of_getElem? (i := 2) rfl)) (fun _ h9 => h9) rfl dX19_feed_82 ?_
  exact kk f14 _ _ _ hK hP hD hS hl

set_option maxHeartbeats 40000000 in
set_option maxRecDepth 100000 in
theorem k_X19_feed_s1 {p : Program} {l : Launch} {e : Env} {s : State} {m : MethodId} {args : Array Value} {below : List Frame} {meth : Method} {c : Code} {Q : State → Prop} {A : Nat → Prop} (dC : Nat → ClassId) (dI : Nat → Nat → Nat) (c0 : Nat) (c1 : Nat) (c2 : ClassId) (c3 : Int32) (c4 : Int32) (c5 : Int32) (c6 : Int32) (c7 : Int32) (c8 : Nat) (c9 : Nat) (c10 : Nat) (c11 : Nat) (c12 : Nat) (c13 : Nat) (c14 : Nat) (c15 : Nat) (c16 : Nat) (c17 : Nat) (c18 : Nat) (c19 : Nat) (c20 : Nat) (c21 : Nat) (c22 : Nat) (c23 : Nat) (c24 : Nat) (c25 : Nat) (c26 : Nat) (c27 : Nat) (c28 : Nat) (c29 : Nat) (f14 : Nat → Int32) (hlt : l.stackTraces = false) (hx : p.tables.exec = Jvm.exec) (hb : c.code = cX19_feed) (hml : c.maxLocals = 8) (hown : s.vm.findClass RX19 = some m.cls) (hts : ∀ w ∈ ow_k_X19_feed, w.before args s = true) (hN : nv_E A s) (hA : ∀ q : Nat, s.heap.size ≤ q → A q) {H : Heap} {locs : List Loc} {ls : Array Slot} (hK : va_K (dC, dI) vwCl [(c2, .int)] s) (hP : va_P (dC, dI) vwCl [(c0, .inr (20, [.int 0, .ref c1, .int 2, .int 0, .ref c8, .ref c9, .ref c10, .ref c11, .ref c12, .ref c13, .ref c14, .ref c15, .ref c16, .ref c17, .ref c18, .ref c19, .ref c20, .int 0, .int 0, .int 0, .int 0, .int 0, .int 0, .int 0, .int 0, .int 0, .ref c21, .ref c22, .ref c23, .ref c24, .ref c25, .ref c26, .ref c27, .ref c28, .ref c29, .int 0])), (c1, .inl (c2, 32768, .inl f14))] H) (hD : va_D A [(c0, .inr (20, [.int 0, .ref c1, .int 2, .int 0, .ref c8, .ref c9, .ref c10, .ref c11, .ref c12, .ref c13, .ref c14, .ref c15, .ref c16, .ref c17, .ref c18, .ref c19, .ref c20, .int 0, .int 0, .int 0, .int 0, .int 0, .int 0, .int 0, .int 0, .int 0, .ref c21, .ref c22, .ref c23, .ref c24, .ref c25, .ref c26, .ref c27, .ref c28, .ref c29, .int 0])), (c1, .inl (c2, 32768, .inl f14))]) (hS : va_S A s.heap H locs) (hl : lv_has ls 8 [(7, .int c3), (6, .int 2), (0, .ref c0), (1, .int c3), (2, .int c4), (3, .int c5), (4, .int c6), (5, .int c7)]) (kk : ∀ (f35 : Nat → Int32) (H : Heap) (locs : List Loc) (ls : Array Slot), va_K (dC, dI) vwCl [(c2, .int)] s → va_P (dC, dI) vwCl [(c0, .inr (20, [.int 0, .ref c1, .int 5, .int 0, .ref c8, .ref c9, .ref c10, .ref c11, .ref c12, .ref c13, .ref c14, .ref c15, .ref c16, .ref c17, .ref c18, .ref c19, .ref c20, .int 0, .int 0, .int 0, .int 0, .int 0, .int 0, .int 0, .int 0, .int 0, .ref c21, .ref c22, .ref c23, .ref c24, .ref c25, .ref c26, .ref c27, .ref c28, .ref c29, .int 0])), (c1, .inl (c2, 32768, .inl f35))] H → va_D A [(c0, .inr (20, [.int 0, .ref c1, .int 5, .int 0, .ref c8, .ref c9, .ref c10, .ref c11, .ref c12, .ref c13, .ref c14, .ref c15, .ref c16, .ref c17, .ref c18, .ref c19, .ref c20, .int 0, .int 0, .int 0, .int 0, .int 0, .int 0, .int 0, .int 0, .int 0, .ref c21, .ref c22, .ref c23, .ref c24, .ref c25, .ref c26, .ref c27, .ref c28, .ref c29, .int 0])), (c1, .inl (c2, 32768, .inl f35))] → va_S A s.heap H locs → lv_has ls 8 [(6, .int 5), (7, .int c4), (0, .ref c0), (1, .int c3), (2, .int c4), (3, .int c5), (4, .int c6), (5, .int c7)] → W p l e (headSpec ow_k_X19_feed ({ frames := 0, cells := 0, slots := 0, locals := 0 })).room s m args below meth c H locs 0 0 Q (F0 m 24 ls [.int 5])) : W p l e (headSpec ow_k_X19_feed ({ frames := 0, cells := 0, slots := 0, locals := 0 })).room s m args below meth c H locs 0 0 Q (F0 m 85 ls [.int 2, .ref c1]) := by
  refine lv_iload hx hb dX19_feed_85 (lv_at hl 0 rfl) ?_
  refine lv_bipush (v := 24) hx hb dX19_feed_87 (by decide) ?_
  refine lv_bipush (v := 8) hx hb dX19_feed_89 (by decide) ?_
  refine lv_iload hx hb dX19_feed_91 (lv_at hl 1 rfl) ?_
  refine lv_iconst (v := 4) hx hb dX19_feed_93 (by decide) ?_
  refine lv_irem hx hb dX19_feed_94 (by decide) ?_
  refine lv_topi (fun z16 ez16 => ?_)
  obtain rfl : z16 = 2 := ez16.trans (by decide)
  refine lv_imul hx hb dX19_feed_95 ?_
  refine lv_topi (fun z17 ez17 => ?_)
  obtain rfl : z17 = 16 := ez17.trans (by decide)
  refine lv_isub hx hb dX19_feed_96 ?_
  refine lv_topi (fun z18 ez18 => ?_)
  obtain rfl : z18 = 8 := ez18.trans (by decide)
  refine lv_ishr hx hb dX19_feed_97 ?_
  refine lv_topi (fun z19 ez19 => ?_)
  refine lv_sipush (v := 255) hx hb dX19_feed_98 (by decide) ?_
  refine lv_iand hx hb dX19_feed_101 ?_
  refine lv_topi (fun z20 ez20 => ?_)
  refine va_iast (i := 2) (x := z20) hx hb hK hP hD hS 1 0 rfl rfl (vp_in_iff.mpr ⟨by decide, by decide⟩) dX19_feed_102 (fun H locs hP hD hS => ?_)
  generalize hf21 : upd f14 (Int32.toNatClampNeg 2) z20 = f21 at hP hD
  have hP : va_P (dC, dI) vwCl [(c0, .inr (20, [.int 0, .ref c1, .int 2, .int 0, .ref c8, .ref c9, .ref c10, .ref c11, .ref c12, .ref c13, .ref c14, .ref c15, .ref c16, .ref c17, .ref c18, .ref c19, .ref c20, .int 0, .int 0, .int 0, .int 0, .int 0, .int 0, .int 0, .int 0, .int 0, .ref c21, .ref c22, .ref c23, .ref c24, .ref c25, .ref c26, .ref c27, .ref c28, .ref c29, .int 0])), (c1, .inl (c2, 32768, .inl f21))] H := hP
  have hD : va_D A [(c0, .inr (20, [.int 0, .ref c1, .int 2, .int 0, .ref c8, .ref c9, .ref c10, .ref c11, .ref c12, .ref c13, .ref c14, .ref c15, .ref c16, .ref c17, .ref c18, .ref c19, .ref c20, .int 0, .int 0, .int 0, .int 0, .int 0, .int 0, .int 0, .int 0, .int 0, .ref c21, .ref c22, .ref c23, .ref c24, .ref c25, .ref c26, .ref c27, .ref c28, .ref c29, .int 0])), (c1, .inl (c2, 32768, .inl f21))] := hD
  refine lv_aload_n hx hb dX19_feed_103 rfl (lv_at hl 2 rfl) ?_
  refine lv_dup hx hb dX19_feed_104 rfl ?_
  refine va_get (D := (dC, dI)) (ci := 20) (v := .int 2) (C := RX19) (T := TX19) (N := 36) hx hb hts hi_k_X19_feed_X19 hown hK hP 0 rfl rfl 2 (by decide) (hts (.fieldLink RX19 117 "TimeMachineModel" "taped" "I") (List.mem_of_getElem? (i := 2) rfl)) (fun _ h9 => h9) rfl dX19_feed_105 ?_
  refine lv_iconst (v := 1) hx hb dX19_feed_108 (by decide) ?_
  refine lv_iadd hx hb dX19_feed_109 ?_
  refine lv_topi (fun z22 ez22 => ?_)
  obtain rfl : z22 = 3 := ez22.trans (by decide)
  refine va_put (D := (dC, dI)) (ci := 20) (v := .int 3) (ty := .int) (C := RX19) (T := TX19) (N := 36) hx hb hts hi_k_X19_feed_X19 tyX19 tyX19_ok nmX19 hown hK hP hD hS 0 rfl rfl 2 (by decide) (hts (.fieldLink RX19 117 "TimeMachineModel" "taped" "I") (List.mem_of_getElem? (i := 2) rfl)) (fun _ h9 => h9) rfl (by decide +kernel) rfl rfl (Nat.le_of_ble_eq_true rfl) dX19_feed_110 (fun H locs hP hD hS => ?_)
  have hP : va_P (dC, dI) vwCl [(c0, .inr (20, [.int 0, .ref c1, .int 3, .int 0, .ref c8, .ref c9, .ref c10, .ref c11, .ref c12, .ref c13, .ref c14, .ref c15, .ref c16, .ref c17, .ref c18, .ref c19, .ref c20, .int 0, .int 0, .int 0, .int 0, .int 0, .int 0, .int 0, .int 0, .int 0, .ref c21, .ref c22, .ref c23, .ref c24, .ref c25, .ref c26, .ref c27, .ref c28, .ref c29, .int 0])), (c1, .inl (c2, 32768, .inl f21))] H := hP
  have hD : va_D A [(c0, .inr (20, [.int 0, .ref c1, .int 3, .int 0, .ref c8, .ref c9, .ref c10, .ref c11, .ref c12, .ref c13, .ref c14, .ref c15, .ref c16, .ref c17, .ref c18, .ref c19, .ref c20, .int 0, .int 0, .int 0, .int 0, .int 0, .int 0, .int 0, .int 0, .int 0, .ref c21, .ref c22, .ref c23, .ref c24, .ref c25, .ref c26, .ref c27, .ref c28, .ref c29, .int 0])), (c1, .inl (c2, 32768, .inl f21))] := hD
  refine lv_iinc (v := 3) (lv' := [(6, .int 3), (7, .int c3), (0, .ref c0), (1, .int c3), (2, .int c4), (3, .int c5), (4, .int c6), (5, .int c7)]) hx hb dX19_feed_113 hl (k := 1) rfl (by decide) (by decide) rfl (fun ls hl => ?_)
  refine lv_goto (tgt := 22) hx hb dX19_feed_116 (by decide) ?_
  refine lv_iload hx hb dX19_feed_22 (lv_at hl 0 rfl) ?_
  refine lv_bipush (v := 20) hx hb dX19_feed_24 (by decide) ?_
  refine lv_icmp_ge (tgt := 119) hx hb dX19_feed_26 (by decide) (fun h9 => absurd h9 (by decide)) (fun _ => ?_)
  refine lv_iload hx hb dX19_feed_29 (lv_at hl 0 rfl) ?_
  refine lv_iconst (v := 4) hx hb dX19_feed_31 (by decide) ?_
  refine lv_icmp_ge (tgt := 39) hx hb dX19_feed_32 (by decide) (fun h9 => absurd h9 (by decide)) (fun _ => ?_)
  refine lv_iload_n hx hb dX19_feed_35 rfl (lv_at hl 3 rfl) ?_
  refine lv_goto (tgt := 75) hx hb dX19_feed_36 (by decide) ?_
  refine lv_istore (lv' := [(7, .int c3), (6, .int 3), (0, .ref c0), (1, .int c3), (2, .int c4), (3, .int c5), (4, .int c6), (5, .int c7)]) hx hb dX19_feed_75 hl (by decide) rfl (fun ls hl => ?_)
  refine lv_aload_n hx hb dX19_feed_77 rfl (lv_at hl 2 rfl) ?_
  refine va_get (D := (dC, dI)) (ci := 20) (v := .ref c1) (C := RX19) (T := TX19) (N := 36) hx hb hts hi_k_X19_feed_X19 hown hK hP 0 rfl rfl 1 (by decide) (hts (.fieldLink RX19 10 "TimeMachineModel" "tape" "[I") (List.mem_of_getElem? (i := 4) rfl)) (fun _ h9 => h9) rfl dX19_feed_78 ?_
  refine lv_aload_n hx hb dX19_feed_81 rfl (lv_at hl 2 rfl) ?_
  refine va_get (D := (dC, dI)) (ci := 20) (v := .int 3) (C := RX19) (T := TX19) (N := 36) hx hb hts hi_k_X19_feed_X19 hown hK hP 0 rfl rfl 2 (by decide) (hts (.fieldLink RX19 117 "TimeMachineModel" "taped" "I") (List.mem_of_getElem? (i := 2) rfl)) (fun _ h9 => h9) rfl dX19_feed_82 ?_
  refine lv_iload hx hb dX19_feed_85 (lv_at hl 0 rfl) ?_
  refine lv_bipush (v := 24) hx hb dX19_feed_87 (by decide) ?_
  refine lv_bipush (v := 8) hx hb dX19_feed_89 (by decide) ?_
  refine lv_iload hx hb dX19_feed_91 (lv_at hl 1 rfl) ?_
  refine lv_iconst (v := 4) hx hb dX19_feed_93 (by decide) ?_
  refine lv_irem hx hb dX19_feed_94 (by decide) ?_
  refine lv_topi (fun z23 ez23 => ?_)
  obtain rfl : z23 = 3 := ez23.trans (by decide)
  refine lv_imul hx hb dX19_feed_95 ?_
  refine lv_topi (fun z24 ez24 => ?_)
  obtain rfl : z24 = 24 := ez24.trans (by decide)
  refine lv_isub hx hb dX19_feed_96 ?_
  refine lv_topi (fun z25 ez25 => ?_)
  obtain rfl : z25 = 0 := ez25.trans (by decide)
  refine lv_ishr hx hb dX19_feed_97 ?_
  refine lv_topi (fun z26 ez26 => ?_)
  refine lv_sipush (v := 255) hx hb dX19_feed_98 (by decide) ?_
  refine lv_iand hx hb dX19_feed_101 ?_
  refine lv_topi (fun z27 ez27 => ?_)
  refine va_iast (i := 3) (x := z27) hx hb hK hP hD hS 1 0 rfl rfl (vp_in_iff.mpr ⟨by decide, by decide⟩) dX19_feed_102 (fun H locs hP hD hS => ?_)
  generalize hf28 : upd f21 (Int32.toNatClampNeg 3) z27 = f28 at hP hD
  have hP : va_P (dC, dI) vwCl [(c0, .inr (20, [.int 0, .ref c1, .int 3, .int 0, .ref c8, .ref c9, .ref c10, .ref c11, .ref c12, .ref c13, .ref c14, .ref c15, .ref c16, .ref c17, .ref c18, .ref c19, .ref c20, .int 0, .int 0, .int 0, .int 0, .int 0, .int 0, .int 0, .int 0, .int 0, .ref c21, .ref c22, .ref c23, .ref c24, .ref c25, .ref c26, .ref c27, .ref c28, .ref c29, .int 0])), (c1, .inl (c2, 32768, .inl f28))] H := hP
  have hD : va_D A [(c0, .inr (20, [.int 0, .ref c1, .int 3, .int 0, .ref c8, .ref c9, .ref c10, .ref c11, .ref c12, .ref c13, .ref c14, .ref c15, .ref c16, .ref c17, .ref c18, .ref c19, .ref c20, .int 0, .int 0, .int 0, .int 0, .int 0, .int 0, .int 0, .int 0, .int 0, .ref c21, .ref c22, .ref c23, .ref c24, .ref c25, .ref c26, .ref c27, .ref c28, .ref c29, .int 0])), (c1, .inl (c2, 32768, .inl f28))] := hD
  refine lv_aload_n hx hb dX19_feed_103 rfl (lv_at hl 2 rfl) ?_
  refine lv_dup hx hb dX19_feed_104 rfl ?_
  refine va_get (D := (dC, dI)) (ci := 20) (v := .int 3) (C := RX19) (T := TX19) (N := 36) hx hb hts hi_k_X19_feed_X19 hown hK hP 0 rfl rfl 2 (by decide) (hts (.fieldLink RX19 117 "TimeMachineModel" "taped" "I") (List.mem_of_getElem? (i := 2) rfl)) (fun _ h9 => h9) rfl dX19_feed_105 ?_
  refine lv_iconst (v := 1) hx hb dX19_feed_108 (by decide) ?_
  refine lv_iadd hx hb dX19_feed_109 ?_
  refine lv_topi (fun z29 ez29 => ?_)
  obtain rfl : z29 = 4 := ez29.trans (by decide)
  refine va_put (D := (dC, dI)) (ci := 20) (v := .int 4) (ty := .int) (C := RX19) (T := TX19) (N := 36) hx hb hts hi_k_X19_feed_X19 tyX19 tyX19_ok nmX19 hown hK hP hD hS 0 rfl rfl 2 (by decide) (hts (.fieldLink RX19 117 "TimeMachineModel" "taped" "I") (List.mem_of_getElem? (i := 2) rfl)) (fun _ h9 => h9) rfl (by decide +kernel) rfl rfl (Nat.le_of_ble_eq_true rfl) dX19_feed_110 (fun H locs hP hD hS => ?_)
  have hP : va_P (dC, dI) vwCl [(c0, .inr (20, [.int 0, .ref c1, .int 4, .int 0, .ref c8, .ref c9, .ref c10, .ref c11, .ref c12, .ref c13, .ref c14, .ref c15, .ref c16, .ref c17, .ref c18, .ref c19, .ref c20, .int 0, .int 0, .int 0, .int 0, .int 0, .int 0, .int 0, .int 0, .int 0, .ref c21, .ref c22, .ref c23, .ref c24, .ref c25, .ref c26, .ref c27, .ref c28, .ref c29, .int 0])), (c1, .inl (c2, 32768, .inl f28))] H := hP
  have hD : va_D A [(c0, .inr (20, [.int 0, .ref c1, .int 4, .int 0, .ref c8, .ref c9, .ref c10, .ref c11, .ref c12, .ref c13, .ref c14, .ref c15, .ref c16, .ref c17, .ref c18, .ref c19, .ref c20, .int 0, .int 0, .int 0, .int 0, .int 0, .int 0, .int 0, .int 0, .int 0, .ref c21, .ref c22, .ref c23, .ref c24, .ref c25, .ref c26, .ref c27, .ref c28, .ref c29, .int 0])), (c1, .inl (c2, 32768, .inl f28))] := hD
  refine lv_iinc (v := 4) (lv' := [(6, .int 4), (7, .int c3), (0, .ref c0), (1, .int c3), (2, .int c4), (3, .int c5), (4, .int c6), (5, .int c7)]) hx hb dX19_feed_113 hl (k := 1) rfl (by decide) (by decide) rfl (fun ls hl => ?_)
  refine lv_goto (tgt := 22) hx hb dX19_feed_116 (by decide) ?_
  refine lv_iload hx hb dX19_feed_22 (lv_at hl 0 rfl) ?_
  refine lv_bipush (v := 20) hx hb dX19_feed_24 (by decide) ?_
  refine lv_icmp_ge (tgt := 119) hx hb dX19_feed_26 (by decide) (fun h9 => absurd h9 (by decide)) (fun _ => ?_)
  refine lv_iload hx hb dX19_feed_29 (lv_at hl 0 rfl) ?_
  refine lv_iconst (v := 4) hx hb dX19_feed_31 (by decide) ?_
  refine lv_icmp_ge (tgt := 39) hx hb dX19_feed_32 (by decide) (fun _ => ?_) (fun h9 => absurd (by decide) h9)
  refine lv_iload hx hb dX19_feed_39 (lv_at hl 0 rfl) ?_
  refine lv_bipush (v := 8) hx hb dX19_feed_41 (by decide) ?_
  refine lv_icmp_ge (tgt := 50) hx hb dX19_feed_43 (by decide) (fun h9 => absurd h9 (by decide)) (fun _ => ?_)
  refine lv_iload_n hx hb dX19_feed_46 rfl (lv_at hl 4 rfl) ?_
  refine lv_goto (tgt := 75) hx hb dX19_feed_47 (by decide) ?_
  refine lv_istore (lv' := [(7, .int c4), (6, .int 4), (0, .ref c0), (1, .int c3), (2, .int c4), (3, .int c5), (4, .int c6), (5, .int c7)]) hx hb dX19_feed_75 hl (by decide) rfl (fun ls hl => ?_)
  refine lv_aload_n hx hb dX19_feed_77 rfl (lv_at hl 2 rfl) ?_
  refine va_get (D := (dC, dI)) (ci := 20) (v := .ref c1) (C := RX19) (T := TX19) (N := 36) hx hb hts hi_k_X19_feed_X19 hown hK hP 0 rfl rfl 1 (by decide) (hts (.fieldLink RX19 10 "TimeMachineModel" "tape" "[I") (List.mem_of_getElem? (i := 4) rfl)) (fun _ h9 => h9) rfl dX19_feed_78 ?_
  refine lv_aload_n hx hb dX19_feed_81 rfl (lv_at hl 2 rfl) ?_
  refine va_get (D := (dC, dI)) (ci := 20) (v := .int 4) (C := RX19) (T := TX19) (N := 36) hx hb hts hi_k_X19_feed_X19 hown hK hP 0 rfl rfl 2 (by decide) (hts (.fieldLink RX19 117 "TimeMachineModel" "taped" "I") (List.mem_of_getElem? (i := 2) rfl)) (fun _ h9 => h9) rfl dX19_feed_82 ?_
  refine lv_iload hx hb dX19_feed_85 (lv_at hl 0 rfl) ?_
  refine lv_bipush (v := 24) hx hb dX19_feed_87 (by decide) ?_
  refine lv_bipush (v := 8) hx hb dX19_feed_89 (by decide) ?_
  refine lv_iload hx hb dX19_feed_91 (lv_at hl 1 rfl) ?_
  refine lv_iconst (v := 4) hx hb dX19_feed_93 (by decide) ?_
  refine lv_irem hx hb dX19_feed_94 (by decide) ?_
  refine lv_topi (fun z30 ez30 => ?_)
  obtain rfl : z30 = 0 := ez30.trans (by decide)
  refine lv_imul hx hb dX19_feed_95 ?_
  refine lv_topi (fun z31 ez31 => ?_)
  obtain rfl : z31 = 0 := ez31.trans (by decide)
  refine lv_isub hx hb dX19_feed_96 ?_
  refine lv_topi (fun z32 ez32 => ?_)
  obtain rfl : z32 = 24 := ez32.trans (by decide)
  refine lv_ishr hx hb dX19_feed_97 ?_
  refine lv_topi (fun z33 ez33 => ?_)
  refine lv_sipush (v := 255) hx hb dX19_feed_98 (by decide) ?_
  refine lv_iand hx hb dX19_feed_101 ?_
  refine lv_topi (fun z34 ez34 => ?_)
  refine va_iast (i := 4) (x := z34) hx hb hK hP hD hS 1 0 rfl rfl (vp_in_iff.mpr ⟨by decide, by decide⟩) dX19_feed_102 (fun H locs hP hD hS => ?_)
  generalize hf35 : upd f28 (Int32.toNatClampNeg 4) z34 = f35 at hP hD
  have hP : va_P (dC, dI) vwCl [(c0, .inr (20, [.int 0, .ref c1, .int 4, .int 0, .ref c8, .ref c9, .ref c10, .ref c11, .ref c12, .ref c13, .ref c14, .ref c15, .ref c16, .ref c17, .ref c18, .ref c19, .ref c20, .int 0, .int 0, .int 0, .int 0, .int 0, .int 0, .int 0, .int 0, .int 0, .ref c21, .ref c22, .ref c23, .ref c24, .ref c25, .ref c26, .ref c27, .ref c28, .ref c29, .int 0])), (c1, .inl (c2, 32768, .inl f35))] H := hP
  have hD : va_D A [(c0, .inr (20, [.int 0, .ref c1, .int 4, .int 0, .ref c8, .ref c9, .ref c10, .ref c11, .ref c12, .ref c13, .ref c14, .ref c15, .ref c16, .ref c17, .ref c18, .ref c19, .ref c20, .int 0, .int 0, .int 0, .int 0, .int 0, .int 0, .int 0, .int 0, .int 0, .ref c21, .ref c22, .ref c23, .ref c24, .ref c25, .ref c26, .ref c27, .ref c28, .ref c29, .int 0])), (c1, .inl (c2, 32768, .inl f35))] := hD
  refine lv_aload_n hx hb dX19_feed_103 rfl (lv_at hl 2 rfl) ?_
  refine lv_dup hx hb dX19_feed_104 rfl ?_
  refine va_get (D := (dC, dI)) (ci := 20) (v := .int 4) (C := RX19) (T := TX19) (N := 36) hx hb hts hi_k_X19_feed_X19 hown hK hP 0 rfl rfl 2 (by decide) (hts (.fieldLink RX19 117 "TimeMachineModel" "taped" "I") (List.mem_of_getElem? (i := 2) rfl)) (fun _ h9 => h9) rfl dX19_feed_105 ?_
  refine lv_iconst (v := 1) hx hb dX19_feed_108 (by decide) ?_
  refine lv_iadd hx hb dX19_feed_109 ?_
  refine lv_topi (fun z36 ez36 => ?_)
  obtain rfl : z36 = 5 := ez36.trans (by decide)
  refine va_put (D := (dC, dI)) (ci := 20) (v := .int 5) (ty := .int) (C := RX19) (T := TX19) (N := 36) hx hb hts hi_k_X19_feed_X19 tyX19 tyX19_ok nmX19 hown hK hP hD hS 0 rfl rfl 2 (by decide) (hts (.fieldLink RX19 117 "TimeMachineModel" "taped" "I") (List.mem_of_getElem? (i := 2) rfl)) (fun _ h9 => h9) rfl (by decide +kernel) rfl rfl (Nat.le_of_ble_eq_true rfl) dX19_feed_110 (fun H locs hP hD hS => ?_)
  have hP : va_P (dC, dI) vwCl [(c0, .inr (20, [.int 0, .ref c1, .int 5, .int 0, .ref c8, .ref c9, .ref c10, .ref c11, .ref c12, .ref c13, .ref c14, .ref c15, .ref c16, .ref c17, .ref c18, .ref c19, .ref c20, .int 0, .int 0, .int 0, .int 0, .int 0, .int 0, .int 0, .int 0, .int 0, .ref c21, .ref c22, .ref c23, .ref c24, .ref c25, .ref c26, .ref c27, .ref c28, .ref c29, .int 0])), (c1, .inl (c2, 32768, .inl f35))] H := hP
  have hD : va_D A [(c0, .inr (20, [.int 0, .ref c1, .int 5, .int 0, .ref c8, .ref c9, .ref c10, .ref c11, .ref c12, .ref c13, .ref c14, .ref c15, .ref c16, .ref c17, .ref c18, .ref c19, .ref c20, .int 0, .int 0, .int 0, .int 0, .int 0, .int 0, .int 0, .int 0, .int 0, .ref c21, .ref c22, .ref c23, .ref c24, .ref c25, .ref c26, .ref c27, .ref c28, .ref c29, .int 0])), (c1, .inl (c2, 32768, .inl f35))] := hD
  refine lv_iinc (v := 5) (lv' := [(6, .int 5), (7, .int c4), (0, .ref c0), (1, .int c3), (2, .int c4), (3, .int c5), (4, .int c6), (5, .int c7)]) hx hb dX19_feed_113 hl (k := 1) rfl (by decide) (by decide) rfl (fun ls hl => ?_)
  refine lv_goto (tgt := 22) hx hb dX19_feed_116 (by decide) ?_
  refine lv_iload hx hb dX19_feed_22 (lv_at hl 0 rfl) ?_
  exact kk f35 _ _ _ hK hP hD hS hl

set_option maxHeartbeats 40000000 in
set_option maxRecDepth 100000 in
theorem k_X19_feed_s2 {p : Program} {l : Launch} {e : Env} {s : State} {m : MethodId} {args : Array Value} {below : List Frame} {meth : Method} {c : Code} {Q : State → Prop} {A : Nat → Prop} (dC : Nat → ClassId) (dI : Nat → Nat → Nat) (c0 : Nat) (c1 : Nat) (c2 : ClassId) (c3 : Int32) (c4 : Int32) (c5 : Int32) (c6 : Int32) (c7 : Int32) (c8 : Nat) (c9 : Nat) (c10 : Nat) (c11 : Nat) (c12 : Nat) (c13 : Nat) (c14 : Nat) (c15 : Nat) (c16 : Nat) (c17 : Nat) (c18 : Nat) (c19 : Nat) (c20 : Nat) (c21 : Nat) (c22 : Nat) (c23 : Nat) (c24 : Nat) (c25 : Nat) (c26 : Nat) (c27 : Nat) (c28 : Nat) (c29 : Nat) (f35 : Nat → Int32) (hlt : l.stackTraces = false) (hx : p.tables.exec = Jvm.exec) (hb : c.code = cX19_feed) (hml : c.maxLocals = 8) (hown : s.vm.findClass RX19 = some m.cls) (hts : ∀ w ∈ ow_k_X19_feed, w.before args s = true) (hN : nv_E A s) (hA : ∀ q : Nat, s.heap.size ≤ q → A q) {H : Heap} {locs : List Loc} {ls : Array Slot} (hK : va_K (dC, dI) vwCl [(c2, .int)] s) (hP : va_P (dC, dI) vwCl [(c0, .inr (20, [.int 0, .ref c1, .int 5, .int 0, .ref c8, .ref c9, .ref c10, .ref c11, .ref c12, .ref c13, .ref c14, .ref c15, .ref c16, .ref c17, .ref c18, .ref c19, .ref c20, .int 0, .int 0, .int 0, .int 0, .int 0, .int 0, .int 0, .int 0, .int 0, .ref c21, .ref c22, .ref c23, .ref c24, .ref c25, .ref c26, .ref c27, .ref c28, .ref c29, .int 0])), (c1, .inl (c2, 32768, .inl f35))] H) (hD : va_D A [(c0, .inr (20, [.int 0, .ref c1, .int 5, .int 0, .ref c8, .ref c9, .ref c10, .ref c11, .ref c12, .ref c13, .ref c14, .ref c15, .ref c16, .ref c17, .ref c18, .ref c19, .ref c20, .int 0, .int 0, .int 0, .int 0, .int 0, .int 0, .int 0, .int 0, .int 0, .ref c21, .ref c22, .ref c23, .ref c24, .ref c25, .ref c26, .ref c27, .ref c28, .ref c29, .int 0])), (c1, .inl (c2, 32768, .inl f35))]) (hS : va_S A s.heap H locs) (hl : lv_has ls 8 [(6, .int 5), (7, .int c4), (0, .ref c0), (1, .int c3), (2, .int c4), (3, .int c5), (4, .int c6), (5, .int c7)]) (kk : ∀ (f49 : Nat → Int32) (H : Heap) (locs : List Loc) (ls : Array Slot), va_K (dC, dI) vwCl [(c2, .int)] s → va_P (dC, dI) vwCl [(c0, .inr (20, [.int 0, .ref c1, .int 7, .int 0, .ref c8, .ref c9, .ref c10, .ref c11, .ref c12, .ref c13, .ref c14, .ref c15, .ref c16, .ref c17, .ref c18, .ref c19, .ref c20, .int 0, .int 0, .int 0, .int 0, .int 0, .int 0, .int 0, .int 0, .int 0, .ref c21, .ref c22, .ref c23, .ref c24, .ref c25, .ref c26, .ref c27, .ref c28, .ref c29, .int 0])), (c1, .inl (c2, 32768, .inl f49))] H → va_D A [(c0, .inr (20, [.int 0, .ref c1, .int 7, .int 0, .ref c8, .ref c9, .ref c10, .ref c11, .ref c12, .ref c13, .ref c14, .ref c15, .ref c16, .ref c17, .ref c18, .ref c19, .ref c20, .int 0, .int 0, .int 0, .int 0, .int 0, .int 0, .int 0, .int 0, .int 0, .ref c21, .ref c22, .ref c23, .ref c24, .ref c25, .ref c26, .ref c27, .ref c28, .ref c29, .int 0])), (c1, .inl (c2, 32768, .inl f49))] → va_S A s.heap H locs → lv_has ls 8 [(7, .int c4), (6, .int 7), (0, .ref c0), (1, .int c3), (2, .int c4), (3, .int c5), (4, .int c6), (5, .int c7)] → W p l e (headSpec ow_k_X19_feed ({ frames := 0, cells := 0, slots := 0, locals := 0 })).room s m args below meth c H locs 0 0 Q (F0 m 91 ls [.int 8, .int 24, .int c4, .int 7, .ref c1])) : W p l e (headSpec ow_k_X19_feed ({ frames := 0, cells := 0, slots := 0, locals := 0 })).room s m args below meth c H locs 0 0 Q (F0 m 24 ls [.int 5]) := by
  refine lv_bipush (v := 20) hx hb dX19_feed_24 (by decide) ?_
  refine lv_icmp_ge (tgt := 119) hx hb dX19_feed_26 (by decide) (fun h9 => absurd h9 (by decide)) (fun _ => ?_)
  refine lv_iload hx hb dX19_feed_29 (lv_at hl 0 rfl) ?_
  refine lv_iconst (v := 4) hx hb dX19_feed_31 (by decide) ?_
  refine lv_icmp_ge (tgt := 39) hx hb dX19_feed_32 (by decide) (fun _ => ?_) (fun h9 => absurd (by decide) h9)
  refine lv_iload hx hb dX19_feed_39 (lv_at hl 0 rfl) ?_
  refine lv_bipush (v := 8) hx hb dX19_feed_41 (by decide) ?_
  refine lv_icmp_ge (tgt := 50) hx hb dX19_feed_43 (by decide) (fun h9 => absurd h9 (by decide)) (fun _ => ?_)
  refine lv_iload_n hx hb dX19_feed_46 rfl (lv_at hl 4 rfl) ?_
  refine lv_goto (tgt := 75) hx hb dX19_feed_47 (by decide) ?_
  refine lv_istore (lv' := [(7, .int c4), (6, .int 5), (0, .ref c0), (1, .int c3), (2, .int c4), (3, .int c5), (4, .int c6), (5, .int c7)]) hx hb dX19_feed_75 hl (by decide) rfl (fun ls hl => ?_)
  refine lv_aload_n hx hb dX19_feed_77 rfl (lv_at hl 2 rfl) ?_
  refine va_get (D := (dC, dI)) (ci := 20) (v := .ref c1) (C := RX19) (T := TX19) (N := 36) hx hb hts hi_k_X19_feed_X19 hown hK hP 0 rfl rfl 1 (by decide) (hts (.fieldLink RX19 10 "TimeMachineModel" "tape" "[I") (List.mem_of_getElem? (i := 4) rfl)) (fun _ h9 => h9) rfl dX19_feed_78 ?_
  refine lv_aload_n hx hb dX19_feed_81 rfl (lv_at hl 2 rfl) ?_
  refine va_get (D := (dC, dI)) (ci := 20) (v := .int 5) (C := RX19) (T := TX19) (N := 36) hx hb hts hi_k_X19_feed_X19 hown hK hP 0 rfl rfl 2 (by decide) (hts (.fieldLink RX19 117 "TimeMachineModel" "taped" "I") (List.mem_of_getElem? (i := 2) rfl)) (fun _ h9 => h9) rfl dX19_feed_82 ?_
  refine lv_iload hx hb dX19_feed_85 (lv_at hl 0 rfl) ?_
  refine lv_bipush (v := 24) hx hb dX19_feed_87 (by decide) ?_
  refine lv_bipush (v := 8) hx hb dX19_feed_89 (by decide) ?_
  refine lv_iload hx hb dX19_feed_91 (lv_at hl 1 rfl) ?_
  refine lv_iconst (v := 4) hx hb dX19_feed_93 (by decide) ?_
  refine lv_irem hx hb dX19_feed_94 (by decide) ?_
  refine lv_topi (fun z37 ez37 => ?_)
  obtain rfl : z37 = 1 := ez37.trans (by decide)
  refine lv_imul hx hb dX19_feed_95 ?_
  refine lv_topi (fun z38 ez38 => ?_)
  obtain rfl : z38 = 8 := ez38.trans (by decide)
  refine lv_isub hx hb dX19_feed_96 ?_
  refine lv_topi (fun z39 ez39 => ?_)
  obtain rfl : z39 = 16 := ez39.trans (by decide)
  refine lv_ishr hx hb dX19_feed_97 ?_
  refine lv_topi (fun z40 ez40 => ?_)
  refine lv_sipush (v := 255) hx hb dX19_feed_98 (by decide) ?_
  refine lv_iand hx hb dX19_feed_101 ?_
  refine lv_topi (fun z41 ez41 => ?_)
  refine va_iast (i := 5) (x := z41) hx hb hK hP hD hS 1 0 rfl rfl (vp_in_iff.mpr ⟨by decide, by decide⟩) dX19_feed_102 (fun H locs hP hD hS => ?_)
  generalize hf42 : upd f35 (Int32.toNatClampNeg 5) z41 = f42 at hP hD
  have hP : va_P (dC, dI) vwCl [(c0, .inr (20, [.int 0, .ref c1, .int 5, .int 0, .ref c8, .ref c9, .ref c10, .ref c11, .ref c12, .ref c13, .ref c14, .ref c15, .ref c16, .ref c17, .ref c18, .ref c19, .ref c20, .int 0, .int 0, .int 0, .int 0, .int 0, .int 0, .int 0, .int 0, .int 0, .ref c21, .ref c22, .ref c23, .ref c24, .ref c25, .ref c26, .ref c27, .ref c28, .ref c29, .int 0])), (c1, .inl (c2, 32768, .inl f42))] H := hP
  have hD : va_D A [(c0, .inr (20, [.int 0, .ref c1, .int 5, .int 0, .ref c8, .ref c9, .ref c10, .ref c11, .ref c12, .ref c13, .ref c14, .ref c15, .ref c16, .ref c17, .ref c18, .ref c19, .ref c20, .int 0, .int 0, .int 0, .int 0, .int 0, .int 0, .int 0, .int 0, .int 0, .ref c21, .ref c22, .ref c23, .ref c24, .ref c25, .ref c26, .ref c27, .ref c28, .ref c29, .int 0])), (c1, .inl (c2, 32768, .inl f42))] := hD
  refine lv_aload_n hx hb dX19_feed_103 rfl (lv_at hl 2 rfl) ?_
  refine lv_dup hx hb dX19_feed_104 rfl ?_
  refine va_get (D := (dC, dI)) (ci := 20) (v := .int 5) (C := RX19) (T := TX19) (N := 36) hx hb hts hi_k_X19_feed_X19 hown hK hP 0 rfl rfl 2 (by decide) (hts (.fieldLink RX19 117 "TimeMachineModel" "taped" "I") (List.mem_of_getElem? (i := 2) rfl)) (fun _ h9 => h9) rfl dX19_feed_105 ?_
  refine lv_iconst (v := 1) hx hb dX19_feed_108 (by decide) ?_
  refine lv_iadd hx hb dX19_feed_109 ?_
  refine lv_topi (fun z43 ez43 => ?_)
  obtain rfl : z43 = 6 := ez43.trans (by decide)
  refine va_put (D := (dC, dI)) (ci := 20) (v := .int 6) (ty := .int) (C := RX19) (T := TX19) (N := 36) hx hb hts hi_k_X19_feed_X19 tyX19 tyX19_ok nmX19 hown hK hP hD hS 0 rfl rfl 2 (by decide) (hts (.fieldLink RX19 117 "TimeMachineModel" "taped" "I") (List.mem_of_getElem? (i := 2) rfl)) (fun _ h9 => h9) rfl (by decide +kernel) rfl rfl (Nat.le_of_ble_eq_true rfl) dX19_feed_110 (fun H locs hP hD hS => ?_)
  have hP : va_P (dC, dI) vwCl [(c0, .inr (20, [.int 0, .ref c1, .int 6, .int 0, .ref c8, .ref c9, .ref c10, .ref c11, .ref c12, .ref c13, .ref c14, .ref c15, .ref c16, .ref c17, .ref c18, .ref c19, .ref c20, .int 0, .int 0, .int 0, .int 0, .int 0, .int 0, .int 0, .int 0, .int 0, .ref c21, .ref c22, .ref c23, .ref c24, .ref c25, .ref c26, .ref c27, .ref c28, .ref c29, .int 0])), (c1, .inl (c2, 32768, .inl f42))] H := hP
  have hD : va_D A [(c0, .inr (20, [.int 0, .ref c1, .int 6, .int 0, .ref c8, .ref c9, .ref c10, .ref c11, .ref c12, .ref c13, .ref c14, .ref c15, .ref c16, .ref c17, .ref c18, .ref c19, .ref c20, .int 0, .int 0, .int 0, .int 0, .int 0, .int 0, .int 0, .int 0, .int 0, .ref c21, .ref c22, .ref c23, .ref c24, .ref c25, .ref c26, .ref c27, .ref c28, .ref c29, .int 0])), (c1, .inl (c2, 32768, .inl f42))] := hD
  refine lv_iinc (v := 6) (lv' := [(6, .int 6), (7, .int c4), (0, .ref c0), (1, .int c3), (2, .int c4), (3, .int c5), (4, .int c6), (5, .int c7)]) hx hb dX19_feed_113 hl (k := 1) rfl (by decide) (by decide) rfl (fun ls hl => ?_)
  refine lv_goto (tgt := 22) hx hb dX19_feed_116 (by decide) ?_
  refine lv_iload hx hb dX19_feed_22 (lv_at hl 0 rfl) ?_
  refine lv_bipush (v := 20) hx hb dX19_feed_24 (by decide) ?_
  refine lv_icmp_ge (tgt := 119) hx hb dX19_feed_26 (by decide) (fun h9 => absurd h9 (by decide)) (fun _ => ?_)
  refine lv_iload hx hb dX19_feed_29 (lv_at hl 0 rfl) ?_
  refine lv_iconst (v := 4) hx hb dX19_feed_31 (by decide) ?_
  refine lv_icmp_ge (tgt := 39) hx hb dX19_feed_32 (by decide) (fun _ => ?_) (fun h9 => absurd (by decide) h9)
  refine lv_iload hx hb dX19_feed_39 (lv_at hl 0 rfl) ?_
  refine lv_bipush (v := 8) hx hb dX19_feed_41 (by decide) ?_
  refine lv_icmp_ge (tgt := 50) hx hb dX19_feed_43 (by decide) (fun h9 => absurd h9 (by decide)) (fun _ => ?_)
  refine lv_iload_n hx hb dX19_feed_46 rfl (lv_at hl 4 rfl) ?_
  refine lv_goto (tgt := 75) hx hb dX19_feed_47 (by decide) ?_
  refine lv_istore (lv' := [(7, .int c4), (6, .int 6), (0, .ref c0), (1, .int c3), (2, .int c4), (3, .int c5), (4, .int c6), (5, .int c7)]) hx hb dX19_feed_75 hl (by decide) rfl (fun ls hl => ?_)
  refine lv_aload_n hx hb dX19_feed_77 rfl (lv_at hl 2 rfl) ?_
  refine va_get (D := (dC, dI)) (ci := 20) (v := .ref c1) (C := RX19) (T := TX19) (N := 36) hx hb hts hi_k_X19_feed_X19 hown hK hP 0 rfl rfl 1 (by decide) (hts (.fieldLink RX19 10 "TimeMachineModel" "tape" "[I") (List.mem_of_getElem? (i := 4) rfl)) (fun _ h9 => h9) rfl dX19_feed_78 ?_
  refine lv_aload_n hx hb dX19_feed_81 rfl (lv_at hl 2 rfl) ?_
  refine va_get (D := (dC, dI)) (ci := 20) (v := .int 6) (C := RX19) (T := TX19) (N := 36) hx hb hts hi_k_X19_feed_X19 hown hK hP 0 rfl rfl 2 (by decide) (hts (.fieldLink RX19 117 "TimeMachineModel" "taped" "I") (List.mem_of_getElem? (i := 2) rfl)) (fun _ h9 => h9) rfl dX19_feed_82 ?_
  refine lv_iload hx hb dX19_feed_85 (lv_at hl 0 rfl) ?_
  refine lv_bipush (v := 24) hx hb dX19_feed_87 (by decide) ?_
  refine lv_bipush (v := 8) hx hb dX19_feed_89 (by decide) ?_
  refine lv_iload hx hb dX19_feed_91 (lv_at hl 1 rfl) ?_
  refine lv_iconst (v := 4) hx hb dX19_feed_93 (by decide) ?_
  refine lv_irem hx hb dX19_feed_94 (by decide) ?_
  refine lv_topi (fun z44 ez44 => ?_)
  obtain rfl : z44 = 2 := ez44.trans (by decide)
  refine lv_imul hx hb dX19_feed_95 ?_
  refine lv_topi (fun z45 ez45 => ?_)
  obtain rfl : z45 = 16 := ez45.trans (by decide)
  refine lv_isub hx hb dX19_feed_96 ?_
  refine lv_topi (fun z46 ez46 => ?_)
  obtain rfl : z46 = 8 := ez46.trans (by decide)
  refine lv_ishr hx hb dX19_feed_97 ?_
  refine lv_topi (fun z47 ez47 => ?_)
  refine lv_sipush (v := 255) hx hb dX19_feed_98 (by decide) ?_
  refine lv_iand hx hb dX19_feed_101 ?_
  refine lv_topi (fun z48 ez48 => ?_)
  refine va_iast (i := 6) (x := z48) hx hb hK hP hD hS 1 0 rfl rfl (vp_in_iff.mpr ⟨by decide, by decide⟩) dX19_feed_102 (fun H locs hP hD hS => ?_)
  generalize hf49 : upd f42 (Int32.toNatClampNeg 6) z48 = f49 at hP hD
  have hP : va_P (dC, dI) vwCl [(c0, .inr (20, [.int 0, .ref c1, .int 6, .int 0, .ref c8, .ref c9, .ref c10, .ref c11, .ref c12, .ref c13, .ref c14, .ref c15, .ref c16, .ref c17, .ref c18, .ref c19, .ref c20, .int 0, .int 0, .int 0, .int 0, .int 0, .int 0, .int 0, .int 0, .int 0, .ref c21, .ref c22, .ref c23, .ref c24, .ref c25, .ref c26, .ref c27, .ref c28, .ref c29, .int 0])), (c1, .inl (c2, 32768, .inl f49))] H := hP
  have hD : va_D A [(c0, .inr (20, [.int 0, .ref c1, .int 6, .int 0, .ref c8, .ref c9, .ref c10, .ref c11, .ref c12, .ref c13, .ref c14, .ref c15, .ref c16, .ref c17, .ref c18, .ref c19, .ref c20, .int 0, .int 0, .int 0, .int 0, .int 0, .int 0, .int 0, .int 0, .int 0, .ref c21, .ref c22, .ref c23, .ref c24, .ref c25, .ref c26, .ref c27, .ref c28, .ref c29, .int 0])), (c1, .inl (c2, 32768, .inl f49))] := hD
  refine lv_aload_n hx hb dX19_feed_103 rfl (lv_at hl 2 rfl) ?_
  refine lv_dup hx hb dX19_feed_104 rfl ?_
  refine va_get (D := (dC, dI)) (ci := 20) (v := .int 6) (C := RX19) (T := TX19) (N := 36) hx hb hts hi_k_X19_feed_X19 hown hK hP 0 rfl rfl 2 (by decide) (hts (.fieldLink RX19 117 "TimeMachineModel" "taped" "I") (List.mem_of_getElem? (i := 2) rfl)) (fun _ h9 => h9) rfl dX19_feed_105 ?_
  refine lv_iconst (v := 1) hx hb dX19_feed_108 (by decide) ?_
  refine lv_iadd hx hb dX19_feed_109 ?_
  refine lv_topi (fun z50 ez50 => ?_)
  obtain rfl : z50 = 7 := ez50.trans (by decide)
  refine va_put (D := (dC, dI)) (ci := 20) (v := .int 7) (ty := .int) (C := RX19) (T := TX19) (N := 36) hx hb hts hi_k_X19_feed_X19 tyX19 tyX19_ok nmX19 hown hK hP hD hS 0 rfl rfl 2 (by decide) (hts (.fieldLink RX19 117 "TimeMachineModel" "taped" "I") (List.mem_of_getElem? (i := 2) rfl)) (fun _ h9 => h9) rfl (by decide +kernel) rfl rfl (Nat.le_of_ble_eq_true rfl) dX19_feed_110 (fun H locs hP hD hS => ?_)
  have hP : va_P (dC, dI) vwCl [(c0, .inr (20, [.int 0, .ref c1, .int 7, .int 0, .ref c8, .ref c9, .ref c10, .ref c11, .ref c12, .ref c13, .ref c14, .ref c15, .ref c16, .ref c17, .ref c18, .ref c19, .ref c20, .int 0, .int 0, .int 0, .int 0, .int 0, .int 0, .int 0, .int 0, .int 0, .ref c21, .ref c22, .ref c23, .ref c24, .ref c25, .ref c26, .ref c27, .ref c28, .ref c29, .int 0])), (c1, .inl (c2, 32768, .inl f49))] H := hP
  have hD : va_D A [(c0, .inr (20, [.int 0, .ref c1, .int 7, .int 0, .ref c8, .ref c9, .ref c10, .ref c11, .ref c12, .ref c13, .ref c14, .ref c15, .ref c16, .ref c17, .ref c18, .ref c19, .ref c20, .int 0, .int 0, .int 0, .int 0, .int 0, .int 0, .int 0, .int 0, .int 0, .ref c21, .ref c22, .ref c23, .ref c24, .ref c25, .ref c26, .ref c27, .ref c28, .ref c29, .int 0])), (c1, .inl (c2, 32768, .inl f49))] := hD
  refine lv_iinc (v := 7) (lv' := [(6, .int 7), (7, .int c4), (0, .ref c0), (1, .int c3), (2, .int c4), (3, .int c5), (4, .int c6), (5, .int c7)]) hx hb dX19_feed_113 hl (k := 1) rfl (by decide) (by decide) rfl (fun ls hl => ?_)
  refine lv_goto (tgt := 22) hx hb dX19_feed_116 (by decide) ?_
  refine lv_iload hx hb dX19_feed_22 (lv_at hl 0 rfl) ?_
  refine lv_bipush (v := 20) hx hb dX19_feed_24 (by decide) ?_
  refine lv_icmp_ge (tgt := 119) hx hb dX19_feed_26 (by decide) (fun h9 => absurd h9 (by decide)) (fun _ => ?_)
  refine lv_iload hx hb dX19_feed_29 (lv_at hl 0 rfl) ?_
  refine lv_iconst (v := 4) hx hb dX19_feed_31 (by decide) ?_
  refine lv_icmp_ge (tgt := 39) hx hb dX19_feed_32 (by decide) (fun _ => ?_) (fun h9 => absurd (by decide) h9)
  refine lv_iload hx hb dX19_feed_39 (lv_at hl 0 rfl) ?_
  refine lv_bipush (v := 8) hx hb dX19_feed_41 (by decide) ?_
  refine lv_icmp_ge (tgt := 50) hx hb dX19_feed_43 (by decide) (fun h9 => absurd h9 (by decide)) (fun _ => ?_)
  refine lv_iload_n hx hb dX19_feed_46 rfl (lv_at hl 4 rfl) ?_
  refine lv_goto (tgt := 75) hx hb dX19_feed_47 (by decide) ?_
  refine lv_istore (lv' := [(7, .int c4), (6, .int 7), (0, .ref c0), (1, .int c3), (2, .int c4), (3, .int c5), (4, .int c6), (5, .int c7)]) hx hb dX19_feed_75 hl (by decide) rfl (fun ls hl => ?_)
  refine lv_aload_n hx hb dX19_feed_77 rfl (lv_at hl 2 rfl) ?_
  refine va_get (D := (dC, dI)) (ci := 20) (v := .ref c1) (C := RX19) (T := TX19) (N := 36) hx hb hts hi_k_X19_feed_X19 hown hK hP 0 rfl rfl 1 (by decide) (hts (.fieldLink RX19 10 "TimeMachineModel" "tape" "[I") (List.mem_of_getElem? (i := 4) rfl)) (fun _ h9 => h9) rfl dX19_feed_78 ?_
  refine lv_aload_n hx hb dX19_feed_81 rfl (lv_at hl 2 rfl) ?_
  refine va_get (D := (dC, dI)) (ci := 20) (v := .int 7) (C := RX19) (T := TX19) (N := 36) hx hb hts hi_k_X19_feed_X19 hown hK hP 0 rfl rfl 2 (by decide) (hts (.fieldLink RX19 117 "TimeMachineModel" "taped" "I") (List.mem_of_getElem? (i := 2) rfl)) (fun _ h9 => h9) rfl dX19_feed_82 ?_
  refine lv_iload hx hb dX19_feed_85 (lv_at hl 0 rfl) ?_
  refine lv_bipush (v := 24) hx hb dX19_feed_87 (by decide) ?_
  refine lv_bipush (v := 8) hx hb dX19_feed_89 (by decide) ?_
  exact kk f49 _ _ _ hK hP hD hS hl

set_option maxHeartbeats 40000000 in
set_option maxRecDepth 100000 in
theorem k_X19_feed_s3 {p : Program} {l : Launch} {e : Env} {s : State} {m : MethodId} {args : Array Value} {below : List Frame} {meth : Method} {c : Code} {Q : State → Prop} {A : Nat → Prop} (dC : Nat → ClassId) (dI : Nat → Nat → Nat) (c0 : Nat) (c1 : Nat) (c2 : ClassId) (c3 : Int32) (c4 : Int32) (c5 : Int32) (c6 : Int32) (c7 : Int32) (c8 : Nat) (c9 : Nat) (c10 : Nat) (c11 : Nat) (c12 : Nat) (c13 : Nat) (c14 : Nat) (c15 : Nat) (c16 : Nat) (c17 : Nat) (c18 : Nat) (c19 : Nat) (c20 : Nat) (c21 : Nat) (c22 : Nat) (c23 : Nat) (c24 : Nat) (c25 : Nat) (c26 : Nat) (c27 : Nat) (c28 : Nat) (c29 : Nat) (f49 : Nat → Int32) (hlt : l.stackTraces = false) (hx : p.tables.exec = Jvm.exec) (hb : c.code = cX19_feed) (hml : c.maxLocals = 8) (hown : s.vm.findClass RX19 = some m.cls) (hts : ∀ w ∈ ow_k_X19_feed, w.before args s = true) (hN : nv_E A s) (hA : ∀ q : Nat, s.heap.size ≤ q → A q) {H : Heap} {locs : List Loc} {ls : Array Slot} (hK : va_K (dC, dI) vwCl [(c2, .int)] s) (hP : va_P (dC, dI) vwCl [(c0, .inr (20, [.int 0, .ref c1, .int 7, .int 0, .ref c8, .ref c9, .ref c10, .ref c11, .ref c12, .ref c13, .ref c14, .ref c15, .ref c16, .ref c17, .ref c18, .ref c19, .ref c20, .int 0, .int 0, .int 0, .int 0, .int 0, .int 0, .int 0, .int 0, .int 0, .ref c21, .ref c22, .ref c23, .ref c24, .ref c25, .ref c26, .ref c27, .ref c28, .ref c29, .int 0])), (c1, .inl (c2, 32768, .inl f49))] H) (hD : va_D A [(c0, .inr (20, [.int 0, .ref c1, .int 7, .int 0, .ref c8, .ref c9, .ref c10, .ref c11, .ref c12, .ref c13, .ref c14, .ref c15, .ref c16, .ref c17, .ref c18, .ref c19, .ref c20, .int 0, .int 0, .int 0, .int 0, .int 0, .int 0, .int 0, .int 0, .int 0, .ref c21, .ref c22, .ref c23, .ref c24, .ref c25, .ref c26, .ref c27, .ref c28, .ref c29, .int 0])), (c1, .inl (c2, 32768, .inl f49))]) (hS : va_S A s.heap H locs) (hl : lv_has ls 8 [(7, .int c4), (6, .int 7), (0, .ref c0), (1, .int c3), (2, .int c4), (3, .int c5), (4, .int c6), (5, .int c7)]) (kk : ∀ (f70 : Nat → Int32) (H : Heap) (locs : List Loc) (ls : Array Slot), va_K (dC, dI) vwCl [(c2, .int)] s → va_P (dC, dI) vwCl [(c0, .inr (20, [.int 0, .ref c1, .int 9, .int 0, .ref c8, .ref c9, .ref c10, .ref c11, .ref c12, .ref c13, .ref c14, .ref c15, .ref c16, .ref c17, .ref c18, .ref c19, .ref c20, .int 0, .int 0, .int 0, .int 0, .int 0, .int 0, .int 0, .int 0, .int 0, .ref c21, .ref c22, .ref c23, .ref c24, .ref c25, .ref c26, .ref c27, .ref c28, .ref c29, .int 0])), (c1, .inl (c2, 32768, .inl f70))] H → va_D A [(c0, .inr (20, [.int 0, .ref c1, .int 9, .int 0, .ref c8, .ref c9, .ref c10, .ref c11, .ref c12, .ref c13, .ref c14, .ref c15, .ref c16, .ref c17, .ref c18, .ref c19, .ref c20, .int 0, .int 0, .int 0, .int 0, .int 0, .int 0, .int 0, .int 0, .int 0, .ref c21, .ref c22, .ref c23, .ref c24, .ref c25, .ref c26, .ref c27, .ref c28, .ref c29, .int 0])), (c1, .inl (c2, 32768, .inl f70))] → va_S A s.heap H locs → lv_has ls 8 [(7, .int c5), (6, .int 9), (0, .ref c0), (1, .int c3), (2, .int c4), (3, .int c5), (4, .int c6), (5, .int c7)] → W p l e (headSpec ow_k_X19_feed ({ frames := 0, cells := 0, slots := 0, locals := 0 })).room s m args below meth c H locs 0 0 Q (F0 m 108 ls [.int 9, .ref c0])) : W p l e (headSpec ow_k_X19_feed ({ frames := 0, cells := 0, slots := 0, locals := 0 })).room s m args below meth c H locs 0 0 Q (F0 m 91 ls [.int 8, .int 24, .int c4, .int 7, .ref c1]) := by
  refine lv_iload hx hb dX19_feed_91 (lv_at hl 1 rfl) ?_
  refine lv_iconst (v := 4) hx hb dX19_feed_93 (by decide) ?_
  refine lv_irem hx hb dX19_feed_94 (by decide) ?_
  refine lv_topi (fun z51 ez51 => ?_)
  obtain rfl : z51 = 3 := ez51.trans (by decide)
  refine lv_imul hx hb dX19_feed_95 ?_
  refine lv_topi (fun z52 ez52 => ?_)
  obtain rfl : z52 = 24 := ez52.trans (by decide)
  refine lv_isub hx hb dX19_feed_96 ?_
  refine lv_topi (fun z53 ez53 => ?_)
  obtain rfl : z53 = 0 := ez53.trans (by decide)
  refine lv_ishr hx hb dX19_feed_97 ?_
  refine lv_topi (fun z54 ez54 => ?_)
  refine lv_sipush (v := 255) hx hb dX19_feed_98 (by decide) ?_
  refine lv_iand hx hb dX19_feed_101 ?_
  refine lv_topi (fun z55 ez55 => ?_)
  refine va_iast (i := 7) (x := z55) hx hb hK hP hD hS 1 0 rfl rfl (vp_in_iff.mpr ⟨by decide, by decide⟩) dX19_feed_102 (fun H locs hP hD hS => ?_)
  generalize hf56 : upd f49 (Int32.toNatClampNeg 7) z55 = f56 at hP hD
  have hP : va_P (dC, dI) vwCl [(c0, .inr (20, [.int 0, .ref c1, .int 7, .int 0, .ref c8, .ref c9, .ref c10, .ref c11, .ref c12, .ref c13, .ref c14, .ref c15, .ref c16, .ref c17, .ref c18, .ref c19, .ref c20, .int 0, .int 0, .int 0, .int 0, .int 0, .int 0, .int 0, .int 0, .int 0, .ref c21, .ref c22, .ref c23, .ref c24, .ref c25, .ref c26, .ref c27, .ref c28, .ref c29, .int 0])), (c1, .inl (c2, 32768, .inl f56))] H := hP
  have hD : va_D A [(c0, .inr (20, [.int 0, .ref c1, .int 7, .int 0, .ref c8, .ref c9, .ref c10, .ref c11, .ref c12, .ref c13, .ref c14, .ref c15, .ref c16, .ref c17, .ref c18, .ref c19, .ref c20, .int 0, .int 0, .int 0, .int 0, .int 0, .int 0, .int 0, .int 0, .int 0, .ref c21, .ref c22, .ref c23, .ref c24, .ref c25, .ref c26, .ref c27, .ref c28, .ref c29, .int 0])), (c1, .inl (c2, 32768, .inl f56))] := hD
  refine lv_aload_n hx hb dX19_feed_103 rfl (lv_at hl 2 rfl) ?_
  refine lv_dup hx hb dX19_feed_104 rfl ?_
  refine va_get (D := (dC, dI)) (ci := 20) (v := .int 7) (C := RX19) (T := TX19) (N := 36) hx hb hts hi_k_X19_feed_X19 hown hK hP 0 rfl rfl 2 (by decide) (hts (.fieldLink RX19 117 "TimeMachineModel" "taped" "I") (List.mem_of_getElem? (i := 2) rfl)) (fun _ h9 => h9) rfl dX19_feed_105 ?_
  refine lv_iconst (v := 1) hx hb dX19_feed_108 (by decide) ?_
  refine lv_iadd hx hb dX19_feed_109 ?_
  refine lv_topi (fun z57 ez57 => ?_)
  obtain rfl : z57 = 8 := ez57.trans (by decide)
  refine va_put (D := (dC, dI)) (ci := 20) (v := .int 8) (ty := .int) (C := RX19) (T := TX19) (N := 36) hx hb hts hi_k_X19_feed_X19 tyX19 tyX19_ok nmX19 hown hK hP hD hS 0 rfl rfl 2 (by decide) (hts (.fieldLink RX19 117 "TimeMachineModel" "taped" "I") (List.mem_of_getElem? (i := 2) rfl)) (fun _ h9 => h9) rfl (by decide +kernel) rfl rfl (Nat.le_of_ble_eq_true rfl) dX19_feed_110 (fun H locs hP hD hS => ?_)
  have hP : va_P (dC, dI) vwCl [(c0, .inr (20, [.int 0, .ref c1, .int 8, .int 0, .ref c8, .ref c9, .ref c10, .ref c11, .ref c12, .ref c13, .ref c14, .ref c15, .ref c16, .ref c17, .ref c18, .ref c19, .ref c20, .int 0, .int 0, .int 0, .int 0, .int 0, .int 0, .int 0, .int 0, .int 0, .ref c21, .ref c22, .ref c23, .ref c24, .ref c25, .ref c26, .ref c27, .ref c28, .ref c29, .int 0])), (c1, .inl (c2, 32768, .inl f56))] H := hP
  have hD : va_D A [(c0, .inr (20, [.int 0, .ref c1, .int 8, .int 0, .ref c8, .ref c9, .ref c10, .ref c11, .ref c12, .ref c13, .ref c14, .ref c15, .ref c16, .ref c17, .ref c18, .ref c19, .ref c20, .int 0, .int 0, .int 0, .int 0, .int 0, .int 0, .int 0, .int 0, .int 0, .ref c21, .ref c22, .ref c23, .ref c24, .ref c25, .ref c26, .ref c27, .ref c28, .ref c29, .int 0])), (c1, .inl (c2, 32768, .inl f56))] := hD
  refine lv_iinc (v := 8) (lv' := [(6, .int 8), (7, .int c4), (0, .ref c0), (1, .int c3), (2, .int c4), (3, .int c5), (4, .int c6), (5, .int c7)]) hx hb dX19_feed_113 hl (k := 1) rfl (by decide) (by decide) rfl (fun ls hl => ?_)
  refine lv_goto (tgt := 22) hx hb dX19_feed_116 (by decide) ?_
  refine lv_iload hx hb dX19_feed_22 (lv_at hl 0 rfl) ?_
  refine lv_bipush (v := 20) hx hb dX19_feed_24 (by decide) ?_
  refine lv_icmp_ge (tgt := 119) hx hb dX19_feed_26 (by decide) (fun h9 => absurd h9 (by decide)) (fun _ => ?_)
  refine lv_iload hx hb dX19_feed_29 (lv_at hl 0 rfl) ?_
  refine lv_iconst (v := 4) hx hb dX19_feed_31 (by decide) ?_
  refine lv_icmp_ge (tgt := 39) hx hb dX19_feed_32 (by decide) (fun _ => ?_) (fun h9 => absurd (by decide) h9)
  refine lv_iload hx hb dX19_feed_39 (lv_at hl 0 rfl) ?_
  refine lv_bipush (v := 8) hx hb dX19_feed_41 (by decide) ?_
  refine lv_icmp_ge (tgt := 50) hx hb dX19_feed_43 (by decide) (fun _ => ?_) (fun h9 => absurd (by decide) h9)
  refine lv_iload hx hb dX19_feed_50 (lv_at hl 0 rfl) ?_
  refine lv_bipush (v := 12) hx hb dX19_feed_52 (by decide) ?_
  refine lv_icmp_ge (tgt := 61) hx hb dX19_feed_54 (by decide) (fun h9 => absurd h9 (by decide)) (fun _ => ?_)
  refine lv_iload_n hx hb dX19_feed_57 rfl (lv_at hl 5 rfl) ?_
  refine lv_goto (tgt := 75) hx hb dX19_feed_58 (by decide) ?_
  refine lv_istore (lv' := [(7, .int c5), (6, .int 8), (0, .ref c0), (1, .int c3), (2, .int c4), (3, .int c5), (4, .int c6), (5, .int c7)]) hx hb dX19_feed_75 hl (by decide) rfl (fun ls hl => ?_)
  refine lv_aload_n hx hb dX19_feed_77 rfl (lv_at hl 2 rfl) ?_
  refine va_get (D := (dC, dI)) (ci := 20) (v := .ref c1) (C := RX19) (T := TX19) (N := 36) hx hb hts hi_k_X19_feed_X19 hown hK hP 0 rfl rfl 1 (by decide) (hts (.fieldLink RX19 10 "TimeMachineModel" "tape" "[I") (List.mem_of_getElem? (i := 4) rfl)) (fun _ h9 => h9) rfl dX19_feed_78 ?_
  refine lv_aload_n hx hb dX19_feed_81 rfl (lv_at hl 2 rfl) ?_
  refine va_get (D := (dC, dI)) (ci := 20) (v := .int 8) (C := RX19) (T := TX19) (N := 36) hx hb hts hi_k_X19_feed_X19 hown hK hP 0 rfl rfl 2 (by decide) (hts (.fieldLink RX19 117 "TimeMachineModel" "taped" "I") (List.mem_of_getElem? (i := 2) rfl)) (fun _ h9 => h9) rfl dX19_feed_82 ?_
  refine lv_iload hx hb dX19_feed_85 (lv_at hl 0 rfl) ?_
  refine lv_bipush (v := 24) hx hb dX19_feed_87 (by decide) ?_
  refine lv_bipush (v := 8) hx hb dX19_feed_89 (by decide) ?_
  refine lv_iload hx hb dX19_feed_91 (lv_at hl 1 rfl) ?_
  refine lv_iconst (v := 4) hx hb dX19_feed_93 (by decide) ?_
  refine lv_irem hx hb dX19_feed_94 (by decide) ?_
  refine lv_topi (fun z58 ez58 => ?_)
  obtain rfl : z58 = 0 := ez58.trans (by decide)
  refine lv_imul hx hb dX19_feed_95 ?_
  refine lv_topi (fun z59 ez59 => ?_)
  obtain rfl : z59 = 0 := ez59.trans (by decide)
  refine lv_isub hx hb dX19_feed_96 ?_
  refine lv_topi (fun z60 ez60 => ?_)
  obtain rfl : z60 = 24 := ez60.trans (by decide)
  refine lv_ishr hx hb dX19_feed_97 ?_
  refine lv_topi (fun z61 ez61 => ?_)
  refine lv_sipush (v := 255) hx hb dX19_feed_98 (by decide) ?_
  refine lv_iand hx hb dX19_feed_101 ?_
  refine lv_topi (fun z62 ez62 => ?_)
  refine va_iast (i := 8) (x := z62) hx hb hK hP hD hS 1 0 rfl rfl (vp_in_iff.mpr ⟨by decide, by decide⟩) dX19_feed_102 (fun H locs hP hD hS => ?_)
  generalize hf63 : upd f56 (Int32.toNatClampNeg 8) z62 = f63 at hP hD
  have hP : va_P (dC, dI) vwCl [(c0, .inr (20, [.int 0, .ref c1, .int 8, .int 0, .ref c8, .ref c9, .ref c10, .ref c11, .ref c12, .ref c13, .ref c14, .ref c15, .ref c16, .ref c17, .ref c18, .ref c19, .ref c20, .int 0, .int 0, .int 0, .int 0, .int 0, .int 0, .int 0, .int 0, .int 0, .ref c21, .ref c22, .ref c23, .ref c24, .ref c25, .ref c26, .ref c27, .ref c28, .ref c29, .int 0])), (c1, .inl (c2, 32768, .inl f63))] H := hP
  have hD : va_D A [(c0, .inr (20, [.int 0, .ref c1, .int 8, .int 0, .ref c8, .ref c9, .ref c10, .ref c11, .ref c12, .ref c13, .ref c14, .ref c15, .ref c16, .ref c17, .ref c18, .ref c19, .ref c20, .int 0, .int 0, .int 0, .int 0, .int 0, .int 0, .int 0, .int 0, .int 0, .ref c21, .ref c22, .ref c23, .ref c24, .ref c25, .ref c26, .ref c27, .ref c28, .ref c29, .int 0])), (c1, .inl (c2, 32768, .inl f63))] := hD
  refine lv_aload_n hx hb dX19_feed_103 rfl (lv_at hl 2 rfl) ?_
  refine lv_dup hx hb dX19_feed_104 rfl ?_
  refine va_get (D := (dC, dI)) (ci := 20) (v := .int 8) (C := RX19) (T := TX19) (N := 36) hx hb hts hi_k_X19_feed_X19 hown hK hP 0 rfl rfl 2 (by decide) (hts (.fieldLink RX19 117 "TimeMachineModel" "taped" "I") (List.mem_of_getElem? (i := 2) rfl)) (fun _ h9 => h9) rfl dX19_feed_105 ?_
  refine lv_iconst (v := 1) hx hb dX19_feed_108 (by decide) ?_
  refine lv_iadd hx hb dX19_feed_109 ?_
  refine lv_topi (fun z64 ez64 => ?_)
  obtain rfl : z64 = 9 := ez64.trans (by decide)
  refine va_put (D := (dC, dI)) (ci := 20) (v := .int 9) (ty := .int) (C := RX19) (T := TX19) (N := 36) hx hb hts hi_k_X19_feed_X19 tyX19 tyX19_ok nmX19 hown hK hP hD hS 0 rfl rfl 2 (by decide) (hts (.fieldLink RX19 117 "TimeMachineModel" "taped" "I") (List.mem_of_getElem? (i := 2) rfl)) (fun _ h9 => h9) rfl (by decide +kernel) rfl rfl (Nat.le_of_ble_eq_true rfl) dX19_feed_110 (fun H locs hP hD hS => ?_)
  have hP : va_P (dC, dI) vwCl [(c0, .inr (20, [.int 0, .ref c1, .int 9, .int 0, .ref c8, .ref c9, .ref c10, .ref c11, .ref c12, .ref c13, .ref c14, .ref c15, .ref c16, .ref c17, .ref c18, .ref c19, .ref c20, .int 0, .int 0, .int 0, .int 0, .int 0, .int 0, .int 0, .int 0, .int 0, .ref c21, .ref c22, .ref c23, .ref c24, .ref c25, .ref c26, .ref c27, .ref c28, .ref c29, .int 0])), (c1, .inl (c2, 32768, .inl f63))] H := hP
  have hD : va_D A [(c0, .inr (20, [.int 0, .ref c1, .int 9, .int 0, .ref c8, .ref c9, .ref c10, .ref c11, .ref c12, .ref c13, .ref c14, .ref c15, .ref c16, .ref c17, .ref c18, .ref c19, .ref c20, .int 0, .int 0, .int 0, .int 0, .int 0, .int 0, .int 0, .int 0, .int 0, .ref c21, .ref c22, .ref c23, .ref c24, .ref c25, .ref c26, .ref c27, .ref c28, .ref c29, .int 0])), (c1, .inl (c2, 32768, .inl f63))] := hD
  refine lv_iinc (v := 9) (lv' := [(6, .int 9), (7, .int c5), (0, .ref c0), (1, .int c3), (2, .int c4), (3, .int c5), (4, .int c6), (5, .int c7)]) hx hb dX19_feed_113 hl (k := 1) rfl (by decide) (by decide) rfl (fun ls hl => ?_)
  refine lv_goto (tgt := 22) hx hb dX19_feed_116 (by decide) ?_
  refine lv_iload hx hb dX19_feed_22 (lv_at hl 0 rfl) ?_
  refine lv_bipush (v := 20) hx hb dX19_feed_24 (by decide) ?_
  refine lv_icmp_ge (tgt := 119) hx hb dX19_feed_26 (by decide) (fun h9 => absurd h9 (by decide)) (fun _ => ?_)
  refine lv_iload hx hb dX19_feed_29 (lv_at hl 0 rfl) ?_
  refine lv_iconst (v := 4) hx hb dX19_feed_31 (by decide) ?_
  refine lv_icmp_ge (tgt := 39) hx hb dX19_feed_32 (by decide) (fun _ => ?_) (fun h9 => absurd (by decide) h9)
  refine lv_iload hx hb dX19_feed_39 (lv_at hl 0 rfl) ?_
  refine lv_bipush (v := 8) hx hb dX19_feed_41 (by decide) ?_
  refine lv_icmp_ge (tgt := 50) hx hb dX19_feed_43 (by decide) (fun _ => ?_) (fun h9 => absurd (by decide) h9)
  refine lv_iload hx hb dX19_feed_50 (lv_at hl 0 rfl) ?_
  refine lv_bipush (v := 12) hx hb dX19_feed_52 (by decide) ?_
  refine lv_icmp_ge (tgt := 61) hx hb dX19_feed_54 (by decide) (fun h9 => absurd h9 (by decide)) (fun _ => ?_)
  refine lv_iload_n hx hb dX19_feed_57 rfl (lv_at hl 5 rfl) ?_
  refine lv_goto (tgt := 75) hx hb dX19_feed_58 (by decide) ?_
  refine lv_istore (lv' := [(7, .int c5), (6, .int 9), (0, .ref c0), (1, .int c3), (2, .int c4), (3, .int c5), (4, .int c6), (5, .int c7)]) hx hb dX19_feed_75 hl (by decide) rfl (fun ls hl => ?_)
  refine lv_aload_n hx hb dX19_feed_77 rfl (lv_at hl 2 rfl) ?_
  refine va_get (D := (dC, dI)) (ci := 20) (v := .ref c1) (C := RX19) (T := TX19) (N := 36) hx hb hts hi_k_X19_feed_X19 hown hK hP 0 rfl rfl 1 (by decide) (hts (.fieldLink RX19 10 "TimeMachineModel" "tape" "[I") (List.mem_of_getElem? (i := 4) rfl)) (fun _ h9 => h9) rfl dX19_feed_78 ?_
  refine lv_aload_n hx hb dX19_feed_81 rfl (lv_at hl 2 rfl) ?_
  refine va_get (D := (dC, dI)) (ci := 20) (v := .int 9) (C := RX19) (T := TX19) (N := 36) hx hb hts hi_k_X19_feed_X19 hown hK hP 0 rfl rfl 2 (by decide) (hts (.fieldLink RX19 117 "TimeMachineModel" "taped" "I") (List.mem_of_getElem? (i := 2) rfl)) (fun _ h9 => h9) rfl dX19_feed_82 ?_
  refine lv_iload hx hb dX19_feed_85 (lv_at hl 0 rfl) ?_
  refine lv_bipush (v := 24) hx hb dX19_feed_87 (by decide) ?_
  refine lv_bipush (v := 8) hx hb dX19_feed_89 (by decide) ?_
  refine lv_iload hx hb dX19_feed_91 (lv_at hl 1 rfl) ?_
  refine lv_iconst (v := 4) hx hb dX19_feed_93 (by decide) ?_
  refine lv_irem hx hb dX19_feed_94 (by decide) ?_
  refine lv_topi (fun z65 ez65 => ?_)
  obtain rfl : z65 = 1 := ez65.trans (by decide)
  refine lv_imul hx hb dX19_feed_95 ?_
  refine lv_topi (fun z66 ez66 => ?_)
  obtain rfl : z66 = 8 := ez66.trans (by decide)
  refine lv_isub hx hb dX19_feed_96 ?_
  refine lv_topi (fun z67 ez67 => ?_)
  obtain rfl : z67 = 16 := ez67.trans (by decide)
  refine lv_ishr hx hb dX19_feed_97 ?_
  refine lv_topi (fun z68 ez68 => ?_)
  refine lv_sipush (v := 255) hx hb dX19_feed_98 (by decide) ?_
  refine lv_iand hx hb dX19_feed_101 ?_
  refine lv_topi (fun z69 ez69 => ?_)
  refine va_iast (i := 9) (x := z69) hx hb hK hP hD hS 1 0 rfl rfl (vp_in_iff.mpr ⟨by decide, by decide⟩) dX19_feed_102 (fun H locs hP hD hS => ?_)
  generalize hf70 : upd f63 (Int32.toNatClampNeg 9) z69 = f70 at hP hD
  have hP : va_P (dC, dI) vwCl [(c0, .inr (20, [.int 0, .ref c1, .int 9, .int 0, .ref c8, .ref c9, .ref c10, .ref c11, .ref c12, .ref c13, .ref c14, .ref c15, .ref c16, .ref c17, .ref c18, .ref c19, .ref c20, .int 0, .int 0, .int 0, .int 0, .int 0, .int 0, .int 0, .int 0, .int 0, .ref c21, .ref c22, .ref c23, .ref c24, .ref c25, .ref c26, .ref c27, .ref c28, .ref c29, .int 0])), (c1, .inl (c2, 32768, .inl f70))] H := hP
  have hD : va_D A [(c0, .inr (20, [.int 0, .ref c1, .int 9, .int 0, .ref c8, .ref c9, .ref c10, .ref c11, .ref c12, .ref c13, .ref c14, .ref c15, .ref c16, .ref c17, .ref c18, .ref c19, .ref c20, .int 0, .int 0, .int 0, .int 0, .int 0, .int 0, .int 0, .int 0, .int 0, .ref c21, .ref c22, .ref c23, .ref c24, .ref c25, .ref c26, .ref c27, .ref c28, .ref c29, .int 0])), (c1, .inl (c2, 32768, .inl f70))] := hD
  refine lv_aload_n hx hb dX19_feed_103 rfl (lv_at hl 2 rfl) ?_
  refine lv_dup hx hb dX19_feed_104 rfl ?_
  refine va_get (D := (dC, dI)) (ci := 20) (v := .int 9) (C := RX19) (T := TX19) (N := 36) hx hb hts hi_k_X19_feed_X19 hown hK hP 0 rfl rfl 2 (by decide) (hts (.fieldLink RX19 117 "TimeMachineModel" "taped" "I") (List.mem_of_getElem? (i := 2) rfl)) (fun _ h9 => h9) rfl dX19_feed_105 ?_
  exact kk f70 _ _ _ hK hP hD hS hl

set_option maxHeartbeats 40000000 in
set_option maxRecDepth 100000 in
theorem k_X19_feed_s4 {p : Program} {l : Launch} {e : Env} {s : State} {m : MethodId} {args : Array Value} {below : List Frame} {meth : Method} {c : Code} {Q : State → Prop} {A : Nat → Prop} (dC : Nat → ClassId) (dI : Nat → Nat → Nat) (c0 : Nat) (c1 : Nat) (c2 : ClassId) (c3 : Int32) (c4 : Int32) (c5 : Int32) (c6 : Int32) (c7 : Int32) (c8 : Nat) (c9 : Nat) (c10 : Nat) (c11 : Nat) (c12 : Nat) (c13 : Nat) (c14 : Nat) (c15 : Nat) (c16 : Nat) (c17 : Nat) (c18 : Nat) (c19 : Nat) (c20 : Nat) (c21 : Nat) (c22 : Nat) (c23 : Nat) (c24 : Nat) (c25 : Nat) (c26 : Nat) (c27 : Nat) (c28 : Nat) (c29 : Nat) (f70 : Nat → Int32) (hlt : l.stackTraces = false) (hx : p.tables.exec = Jvm.exec) (hb : c.code = cX19_feed) (hml : c.maxLocals = 8) (hown : s.vm.findClass RX19 = some m.cls) (hts : ∀ w ∈ ow_k_X19_feed, w.before args s = true) (hN : nv_E A s) (hA : ∀ q : Nat, s.heap.size ≤ q → A q) {H : Heap} {locs : List Loc} {ls : Array Slot} (hK : va_K (dC, dI) vwCl [(c2, .int)] s) (hP : va_P (dC, dI) vwCl [(c0, .inr (20, [.int 0, .ref c1, .int 9, .int 0, .ref c8, .ref c9, .ref c10, .ref c11, .ref c12, .ref c13, .ref c14, .ref c15, .ref c16, .ref c17, .ref c18, .ref c19, .ref c20, .int 0, .int 0, .int 0, .int 0, .int 0, .int 0, .int 0, .int 0, .int 0, .ref c21, .ref c22, .ref c23, .ref c24, .ref c25, .ref c26, .ref c27, .ref c28, .ref c29, .int 0])), (c1, .inl (c2, 32768, .inl f70))] H) (hD : va_D A [(c0, .inr (20, [.int 0, .ref c1, .int 9, .int 0, .ref c8, .ref c9, .ref c10, .ref c11, .ref c12, .ref c13, .ref c14, .ref c15, .ref c16, .ref c17, .ref c18, .ref c19, .ref c20, .int 0, .int 0, .int 0, .int 0, .int 0, .int 0, .int 0, .int 0, .int 0, .ref c21, .ref c22, .ref c23, .ref c24, .ref c25, .ref c26, .ref c27, .ref c28, .ref c29, .int 0])), (c1, .inl (c2, 32768, .inl f70))]) (hS : va_S A s.heap H locs) (hl : lv_has ls 8 [(7, .int c5), (6, .int 9), (0, .ref c0), (1, .int c3), (2, .int c4), (3, .int c5), (4, .int c6), (5, .int c7)]) (kk : ∀ (f84 : Nat → Int32) (H : Heap) (locs : List Loc) (ls : Array Slot), va_K (dC, dI) vwCl [(c2, .int)] s → va_P (dC, dI) vwCl [(c0, .inr (20, [.int 0, .ref c1, .int 12, .int 0, .ref c8, .ref c9, .ref c10, .ref c11, .ref c12, .ref c13, .ref c14, .ref c15, .ref c16, .ref c17, .ref c18, .ref c19, .ref c20, .int 0, .int 0, .int 0, .int 0, .int 0, .int 0, .int 0, .int 0, .int 0, .ref c21, .ref c22, .ref c23, .ref c24, .ref c25, .ref c26, .ref c27, .ref c28, .ref c29, .int 0])), (c1, .inl (c2, 32768, .inl f84))] H → va_D A [(c0, .inr (20, [.int 0, .ref c1, .int 12, .int 0, .ref c8, .ref c9, .ref c10, .ref c11, .ref c12, .ref c13, .ref c14, .ref c15, .ref c16, .ref c17, .ref c18, .ref c19, .ref c20, .int 0, .int 0, .int 0, .int 0, .int 0, .int 0, .int 0, .int 0, .int 0, .ref c21, .ref c22, .ref c23, .ref c24, .ref c25, .ref c26, .ref c27, .ref c28, .ref c29, .int 0])), (c1, .inl (c2, 32768, .inl f84))] → va_S A s.heap H locs → lv_has ls 8 [(6, .int 12), (7, .int c5), (0, .ref c0), (1, .int c3), (2, .int c4), (3, .int c5), (4, .int c6), (5, .int c7)] → W p l e (headSpec ow_k_X19_feed ({ frames := 0, cells := 0, slots := 0, locals := 0 })).room s m args below meth c H locs 0 0 Q (F0 m 41 ls [.int 12])) : W p l e (headSpec ow_k_X19_feed ({ frames := 0, cells := 0, slots := 0, locals := 0 })).room s m args below meth c H locs 0 0 Q (F0 m 108 ls [.int 9, .ref c0]) := by
  refine lv_iconst (v := 1) hx hb dX19_feed_108 (by decide) ?_
  refine lv_iadd hx hb dX19_feed_109 ?_
  refine lv_topi (fun z71 ez71 => ?_)
  obtain rfl : z71 = 10 := ez71.trans (by decide)
  refine va_put (D := (dC, dI)) (ci := 20) (v := .int 10) (ty := .int) (C := RX19) (T := TX19) (N := 36) hx hb hts hi_k_X19_feed_X19 tyX19 tyX19_ok nmX19 hown hK hP hD hS 0 rfl rfl 2 (by decide) (hts (.fieldLink RX19 117 "TimeMachineModel" "taped" "I") (List.mem_of_getElem? (i := 2) rfl)) (fun _ h9 => h9) rfl (by decide +kernel) rfl rfl (Nat.le_of_ble_eq_true rfl) dX19_feed_110 (fun H locs hP hD hS => ?_)
  have hP : va_P (dC, dI) vwCl [(c0, .inr (20, [.int 0, .ref c1, .int 10, .int 0, .ref c8, .ref c9, .ref c10, .ref c11, .ref c12, .ref c13, .ref c14, .ref c15, .ref c16, .ref c17, .ref c18, .ref c19, .ref c20, .int 0, .int 0, .int 0, .int 0, .int 0, .int 0, .int 0, .int 0, .int 0, .ref c21, .ref c22, .ref c23, .ref c24, .ref c25, .ref c26, .ref c27, .ref c28, .ref c29, .int 0])), (c1, .inl (c2, 32768, .inl f70))] H := hP
  have hD : va_D A [(c0, .inr (20, [.int 0, .ref c1, .int 10, .int 0, .ref c8, .ref c9, .ref c10, .ref c11, .ref c12, .ref c13, .ref c14, .ref c15, .ref c16, .ref c17, .ref c18, .ref c19, .ref c20, .int 0, .int 0, .int 0, .int 0, .int 0, .int 0, .int 0, .int 0, .int 0, .ref c21, .ref c22, .ref c23, .ref c24, .ref c25, .ref c26, .ref c27, .ref c28, .ref c29, .int 0])), (c1, .inl (c2, 32768, .inl f70))] := hD
  refine lv_iinc (v := 10) (lv' := [(6, .int 10), (7, .int c5), (0, .ref c0), (1, .int c3), (2, .int c4), (3, .int c5), (4, .int c6), (5, .int c7)]) hx hb dX19_feed_113 hl (k := 1) rfl (by decide) (by decide) rfl (fun ls hl => ?_)
  refine lv_goto (tgt := 22) hx hb dX19_feed_116 (by decide) ?_
  refine lv_iload hx hb dX19_feed_22 (lv_at hl 0 rfl) ?_
  refine lv_bipush (v := 20) hx hb dX19_feed_24 (by decide) ?_
  refine lv_icmp_ge (tgt := 119) hx hb dX19_feed_26 (by decide) (fun h9 => absurd h9 (by decide)) (fun _ => ?_)
  refine lv_iload hx hb dX19_feed_29 (lv_at hl 0 rfl) ?_
  refine lv_iconst (v := 4) hx hb dX19_feed_31 (by decide) ?_
  refine lv_icmp_ge (tgt := 39) hx hb dX19_feed_32 (by decide) (fun _ => ?_) (fun h9 => absurd (by decide) h9)
  refine lv_iload hx hb dX19_feed_39 (lv_at hl 0 rfl) ?_
  refine lv_bipush (v := 8) hx hb dX19_feed_41 (by decide) ?_
  refine lv_icmp_ge (tgt := 50) hx hb dX19_feed_43 (by decide) (fun _ => ?_) (fun h9 => absurd (by decide) h9)
  refine lv_iload hx hb dX19_feed_50 (lv_at hl 0 rfl) ?_
  refine lv_bipush (v := 12) hx hb dX19_feed_52 (by decide) ?_
  refine lv_icmp_ge (tgt := 61) hx hb dX19_feed_54 (by decide) (fun h9 => absurd h9 (by decide)) (fun _ => ?_)
  refine lv_iload_n hx hb dX19_feed_57 rfl (lv_at hl 5 rfl) ?_
  refine lv_goto (tgt := 75) hx hb dX19_feed_58 (by decide) ?_
  refine lv_istore (lv' := [(7, .int c5), (6, .int 10), (0, .ref c0), (1, .int c3), (2, .int c4), (3, .int c5), (4, .int c6), (5, .int c7)]) hx hb dX19_feed_75 hl (by decide) rfl (fun ls hl => ?_)
  refine lv_aload_n hx hb dX19_feed_77 rfl (lv_at hl 2 rfl) ?_
  refine va_get (D := (dC, dI)) (ci := 20) (v := .ref c1) (C := RX19) (T := TX19) (N := 36) hx hb hts hi_k_X19_feed_X19 hown hK hP 0 rfl rfl 1 (by decide) (hts (.fieldLink RX19 10 "TimeMachineModel" "tape" "[I") (List.mem_of_getElem? (i := 4) rfl)) (fun _ h9 => h9) rfl dX19_feed_78 ?_
  refine lv_aload_n hx hb dX19_feed_81 rfl (lv_at hl 2 rfl) ?_
  refine va_get (D := (dC, dI)) (ci := 20) (v := .int 10) (C := RX19) (T := TX19) (N := 36) hx hb hts hi_k_X19_feed_X19 hown hK hP 0 rfl rfl 2 (by decide) (hts (.fieldLink RX19 117 "TimeMachineModel" "taped" "I") (List.mem_of_getElem? (i := 2) rfl)) (fun _ h9 => h9) rfl dX19_feed_82 ?_
  refine lv_iload hx hb dX19_feed_85 (lv_at hl 0 rfl) ?_
  refine lv_bipush (v := 24) hx hb dX19_feed_87 (by decide) ?_
  refine lv_bipush (v := 8) hx hb dX19_feed_89 (by decide) ?_
  refine lv_iload hx hb dX19_feed_91 (lv_at hl 1 rfl) ?_
  refine lv_iconst (v := 4) hx hb dX19_feed_93 (by decide) ?_
  refine lv_irem hx hb dX19_feed_94 (by decide) ?_
  refine lv_topi (fun z72 ez72 => ?_)
  obtain rfl : z72 = 2 := ez72.trans (by decide)
  refine lv_imul hx hb dX19_feed_95 ?_
  refine lv_topi (fun z73 ez73 => ?_)
  obtain rfl : z73 = 16 := ez73.trans (by decide)
  refine lv_isub hx hb dX19_feed_96 ?_
  refine lv_topi (fun z74 ez74 => ?_)
  obtain rfl : z74 = 8 := ez74.trans (by decide)
  refine lv_ishr hx hb dX19_feed_97 ?_
  refine lv_topi (fun z75 ez75 => ?_)
  refine lv_sipush (v := 255) hx hb dX19_feed_98 (by decide) ?_
  refine lv_iand hx hb dX19_feed_101 ?_
  refine lv_topi (fun z76 ez76 => ?_)
  refine va_iast (i := 10) (x := z76) hx hb hK hP hD hS 1 0 rfl rfl (vp_in_iff.mpr ⟨by decide, by decide⟩) dX19_feed_102 (fun H locs hP hD hS => ?_)
  generalize hf77 : upd f70 (Int32.toNatClampNeg 10) z76 = f77 at hP hD
  have hP : va_P (dC, dI) vwCl [(c0, .inr (20, [.int 0, .ref c1, .int 10, .int 0, .ref c8, .ref c9, .ref c10, .ref c11, .ref c12, .ref c13, .ref c14, .ref c15, .ref c16, .ref c17, .ref c18, .ref c19, .ref c20, .int 0, .int 0, .int 0, .int 0, .int 0, .int 0, .int 0, .int 0, .int 0, .ref c21, .ref c22, .ref c23, .ref c24, .ref c25, .ref c26, .ref c27, .ref c28, .ref c29, .int 0])), (c1, .inl (c2, 32768, .inl f77))] H := hP
  have hD : va_D A [(c0, .inr (20, [.int 0, .ref c1, .int 10, .int 0, .ref c8, .ref c9, .ref c10, .ref c11, .ref c12, .ref c13, .ref c14, .ref c15, .ref c16, .ref c17, .ref c18, .ref c19, .ref c20, .int 0, .int 0, .int 0, .int 0, .int 0, .int 0, .int 0, .int 0, .int 0, .ref c21, .ref c22, .ref c23, .ref c24, .ref c25, .ref c26, .ref c27, .ref c28, .ref c29, .int 0])), (c1, .inl (c2, 32768, .inl f77))] := hD
  refine lv_aload_n hx hb dX19_feed_103 rfl (lv_at hl 2 rfl) ?_
  refine lv_dup hx hb dX19_feed_104 rfl ?_
  refine va_get (D := (dC, dI)) (ci := 20) (v := .int 10) (C := RX19) (T := TX19) (N := 36) hx hb hts hi_k_X19_feed_X19 hown hK hP 0 rfl rfl 2 (by decide) (hts (.fieldLink RX19 117 "TimeMachineModel" "taped" "I") (List.mem_of_getElem? (i := 2) rfl)) (fun _ h9 => h9) rfl dX19_feed_105 ?_
  refine lv_iconst (v := 1) hx hb dX19_feed_108 (by decide) ?_
  refine lv_iadd hx hb dX19_feed_109 ?_
  refine lv_topi (fun z78 ez78 => ?_)
  obtain rfl : z78 = 11 := ez78.trans (by decide)
  refine va_put (D := (dC, dI)) (ci := 20) (v := .int 11) (ty := .int) (C := RX19) (T := TX19) (N := 36) hx hb hts hi_k_X19_feed_X19 tyX19 tyX19_ok nmX19 hown hK hP hD hS 0 rfl rfl 2 (by decide) (hts (.fieldLink RX19 117 "TimeMachineModel" "taped" "I") (List.mem_of_getElem? (i := 2) rfl)) (fun _ h9 => h9) rfl (by decide +kernel) rfl rfl (Nat.le_of_ble_eq_true rfl) dX19_feed_110 (fun H locs hP hD hS => ?_)
  have hP : va_P (dC, dI) vwCl [(c0, .inr (20, [.int 0, .ref c1, .int 11, .int 0, .ref c8, .ref c9, .ref c10, .ref c11, .ref c12, .ref c13, .ref c14, .ref c15, .ref c16, .ref c17, .ref c18, .ref c19, .ref c20, .int 0, .int 0, .int 0, .int 0, .int 0, .int 0, .int 0, .int 0, .int 0, .ref c21, .ref c22, .ref c23, .ref c24, .ref c25, .ref c26, .ref c27, .ref c28, .ref c29, .int 0])), (c1, .inl (c2, 32768, .inl f77))] H := hP
  have hD : va_D A [(c0, .inr (20, [.int 0, .ref c1, .int 11, .int 0, .ref c8, .ref c9, .ref c10, .ref c11, .ref c12, .ref c13, .ref c14, .ref c15, .ref c16, .ref c17, .ref c18, .ref c19, .ref c20, .int 0, .int 0, .int 0, .int 0, .int 0, .int 0, .int 0, .int 0, .int 0, .ref c21, .ref c22, .ref c23, .ref c24, .ref c25, .ref c26, .ref c27, .ref c28, .ref c29, .int 0])), (c1, .inl (c2, 32768, .inl f77))] := hD
  refine lv_iinc (v := 11) (lv' := [(6, .int 11), (7, .int c5), (0, .ref c0), (1, .int c3), (2, .int c4), (3, .int c5), (4, .int c6), (5, .int c7)]) hx hb dX19_feed_113 hl (k := 1) rfl (by decide) (by decide) rfl (fun ls hl => ?_)
  refine lv_goto (tgt := 22) hx hb dX19_feed_116 (by decide) ?_
  refine lv_iload hx hb dX19_feed_22 (lv_at hl 0 rfl) ?_
  refine lv_bipush (v := 20) hx hb dX19_feed_24 (by decide) ?_
  refine lv_icmp_ge (tgt := 119) hx hb dX19_feed_26 (by decide) (fun h9 => absurd h9 (by decide)) (fun _ => ?_)
  refine lv_iload hx hb dX19_feed_29 (lv_at hl 0 rfl) ?_
  refine lv_iconst (v := 4) hx hb dX19_feed_31 (by decide) ?_
  refine lv_icmp_ge (tgt := 39) hx hb dX19_feed_32 (by decide) (fun _ => ?_) (fun h9 => absurd (by decide) h9)
  refine lv_iload hx hb dX19_feed_39 (lv_at hl 0 rfl) ?_
  refine lv_bipush (v := 8) hx hb dX19_feed_41 (by decide) ?_
  refine lv_icmp_ge (tgt := 50) hx hb dX19_feed_43 (by decide) (fun _ => ?_) (fun h9 => absurd (by decide) h9)
  refine lv_iload hx hb dX19_feed_50 (lv_at hl 0 rfl) ?_
  refine lv_bipush (v := 12) hx hb dX19_feed_52 (by decide) ?_
  refine lv_icmp_ge (tgt := 61) hx hb dX19_feed_54 (by decide) (fun h9 => absurd h9 (by decide)) (fun _ => ?_)
  refine lv_iload_n hx hb dX19_feed_57 rfl (lv_at hl 5 rfl) ?_
  refine lv_goto (tgt := 75) hx hb dX19_feed_58 (by decide) ?_
  refine lv_istore (lv' := [(7, .int c5), (6, .int 11), (0, .ref c0), (1, .int c3), (2, .int c4), (3, .int c5), (4, .int c6), (5, .int c7)]) hx hb dX19_feed_75 hl (by decide) rfl (fun ls hl => ?_)
  refine lv_aload_n hx hb dX19_feed_77 rfl (lv_at hl 2 rfl) ?_
  refine va_get (D := (dC, dI)) (ci := 20) (v := .ref c1) (C := RX19) (T := TX19) (N := 36) hx hb hts hi_k_X19_feed_X19 hown hK hP 0 rfl rfl 1 (by decide) (hts (.fieldLink RX19 10 "TimeMachineModel" "tape" "[I") (List.mem_of_getElem? (i := 4) rfl)) (fun _ h9 => h9) rfl dX19_feed_78 ?_
  refine lv_aload_n hx hb dX19_feed_81 rfl (lv_at hl 2 rfl) ?_
  refine va_get (D := (dC, dI)) (ci := 20) (v := .int 11) (C := RX19) (T := TX19) (N := 36) hx hb hts hi_k_X19_feed_X19 hown hK hP 0 rfl rfl 2 (by decide) (hts (.fieldLink RX19 117 "TimeMachineModel" "taped" "I") (List.mem_of_getElem? (i := 2) rfl)) (fun _ h9 => h9) rfl dX19_feed_82 ?_
  refine lv_iload hx hb dX19_feed_85 (lv_at hl 0 rfl) ?_
  refine lv_bipush (v := 24) hx hb dX19_feed_87 (by decide) ?_
  refine lv_bipush (v := 8) hx hb dX19_feed_89 (by decide) ?_
  refine lv_iload hx hb dX19_feed_91 (lv_at hl 1 rfl) ?_
  refine lv_iconst (v := 4) hx hb dX19_feed_93 (by decide) ?_
  refine lv_irem hx hb dX19_feed_94 (by decide) ?_
  refine lv_topi (fun z79 ez79 => ?_)
  obtain rfl : z79 = 3 := ez79.trans (by decide)
  refine lv_imul hx hb dX19_feed_95 ?_
  refine lv_topi (fun z80 ez80 => ?_)
  obtain rfl : z80 = 24 := ez80.trans (by decide)
  refine lv_isub hx hb dX19_feed_96 ?_
  refine lv_topi (fun z81 ez81 => ?_)
  obtain rfl : z81 = 0 := ez81.trans (by decide)
  refine lv_ishr hx hb dX19_feed_97 ?_
  refine lv_topi (fun z82 ez82 => ?_)
  refine lv_sipush (v := 255) hx hb dX19_feed_98 (by decide) ?_
  refine lv_iand hx hb dX19_feed_101 ?_
  refine lv_topi (fun z83 ez83 => ?_)
  refine va_iast (i := 11) (x := z83) hx hb hK hP hD hS 1 0 rfl rfl (vp_in_iff.mpr ⟨by decide, by decide⟩) dX19_feed_102 (fun H locs hP hD hS => ?_)
  generalize hf84 : upd f77 (Int32.toNatClampNeg 11) z83 = f84 at hP hD
  have hP : va_P (dC, dI) vwCl [(c0, .inr (20, [.int 0, .ref c1, .int 11, .int 0, .ref c8, .ref c9, .ref c10, .ref c11, .ref c12, .ref c13, .ref c14, .ref c15, .ref c16, .ref c17, .ref c18, .ref c19, .ref c20, .int 0, .int 0, .int 0, .int 0, .int 0, .int 0, .int 0, .int 0, .int 0, .ref c21, .ref c22, .ref c23, .ref c24, .ref c25, .ref c26, .ref c27, .ref c28, .ref c29, .int 0])), (c1, .inl (c2, 32768, .inl f84))] H := hP
  have hD : va_D A [(c0, .inr (20, [.int 0, .ref c1, .int 11, .int 0, .ref c8, .ref c9, .ref c10, .ref c11, .ref c12, .ref c13, .ref c14, .ref c15, .ref c16, .ref c17, .ref c18, .ref c19, .ref c20, .int 0, .int 0, .int 0, .int 0, .int 0, .int 0, .int 0, .int 0, .int 0, .ref c21, .ref c22, .ref c23, .ref c24, .ref c25, .ref c26, .ref c27, .ref c28, .ref c29, .int 0])), (c1, .inl (c2, 32768, .inl f84))] := hD
  refine lv_aload_n hx hb dX19_feed_103 rfl (lv_at hl 2 rfl) ?_
  refine lv_dup hx hb dX19_feed_104 rfl ?_
  refine va_get (D := (dC, dI)) (ci := 20) (v := .int 11) (C := RX19) (T := TX19) (N := 36) hx hb hts hi_k_X19_feed_X19 hown hK hP 0 rfl rfl 2 (by decide) (hts (.fieldLink RX19 117 "TimeMachineModel" "taped" "I") (List.mem_of_getElem? (i := 2) rfl)) (fun _ h9 => h9) rfl dX19_feed_105 ?_
  refine lv_iconst (v := 1) hx hb dX19_feed_108 (by decide) ?_
  refine lv_iadd hx hb dX19_feed_109 ?_
  refine lv_topi (fun z85 ez85 => ?_)
  obtain rfl : z85 = 12 := ez85.trans (by decide)
  refine va_put (D := (dC, dI)) (ci := 20) (v := .int 12) (ty := .int) (C := RX19) (T := TX19) (N := 36) hx hb hts hi_k_X19_feed_X19 tyX19 tyX19_ok nmX19 hown hK hP hD hS 0 rfl rfl 2 (by decide) (hts (.fieldLink RX19 117 "TimeMachineModel" "taped" "I") (List.mem_of_getElem? (i := 2) rfl)) (fun _ h9 => h9) rfl (by decide +kernel) rfl rfl (Nat.le_of_ble_eq_true rfl) dX19_feed_110 (fun H locs hP hD hS => ?_)
  have hP : va_P (dC, dI) vwCl [(c0, .inr (20, [.int 0, .ref c1, .int 12, .int 0, .ref c8, .ref c9, .ref c10, .ref c11, .ref c12, .ref c13, .ref c14, .ref c15, .ref c16, .ref c17, .ref c18, .ref c19, .ref c20, .int 0, .int 0, .int 0, .int 0, .int 0, .int 0, .int 0, .int 0, .int 0, .ref c21, .ref c22, .ref c23, .ref c24, .ref c25, .ref c26, .ref c27, .ref c28, .ref c29, .int 0])), (c1, .inl (c2, 32768, .inl f84))] H := hP
  have hD : va_D A [(c0, .inr (20, [.int 0, .ref c1, .int 12, .int 0, .ref c8, .ref c9, .ref c10, .ref c11, .ref c12, .ref c13, .ref c14, .ref c15, .ref c16, .ref c17, .ref c18, .ref c19, .ref c20, .int 0, .int 0, .int 0, .int 0, .int 0, .int 0, .int 0, .int 0, .int 0, .ref c21, .ref c22, .ref c23, .ref c24, .ref c25, .ref c26, .ref c27, .ref c28, .ref c29, .int 0])), (c1, .inl (c2, 32768, .inl f84))] := hD
  refine lv_iinc (v := 12) (lv' := [(6, .int 12), (7, .int c5), (0, .ref c0), (1, .int c3), (2, .int c4), (3, .int c5), (4, .int c6), (5, .int c7)]) hx hb dX19_feed_113 hl (k := 1) rfl (by decide) (by decide) rfl (fun ls hl => ?_)
  refine lv_goto (tgt := 22) hx hb dX19_feed_116 (by decide) ?_
  refine lv_iload hx hb dX19_feed_22 (lv_at hl 0 rfl) ?_
  refine lv_bipush (v := 20) hx hb dX19_feed_24 (by decide) ?_
  refine lv_icmp_ge (tgt := 119) hx hb dX19_feed_26 (by decide) (fun h9 => absurd h9 (by decide)) (fun _ => ?_)
  refine lv_iload hx hb dX19_feed_29 (lv_at hl 0 rfl) ?_
  refine lv_iconst (v := 4) hx hb dX19_feed_31 (by decide) ?_
  refine lv_icmp_ge (tgt := 39) hx hb dX19_feed_32 (by decide) (fun _ => ?_) (fun h9 => absurd (by decide) h9)
  refine lv_iload hx hb dX19_feed_39 (lv_at hl 0 rfl) ?_
  exact kk f84 _ _ _ hK hP hD hS hl

set_option maxHeartbeats 40000000 in
set_option maxRecDepth 100000 in
theorem k_X19_feed_s5 {p : Program} {l : Launch} {e : Env} {s : State} {m : MethodId} {args : Array Value} {below : List Frame} {meth : Method} {c : Code} {Q : State → Prop} {A : Nat → Prop} (dC : Nat → ClassId) (dI : Nat → Nat → Nat) (c0 : Nat) (c1 : Nat) (c2 : ClassId) (c3 : Int32) (c4 : Int32) (c5 : Int32) (c6 : Int32) (c7 : Int32) (c8 : Nat) (c9 : Nat) (c10 : Nat) (c11 : Nat) (c12 : Nat) (c13 : Nat) (c14 : Nat) (c15 : Nat) (c16 : Nat) (c17 : Nat) (c18 : Nat) (c19 : Nat) (c20 : Nat) (c21 : Nat) (c22 : Nat) (c23 : Nat) (c24 : Nat) (c25 : Nat) (c26 : Nat) (c27 : Nat) (c28 : Nat) (c29 : Nat) (f84 : Nat → Int32) (hlt : l.stackTraces = false) (hx : p.tables.exec = Jvm.exec) (hb : c.code = cX19_feed) (hml : c.maxLocals = 8) (hown : s.vm.findClass RX19 = some m.cls) (hts : ∀ w ∈ ow_k_X19_feed, w.before args s = true) (hN : nv_E A s) (hA : ∀ q : Nat, s.heap.size ≤ q → A q) {H : Heap} {locs : List Loc} {ls : Array Slot} (hK : va_K (dC, dI) vwCl [(c2, .int)] s) (hP : va_P (dC, dI) vwCl [(c0, .inr (20, [.int 0, .ref c1, .int 12, .int 0, .ref c8, .ref c9, .ref c10, .ref c11, .ref c12, .ref c13, .ref c14, .ref c15, .ref c16, .ref c17, .ref c18, .ref c19, .ref c20, .int 0, .int 0, .int 0, .int 0, .int 0, .int 0, .int 0, .int 0, .int 0, .ref c21, .ref c22, .ref c23, .ref c24, .ref c25, .ref c26, .ref c27, .ref c28, .ref c29, .int 0])), (c1, .inl (c2, 32768, .inl f84))] H) (hD : va_D A [(c0, .inr (20, [.int 0, .ref c1, .int 12, .int 0, .ref c8, .ref c9, .ref c10, .ref c11, .ref c12, .ref c13, .ref c14, .ref c15, .ref c16, .ref c17, .ref c18, .ref c19, .ref c20, .int 0, .int 0, .int 0, .int 0, .int 0, .int 0, .int 0, .int 0, .int 0, .ref c21, .ref c22, .ref c23, .ref c24, .ref c25, .ref c26, .ref c27, .ref c28, .ref c29, .int 0])), (c1, .inl (c2, 32768, .inl f84))]) (hS : va_S A s.heap H locs) (hl : lv_has ls 8 [(6, .int 12), (7, .int c5), (0, .ref c0), (1, .int c3), (2, .int c4), (3, .int c5), (4, .int c6), (5, .int c7)]) (kk : ∀ (f98 : Nat → Int32) (H : Heap) (locs : List Loc) (ls : Array Slot), va_K (dC, dI) vwCl [(c2, .int)] s → va_P (dC, dI) vwCl [(c0, .inr (20, [.int 0, .ref c1, .int 14, .int 0, .ref c8, .ref c9, .ref c10, .ref c11, .ref c12, .ref c13, .ref c14, .ref c15, .ref c16, .ref c17, .ref c18, .ref c19, .ref c20, .int 0, .int 0, .int 0, .int 0, .int 0, .int 0, .int 0, .int 0, .int 0, .ref c21, .ref c22, .ref c23, .ref c24, .ref c25, .ref c26, .ref c27, .ref c28, .ref c29, .int 0])), (c1, .inl (c2, 32768, .inl f98))] H → va_D A [(c0, .inr (20, [.int 0, .ref c1, .int 14, .int 0, .ref c8, .ref c9, .ref c10, .ref c11, .ref c12, .ref c13, .ref c14, .ref c15, .ref c16, .ref c17, .ref c18, .ref c19, .ref c20, .int 0, .int 0, .int 0, .int 0, .int 0, .int 0, .int 0, .int 0, .int 0, .ref c21, .ref c22, .ref c23, .ref c24, .ref c25, .ref c26, .ref c27, .ref c28, .ref c29, .int 0])), (c1, .inl (c2, 32768, .inl f98))] → va_S A s.heap H locs → lv_has ls 8 [(6, .int 14), (7, .int c6), (0, .ref c0), (1, .int c3), (2, .int c4), (3, .int c5), (4, .int c6), (5, .int c7)] → W p l e (headSpec ow_k_X19_feed ({ frames := 0, cells := 0, slots := 0, locals := 0 })).room s m args below meth c H locs 0 0 Q (F0 m 63 ls [.int 14])) : W p l e (headSpec ow_k_X19_feed ({ frames := 0, cells := 0, slots := 0, locals := 0 })).room s m args below meth c H locs 0 0 Q (F0 m 41 ls [.int 12]) := by
  refine lv_bipush (v := 8) hx hb dX19_feed_41 (by decide) ?_
  refine lv_icmp_ge (tgt := 50) hx hb dX19_feed_43 (by decide) (fun _ => ?_) (fun h9 => absurd (by decide) h9)
  refine lv_iload hx hb dX19_feed_50 (lv_at hl 0 rfl) ?_
  refine lv_bipush (v := 12) hx hb dX19_feed_52 (by decide) ?_
  refine lv_icmp_ge (tgt := 61) hx hb dX19_feed_54 (by decide) (fun _ => ?_) (fun h9 => absurd (by decide) h9)
  refine lv_iload hx hb dX19_feed_61 (lv_at hl 0 rfl) ?_
  refine lv_bipush (v := 16) hx hb dX19_feed_63 (by decide) ?_
  refine lv_icmp_ge (tgt := 73) hx hb dX19_feed_65 (by decide) (fun h9 => absurd h9 (by decide)) (fun _ => ?_)
  refine lv_iload hx hb dX19_feed_68 (lv_at hl 6 rfl) ?_
  refine lv_goto (tgt := 75) hx hb dX19_feed_70 (by decide) ?_
  refine lv_istore (lv' := [(7, .int c6), (6, .int 12), (0, .ref c0), (1, .int c3), (2, .int c4), (3, .int c5), (4, .int c6), (5, .int c7)]) hx hb dX19_feed_75 hl (by decide) rfl (fun ls hl => ?_)
  refine lv_aload_n hx hb dX19_feed_77 rfl (lv_at hl 2 rfl) ?_
  refine va_get (D := (dC, dI)) (ci := 20) (v := .ref c1) (C := RX19) (T := TX19) (N := 36) hx hb hts hi_k_X19_feed_X19 hown hK hP 0 rfl rfl 1 (by decide) (hts (.fieldLink RX19 10 "TimeMachineModel" "tape" "[I") (List.mem_of_getElem? (i := 4) rfl)) (fun _ h9 => h9) rfl dX19_feed_78 ?_
  refine lv_aload_n hx hb dX19_feed_81 rfl (lv_at hl 2 rfl) ?_
  refine va_get (D := (dC, dI)) (ci := 20) (v := .int 12) (C := RX19) (T := TX19) (N := 36) hx hb hts hi_k_X19_feed_X19 hown hK hP 0 rfl rfl 2 (by decide) (hts (.fieldLink RX19 117 "TimeMachineModel" "taped" "I") (List.mem_of_getElem? (i := 2) rfl)) (fun _ h9 => h9) rfl dX19_feed_82 ?_
  refine lv_iload hx hb dX19_feed_85 (lv_at hl 0 rfl) ?_
  refine lv_bipush (v := 24) hx hb dX19_feed_87 (by decide) ?_
  refine lv_bipush (v := 8) hx hb dX19_feed_89 (by decide) ?_
  refine lv_iload hx hb dX19_feed_91 (lv_at hl 1 rfl) ?_
  refine lv_iconst (v := 4) hx hb dX19_feed_93 (by decide) ?_
  refine lv_irem hx hb dX19_feed_94 (by decide) ?_
  refine lv_topi (fun z86 ez86 => ?_)
  obtain rfl : z86 = 0 := ez86.trans (by decide)
  refine lv_imul hx hb dX19_feed_95 ?_
  refine lv_topi (fun z87 ez87 => ?_)
  obtain rfl : z87 = 0 := ez87.trans (by decide)
  refine lv_isub hx hb dX19_feed_96 ?_
  refine lv_topi (fun z88 ez88 => ?_)
  obtain rfl : z88 = 24 := ez88.trans (by decide)
  refine lv_ishr hx hb dX19_feed_97 ?_
  refine lv_topi (fun z89 ez89 => ?_)
  refine lv_sipush (v := 255) hx hb dX19_feed_98 (by decide) ?_
  refine lv_iand hx hb dX19_feed_101 ?_
  refine lv_topi (fun z90 ez90 => ?_)
  refine va_iast (i := 12) (x := z90) hx hb hK hP hD hS 1 0 rfl rfl (vp_in_iff.mpr ⟨by decide, by decide⟩) dX19_feed_102 (fun H locs hP hD hS => ?_)
  generalize hf91 : upd f84 (Int32.toNatClampNeg 12) z90 = f91 at hP hD
  have hP : va_P (dC, dI) vwCl [(c0, .inr (20, [.int 0, .ref c1, .int 12, .int 0, .ref c8, .ref c9, .ref c10, .ref c11, .ref c12, .ref c13, .ref c14, .ref c15, .ref c16, .ref c17, .ref c18, .ref c19, .ref c20, .int 0, .int 0, .int 0, .int 0, .int 0, .int 0, .int 0, .int 0, .int 0, .ref c21, .ref c22, .ref c23, .ref c24, .ref c25, .ref c26, .ref c27, .ref c28, .ref c29, .int 0])), (c1, .inl (c2, 32768, .inl f91))] H := hP
  have hD : va_D A [(c0, .inr (20, [.int 0, .ref c1, .int 12, .int 0, .ref c8, .ref c9, .ref c10, .ref c11, .ref c12, .ref c13, .ref c14, .ref c15, .ref c16, .ref c17, .ref c18, .ref c19, .ref c20, .int 0, .int 0, .int 0, .int 0, .int 0, .int 0, .int 0, .int 0, .int 0, .ref c21, .ref c22, .ref c23, .ref c24, .ref c25, .ref c26, .ref c27, .ref c28, .ref c29, .int 0])), (c1, .inl (c2, 32768, .inl f91))] := hD
  refine lv_aload_n hx hb dX19_feed_103 rfl (lv_at hl 2 rfl) ?_
  refine lv_dup hx hb dX19_feed_104 rfl ?_
  refine va_get (D := (dC, dI)) (ci := 20) (v := .int 12) (C := RX19) (T := TX19) (N := 36) hx hb hts hi_k_X19_feed_X19 hown hK hP 0 rfl rfl 2 (by decide) (hts (.fieldLink RX19 117 "TimeMachineModel" "taped" "I") (List.mem_of_getElem? (i := 2) rfl)) (fun _ h9 => h9) rfl dX19_feed_105 ?_
  refine lv_iconst (v := 1) hx hb dX19_feed_108 (by decide) ?_
  refine lv_iadd hx hb dX19_feed_109 ?_
  refine lv_topi (fun z92 ez92 => ?_)
  obtain rfl : z92 = 13 := ez92.trans (by decide)
  refine va_put (D := (dC, dI)) (ci := 20) (v := .int 13) (ty := .int) (C := RX19) (T := TX19) (N := 36) hx hb hts hi_k_X19_feed_X19 tyX19 tyX19_ok nmX19 hown hK hP hD hS 0 rfl rfl 2 (by decide) (hts (.fieldLink RX19 117 "TimeMachineModel" "taped" "I") (List.mem_of_getElem? (i := 2) rfl)) (fun _ h9 => h9) rfl (by decide +kernel) rfl rfl (Nat.le_of_ble_eq_true rfl) dX19_feed_110 (fun H locs hP hD hS => ?_)
  have hP : va_P (dC, dI) vwCl [(c0, .inr (20, [.int 0, .ref c1, .int 13, .int 0, .ref c8, .ref c9, .ref c10, .ref c11, .ref c12, .ref c13, .ref c14, .ref c15, .ref c16, .ref c17, .ref c18, .ref c19, .ref c20, .int 0, .int 0, .int 0, .int 0, .int 0, .int 0, .int 0, .int 0, .int 0, .ref c21, .ref c22, .ref c23, .ref c24, .ref c25, .ref c26, .ref c27, .ref c28, .ref c29, .int 0])), (c1, .inl (c2, 32768, .inl f91))] H := hP
  have hD : va_D A [(c0, .inr (20, [.int 0, .ref c1, .int 13, .int 0, .ref c8, .ref c9, .ref c10, .ref c11, .ref c12, .ref c13, .ref c14, .ref c15, .ref c16, .ref c17, .ref c18, .ref c19, .ref c20, .int 0, .int 0, .int 0, .int 0, .int 0, .int 0, .int 0, .int 0, .int 0, .ref c21, .ref c22, .ref c23, .ref c24, .ref c25, .ref c26, .ref c27, .ref c28, .ref c29, .int 0])), (c1, .inl (c2, 32768, .inl f91))] := hD
  refine lv_iinc (v := 13) (lv' := [(6, .int 13), (7, .int c6), (0, .ref c0), (1, .int c3), (2, .int c4), (3, .int c5), (4, .int c6), (5, .int c7)]) hx hb dX19_feed_113 hl (k := 1) rfl (by decide) (by decide) rfl (fun ls hl => ?_)
  refine lv_goto (tgt := 22) hx hb dX19_feed_116 (by decide) ?_
  refine lv_iload hx hb dX19_feed_22 (lv_at hl 0 rfl) ?_
  refine lv_bipush (v := 20) hx hb dX19_feed_24 (by decide) ?_
  refine lv_icmp_ge (tgt := 119) hx hb dX19_feed_26 (by decide) (fun h9 => absurd h9 (by decide)) (fun _ => ?_)
  refine lv_iload hx hb dX19_feed_29 (lv_at hl 0 rfl) ?_
  refine lv_iconst (v := 4) hx hb dX19_feed_31 (by decide) ?_
  refine lv_icmp_ge (tgt := 39) hx hb dX19_feed_32 (by decide) (fun _ => ?_) (fun h9 => absurd (by decide) h9)
  refine lv_iload hx hb dX19_feed_39 (lv_at hl 0 rfl) ?_
  refine lv_bipush (v := 8) hx hb dX19_feed_41 (by decide) ?_
  refine lv_icmp_ge (tgt := 50) hx hb dX19_feed_43 (by decide) (fun _ => ?_) (fun h9 => absurd (by decide) h9)
  refine lv_iload hx hb dX19_feed_50 (lv_at hl 0 rfl) ?_
  refine lv_bipush (v := 12) hx hb dX19_feed_52 (by decide) ?_
  refine lv_icmp_ge (tgt := 61) hx hb dX19_feed_54 (by decide) (fun _ => ?_) (fun h9 => absurd (by decide) h9)
  refine lv_iload hx hb dX19_feed_61 (lv_at hl 0 rfl) ?_
  refine lv_bipush (v := 16) hx hb dX19_feed_63 (by decide) ?_
  refine lv_icmp_ge (tgt := 73) hx hb dX19_feed_65 (by decide) (fun h9 => absurd h9 (by decide)) (fun _ => ?_)
  refine lv_iload hx hb dX19_feed_68 (lv_at hl 6 rfl) ?_
  refine lv_goto (tgt := 75) hx hb dX19_feed_70 (by decide) ?_
  refine lv_istore (lv' := [(7, .int c6), (6, .int 13), (0, .ref c0), (1, .int c3), (2, .int c4), (3, .int c5), (4, .int c6), (5, .int c7)]) hx hb dX19_feed_75 hl (by decide) rfl (fun ls hl => ?_)
  refine lv_aload_n hx hb dX19_feed_77 rfl (lv_at hl 2 rfl) ?_
  refine va_get (D := (dC, dI)) (ci := 20) (v := .ref c1) (C := RX19) (T := TX19) (N := 36) hx hb hts hi_k_X19_feed_X19 hown hK hP 0 rfl rfl 1 (by decide) (hts (.fieldLink RX19 10 "TimeMachineModel" "tape" "[I") (List.mem_of_getElem? (i := 4) rfl)) (fun _ h9 => h9) rfl dX19_feed_78 ?_
  refine lv_aload_n hx hb dX19_feed_81 rfl (lv_at hl 2 rfl) ?_
  refine va_get (D := (dC, dI)) (ci := 20) (v := .int 13) (C := RX19) (T := TX19) (N := 36) hx hb hts hi_k_X19_feed_X19 hown hK hP 0 rfl rfl 2 (by decide) (hts (.fieldLink RX19 117 "TimeMachineModel" "taped" "I") (List.mem_of_getElem? (i := 2) rfl)) (fun _ h9 => h9) rfl dX19_feed_82 ?_
  refine lv_iload hx hb dX19_feed_85 (lv_at hl 0 rfl) ?_
  refine lv_bipush (v := 24) hx hb dX19_feed_87 (by decide) ?_
  refine lv_bipush (v := 8) hx hb dX19_feed_89 (by decide) ?_
  refine lv_iload hx hb dX19_feed_91 (lv_at hl 1 rfl) ?_
  refine lv_iconst (v := 4) hx hb dX19_feed_93 (by decide) ?_
  refine lv_irem hx hb dX19_feed_94 (by decide) ?_
  refine lv_topi (fun z93 ez93 => ?_)
  obtain rfl : z93 = 1 := ez93.trans (by decide)
  refine lv_imul hx hb dX19_feed_95 ?_
  refine lv_topi (fun z94 ez94 => ?_)
  obtain rfl : z94 = 8 := ez94.trans (by decide)
  refine lv_isub hx hb dX19_feed_96 ?_
  refine lv_topi (fun z95 ez95 => ?_)
  obtain rfl : z95 = 16 := ez95.trans (by decide)
  refine lv_ishr hx hb dX19_feed_97 ?_
  refine lv_topi (fun z96 ez96 => ?_)
  refine lv_sipush (v := 255) hx hb dX19_feed_98 (by decide) ?_
  refine lv_iand hx hb dX19_feed_101 ?_
  refine lv_topi (fun z97 ez97 => ?_)
  refine va_iast (i := 13) (x := z97) hx hb hK hP hD hS 1 0 rfl rfl (vp_in_iff.mpr ⟨by decide, by decide⟩) dX19_feed_102 (fun H locs hP hD hS => ?_)
  generalize hf98 : upd f91 (Int32.toNatClampNeg 13) z97 = f98 at hP hD
  have hP : va_P (dC, dI) vwCl [(c0, .inr (20, [.int 0, .ref c1, .int 13, .int 0, .ref c8, .ref c9, .ref c10, .ref c11, .ref c12, .ref c13, .ref c14, .ref c15, .ref c16, .ref c17, .ref c18, .ref c19, .ref c20, .int 0, .int 0, .int 0, .int 0, .int 0, .int 0, .int 0, .int 0, .int 0, .ref c21, .ref c22, .ref c23, .ref c24, .ref c25, .ref c26, .ref c27, .ref c28, .ref c29, .int 0])), (c1, .inl (c2, 32768, .inl f98))] H := hP
  have hD : va_D A [(c0, .inr (20, [.int 0, .ref c1, .int 13, .int 0, .ref c8, .ref c9, .ref c10, .ref c11, .ref c12, .ref c13, .ref c14, .ref c15, .ref c16, .ref c17, .ref c18, .ref c19, .ref c20, .int 0, .int 0, .int 0, .int 0, .int 0, .int 0, .int 0, .int 0, .int 0, .ref c21, .ref c22, .ref c23, .ref c24, .ref c25, .ref c26, .ref c27, .ref c28, .ref c29, .int 0])), (c1, .inl (c2, 32768, .inl f98))] := hD
  refine lv_aload_n hx hb dX19_feed_103 rfl (lv_at hl 2 rfl) ?_
  refine lv_dup hx hb dX19_feed_104 rfl ?_
  refine va_get (D := (dC, dI)) (ci := 20) (v := .int 13) (C := RX19) (T := TX19) (N := 36) hx hb hts hi_k_X19_feed_X19 hown hK hP 0 rfl rfl 2 (by decide) (hts (.fieldLink RX19 117 "TimeMachineModel" "taped" "I") (List.mem_of_getElem? (i := 2) rfl)) (fun _ h9 => h9) rfl dX19_feed_105 ?_
  refine lv_iconst (v := 1) hx hb dX19_feed_108 (by decide) ?_
  refine lv_iadd hx hb dX19_feed_109 ?_
  refine lv_topi (fun z99 ez99 => ?_)
  obtain rfl : z99 = 14 := ez99.trans (by decide)
  refine va_put (D := (dC, dI)) (ci := 20) (v := .int 14) (ty := .int) (C := RX19) (T := TX19) (N := 36) hx hb hts hi_k_X19_feed_X19 tyX19 tyX19_ok nmX19 hown hK hP hD hS 0 rfl rfl 2 (by decide) (hts (.fieldLink RX19 117 "TimeMachineModel" "taped" "I") (List.mem_of_getElem? (i := 2) rfl)) (fun _ h9 => h9) rfl (by decide +kernel) rfl rfl (Nat.le_of_ble_eq_true rfl) dX19_feed_110 (fun H locs hP hD hS => ?_)
  have hP : va_P (dC, dI) vwCl [(c0, .inr (20, [.int 0, .ref c1, .int 14, .int 0, .ref c8, .ref c9, .ref c10, .ref c11, .ref c12, .ref c13, .ref c14, .ref c15, .ref c16, .ref c17, .ref c18, .ref c19, .ref c20, .int 0, .int 0, .int 0, .int 0, .int 0, .int 0, .int 0, .int 0, .int 0, .ref c21, .ref c22, .ref c23, .ref c24, .ref c25, .ref c26, .ref c27, .ref c28, .ref c29, .int 0])), (c1, .inl (c2, 32768, .inl f98))] H := hP
  have hD : va_D A [(c0, .inr (20, [.int 0, .ref c1, .int 14, .int 0, .ref c8, .ref c9, .ref c10, .ref c11, .ref c12, .ref c13, .ref c14, .ref c15, .ref c16, .ref c17, .ref c18, .ref c19, .ref c20, .int 0, .int 0, .int 0, .int 0, .int 0, .int 0, .int 0, .int 0, .int 0, .ref c21, .ref c22, .ref c23, .ref c24, .ref c25, .ref c26, .ref c27, .ref c28, .ref c29, .int 0])), (c1, .inl (c2, 32768, .inl f98))] := hD
  refine lv_iinc (v := 14) (lv' := [(6, .int 14), (7, .int c6), (0, .ref c0), (1, .int c3), (2, .int c4), (3, .int c5), (4, .int c6), (5, .int c7)]) hx hb dX19_feed_113 hl (k := 1) rfl (by decide) (by decide) rfl (fun ls hl => ?_)
  refine lv_goto (tgt := 22) hx hb dX19_feed_116 (by decide) ?_
  refine lv_iload hx hb dX19_feed_22 (lv_at hl 0 rfl) ?_
  refine lv_bipush (v := 20) hx hb dX19_feed_24 (by decide) ?_
  refine lv_icmp_ge (tgt := 119) hx hb dX19_feed_26 (by decide) (fun h9 => absurd h9 (by decide)) (fun _ => ?_)
  refine lv_iload hx hb dX19_feed_29 (lv_at hl 0 rfl) ?_
  refine lv_iconst (v := 4) hx hb dX19_feed_31 (by decide) ?_
  refine lv_icmp_ge (tgt := 39) hx hb dX19_feed_32 (by decide) (fun _ => ?_) (fun h9 => absurd (by decide) h9)
  refine lv_iload hx hb dX19_feed_39 (lv_at hl 0 rfl) ?_
  refine lv_bipush (v := 8) hx hb dX19_feed_41 (by decide) ?_
  refine lv_icmp_ge (tgt := 50) hx hb dX19_feed_43 (by decide) (fun _ => ?_) (fun h9 => absurd (by decide) h9)
  refine lv_iload hx hb dX19_feed_50 (lv_at hl 0 rfl) ?_
  refine lv_bipush (v := 12) hx hb dX19_feed_52 (by decide) ?_
  refine lv_icmp_ge (tgt := 61) hx hb dX19_feed_54 (by decide) (fun _ => ?_) (fun h9 => absurd (by decide) h9)
  refine lv_iload hx hb dX19_feed_61 (lv_at hl 0 rfl) ?_
  exact kk f98 _ _ _ hK hP hD hS hl

set_option maxHeartbeats 40000000 in
set_option maxRecDepth 100000 in
theorem k_X19_feed_s6 {p : Program} {l : Launch} {e : Env} {s : State} {m : MethodId} {args : Array Value} {below : List Frame} {meth : Method} {c : Code} {Q : State → Prop} {A : Nat → Prop} (dC : Nat → ClassId) (dI : Nat → Nat → Nat) (c0 : Nat) (c1 : Nat) (c2 : ClassId) (c3 : Int32) (c4 : Int32) (c5 : Int32) (c6 : Int32) (c7 : Int32) (c8 : Nat) (c9 : Nat) (c10 : Nat) (c11 : Nat) (c12 : Nat) (c13 : Nat) (c14 : Nat) (c15 : Nat) (c16 : Nat) (c17 : Nat) (c18 : Nat) (c19 : Nat) (c20 : Nat) (c21 : Nat) (c22 : Nat) (c23 : Nat) (c24 : Nat) (c25 : Nat) (c26 : Nat) (c27 : Nat) (c28 : Nat) (c29 : Nat) (f98 : Nat → Int32) (hlt : l.stackTraces = false) (hx : p.tables.exec = Jvm.exec) (hb : c.code = cX19_feed) (hml : c.maxLocals = 8) (hown : s.vm.findClass RX19 = some m.cls) (hts : ∀ w ∈ ow_k_X19_feed, w.before args s = true) (hN : nv_E A s) (hA : ∀ q : Nat, s.heap.size ≤ q → A q) {H : Heap} {locs : List Loc} {ls : Array Slot} (hK : va_K (dC, dI) vwCl [(c2, .int)] s) (hP : va_P (dC, dI) vwCl [(c0, .inr (20, [.int 0, .ref c1, .int 14, .int 0, .ref c8, .ref c9, .ref c10, .ref c11, .ref c12, .ref c13, .ref c14, .ref c15, .ref c16, .ref c17, .ref c18, .ref c19, .ref c20, .int 0, .int 0, .int 0, .int 0, .int 0, .int 0, .int 0, .int 0, .int 0, .ref c21, .ref c22, .ref c23, .ref c24, .ref c25, .ref c26, .ref c27, .ref c28, .ref c29, .int 0])), (c1, .inl (c2, 32768, .inl f98))] H) (hD : va_D A [(c0, .inr (20, [.int 0, .ref c1, .int 14, .int 0, .ref c8, .ref c9, .ref c10, .ref c11, .ref c12, .ref c13, .ref c14, .ref c15, .ref c16, .ref c17, .ref c18, .ref c19, .ref c20, .int 0, .int 0, .int 0, .int 0, .int 0, .int 0, .int 0, .int 0, .int 0, .ref c21, .ref c22, .ref c23, .ref c24, .ref c25, .ref c26, .ref c27, .ref c28, .ref c29, .int 0])), (c1, .inl (c2, 32768, .inl f98))]) (hS : va_S A s.heap H locs) (hl : lv_has ls 8 [(6, .int 14), (7, .int c6), (0, .ref c0), (1, .int c3), (2, .int c4), (3, .int c5), (4, .int c6), (5, .int c7)]) (kk : ∀ (f112 : Nat → Int32) (H : Heap) (locs : List Loc) (ls : Array Slot), va_K (dC, dI) vwCl [(c2, .int)] s → va_P (dC, dI) vwCl [(c0, .inr (20, [.int 0, .ref c1, .int 16, .int 0, .ref c8, .ref c9, .ref c10, .ref c11, .ref c12, .ref c13, .ref c14, .ref c15, .ref c16, .ref c17, .ref c18, .ref c19, .ref c20, .int 0, .int 0, .int 0, .int 0, .int 0, .int 0, .int 0, .int 0, .int 0, .ref c21, .ref c22, .ref c23, .ref c24, .ref c25, .ref c26, .ref c27, .ref c28, .ref c29, .int 0])), (c1, .inl (c2, 32768, .inl f112))] H → va_D A [(c0, .inr (20, [.int 0, .ref c1, .int 16, .int 0, .ref c8, .ref c9, .ref c10, .ref c11, .ref c12, .ref c13, .ref c14, .ref c15, .ref c16, .ref c17, .ref c18, .ref c19, .ref c20, .int 0, .int 0, .int 0, .int 0, .int 0, .int 0, .int 0, .int 0, .int 0, .ref c21, .ref c22, .ref c23, .ref c24, .ref c25, .ref c26, .ref c27, .ref c28, .ref c29, .int 0])), (c1, .inl (c2, 32768, .inl f112))] → va_S A s.heap H locs → lv_has ls 8 [(7, .int c7), (6, .int 16), (0, .ref c0), (1, .int c3), (2, .int c4), (3, .int c5), (4, .int c6), (5, .int c7)] → W p l e (headSpec ow_k_X19_feed ({ frames := 0, cells := 0, slots := 0, locals := 0 })).room s m args below meth c H locs 0 0 Q (F0 m 81 ls [.ref c1])) : W p l e (headSpec ow_k_X19_feed ({ frames := 0, cells := 0, slots := 0, locals := 0 })).room s m args below meth c H locs 0 0 Q (F0 m 63 ls [.int 14]) := by
  refine lv_bipush (v := 16) hx hb dX19_feed_63 (by decide) ?_
  refine lv_icmp_ge (tgt := 73) hx hb dX19_feed_65 (by decide) (fun h9 => absurd h9 (by decide)) (fun _ => ?_)
  refine lv_iload hx hb dX19_feed_68 (lv_at hl 6 rfl) ?_
  refine lv_goto (tgt := 75) hx hb dX19_feed_70 (by decide) ?_
  refine lv_istore (lv' := [(7, .int c6), (6, .int 14), (0, .ref c0), (1, .int c3), (2, .int c4), (3, .int c5), (4, .int c6), (5, .int c7)]) hx hb dX19_feed_75 hl (by decide) rfl (fun ls hl => ?_)
  refine lv_aload_n hx hb dX19_feed_77 rfl (lv_at hl 2 rfl) ?_
  refine va_get (D := (dC, dI)) (ci := 20) (v := .ref c1) (C := RX19) (T := TX19) (N := 36) hx hb hts hi_k_X19_feed_X19 hown hK hP 0 rfl rfl 1 (by decide) (hts (.fieldLink RX19 10 "TimeMachineModel" "tape" "[I") (List.mem_of_getElem? (i := 4) rfl)) (fun _ h9 => h9) rfl dX19_feed_78 ?_
  refine lv_aload_n hx hb dX19_feed_81 rfl (lv_at hl 2 rfl) ?_
  refine va_get (D := (dC, dI)) (ci := 20) (v := .int 14) (C := RX19) (T := TX19) (N := 36) hx hb hts hi_k_X19_feed_X19 hown hK hP 0 rfl rfl 2 (by decide) (hts (.fieldLink RX19 117 "TimeMachineModel" "taped" "I") (List.mem_of_getElem? (i := 2) rfl)) (fun _ h9 => h9) rfl dX19_feed_82 ?_
  refine lv_iload hx hb dX19_feed_85 (lv_at hl 0 rfl) ?_
  refine lv_bipush (v := 24) hx hb dX19_feed_87 (by decide) ?_
  refine lv_bipush (v := 8) hx hb dX19_feed_89 (by decide) ?_
  refine lv_iload hx hb dX19_feed_91 (lv_at hl 1 rfl) ?_
  refine lv_iconst (v := 4) hx hb dX19_feed_93 (by decide) ?_
  refine lv_irem hx hb dX19_feed_94 (by decide) ?_
  refine lv_topi (fun z100 ez100 => ?_)
  obtain rfl : z100 = 2 := ez100.trans (by decide)
  refine lv_imul hx hb dX19_feed_95 ?_
  refine lv_topi (fun z101 ez101 => ?_)
  obtain rfl : z101 = 16 := ez101.trans (by decide)
  refine lv_isub hx hb dX19_feed_96 ?_
  refine lv_topi (fun z102 ez102 => ?_)
  obtain rfl : z102 = 8 := ez102.trans (by decide)
  refine lv_ishr hx hb dX19_feed_97 ?_
  refine lv_topi (fun z103 ez103 => ?_)
  refine lv_sipush (v := 255) hx hb dX19_feed_98 (by decide) ?_
  refine lv_iand hx hb dX19_feed_101 ?_
  refine lv_topi (fun z104 ez104 => ?_)
  refine va_iast (i := 14) (x := z104) hx hb hK hP hD hS 1 0 rfl rfl (vp_in_iff.mpr ⟨by decide, by decide⟩) dX19_feed_102 (fun H locs hP hD hS => ?_)
  generalize hf105 : upd f98 (Int32.toNatClampNeg 14) z104 = f105 at hP hD
  have hP : va_P (dC, dI) vwCl [(c0, .inr (20, [.int 0, .ref c1, .int 14, .int 0, .ref c8, .ref c9, .ref c10, .ref c11, .ref c12, .ref c13, .ref c14, .ref c15, .ref c16, .ref c17, .ref c18, .ref c19, .ref c20, .int 0, .int 0, .int 0, .int 0, .int 0, .int 0, .int 0, .int 0, .int 0, .ref c21, .ref c22, .ref c23, .ref c24, .ref c25, .ref c26, .ref c27, .ref c28, .ref c29, .int 0])), (c1, .inl (c2, 32768, .inl f105))] H := hP
  have hD : va_D A [(c0, .inr (20, [.int 0, .ref c1, .int 14, .int 0, .ref c8, .ref c9, .ref c10, .ref c11, .ref c12, .ref c13, .ref c14, .ref c15, .ref c16, .ref c17, .ref c18, .ref c19, .ref c20, .int 0, .int 0, .int 0, .int 0, .int 0, .int 0, .int 0, .int 0, .int 0, .ref c21, .ref c22, .ref c23, .ref c24, .ref c25, .ref c26, .ref c27, .ref c28, .ref c29, .int 0])), (c1, .inl (c2, 32768, .inl f105))] := hD
  refine lv_aload_n hx hb dX19_feed_103 rfl (lv_at hl 2 rfl) ?_
  refine lv_dup hx hb dX19_feed_104 rfl ?_
  refine va_get (D := (dC, dI)) (ci := 20) (v := .int 14) (C := RX19) (T := TX19) (N := 36) hx hb hts hi_k_X19_feed_X19 hown hK hP 0 rfl rfl 2 (by decide) (hts (.fieldLink RX19 117 "TimeMachineModel" "taped" "I") (List.mem_of_getElem? (i := 2) rfl)) (fun _ h9 => h9) rfl dX19_feed_105 ?_
  refine lv_iconst (v := 1) hx hb dX19_feed_108 (by decide) ?_
  refine lv_iadd hx hb dX19_feed_109 ?_
  refine lv_topi (fun z106 ez106 => ?_)
  obtain rfl : z106 = 15 := ez106.trans (by decide)
  refine va_put (D := (dC, dI)) (ci := 20) (v := .int 15) (ty := .int) (C := RX19) (T := TX19) (N := 36) hx hb hts hi_k_X19_feed_X19 tyX19 tyX19_ok nmX19 hown hK hP hD hS 0 rfl rfl 2 (by decide) (hts (.fieldLink RX19 117 "TimeMachineModel" "taped" "I") (List.mem_of_getElem? (i := 2) rfl)) (fun _ h9 => h9) rfl (by decide +kernel) rfl rfl (Nat.le_of_ble_eq_true rfl) dX19_feed_110 (fun H locs hP hD hS => ?_)
  have hP : va_P (dC, dI) vwCl [(c0, .inr (20, [.int 0, .ref c1, .int 15, .int 0, .ref c8, .ref c9, .ref c10, .ref c11, .ref c12, .ref c13, .ref c14, .ref c15, .ref c16, .ref c17, .ref c18, .ref c19, .ref c20, .int 0, .int 0, .int 0, .int 0, .int 0, .int 0, .int 0, .int 0, .int 0, .ref c21, .ref c22, .ref c23, .ref c24, .ref c25, .ref c26, .ref c27, .ref c28, .ref c29, .int 0])), (c1, .inl (c2, 32768, .inl f105))] H := hP
  have hD : va_D A [(c0, .inr (20, [.int 0, .ref c1, .int 15, .int 0, .ref c8, .ref c9, .ref c10, .ref c11, .ref c12, .ref c13, .ref c14, .ref c15, .ref c16, .ref c17, .ref c18, .ref c19, .ref c20, .int 0, .int 0, .int 0, .int 0, .int 0, .int 0, .int 0, .int 0, .int 0, .ref c21, .ref c22, .ref c23, .ref c24, .ref c25, .ref c26, .ref c27, .ref c28, .ref c29, .int 0])), (c1, .inl (c2, 32768, .inl f105))] := hD
  refine lv_iinc (v := 15) (lv' := [(6, .int 15), (7, .int c6), (0, .ref c0), (1, .int c3), (2, .int c4), (3, .int c5), (4, .int c6), (5, .int c7)]) hx hb dX19_feed_113 hl (k := 1) rfl (by decide) (by decide) rfl (fun ls hl => ?_)
  refine lv_goto (tgt := 22) hx hb dX19_feed_116 (by decide) ?_
  refine lv_iload hx hb dX19_feed_22 (lv_at hl 0 rfl) ?_
  refine lv_bipush (v := 20) hx hb dX19_feed_24 (by decide) ?_
  refine lv_icmp_ge (tgt := 119) hx hb dX19_feed_26 (by decide) (fun h9 => absurd h9 (by decide)) (fun _ => ?_)
  refine lv_iload hx hb dX19_feed_29 (lv_at hl 0 rfl) ?_
  refine lv_iconst (v := 4) hx hb dX19_feed_31 (by decide) ?_
  refine lv_icmp_ge (tgt := 39) hx hb dX19_feed_32 (by decide) (fun _ => ?_) (fun h9 => absurd (by decide) h9)
  refine lv_iload hx hb dX19_feed_39 (lv_at hl 0 rfl) ?_
  refine lv_bipush (v := 8) hx hb dX19_feed_41 (by decide) ?_
  refine lv_icmp_ge (tgt := 50) hx hb dX19_feed_43 (by decide) (fun _ => ?_) (fun h9 => absurd (by decide) h9)
  refine lv_iload hx hb dX19_feed_50 (lv_at hl 0 rfl) ?_
  refine lv_bipush (v := 12) hx hb dX19_feed_52 (by decide) ?_
  refine lv_icmp_ge (tgt := 61) hx hb dX19_feed_54 (by decide) (fun _ => ?_) (fun h9 => absurd (by decide) h9)
  refine lv_iload hx hb dX19_feed_61 (lv_at hl 0 rfl) ?_
  refine lv_bipush (v := 16) hx hb dX19_feed_63 (by decide) ?_
  refine lv_icmp_ge (tgt := 73) hx hb dX19_feed_65 (by decide) (fun h9 => absurd h9 (by decide)) (fun _ => ?_)
  refine lv_iload hx hb dX19_feed_68 (lv_at hl 6 rfl) ?_
  refine lv_goto (tgt := 75) hx hb dX19_feed_70 (by decide) ?_
  refine lv_istore (lv' := [(7, .int c6), (6, .int 15), (0, .ref c0), (1, .int c3), (2, .int c4), (3, .int c5), (4, .int c6), (5, .int c7)]) hx hb dX19_feed_75 hl (by decide) rfl (fun ls hl => ?_)
  refine lv_aload_n hx hb dX19_feed_77 rfl (lv_at hl 2 rfl) ?_
  refine va_get (D := (dC, dI)) (ci := 20) (v := .ref c1) (C := RX19) (T := TX19) (N := 36) hx hb hts hi_k_X19_feed_X19 hown hK hP 0 rfl rfl 1 (by decide) (hts (.fieldLink RX19 10 "TimeMachineModel" "tape" "[I") (List.mem_of_getElem? (i := 4) rfl)) (fun _ h9 => h9) rfl dX19_feed_78 ?_
  refine lv_aload_n hx hb dX19_feed_81 rfl (lv_at hl 2 rfl) ?_
  refine va_get (D := (dC, dI)) (ci := 20) (v := .int 15) (C := RX19) (T := TX19) (N := 36) hx hb hts hi_k_X19_feed_X19 hown hK hP 0 rfl rfl 2 (by decide) (hts (.fieldLink RX19 117 "TimeMachineModel" "taped" "I") (List.mem_of_getElem? (i := 2) rfl)) (fun _ h9 => h9) rfl dX19_feed_82 ?_
  refine lv_iload hx hb dX19_feed_85 (lv_at hl 0 rfl) ?_
  refine lv_bipush (v := 24) hx hb dX19_feed_87 (by decide) ?_
  refine lv_bipush (v := 8) hx hb dX19_feed_89 (by decide) ?_
  refine lv_iload hx hb dX19_feed_91 (lv_at hl 1 rfl) ?_
  refine lv_iconst (v := 4) hx hb dX19_feed_93 (by decide) ?_
  refine lv_irem hx hb dX19_feed_94 (by decide) ?_
  refine lv_topi (fun z107 ez107 => ?_)
  obtain rfl : z107 = 3 := ez107.trans (by decide)
  refine lv_imul hx hb dX19_feed_95 ?_
  refine lv_topi (fun z108 ez108 => ?_)
  obtain rfl : z108 = 24 := ez108.trans (by decide)
  refine lv_isub hx hb dX19_feed_96 ?_
  refine lv_topi (fun z109 ez109 => ?_)
  obtain rfl : z109 = 0 := ez109.trans (by decide)
  refine lv_ishr hx hb dX19_feed_97 ?_
  refine lv_topi (fun z110 ez110 => ?_)
  refine lv_sipush (v := 255) hx hb dX19_feed_98 (by decide) ?_
  refine lv_iand hx hb dX19_feed_101 ?_
  refine lv_topi (fun z111 ez111 => ?_)
  refine va_iast (i := 15) (x := z111) hx hb hK hP hD hS 1 0 rfl rfl (vp_in_iff.mpr ⟨by decide, by decide⟩) dX19_feed_102 (fun H locs hP hD hS => ?_)
  generalize hf112 : upd f105 (Int32.toNatClampNeg 15) z111 = f112 at hP hD
  have hP : va_P (dC, dI) vwCl [(c0, .inr (20, [.int 0, .ref c1, .int 15, .int 0, .ref c8, .ref c9, .ref c10, .ref c11, .ref c12, .ref c13, .ref c14, .ref c15, .ref c16, .ref c17, .ref c18, .ref c19, .ref c20, .int 0, .int 0, .int 0, .int 0, .int 0, .int 0, .int 0, .int 0, .int 0, .ref c21, .ref c22, .ref c23, .ref c24, .ref c25, .ref c26, .ref c27, .ref c28, .ref c29, .int 0])), (c1, .inl (c2, 32768, .inl f112))] H := hP
  have hD : va_D A [(c0, .inr (20, [.int 0, .ref c1, .int 15, .int 0, .ref c8, .ref c9, .ref c10, .ref c11, .ref c12, .ref c13, .ref c14, .ref c15, .ref c16, .ref c17, .ref c18, .ref c19, .ref c20, .int 0, .int 0, .int 0, .int 0, .int 0, .int 0, .int 0, .int 0, .int 0, .ref c21, .ref c22, .ref c23, .ref c24, .ref c25, .ref c26, .ref c27, .ref c28, .ref c29, .int 0])), (c1, .inl (c2, 32768, .inl f112))] := hD
  refine lv_aload_n hx hb dX19_feed_103 rfl (lv_at hl 2 rfl) ?_
  refine lv_dup hx hb dX19_feed_104 rfl ?_
  refine va_get (D := (dC, dI)) (ci := 20) (v := .int 15) (C := RX19) (T := TX19) (N := 36) hx hb hts hi_k_X19_feed_X19 hown hK hP 0 rfl rfl 2 (by decide) (hts (.fieldLink RX19 117 "TimeMachineModel" "taped" "I") (List.mem_of_getElem? (i := 2) rfl)) (fun _ h9 => h9) rfl dX19_feed_105 ?_
  refine lv_iconst (v := 1) hx hb dX19_feed_108 (by decide) ?_
  refine lv_iadd hx hb dX19_feed_109 ?_
  refine lv_topi (fun z113 ez113 => ?_)
  obtain rfl : z113 = 16 := ez113.trans (by decide)
  refine va_put (D := (dC, dI)) (ci := 20) (v := .int 16) (ty := .int) (C := RX19) (T := TX19) (N := 36) hx hb hts hi_k_X19_feed_X19 tyX19 tyX19_ok nmX19 hown hK hP hD hS 0 rfl rfl 2 (by decide) (hts (.fieldLink RX19 117 "TimeMachineModel" "taped" "I") (List.mem_of_getElem? (i := 2) rfl)) (fun _ h9 => h9) rfl (by decide +kernel) rfl rfl (Nat.le_of_ble_eq_true rfl) dX19_feed_110 (fun H locs hP hD hS => ?_)
  have hP : va_P (dC, dI) vwCl [(c0, .inr (20, [.int 0, .ref c1, .int 16, .int 0, .ref c8, .ref c9, .ref c10, .ref c11, .ref c12, .ref c13, .ref c14, .ref c15, .ref c16, .ref c17, .ref c18, .ref c19, .ref c20, .int 0, .int 0, .int 0, .int 0, .int 0, .int 0, .int 0, .int 0, .int 0, .ref c21, .ref c22, .ref c23, .ref c24, .ref c25, .ref c26, .ref c27, .ref c28, .ref c29, .int 0])), (c1, .inl (c2, 32768, .inl f112))] H := hP
  have hD : va_D A [(c0, .inr (20, [.int 0, .ref c1, .int 16, .int 0, .ref c8, .ref c9, .ref c10, .ref c11, .ref c12, .ref c13, .ref c14, .ref c15, .ref c16, .ref c17, .ref c18, .ref c19, .ref c20, .int 0, .int 0, .int 0, .int 0, .int 0, .int 0, .int 0, .int 0, .int 0, .ref c21, .ref c22, .ref c23, .ref c24, .ref c25, .ref c26, .ref c27, .ref c28, .ref c29, .int 0])), (c1, .inl (c2, 32768, .inl f112))] := hD
  refine lv_iinc (v := 16) (lv' := [(6, .int 16), (7, .int c6), (0, .ref c0), (1, .int c3), (2, .int c4), (3, .int c5), (4, .int c6), (5, .int c7)]) hx hb dX19_feed_113 hl (k := 1) rfl (by decide) (by decide) rfl (fun ls hl => ?_)
  refine lv_goto (tgt := 22) hx hb dX19_feed_116 (by decide) ?_
  refine lv_iload hx hb dX19_feed_22 (lv_at hl 0 rfl) ?_
  refine lv_bipush (v := 20) hx hb dX19_feed_24 (by decide) ?_
  refine lv_icmp_ge (tgt := 119) hx hb dX19_feed_26 (by decide) (fun h9 => absurd h9 (by decide)) (fun _ => ?_)
  refine lv_iload hx hb dX19_feed_29 (lv_at hl 0 rfl) ?_
  refine lv_iconst (v := 4) hx hb dX19_feed_31 (by decide) ?_
  refine lv_icmp_ge (tgt := 39) hx hb dX19_feed_32 (by decide) (fun _ => ?_) (fun h9 => absurd (by decide) h9)
  refine lv_iload hx hb dX19_feed_39 (lv_at hl 0 rfl) ?_
  refine lv_bipush (v := 8) hx hb dX19_feed_41 (by decide) ?_
  refine lv_icmp_ge (tgt := 50) hx hb dX19_feed_43 (by decide) (fun _ => ?_) (fun h9 => absurd (by decide) h9)
  refine lv_iload hx hb dX19_feed_50 (lv_at hl 0 rfl) ?_
  refine lv_bipush (v := 12) hx hb dX19_feed_52 (by decide) ?_
  refine lv_icmp_ge (tgt := 61) hx hb dX19_feed_54 (by decide) (fun _ => ?_) (fun h9 => absurd (by decide) h9)
  refine lv_iload hx hb dX19_feed_61 (lv_at hl 0 rfl) ?_
  refine lv_bipush (v := 16) hx hb dX19_feed_63 (by decide) ?_
  refine lv_icmp_ge (tgt := 73) hx hb dX19_feed_65 (by decide) (fun _ => ?_) (fun h9 => absurd (by decide) h9)
  refine lv_iload hx hb dX19_feed_73 (lv_at hl 7 rfl) ?_
  refine lv_istore (lv' := [(7, .int c7), (6, .int 16), (0, .ref c0), (1, .int c3), (2, .int c4), (3, .int c5), (4, .int c6), (5, .int c7)]) hx hb dX19_feed_75 hl (by decide) rfl (fun ls hl => ?_)
  refine lv_aload_n hx hb dX19_feed_77 rfl (lv_at hl 2 rfl) ?_
  refine va_get (D := (dC, dI)) (ci := 20) (v := .ref c1) (C := RX19) (T := TX19) (N := 36) hx hb hts hi_k_X19_feed_X19 hown hK hP 0 rfl rfl 1 (by decide) (hts (.fieldLink RX19 10 "TimeMachineModel" "tape" "[I") (List.mem_of_getElem? (i := 4) rfl)) (fun _ h9 => h9) rfl dX19_feed_78 ?_
  exact kk f112 _ _ _ hK hP hD hS hl

set_option maxHeartbeats 40000000 in
set_option maxRecDepth 100000 in
theorem k_X19_feed_s7 {p : Program} {l : Launch} {e : Env} {s : State} {m : MethodId} {args : Array Value} {below : List Frame} {meth : Method} {c : Code} {Q : State → Prop} {A : Nat → Prop} (dC : Nat → ClassId) (dI : Nat → Nat → Nat) (c0 : Nat) (c1 : Nat) (c2 : ClassId) (c3 : Int32) (c4 : Int32) (c5 : Int32) (c6 : Int32) (c7 : Int32) (c8 : Nat) (c9 : Nat) (c10 : Nat) (c11 : Nat) (c12 : Nat) (c13 : Nat) (c14 : Nat) (c15 : Nat) (c16 : Nat) (c17 : Nat) (c18 : Nat) (c19 : Nat) (c20 : Nat) (c21 : Nat) (c22 : Nat) (c23 : Nat) (c24 : Nat) (c25 : Nat) (c26 : Nat) (c27 : Nat) (c28 : Nat) (c29 : Nat) (f112 : Nat → Int32) (hlt : l.stackTraces = false) (hx : p.tables.exec = Jvm.exec) (hb : c.code = cX19_feed) (hml : c.maxLocals = 8) (hown : s.vm.findClass RX19 = some m.cls) (hts : ∀ w ∈ ow_k_X19_feed, w.before args s = true) (hN : nv_E A s) (hA : ∀ q : Nat, s.heap.size ≤ q → A q) {H : Heap} {locs : List Loc} {ls : Array Slot} (hK : va_K (dC, dI) vwCl [(c2, .int)] s) (hP : va_P (dC, dI) vwCl [(c0, .inr (20, [.int 0, .ref c1, .int 16, .int 0, .ref c8, .ref c9, .ref c10, .ref c11, .ref c12, .ref c13, .ref c14, .ref c15, .ref c16, .ref c17, .ref c18, .ref c19, .ref c20, .int 0, .int 0, .int 0, .int 0, .int 0, .int 0, .int 0, .int 0, .int 0, .ref c21, .ref c22, .ref c23, .ref c24, .ref c25, .ref c26, .ref c27, .ref c28, .ref c29, .int 0])), (c1, .inl (c2, 32768, .inl f112))] H) (hD : va_D A [(c0, .inr (20, [.int 0, .ref c1, .int 16, .int 0, .ref c8, .ref c9, .ref c10, .ref c11, .ref c12, .ref c13, .ref c14, .ref c15, .ref c16, .ref c17, .ref c18, .ref c19, .ref c20, .int 0, .int 0, .int 0, .int 0, .int 0, .int 0, .int 0, .int 0, .int 0, .ref c21, .ref c22, .ref c23, .ref c24, .ref c25, .ref c26, .ref c27, .ref c28, .ref c29, .int 0])), (c1, .inl (c2, 32768, .inl f112))]) (hS : va_S A s.heap H locs) (hl : lv_has ls 8 [(7, .int c7), (6, .int 16), (0, .ref c0), (1, .int c3), (2, .int c4), (3, .int c5), (4, .int c6), (5, .int c7)]) (kk : ∀ (f126 : Nat → Int32) (H : Heap) (locs : List Loc) (ls : Array Slot), va_K (dC, dI) vwCl [(c2, .int)] s → va_P (dC, dI) vwCl [(c0, .inr (20, [.int 0, .ref c1, .int 18, .int 0, .ref c8, .ref c9, .ref c10, .ref c11, .ref c12, .ref c13, .ref c14, .ref c15, .ref c16, .ref c17, .ref c18, .ref c19, .ref c20, .int 0, .int 0, .int 0, .int 0, .int 0, .int 0, .int 0, .int 0, .int 0, .ref c21, .ref c22, .ref c23, .ref c24, .ref c25, .ref c26, .ref c27, .ref c28, .ref c29, .int 0])), (c1, .inl (c2, 32768, .inl f126))] H → va_D A [(c0, .inr (20, [.int 0, .ref c1, .int 18, .int 0, .ref c8, .ref c9, .ref c10, .ref c11, .ref c12, .ref c13, .ref c14, .ref c15, .ref c16, .ref c17, .ref c18, .ref c19, .ref c20, .int 0, .int 0, .int 0, .int 0, .int 0, .int 0, .int 0, .int 0, .int 0, .ref c21, .ref c22, .ref c23, .ref c24, .ref c25, .ref c26, .ref c27, .ref c28, .ref c29, .int 0])), (c1, .inl (c2, 32768, .inl f126))] → va_S A s.heap H locs → lv_has ls 8 [(7, .int c7), (6, .int 18), (0, .ref c0), (1, .int c3), (2, .int c4), (3, .int c5), (4, .int c6), (5, .int c7)] → W p l e (headSpec ow_k_X19_feed ({ frames := 0, cells := 0, slots := 0, locals := 0 })).room s m args below meth c H locs 0 0 Q (F0 m 95 ls [.int 2, .int 8, .int 24, .int c7, .int 18, .ref c1])) : W p l e (headSpec ow_k_X19_feed ({ frames := 0, cells := 0, slots := 0, locals := 0 })).room s m args below meth c H locs 0 0 Q (F0 m 81 ls [.ref c1]) := by
  refine lv_aload_n hx hb dX19_feed_81 rfl (lv_at hl 2 rfl) ?_
  refine va_get (D := (dC, dI)) (ci := 20) (v := .int 16) (C := RX19) (T := TX19) (N := 36) hx hb hts hi_k_X19_feed_X19 hown hK hP 0 rfl rfl 2 (by decide) (hts (.fieldLink RX19 117 "TimeMachineModel" "taped" "I") (List.mem_of_getElem? (i := 2) rfl)) (fun _ h9 => h9) rfl dX19_feed_82 ?_
  refine lv_iload hx hb dX19_feed_85 (lv_at hl 0 rfl) ?_
  refine lv_bipush (v := 24) hx hb dX19_feed_87 (by decide) ?_
  refine lv_bipush (v := 8) hx hb dX19_feed_89 (by decide) ?_
  refine lv_iload hx hb dX19_feed_91 (lv_at hl 1 rfl) ?_
  refine lv_iconst (v := 4) hx hb dX19_feed_93 (by decide) ?_
  refine lv_irem hx hb dX19_feed_94 (by decide) ?_
  refine lv_topi (fun z114 ez114 => ?_)
  obtain rfl : z114 = 0 := ez114.trans (by decide)
  refine lv_imul hx hb dX19_feed_95 ?_
  refine lv_topi (fun z115 ez115 => ?_)
  obtain rfl : z115 = 0 := ez115.trans (by decide)
  refine lv_isub hx hb dX19_feed_96 ?_
  refine lv_topi (fun z116 ez116 => ?_)
  obtain rfl : z116 = 24 := ez116.trans (by decide)
  refine lv_ishr hx hb dX19_feed_97 ?_
  refine lv_topi (fun z117 ez117 => ?_)
  refine lv_sipush (v := 255) hx hb dX19_feed_98 (by decide) ?_
  refine lv_iand hx hb dX19_feed_101 ?_
  refine lv_topi (fun z118 ez118 => ?_)
  refine va_iast (i := 16) (x := z118) hx hb hK hP hD hS 1 0 rfl rfl (vp_in_iff.mpr ⟨by decide, by decide⟩) dX19_feed_102 (fun H locs hP hD hS => ?_)
  generalize hf119 : upd f112 (Int32.toNatClampNeg 16) z118 = f119 at hP hD
  have hP : va_P (dC, dI) vwCl [(c0, .inr (20, [.int 0, .ref c1, .int 16, .int 0, .ref c8, .ref c9, .ref c10, .ref c11, .ref c12, .ref c13, .ref c14, .ref c15, .ref c16, .ref c17, .ref c18, .ref c19, .ref c20, .int 0, .int 0, .int 0, .int 0, .int 0, .int 0, .int 0, .int 0, .int 0, .ref c21, .ref c22, .ref c23, .ref c24, .ref c25, .ref c26, .ref c27, .ref c28, .ref c29, .int 0])), (c1, .inl (c2, 32768, .inl f119))] H := hP
  have hD : va_D A [(c0, .inr (20, [.int 0, .ref c1, .int 16, .int 0, .ref c8, .ref c9, .ref c10, .ref c11, .ref c12, .ref c13, .ref c14, .ref c15, .ref c16, .ref c17, .ref c18, .ref c19, .ref c20, .int 0, .int 0, .int 0, .int 0, .int 0, .int 0, .int 0, .int 0, .int 0, .ref c21, .ref c22, .ref c23, .ref c24, .ref c25, .ref c26, .ref c27, .ref c28, .ref c29, .int 0])), (c1, .inl (c2, 32768, .inl f119))] := hD
  refine lv_aload_n hx hb dX19_feed_103 rfl (lv_at hl 2 rfl) ?_
  refine lv_dup hx hb dX19_feed_104 rfl ?_
  refine va_get (D := (dC, dI)) (ci := 20) (v := .int 16) (C := RX19) (T := TX19) (N := 36) hx hb hts hi_k_X19_feed_X19 hown hK hP 0 rfl rfl 2 (by decide) (hts (.fieldLink RX19 117 "TimeMachineModel" "taped" "I") (List.mem_of_getElem? (i := 2) rfl)) (fun _ h9 => h9) rfl dX19_feed_105 ?_
  refine lv_iconst (v := 1) hx hb dX19_feed_108 (by decide) ?_
  refine lv_iadd hx hb dX19_feed_109 ?_
  refine lv_topi (fun z120 ez120 => ?_)
  obtain rfl : z120 = 17 := ez120.trans (by decide)
  refine va_put (D := (dC, dI)) (ci := 20) (v := .int 17) (ty := .int) (C := RX19) (T := TX19) (N := 36) hx hb hts hi_k_X19_feed_X19 tyX19 tyX19_ok nmX19 hown hK hP hD hS 0 rfl rfl 2 (by decide) (hts (.fieldLink RX19 117 "TimeMachineModel" "taped" "I") (List.mem_of_getElem? (i := 2) rfl)) (fun _ h9 => h9) rfl (by decide +kernel) rfl rfl (Nat.le_of_ble_eq_true rfl) dX19_feed_110 (fun H locs hP hD hS => ?_)
  have hP : va_P (dC, dI) vwCl [(c0, .inr (20, [.int 0, .ref c1, .int 17, .int 0, .ref c8, .ref c9, .ref c10, .ref c11, .ref c12, .ref c13, .ref c14, .ref c15, .ref c16, .ref c17, .ref c18, .ref c19, .ref c20, .int 0, .int 0, .int 0, .int 0, .int 0, .int 0, .int 0, .int 0, .int 0, .ref c21, .ref c22, .ref c23, .ref c24, .ref c25, .ref c26, .ref c27, .ref c28, .ref c29, .int 0])), (c1, .inl (c2, 32768, .inl f119))] H := hP
  have hD : va_D A [(c0, .inr (20, [.int 0, .ref c1, .int 17, .int 0, .ref c8, .ref c9, .ref c10, .ref c11, .ref c12, .ref c13, .ref c14, .ref c15, .ref c16, .ref c17, .ref c18, .ref c19, .ref c20, .int 0, .int 0, .int 0, .int 0, .int 0, .int 0, .int 0, .int 0, .int 0, .ref c21, .ref c22, .ref c23, .ref c24, .ref c25, .ref c26, .ref c27, .ref c28, .ref c29, .int 0])), (c1, .inl (c2, 32768, .inl f119))] := hD
  refine lv_iinc (v := 17) (lv' := [(6, .int 17), (7, .int c7), (0, .ref c0), (1, .int c3), (2, .int c4), (3, .int c5), (4, .int c6), (5, .int c7)]) hx hb dX19_feed_113 hl (k := 1) rfl (by decide) (by decide) rfl (fun ls hl => ?_)
  refine lv_goto (tgt := 22) hx hb dX19_feed_116 (by decide) ?_
  refine lv_iload hx hb dX19_feed_22 (lv_at hl 0 rfl) ?_
  refine lv_bipush (v := 20) hx hb dX19_feed_24 (by decide) ?_
  refine lv_icmp_ge (tgt := 119) hx hb dX19_feed_26 (by decide) (fun h9 => absurd h9 (by decide)) (fun _ => ?_)
  refine lv_iload hx hb dX19_feed_29 (lv_at hl 0 rfl) ?_
  refine lv_iconst (v := 4) hx hb dX19_feed_31 (by decide) ?_
  refine lv_icmp_ge (tgt := 39) hx hb dX19_feed_32 (by decide) (fun _ => ?_) (fun h9 => absurd (by decide) h9)
  refine lv_iload hx hb dX19_feed_39 (lv_at hl 0 rfl) ?_
  refine lv_bipush (v := 8) hx hb dX19_feed_41 (by decide) ?_
  refine lv_icmp_ge (tgt := 50) hx hb dX19_feed_43 (by decide) (fun _ => ?_) (fun h9 => absurd (by decide) h9)
  refine lv_iload hx hb dX19_feed_50 (lv_at hl 0 rfl) ?_
  refine lv_bipush (v := 12) hx hb dX19_feed_52 (by decide) ?_
  refine lv_icmp_ge (tgt := 61) hx hb dX19_feed_54 (by decide) (fun _ => ?_) (fun h9 => absurd (by decide) h9)
  refine lv_iload hx hb dX19_feed_61 (lv_at hl 0 rfl) ?_
  refine lv_bipush (v := 16) hx hb dX19_feed_63 (by decide) ?_
  refine lv_icmp_ge (tgt := 73) hx hb dX19_feed_65 (by decide) (fun _ => ?_) (fun h9 => absurd (by decide) h9)
  refine lv_iload hx hb dX19_feed_73 (lv_at hl 7 rfl) ?_
  refine lv_istore (lv' := [(7, .int c7), (6, .int 17), (0, .ref c0), (1, .int c3), (2, .int c4), (3, .int c5), (4, .int c6), (5, .int c7)]) hx hb dX19_feed_75 hl (by decide) rfl (fun ls hl => ?_)
  refine lv_aload_n hx hb dX19_feed_77 rfl (lv_at hl 2 rfl) ?_
  refine va_get (D := (dC, dI)) (ci := 20) (v := .ref c1) (C := RX19) (T := TX19) (N := 36) hx hb hts hi_k_X19_feed_X19 hown hK hP 0 rfl rfl 1 (by decide) (hts (.fieldLink RX19 10 "TimeMachineModel" "tape" "[I") (List.mem_of_getElem? (i := 4) rfl)) (fun _ h9 => h9) rfl dX19_feed_78 ?_
  refine lv_aload_n hx hb dX19_feed_81 rfl (lv_at hl 2 rfl) ?_
  refine va_get (D := (dC, dI)) (ci := 20) (v := .int 17) (C := RX19) (T := TX19) (N := 36) hx hb hts hi_k_X19_feed_X19 hown hK hP 0 rfl rfl 2 (by decide) (hts (.fieldLink RX19 117 "TimeMachineModel" "taped" "I") (List.mem_of_getElem? (i := 2) rfl)) (fun _ h9 => h9) rfl dX19_feed_82 ?_
  refine lv_iload hx hb dX19_feed_85 (lv_at hl 0 rfl) ?_
  refine lv_bipush (v := 24) hx hb dX19_feed_87 (by decide) ?_
  refine lv_bipush (v := 8) hx hb dX19_feed_89 (by decide) ?_
  refine lv_iload hx hb dX19_feed_91 (lv_at hl 1 rfl) ?_
  refine lv_iconst (v := 4) hx hb dX19_feed_93 (by decide) ?_
  refine lv_irem hx hb dX19_feed_94 (by decide) ?_
  refine lv_topi (fun z121 ez121 => ?_)
  obtain rfl : z121 = 1 := ez121.trans (by decide)
  refine lv_imul hx hb dX19_feed_95 ?_
  refine lv_topi (fun z122 ez122 => ?_)
  obtain rfl : z122 = 8 := ez122.trans (by decide)
  refine lv_isub hx hb dX19_feed_96 ?_
  refine lv_topi (fun z123 ez123 => ?_)
  obtain rfl : z123 = 16 := ez123.trans (by decide)
  refine lv_ishr hx hb dX19_feed_97 ?_
  refine lv_topi (fun z124 ez124 => ?_)
  refine lv_sipush (v := 255) hx hb dX19_feed_98 (by decide) ?_
  refine lv_iand hx hb dX19_feed_101 ?_
  refine lv_topi (fun z125 ez125 => ?_)
  refine va_iast (i := 17) (x := z125) hx hb hK hP hD hS 1 0 rfl rfl (vp_in_iff.mpr ⟨by decide, by decide⟩) dX19_feed_102 (fun H locs hP hD hS => ?_)
  generalize hf126 : upd f119 (Int32.toNatClampNeg 17) z125 = f126 at hP hD
  have hP : va_P (dC, dI) vwCl [(c0, .inr (20, [.int 0, .ref c1, .int 17, .int 0, .ref c8, .ref c9, .ref c10, .ref c11, .ref c12, .ref c13, .ref c14, .ref c15, .ref c16, .ref c17, .ref c18, .ref c19, .ref c20, .int 0, .int 0, .int 0, .int 0, .int 0, .int 0, .int 0, .int 0, .int 0, .ref c21, .ref c22, .ref c23, .ref c24, .ref c25, .ref c26, .ref c27, .ref c28, .ref c29, .int 0])), (c1, .inl (c2, 32768, .inl f126))] H := hP
  have hD : va_D A [(c0, .inr (20, [.int 0, .ref c1, .int 17, .int 0, .ref c8, .ref c9, .ref c10, .ref c11, .ref c12, .ref c13, .ref c14, .ref c15, .ref c16, .ref c17, .ref c18, .ref c19, .ref c20, .int 0, .int 0, .int 0, .int 0, .int 0, .int 0, .int 0, .int 0, .int 0, .ref c21, .ref c22, .ref c23, .ref c24, .ref c25, .ref c26, .ref c27, .ref c28, .ref c29, .int 0])), (c1, .inl (c2, 32768, .inl f126))] := hD
  refine lv_aload_n hx hb dX19_feed_103 rfl (lv_at hl 2 rfl) ?_
  refine lv_dup hx hb dX19_feed_104 rfl ?_
  refine va_get (D := (dC, dI)) (ci := 20) (v := .int 17) (C := RX19) (T := TX19) (N := 36) hx hb hts hi_k_X19_feed_X19 hown hK hP 0 rfl rfl 2 (by decide) (hts (.fieldLink RX19 117 "TimeMachineModel" "taped" "I") (List.mem_of_getElem? (i := 2) rfl)) (fun _ h9 => h9) rfl dX19_feed_105 ?_
  refine lv_iconst (v := 1) hx hb dX19_feed_108 (by decide) ?_
  refine lv_iadd hx hb dX19_feed_109 ?_
  refine lv_topi (fun z127 ez127 => ?_)
  obtain rfl : z127 = 18 := ez127.trans (by decide)
  refine va_put (D := (dC, dI)) (ci := 20) (v := .int 18) (ty := .int) (C := RX19) (T := TX19) (N := 36) hx hb hts hi_k_X19_feed_X19 tyX19 tyX19_ok nmX19 hown hK hP hD hS 0 rfl rfl 2 (by decide) (hts (.fieldLink RX19 117 "TimeMachineModel" "taped" "I") (List.mem_of_getElem? (i := 2) rfl)) (fun _ h9 => h9) rfl (by decide +kernel) rfl rfl (Nat.le_of_ble_eq_true rfl) dX19_feed_110 (fun H locs hP hD hS => ?_)
  have hP : va_P (dC, dI) vwCl [(c0, .inr (20, [.int 0, .ref c1, .int 18, .int 0, .ref c8, .ref c9, .ref c10, .ref c11, .ref c12, .ref c13, .ref c14, .ref c15, .ref c16, .ref c17, .ref c18, .ref c19, .ref c20, .int 0, .int 0, .int 0, .int 0, .int 0, .int 0, .int 0, .int 0, .int 0, .ref c21, .ref c22, .ref c23, .ref c24, .ref c25, .ref c26, .ref c27, .ref c28, .ref c29, .int 0])), (c1, .inl (c2, 32768, .inl f126))] H := hP
  have hD : va_D A [(c0, .inr (20, [.int 0, .ref c1, .int 18, .int 0, .ref c8, .ref c9, .ref c10, .ref c11, .ref c12, .ref c13, .ref c14, .ref c15, .ref c16, .ref c17, .ref c18, .ref c19, .ref c20, .int 0, .int 0, .int 0, .int 0, .int 0, .int 0, .int 0, .int 0, .int 0, .ref c21, .ref c22, .ref c23, .ref c24, .ref c25, .ref c26, .ref c27, .ref c28, .ref c29, .int 0])), (c1, .inl (c2, 32768, .inl f126))] := hD
  refine lv_iinc (v := 18) (lv' := [(6, .int 18), (7, .int c7), (0, .ref c0), (1, .int c3), (2, .int c4), (3, .int c5), (4, .int c6), (5, .int c7)]) hx hb dX19_feed_113 hl (k := 1) rfl (by decide) (by decide) rfl (fun ls hl => ?_)
  refine lv_goto (tgt := 22) hx hb dX19_feed_116 (by decide) ?_
  refine lv_iload hx hb dX19_feed_22 (lv_at hl 0 rfl) ?_
  refine lv_bipush (v := 20) hx hb dX19_feed_24 (by decide) ?_
  refine lv_icmp_ge (tgt := 119) hx hb dX19_feed_26 (by decide) (fun h9 => absurd h9 (by decide)) (fun _ => ?_)
  refine lv_iload hx hb dX19_feed_29 (lv_at hl 0 rfl) ?_
  refine lv_iconst (v := 4) hx hb dX19_feed_31 (by decide) ?_
  refine lv_icmp_ge (tgt := 39) hx hb dX19_feed_32 (by decide) (fun _ => ?_) (fun h9 => absurd (by decide) h9)
  refine lv_iload hx hb dX19_feed_39 (lv_at hl 0 rfl) ?_
  refine lv_bipush (v := 8) hx hb dX19_feed_41 (by decide) ?_
  refine lv_icmp_ge (tgt := 50) hx hb dX19_feed_43 (by decide) (fun _ => ?_) (fun h9 => absurd (by decide) h9)
  refine lv_iload hx hb dX19_feed_50 (lv_at hl 0 rfl) ?_
  refine lv_bipush (v := 12) hx hb dX19_feed_52 (by decide) ?_
  refine lv_icmp_ge (tgt := 61) hx hb dX19_feed_54 (by decide) (fun _ => ?_) (fun h9 => absurd (by decide) h9)
  refine lv_iload hx hb dX19_feed_61 (lv_at hl 0 rfl) ?_
  refine lv_bipush (v := 16) hx hb dX19_feed_63 (by decide) ?_
  refine lv_icmp_ge (tgt := 73) hx hb dX19_feed_65 (by decide) (fun _ => ?_) (fun h9 => absurd (by decide) h9)
  refine lv_iload hx hb dX19_feed_73 (lv_at hl 7 rfl) ?_
  refine lv_istore (lv' := [(7, .int c7), (6, .int 18), (0, .ref c0), (1, .int c3), (2, .int c4), (3, .int c5), (4, .int c6), (5, .int c7)]) hx hb dX19_feed_75 hl (by decide) rfl (fun ls hl => ?_)
  refine lv_aload_n hx hb dX19_feed_77 rfl (lv_at hl 2 rfl) ?_
  refine va_get (D := (dC, dI)) (ci := 20) (v := .ref c1) (C := RX19) (T := TX19) (N := 36) hx hb hts hi_k_X19_feed_X19 hown hK hP 0 rfl rfl 1 (by decide) (hts (.fieldLink RX19 10 "TimeMachineModel" "tape" "[I") (List.mem_of_getElem? (i := 4) rfl)) (fun _ h9 => h9) rfl dX19_feed_78 ?_
  refine lv_aload_n hx hb dX19_feed_81 rfl (lv_at hl 2 rfl) ?_
  refine va_get (D := (dC, dI)) (ci := 20) (v := .int 18) (C := RX19) (T := TX19) (N := 36) hx hb hts hi_k_X19_feed_X19 hown hK hP 0 rfl rfl 2 (by decide) (hts (.fieldLink RX19 117 "TimeMachineModel" "taped" "I") (List.mem_of_getElem? (i := 2) rfl)) (fun _ h9 => h9) rfl dX19_feed_82 ?_
  refine lv_iload hx hb dX19_feed_85 (lv_at hl 0 rfl) ?_
  refine lv_bipush (v := 24) hx hb dX19_feed_87 (by decide) ?_
  refine lv_bipush (v := 8) hx hb dX19_feed_89 (by decide) ?_
  refine lv_iload hx hb dX19_feed_91 (lv_at hl 1 rfl) ?_
  refine lv_iconst (v := 4) hx hb dX19_feed_93 (by decide) ?_
  refine lv_irem hx hb dX19_feed_94 (by decide) ?_
  refine lv_topi (fun z128 ez128 => ?_)
  obtain rfl : z128 = 2 := ez128.trans (by decide)
  exact kk f126 _ _ _ hK hP hD hS hl
