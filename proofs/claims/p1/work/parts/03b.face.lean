set_option maxHeartbeats 40000000 in
set_option maxRecDepth 100000 in
theorem k_X3_told (l : Launch) (dC : Nat → ClassId) (dI : Nat → Nat → Nat) (c0 : Nat) (c1 : Int32) (c2 : Int32) (c3 : Nat) (c4 : Nat) (c5 : Nat) (c6 : Nat) (c7 : Nat) (sz : Nat) : Met l yX3_told wsX3_told ({ frames := 0, cells := 0, slots := 0, locals := 0 }) (va_Pc [.ref c0, .int c1, .int c2] (fun U => U.heap.size = sz ∧ va_P (dC, dI) vwCl [(c0, .inr (4, [.ref c3, .ref c4, .ref c5, .ref c6, .int 0, .int 0, .ref c7, .int 0, .int 0, .int 0, .int 0]))] U.heap ∧ va_K (dC, dI) vwCl [] U ∧ va_D (fun _ => True) [(c0, .inr (4, [.ref c3, .ref c4, .ref c5, .ref c6, .int 0, .int 0, .ref c7, .int 0, .int 0, .int 0, .int 0]))] ∧ nv_E (va_A [(c0, .inr (4, [.ref c3, .ref c4, .ref c5, .ref c6, .int 0, .int 0, .ref c7, .int 0, .int 0, .int 0, .int 0]))] sz) U)) (va_Ql (fun r _ => ((c1 < 0) ∧ r = (-1)) ∨ ((¬ c1 < 0) ∧ r = (-1)) ∨ False) (fun (_ : Unit) t => va_P (dC, dI) vwCl [(c0, .inr (4, [.ref c3, .ref c4, .ref c5, .ref c6, .int 0, .int 0, .ref c7, .int 0, .int 0, .int 0, .int 0]))] t.heap ∧ va_K (dC, dI) vwCl [] t ∧ va_D (va_A [(c0, .inr (4, [.ref c3, .ref c4, .ref c5, .ref c6, .int 0, .int 0, .ref c7, .int 0, .int 0, .int 0, .int 0]))] sz) [(c0, .inr (4, [.ref c3, .ref c4, .ref c5, .ref c6, .int 0, .int 0, .ref c7, .int 0, .int 0, .int 0, .int 0]))]) (va_A [(c0, .inr (4, [.ref c3, .ref c4, .ref c5, .ref c6, .int 0, .int 0, .ref c7, .int 0, .int 0, .int 0, .int 0]))] sz)) 0 0 (va_A [(c0, .inr (4, [.ref c3, .ref c4, .ref c5, .ref c6, .int 0, .int 0, .ref c7, .int 0, .int 0, .int 0, .int 0]))] sz) := by
  refine Met.ofW (cc := cX3_told) (maxL := 3) (ret := (some .long)) (by decide) rfl ?_
  intro p e s m args below meth c s₁ B hml hv
  obtain ⟨rfl, hsz, hP, hK, hD0, hN⟩ := hv
  have hx := B.exec
  have hb := B.bytes
  have hr := B.returns
  have hts := atoms_spec (ws := wsX3_told) B.pre
  have hown : s.vm.findClass RX3 = some m.cls := findClass_of_methodNamed B.named
  have hlocks := B.notSynchronized
  subst hsz
  have hD := hD0.self (sz := s.heap.size)
  generalize hAe : va_A [(c0, .inr (4, [.ref c3, .ref c4, .ref c5, .ref c6, .int 0, .int 0, .ref c7, .int 0, .int 0, .int 0, .int 0]))] s.heap.size = A at hD hN ⊢
  have hA : ∀ q : Nat, s.heap.size ≤ q → A q := fun q h => by rw [← hAe]; exact Or.inr h
  have hS : va_S A s.heap s.heap [] := va_S.rf
  have hl := lv_entry ([.ref c0, .int c1, .int c2]) (n := 3) (Nat.le_of_ble_eq_true rfl)
  rw [lg_entry_eq]
  generalize (lg_sl ([.ref c0, .int c1, .int c2]) ++ List.replicate (3 - (lg_sl ([.ref c0, .int c1, .int c2])).length) Slot.unset).toArray = ls at hl ⊢
  have hl : lv_has ls 3 [(0, .ref c0), (1, .int c1), (2, .int c2)] := hl
  refine lv_iload_n hx hb dX3_told_0 rfl (lv_at hl 1 rfl) ?_
  refine lv_if_lt (tgt := 12) hx hb dX3_told_1 (by decide) (fun c_1 => ?_) (fun c_1 => ?_)
  · refine lv_ldc2 hx hb hown (hts (.constantLong RX3 42 (-1)) (List.mem_of_getElem? (i := 2) (by decide +kernel))) dX3_told_12 ?_
    refine W.widen (k := 0) (n := 0) (by decide +kernel) (by decide +kernel) ?_
    exact W.lret (v := (-1)) hx hb hr (fun t ht hW => ⟨⟨(-1), (), rfl, Or.inl ⟨c_1, rfl⟩, by rw [ht]; exact hP, va_K.moved hW.alike hK, hD⟩, hS.F ht⟩) hS.2.2 dX3_told_15
  · refine lv_iload_n hx hb dX3_told_4 rfl (lv_at hl 1 rfl) ?_
    refine lv_aload_n hx hb dX3_told_5 rfl (lv_at hl 0 rfl) ?_
    refine va_get (D := (dC, dI)) (ci := 4) (v := .int 0) (C := RX3) (T := TX3) (N := 11) hx hb hts hi_X3_told_X3 hown hK hP 0 rfl rfl 4 (by decide) (hts (.fieldLink RX3 35 "TimeMachine$Events" "recorded" "I") (List.mem_of_getElem? (i := 1) (by decide +kernel))) (fun _ h9 => h9) rfl dX3_told_6 ?_
    refine lv_icmp_lt (tgt := 16) hx hb dX3_told_9 (by decide) (fun h9 => absurd h9 c_1) (fun _ => ?_)
    refine lv_ldc2 hx hb hown (hts (.constantLong RX3 42 (-1)) (List.mem_of_getElem? (i := 2) (by decide +kernel))) dX3_told_12 ?_
    refine W.widen (k := 0) (n := 0) (by decide +kernel) (by decide +kernel) ?_
    exact W.lret (v := (-1)) hx hb hr (fun t ht hW => ⟨⟨(-1), (), rfl, Or.inr (Or.inl ⟨c_1, rfl⟩), by rw [ht]; exact hP, va_K.moved hW.alike hK, hD⟩, hS.F ht⟩) hS.2.2 dX3_told_15
theorem hi_X12_event_X11 : ∀ w ∈ u_ws RX11 TX11 16, w ∈ wsX12_event := by decide +kernel
theorem hi_X12_event_X12 : ∀ w ∈ u_ws RX12 TX12 12, w ∈ wsX12_event := by decide +kernel
set_option maxHeartbeats 40000000 in
set_option maxRecDepth 100000 in
theorem k_X12_event (l : Launch) (dC : Nat → ClassId) (dI : Nat → Nat → Nat) (c0 : Nat) (c1 : Nat) (c2 : Nat) (c3 : Int32) (c4 : Int32) (c5 : Nat) (c6 : Nat) (c7 : Nat) (c8 : Nat) (c9 : Nat) (c10 : Nat) (c11 : Nat) (c12 : Nat) (c13 : Nat) (c14 : Nat) (c15 : Nat) (c16 : Nat) (c17 : Nat) (c18 : Nat) (c19 : Nat) (c20 : Nat) (c21 : Nat) (sz : Nat) : Met l yX12_event wsX12_event ({ frames := 1, cells := 0, slots := 0, locals := 22 }) (va_Pc [.ref c0, .int c3, .int c4] (fun U => U.heap.size = sz ∧ va_P (dC, dI) vwCl [(c0, .inr (13, [.ref c5, .int 0, .int 0, .ref c6, .ref c7, .null, .ref c1, .ref c8, .null, .null, .int 0, .ref c9])), (c1, .inr (12, [.ref c10, .ref c2, .ref c11, .ref c12, .ref c13, .ref c14, .int 0, .ref c15, .ref c16, .int 0, .int 0, .int 0, .int 0, .int 0, .int 0, .int 0])), (c2, .inr (4, [.ref c17, .ref c18, .ref c19, .ref c20, .int 0, .int 0, .ref c21, .int 0, .int 0, .int 0, .int 0]))] U.heap ∧ va_K (dC, dI) vwCl [] U ∧ va_D (fun _ => True) [(c0, .inr (13, [.ref c5, .int 0, .int 0, .ref c6, .ref c7, .null, .ref c1, .ref c8, .null, .null, .int 0, .ref c9])), (c1, .inr (12, [.ref c10, .ref c2, .ref c11, .ref c12, .ref c13, .ref c14, .int 0, .ref c15, .ref c16, .int 0, .int 0, .int 0, .int 0, .int 0, .int 0, .int 0])), (c2, .inr (4, [.ref c17, .ref c18, .ref c19, .ref c20, .int 0, .int 0, .ref c21, .int 0, .int 0, .int 0, .int 0]))] ∧ nv_E (va_A [(c0, .inr (13, [.ref c5, .int 0, .int 0, .ref c6, .ref c7, .null, .ref c1, .ref c8, .null, .null, .int 0, .ref c9])), (c1, .inr (12, [.ref c10, .ref c2, .ref c11, .ref c12, .ref c13, .ref c14, .int 0, .ref c15, .ref c16, .int 0, .int 0, .int 0, .int 0, .int 0, .int 0, .int 0])), (c2, .inr (4, [.ref c17, .ref c18, .ref c19, .ref c20, .int 0, .int 0, .ref c21, .int 0, .int 0, .int 0, .int 0]))] sz) U)) (va_Ql (fun r _ => r = (-1)) (fun (_ : Unit) t => va_P (dC, dI) vwCl [(c0, .inr (13, [.ref c5, .int 0, .int 0, .ref c6, .ref c7, .null, .ref c1, .ref c8, .null, .null, .int 0, .ref c9])), (c1, .inr (12, [.ref c10, .ref c2, .ref c11, .ref c12, .ref c13, .ref c14, .int 0, .ref c15, .ref c16, .int 0, .int 0, .int 0, .int 0, .int 0, .int 0, .int 0])), (c2, .inr (4, [.ref c17, .ref c18, .ref c19, .ref c20, .int 0, .int 0, .ref c21, .int 0, .int 0, .int 0, .int 0]))] t.heap ∧ va_K (dC, dI) vwCl [] t ∧ va_D (va_A [(c0, .inr (13, [.ref c5, .int 0, .int 0, .ref c6, .ref c7, .null, .ref c1, .ref c8, .null, .null, .int 0, .ref c9])), (c1, .inr (12, [.ref c10, .ref c2, .ref c11, .ref c12, .ref c13, .ref c14, .int 0, .ref c15, .ref c16, .int 0, .int 0, .int 0, .int 0, .int 0, .int 0, .int 0])), (c2, .inr (4, [.ref c17, .ref c18, .ref c19, .ref c20, .int 0, .int 0, .ref c21, .int 0, .int 0, .int 0, .int 0]))] sz) [(c0, .inr (13, [.ref c5, .int 0, .int 0, .ref c6, .ref c7, .null, .ref c1, .ref c8, .null, .null, .int 0, .ref c9])), (c1, .inr (12, [.ref c10, .ref c2, .ref c11, .ref c12, .ref c13, .ref c14, .int 0, .ref c15, .ref c16, .int 0, .int 0, .int 0, .int 0, .int 0, .int 0, .int 0])), (c2, .inr (4, [.ref c17, .ref c18, .ref c19, .ref c20, .int 0, .int 0, .ref c21, .int 0, .int 0, .int 0, .int 0]))]) (va_A [(c0, .inr (13, [.ref c5, .int 0, .int 0, .ref c6, .ref c7, .null, .ref c1, .ref c8, .null, .null, .int 0, .ref c9])), (c1, .inr (12, [.ref c10, .ref c2, .ref c11, .ref c12, .ref c13, .ref c14, .int 0, .ref c15, .ref c16, .int 0, .int 0, .int 0, .int 0, .int 0, .int 0, .int 0])), (c2, .inr (4, [.ref c17, .ref c18, .ref c19, .ref c20, .int 0, .int 0, .ref c21, .int 0, .int 0, .int 0, .int 0]))] sz)) 0 0 (va_A [(c0, .inr (13, [.ref c5, .int 0, .int 0, .ref c6, .ref c7, .null, .ref c1, .ref c8, .null, .null, .int 0, .ref c9])), (c1, .inr (12, [.ref c10, .ref c2, .ref c11, .ref c12, .ref c13, .ref c14, .int 0, .ref c15, .ref c16, .int 0, .int 0, .int 0, .int 0, .int 0, .int 0, .int 0])), (c2, .inr (4, [.ref c17, .ref c18, .ref c19, .ref c20, .int 0, .int 0, .ref c21, .int 0, .int 0, .int 0, .int 0]))] sz) := by
  refine Met.ofW (cc := cX12_event) (maxL := 3) (ret := (some .long)) (by decide) rfl ?_
  intro p e s m args below meth c s₁ B hml hv
  obtain ⟨rfl, hsz, hP, hK, hD0, hN⟩ := hv
  have hx := B.exec
  have hb := B.bytes
  have hr := B.returns
  have hts := atoms_spec (ws := wsX12_event) B.pre
  have hown : s.vm.findClass RX12 = some m.cls := findClass_of_methodNamed B.named
  have hlocks := B.notSynchronized
  subst hsz
  have hD := hD0.self (sz := s.heap.size)
  generalize hAe : va_A [(c0, .inr (13, [.ref c5, .int 0, .int 0, .ref c6, .ref c7, .null, .ref c1, .ref c8, .null, .null, .int 0, .ref c9])), (c1, .inr (12, [.ref c10, .ref c2, .ref c11, .ref c12, .ref c13, .ref c14, .int 0, .ref c15, .ref c16, .int 0, .int 0, .int 0, .int 0, .int 0, .int 0, .int 0])), (c2, .inr (4, [.ref c17, .ref c18, .ref c19, .ref c20, .int 0, .int 0, .ref c21, .int 0, .int 0, .int 0, .int 0]))] s.heap.size = A at hD hN ⊢
  have hA : ∀ q : Nat, s.heap.size ≤ q → A q := fun q h => by rw [← hAe]; exact Or.inr h
  have hS : va_S A s.heap s.heap [] := va_S.rf
  have hl := lv_entry ([.ref c0, .int c3, .int c4]) (n := 3) (Nat.le_of_ble_eq_true rfl)
  rw [lg_entry_eq]
  generalize (lg_sl ([.ref c0, .int c3, .int c4]) ++ List.replicate (3 - (lg_sl ([.ref c0, .int c3, .int c4])).length) Slot.unset).toArray = ls at hl ⊢
  have hl : lv_has ls 3 [(0, .ref c0), (1, .int c3), (2, .int c4)] := hl
  refine lv_aload_n hx hb dX12_event_0 rfl (lv_at hl 0 rfl) ?_
  refine va_get (D := (dC, dI)) (ci := 13) (v := .ref c1) (C := RX12) (T := TX12) (N := 12) hx hb hts hi_X12_event_X12 hown hK hP 0 rfl rfl 6 (by decide) (hts (.fieldLink RX12 26 "TimeMachine" "timeline" "LTimeMachine$Timeline;") (List.mem_of_getElem? (i := 1) (by decide +kernel))) (fun _ h9 => h9) rfl dX12_event_1 ?_
  refine va_get (D := (dC, dI)) (ci := 12) (v := .ref c2) (C := RX11) (T := TX11) (N := 16) hx hb hts hi_X12_event_X11 hown hK hP 1 rfl rfl 1 (by decide) (hts (.fieldLink RX12 273 "TimeMachine$Timeline" "events" "LTimeMachine$Events;") (List.mem_of_getElem? (i := 2) (by decide +kernel))) (fun _ h9 => h9) rfl dX12_event_4 ?_
  refine lv_iload_n hx hb dX12_event_7 rfl (lv_at hl 1 rfl) ?_
  refine lv_iload_n hx hb dX12_event_8 rfl (lv_at hl 2 rfl) ?_
  have hPc := hP.sub (ws' := [(c2, .inr (4, [.ref c17, .ref c18, .ref c19, .ref c20, .int 0, .int 0, .ref c21, .int 0, .int 0, .int 0, .int 0]))]) [2] rfl
  have hDc := hD.sub (ws' := [(c2, .inr (4, [.ref c17, .ref c18, .ref c19, .ref c20, .int 0, .int 0, .ref c21, .int 0, .int 0, .int 0, .int 0]))]) [2] (by decide) rfl
  have hKc := hK.sub (tys' := []) [] rfl
  have hFc := va_free (wc := [(c2, .inr (4, [.ref c17, .ref c18, .ref c19, .ref c20, .int 0, .int 0, .ref c21, .int 0, .int 0, .int 0, .int 0]))]) hD hS hA [2] rfl
  refine va_calll (va_runV (As := [.int c3, .int c4]) (rest := []) ⟨hx, hb, hml, hown, hts⟩ (k_X3_told l dC dI c2 c3 c4 c17 c18 c19 c20 c21 s.heap.size) (cwV 2 hts gX12_event_X3_told rfl rfl rfl (by decide +kernel) ⟨Nat.le_of_ble_eq_true rfl, Nat.le_of_ble_eq_true rfl⟩) ⟨fun a U g mk q => by obtain ⟨q0, q1, qP, qK, qD, qN⟩ := q; exact ⟨q0, q1, qP, va_K.moved (u := U) (U := U.calling g mk a) (Vm.Alike.refl U.vm) qK, qD, nv_same rfl rfl qN⟩, va_recv hKc hPc (ci := 4) (q0 := 0) rfl rfl, fun U hU hW => ⟨rfl, by rw [hU], by rw [hU]; exact hPc, va_K.moved hW.alike hKc, hDc.weaken (fun _ _ _ _ => trivial), nv_call hS hFc hU hW hN⟩⟩ rfl rfl hl.1 rfl (lv_room (Nat.le_of_ble_eq_true rfl)) dX12_event_9 ⟨by decide +kernel, by decide +kernel⟩) hS (fun q _ h => hFc q h) hFc (fun r1 u t H1 locs ht hvm hw hB hz1 hk1 hS => ?_)
  obtain ⟨hP1, hK1, hD1⟩ := hB
  rw [ht] at hP1
  have hK1 := va_K.moved hvm.symm hK1
  obtain rfl : r1 = (-1) := by rcases hw with ⟨_, h9⟩ | ⟨_, h9⟩ | h9 <;> first | exact h9 | exact h9.elim
  obtain ⟨hP, hD⟩ := va_join (wr := [(c0, .inr (13, [.ref c5, .int 0, .int 0, .ref c6, .ref c7, .null, .ref c1, .ref c8, .null, .null, .int 0, .ref c9])), (c1, .inr (12, [.ref c10, .ref c2, .ref c11, .ref c12, .ref c13, .ref c14, .int 0, .ref c15, .ref c16, .int 0, .int 0, .int 0, .int 0, .int 0, .int 0, .int 0]))]) (w1 := [(c2, .inr (4, [.ref c17, .ref c18, .ref c19, .ref c20, .int 0, .int 0, .ref c21, .int 0, .int 0, .int 0, .int 0]))]) hP hD [2] [0, 1] rfl rfl (by decide) (by decide) hk1 hFc hP1 hD1
  have hK := (hK.sub (tys' := []) [] rfl).app hK1
  generalize H1 = H at hP hS ⊢
  have hP : va_P (dC, dI) vwCl [(c0, .inr (13, [.ref c5, .int 0, .int 0, .ref c6, .ref c7, .null, .ref c1, .ref c8, .null, .null, .int 0, .ref c9])), (c1, .inr (12, [.ref c10, .ref c2, .ref c11, .ref c12, .ref c13, .ref c14, .int 0, .ref c15, .ref c16, .int 0, .int 0, .int 0, .int 0, .int 0, .int 0, .int 0])), (c2, .inr (4, [.ref c17, .ref c18, .ref c19, .ref c20, .int 0, .int 0, .ref c21, .int 0, .int 0, .int 0, .int 0]))] H := hP
  have hD : va_D A [(c0, .inr (13, [.ref c5, .int 0, .int 0, .ref c6, .ref c7, .null, .ref c1, .ref c8, .null, .null, .int 0, .ref c9])), (c1, .inr (12, [.ref c10, .ref c2, .ref c11, .ref c12, .ref c13, .ref c14, .int 0, .ref c15, .ref c16, .int 0, .int 0, .int 0, .int 0, .int 0, .int 0, .int 0])), (c2, .inr (4, [.ref c17, .ref c18, .ref c19, .ref c20, .int 0, .int 0, .ref c21, .int 0, .int 0, .int 0, .int 0]))] := hD
  have hK : va_K (dC, dI) vwCl [] s := hK
  refine W.widen (k := 0) (n := 0) (by decide +kernel) (by decide +kernel) ?_
  have hP9 := hP.sub (ws' := [(c0, .inr (13, [.ref c5, .int 0, .int 0, .ref c6, .ref c7, .null, .ref c1, .ref c8, .null, .null, .int 0, .ref c9])), (c1, .inr (12, [.ref c10, .ref c2, .ref c11, .ref c12, .ref c13, .ref c14, .int 0, .ref c15, .ref c16, .int 0, .int 0, .int 0, .int 0, .int 0, .int 0, .int 0])), (c2, .inr (4, [.ref c17, .ref c18, .ref c19, .ref c20, .int 0, .int 0, .ref c21, .int 0, .int 0, .int 0, .int 0]))]) [0, 1, 2] rfl
  have hD9 := hD.sub (ws' := [(c0, .inr (13, [.ref c5, .int 0, .int 0, .ref c6, .ref c7, .null, .ref c1, .ref c8, .null, .null, .int 0, .ref c9])), (c1, .inr (12, [.ref c10, .ref c2, .ref c11, .ref c12, .ref c13, .ref c14, .int 0, .ref c15, .ref c16, .int 0, .int 0, .int 0, .int 0, .int 0, .int 0, .int 0])), (c2, .inr (4, [.ref c17, .ref c18, .ref c19, .ref c20, .int 0, .int 0, .ref c21, .int 0, .int 0, .int 0, .int 0]))]) [0, 1, 2] (by decide) rfl
  have hK9 := hK.sub (tys' := []) [] rfl
  refine W.widen (k := 0) (n := 0) (by decide +kernel) (by decide +kernel) ?_
  exact W.lret (v := (-1)) hx hb hr (fun t ht hW => ⟨⟨(-1), (), rfl, rfl, by rw [ht]; exact hP9, va_K.moved hW.alike hK9, hD9⟩, hS.F ht⟩) hS.2.2 dX12_event_12
theorem hi_X12_putOnTape_X12 : ∀ w ∈ u_ws RX12 TX12 12, w ∈ wsX12_putOnTape := by decide +kernel
set_option maxHeartbeats 40000000 in
set_option maxRecDepth 100000 in
theorem k_X12_putOnTape (l : Launch) (dC : Nat → ClassId) (dI : Nat → Nat → Nat) (c0 : Nat) (c1 : Nat) (c2 : ClassId) (c3 : Int32) (c4 : Nat) (c5 : Nat) (c6 : Nat) (c7 : Nat) (c8 : Nat) (sz : Nat) : Met l yX12_putOnTape wsX12_putOnTape ({ frames := 0, cells := 0, slots := 0, locals := 0 }) (va_Pc [.ref c0, .int c3] (fun U => U.heap.size = sz ∧ va_P (dC, dI) vwCl [(c0, .inr (13, [.ref c1, .int 0, .int 0, .ref c4, .ref c5, .null, .ref c6, .ref c7, .null, .null, .int 0, .ref c8])), (c1, .inl (c2, 32768, .inl (fun _ => 0)))] U.heap ∧ va_K (dC, dI) vwCl [(c2, .byte)] U ∧ va_D (fun _ => True) [(c0, .inr (13, [.ref c1, .int 0, .int 0, .ref c4, .ref c5, .null, .ref c6, .ref c7, .null, .null, .int 0, .ref c8])), (c1, .inl (c2, 32768, .inl (fun _ => 0)))] ∧ nv_E (va_A [(c0, .inr (13, [.ref c1, .int 0, .int 0, .ref c4, .ref c5, .null, .ref c6, .ref c7, .null, .null, .int 0, .ref c8])), (c1, .inl (c2, 32768, .inl (fun _ => 0)))] sz) U)) (va_Qv (fun _ => True) (fun (_ : Unit) t => ∃ (f15 : Nat → Int32), va_P (dC, dI) vwCl [(c0, .inr (13, [.ref c1, .int 4, .int 0, .ref c4, .ref c5, .null, .ref c6, .ref c7, .null, .null, .int 0, .ref c8])), (c1, .inl (c2, 32768, .inl f15))] t.heap ∧ va_K (dC, dI) vwCl [(c2, .byte)] t ∧ va_D (va_A [(c0, .inr (13, [.ref c1, .int 0, .int 0, .ref c4, .ref c5, .null, .ref c6, .ref c7, .null, .null, .int 0, .ref c8])), (c1, .inl (c2, 32768, .inl (fun _ => 0)))] sz) [(c0, .inr (13, [.ref c1, .int 4, .int 0, .ref c4, .ref c5, .null, .ref c6, .ref c7, .null, .null, .int 0, .ref c8])), (c1, .inl (c2, 32768, .inl f15))]) (va_A [(c0, .inr (13, [.ref c1, .int 0, .int 0, .ref c4, .ref c5, .null, .ref c6, .ref c7, .null, .null, .int 0, .ref c8])), (c1, .inl (c2, 32768, .inl (fun _ => 0)))] sz)) 0 0 (va_A [(c0, .inr (13, [.ref c1, .int 0, .int 0, .ref c4, .ref c5, .null, .ref c6, .ref c7, .null, .null, .int 0, .ref c8])), (c1, .inl (c2, 32768, .inl (fun _ => 0)))] sz) := by
  refine Met.ofW (cc := cX12_putOnTape) (maxL := 3) (ret := none) (by decide) rfl ?_
  intro p e s m args below meth c s₁ B hml hv
  obtain ⟨rfl, hsz, hP, hK, hD0, hN⟩ := hv
  have hx := B.exec
  have hb := B.bytes
  have hr := B.returns
  have hts := atoms_spec (ws := wsX12_putOnTape) B.pre
  have hown : s.vm.findClass RX12 = some m.cls := findClass_of_methodNamed B.named
  have hlocks := B.notSynchronized
  subst hsz
  have hD := hD0.self (sz := s.heap.size)
  generalize hAe : va_A [(c0, .inr (13, [.ref c1, .int 0, .int 0, .ref c4, .ref c5, .null, .ref c6, .ref c7, .null, .null, .int 0, .ref c8])), (c1, .inl (c2, 32768, .inl (fun _ => 0)))] s.heap.size = A at hD hN ⊢
  have hA : ∀ q : Nat, s.heap.size ≤ q → A q := fun q h => by rw [← hAe]; exact Or.inr h
  have hS : va_S A s.heap s.heap [] := va_S.rf
  have hl := lv_entry ([.ref c0, .int c3]) (n := 3) (Nat.le_of_ble_eq_true rfl)
  rw [lg_entry_eq]
  generalize (lg_sl ([.ref c0, .int c3]) ++ List.replicate (3 - (lg_sl ([.ref c0, .int c3])).length) Slot.unset).toArray = ls at hl ⊢
  have hl : lv_has ls 3 [(0, .ref c0), (1, .int c3)] := hl
  refine lv_bipush (v := 24) hx hb dX12_putOnTape_0 (by decide) ?_
  refine lv_istore_n (lv' := [(2, .int 24), (0, .ref c0), (1, .int c3)]) hx hb dX12_putOnTape_2 rfl hl (by decide) rfl (fun ls hl => ?_)
  refine lv_iload_n hx hb dX12_putOnTape_3 rfl (lv_at hl 0 rfl) ?_
  refine lv_if_lt (tgt := 45) hx hb dX12_putOnTape_4 (by decide) (fun h9 => absurd h9 (by decide)) (fun _ => ?_)
  refine lv_aload_n hx hb dX12_putOnTape_7 rfl (lv_at hl 1 rfl) ?_
  refine va_get (D := (dC, dI)) (ci := 13) (v := .int 0) (C := RX12) (T := TX12) (N := 12) hx hb hts hi_X12_putOnTape_X12 hown hK hP 0 rfl rfl 1 (by decide) (hts (.fieldLink RX12 43 "TimeMachine" "taped" "I") (List.mem_of_getElem? (i := 1) (by decide +kernel))) (fun _ h9 => h9) rfl dX12_putOnTape_8 ?_
  refine lv_ldc hx hb hown (hts (.constant RX12 9 (32768)) (List.mem_of_getElem? (i := 2) (by decide +kernel))) dX12_putOnTape_11 ?_
  refine lv_icmp_ge (tgt := 39) hx hb dX12_putOnTape_13 (by decide) (fun h9 => absurd h9 (by decide)) (fun _ => ?_)
  refine lv_aload_n hx hb dX12_putOnTape_16 rfl (lv_at hl 1 rfl) ?_
  refine va_get (D := (dC, dI)) (ci := 13) (v := .ref c1) (C := RX12) (T := TX12) (N := 12) hx hb hts hi_X12_putOnTape_X12 hown hK hP 0 rfl rfl 0 (by decide) (hts (.fieldLink RX12 10 "TimeMachine" "tape" "[B") (List.mem_of_getElem? (i := 3) (by decide +kernel))) (fun _ h9 => h9) rfl dX12_putOnTape_17 ?_
  refine lv_aload_n hx hb dX12_putOnTape_20 rfl (lv_at hl 1 rfl) ?_
  refine va_get (D := (dC, dI)) (ci := 13) (v := .int 0) (C := RX12) (T := TX12) (N := 12) hx hb hts hi_X12_putOnTape_X12 hown hK hP 0 rfl rfl 1 (by decide) (hts (.fieldLink RX12 43 "TimeMachine" "taped" "I") (List.mem_of_getElem? (i := 1) (by decide +kernel))) (fun _ h9 => h9) rfl dX12_putOnTape_21 ?_
  refine lv_iload_n hx hb dX12_putOnTape_24 rfl (lv_at hl 2 rfl) ?_
  refine lv_iload_n hx hb dX12_putOnTape_25 rfl (lv_at hl 0 rfl) ?_
  refine lv_ishr hx hb dX12_putOnTape_26 ?_
  refine lv_topi (fun z1 ez1 => ?_)
  refine lv_i2b hx hb dX12_putOnTape_27 rfl ?_
  refine lv_topi (fun z2 ez2 => ?_)
  refine va_bast (i := 0) (x := z2) hx hb hK hP hD hS 1 0 rfl rfl (vp_in_iff.mpr ⟨by decide, by decide⟩) dX12_putOnTape_28 (fun H locs hP hD hS => ?_)
  generalize hf3 : upd (fun _ => 0) (Int32.toNatClampNeg 0) (vp_nar .byte z2) = f3 at hP hD
  have hP : va_P (dC, dI) vwCl [(c0, .inr (13, [.ref c1, .int 0, .int 0, .ref c4, .ref c5, .null, .ref c6, .ref c7, .null, .null, .int 0, .ref c8])), (c1, .inl (c2, 32768, .inl f3))] H := hP
  have hD : va_D A [(c0, .inr (13, [.ref c1, .int 0, .int 0, .ref c4, .ref c5, .null, .ref c6, .ref c7, .null, .null, .int 0, .ref c8])), (c1, .inl (c2, 32768, .inl f3))] := hD
  refine lv_aload_n hx hb dX12_putOnTape_29 rfl (lv_at hl 1 rfl) ?_
  refine lv_dup hx hb dX12_putOnTape_30 rfl ?_
  refine va_get (D := (dC, dI)) (ci := 13) (v := .int 0) (C := RX12) (T := TX12) (N := 12) hx hb hts hi_X12_putOnTape_X12 hown hK hP 0 rfl rfl 1 (by decide) (hts (.fieldLink RX12 43 "TimeMachine" "taped" "I") (List.mem_of_getElem? (i := 1) (by decide +kernel))) (fun _ h9 => h9) rfl dX12_putOnTape_31 ?_
  refine lv_iconst (v := 1) hx hb dX12_putOnTape_34 (by decide) ?_
  refine lv_iadd hx hb dX12_putOnTape_35 ?_
  refine lv_topi (fun z4 ez4 => ?_)
  obtain rfl : z4 = 1 := ez4.trans (by decide)
  refine va_put (D := (dC, dI)) (ci := 13) (v := .int 1) (ty := .int) (C := RX12) (T := TX12) (N := 12) hx hb hts hi_X12_putOnTape_X12 tyX12 tyX12_ok nmX12 hown hK hP hD hS 0 rfl rfl 1 (by decide) (hts (.fieldLink RX12 43 "TimeMachine" "taped" "I") (List.mem_of_getElem? (i := 1) (by decide +kernel))) (fun _ h9 => h9) rfl (by decide +kernel) rfl rfl (Nat.le_of_ble_eq_true rfl) dX12_putOnTape_36 (fun H locs hP hD hS => ?_)
  have hP : va_P (dC, dI) vwCl [(c0, .inr (13, [.ref c1, .int 1, .int 0, .ref c4, .ref c5, .null, .ref c6, .ref c7, .null, .null, .int 0, .ref c8])), (c1, .inl (c2, 32768, .inl f3))] H := hP
  have hD : va_D A [(c0, .inr (13, [.ref c1, .int 1, .int 0, .ref c4, .ref c5, .null, .ref c6, .ref c7, .null, .null, .int 0, .ref c8])), (c1, .inl (c2, 32768, .inl f3))] := hD
  refine lv_iinc (v := 16) (lv' := [(2, .int 16), (0, .ref c0), (1, .int c3)]) hx hb dX12_putOnTape_39 hl (k := 0) rfl (by decide) (by decide) rfl (fun ls hl => ?_)
  refine lv_goto (tgt := 3) hx hb dX12_putOnTape_42 (by decide) ?_
  refine lv_iload_n hx hb dX12_putOnTape_3 rfl (lv_at hl 0 rfl) ?_
  refine lv_if_lt (tgt := 45) hx hb dX12_putOnTape_4 (by decide) (fun h9 => absurd h9 (by decide)) (fun _ => ?_)
  refine lv_aload_n hx hb dX12_putOnTape_7 rfl (lv_at hl 1 rfl) ?_
  refine va_get (D := (dC, dI)) (ci := 13) (v := .int 1) (C := RX12) (T := TX12) (N := 12) hx hb hts hi_X12_putOnTape_X12 hown hK hP 0 rfl rfl 1 (by decide) (hts (.fieldLink RX12 43 "TimeMachine" "taped" "I") (List.mem_of_getElem? (i := 1) (by decide +kernel))) (fun _ h9 => h9) rfl dX12_putOnTape_8 ?_
  refine lv_ldc hx hb hown (hts (.constant RX12 9 (32768)) (List.mem_of_getElem? (i := 2) (by decide +kernel))) dX12_putOnTape_11 ?_
  refine lv_icmp_ge (tgt := 39) hx hb dX12_putOnTape_13 (by decide) (fun h9 => absurd h9 (by decide)) (fun _ => ?_)
  refine lv_aload_n hx hb dX12_putOnTape_16 rfl (lv_at hl 1 rfl) ?_
  refine va_get (D := (dC, dI)) (ci := 13) (v := .ref c1) (C := RX12) (T := TX12) (N := 12) hx hb hts hi_X12_putOnTape_X12 hown hK hP 0 rfl rfl 0 (by decide) (hts (.fieldLink RX12 10 "TimeMachine" "tape" "[B") (List.mem_of_getElem? (i := 3) (by decide +kernel))) (fun _ h9 => h9) rfl dX12_putOnTape_17 ?_
  refine lv_aload_n hx hb dX12_putOnTape_20 rfl (lv_at hl 1 rfl) ?_
  refine va_get (D := (dC, dI)) (ci := 13) (v := .int 1) (C := RX12) (T := TX12) (N := 12) hx hb hts hi_X12_putOnTape_X12 hown hK hP 0 rfl rfl 1 (by decide) (hts (.fieldLink RX12 43 "TimeMachine" "taped" "I") (List.mem_of_getElem? (i := 1) (by decide +kernel))) (fun _ h9 => h9) rfl dX12_putOnTape_21 ?_
  refine lv_iload_n hx hb dX12_putOnTape_24 rfl (lv_at hl 2 rfl) ?_
  refine lv_iload_n hx hb dX12_putOnTape_25 rfl (lv_at hl 0 rfl) ?_
  refine lv_ishr hx hb dX12_putOnTape_26 ?_
  refine lv_topi (fun z5 ez5 => ?_)
  refine lv_i2b hx hb dX12_putOnTape_27 rfl ?_
  refine lv_topi (fun z6 ez6 => ?_)
  refine va_bast (i := 1) (x := z6) hx hb hK hP hD hS 1 0 rfl rfl (vp_in_iff.mpr ⟨by decide, by decide⟩) dX12_putOnTape_28 (fun H locs hP hD hS => ?_)
  generalize hf7 : upd f3 (Int32.toNatClampNeg 1) (vp_nar .byte z6) = f7 at hP hD
  have hP : va_P (dC, dI) vwCl [(c0, .inr (13, [.ref c1, .int 1, .int 0, .ref c4, .ref c5, .null, .ref c6, .ref c7, .null, .null, .int 0, .ref c8])), (c1, .inl (c2, 32768, .inl f7))] H := hP
  have hD : va_D A [(c0, .inr (13, [.ref c1, .int 1, .int 0, .ref c4, .ref c5, .null, .ref c6, .ref c7, .null, .null, .int 0, .ref c8])), (c1, .inl (c2, 32768, .inl f7))] := hD
  refine lv_aload_n hx hb dX12_putOnTape_29 rfl (lv_at hl 1 rfl) ?_
  refine lv_dup hx hb dX12_putOnTape_30 rfl ?_
  refine va_get (D := (dC, dI)) (ci := 13) (v := .int 1) (C := RX12) (T := TX12) (N := 12) hx hb hts hi_X12_putOnTape_X12 hown hK hP 0 rfl rfl 1 (by decide) (hts (.fieldLink RX12 43 "TimeMachine" "taped" "I") (List.mem_of_getElem? (i := 1) (by decide +kernel))) (fun _ h9 => h9) rfl dX12_putOnTape_31 ?_
  refine lv_iconst (v := 1) hx hb dX12_putOnTape_34 (by decide) ?_
  refine lv_iadd hx hb dX12_putOnTape_35 ?_
  refine lv_topi (fun z8 ez8 => ?_)
  obtain rfl : z8 = 2 := ez8.trans (by decide)
  refine va_put (D := (dC, dI)) (ci := 13) (v := .int 2) (ty := .int) (C := RX12) (T := TX12) (N := 12) hx hb hts hi_X12_putOnTape_X12 tyX12 tyX12_ok nmX12 hown hK hP hD hS 0 rfl rfl 1 (by decide) (hts (.fieldLink RX12 43 "TimeMachine" "taped" "I") (List.mem_of_getElem? (i := 1) (by decide +kernel))) (fun _ h9 => h9) rfl (by decide +kernel) rfl rfl (Nat.le_of_ble_eq_true rfl) dX12_putOnTape_36 (fun H locs hP hD hS => ?_)
  have hP : va_P (dC, dI) vwCl [(c0, .inr (13, [.ref c1, .int 2, .int 0, .ref c4, .ref c5, .null, .ref c6, .ref c7, .null, .null, .int 0, .ref c8])), (c1, .inl (c2, 32768, .inl f7))] H := hP
  have hD : va_D A [(c0, .inr (13, [.ref c1, .int 2, .int 0, .ref c4, .ref c5, .null, .ref c6, .ref c7, .null, .null, .int 0, .ref c8])), (c1, .inl (c2, 32768, .inl f7))] := hD
  refine lv_iinc (v := 8) (lv' := [(2, .int 8), (0, .ref c0), (1, .int c3)]) hx hb dX12_putOnTape_39 hl (k := 0) rfl (by decide) (by decide) rfl (fun ls hl => ?_)
  refine lv_goto (tgt := 3) hx hb dX12_putOnTape_42 (by decide) ?_
  refine lv_iload_n hx hb dX12_putOnTape_3 rfl (lv_at hl 0 rfl) ?_
  refine lv_if_lt (tgt := 45) hx hb dX12_putOnTape_4 (by decide) (fun h9 => absurd h9 (by decide)) (fun _ => ?_)
  refine lv_aload_n hx hb dX12_putOnTape_7 rfl (lv_at hl 1 rfl) ?_
  refine va_get (D := (dC, dI)) (ci := 13) (v := .int 2) (C := RX12) (T := TX12) (N := 12) hx hb hts hi_X12_putOnTape_X12 hown hK hP 0 rfl rfl 1 (by decide) (hts (.fieldLink RX12 43 "TimeMachine" "taped" "I") (List.mem_of_getElem? (i := 1) (by decide +kernel))) (fun _ h9 => h9) rfl dX12_putOnTape_8 ?_
  refine lv_ldc hx hb hown (hts (.constant RX12 9 (32768)) (List.mem_of_getElem? (i := 2) (by decide +kernel))) dX12_putOnTape_11 ?_
  refine lv_icmp_ge (tgt := 39) hx hb dX12_putOnTape_13 (by decide) (fun h9 => absurd h9 (by decide)) (fun _ => ?_)
  refine lv_aload_n hx hb dX12_putOnTape_16 rfl (lv_at hl 1 rfl) ?_
  refine va_get (D := (dC, dI)) (ci := 13) (v := .ref c1) (C := RX12) (T := TX12) (N := 12) hx hb hts hi_X12_putOnTape_X12 hown hK hP 0 rfl rfl 0 (by decide) (hts (.fieldLink RX12 10 "TimeMachine" "tape" "[B") (List.mem_of_getElem? (i := 3) (by decide +kernel))) (fun _ h9 => h9) rfl dX12_putOnTape_17 ?_
  refine lv_aload_n hx hb dX12_putOnTape_20 rfl (lv_at hl 1 rfl) ?_
  refine va_get (D := (dC, dI)) (ci := 13) (v := .int 2) (C := RX12) (T := TX12) (N := 12) hx hb hts hi_X12_putOnTape_X12 hown hK hP 0 rfl rfl 1 (by decide) (hts (.fieldLink RX12 43 "TimeMachine" "taped" "I") (List.mem_of_getElem? (i := 1) (by decide +kernel))) (fun _ h9 => h9) rfl dX12_putOnTape_21 ?_
  refine lv_iload_n hx hb dX12_putOnTape_24 rfl (lv_at hl 2 rfl) ?_
  refine lv_iload_n hx hb dX12_putOnTape_25 rfl (lv_at hl 0 rfl) ?_
  refine lv_ishr hx hb dX12_putOnTape_26 ?_
  refine lv_topi (fun z9 ez9 => ?_)
  refine lv_i2b hx hb dX12_putOnTape_27 rfl ?_
  refine lv_topi (fun z10 ez10 => ?_)
  refine va_bast (i := 2) (x := z10) hx hb hK hP hD hS 1 0 rfl rfl (vp_in_iff.mpr ⟨by decide, by decide⟩) dX12_putOnTape_28 (fun H locs hP hD hS => ?_)
  generalize hf11 : upd f7 (Int32.toNatClampNeg 2) (vp_nar .byte z10) = f11 at hP hD
  have hP : va_P (dC, dI) vwCl [(c0, .inr (13, [.ref c1, .int 2, .int 0, .ref c4, .ref c5, .null, .ref c6, .ref c7, .null, .null, .int 0, .ref c8])), (c1, .inl (c2, 32768, .inl f11))] H := hP
  have hD : va_D A [(c0, .inr (13, [.ref c1, .int 2, .int 0, .ref c4, .ref c5, .null, .ref c6, .ref c7, .null, .null, .int 0, .ref c8])), (c1, .inl (c2, 32768, .inl f11))] := hD
  refine lv_aload_n hx hb dX12_putOnTape_29 rfl (lv_at hl 1 rfl) ?_
  refine lv_dup hx hb dX12_putOnTape_30 rfl ?_
  refine va_get (D := (dC, dI)) (ci := 13) (v := .int 2) (C := RX12) (T := TX12) (N := 12) hx hb hts hi_X12_putOnTape_X12 hown hK hP 0 rfl rfl 1 (by decide) (hts (.fieldLink RX12 43 "TimeMachine" "taped" "I") (List.mem_of_getElem? (i := 1) (by decide +kernel))) (fun _ h9 => h9) rfl dX12_putOnTape_31 ?_
  refine lv_iconst (v := 1) hx hb dX12_putOnTape_34 (by decide) ?_
  refine lv_iadd hx hb dX12_putOnTape_35 ?_
  refine lv_topi (fun z12 ez12 => ?_)
  obtain rfl : z12 = 3 := ez12.trans (by decide)
  refine va_put (D := (dC, dI)) (ci := 13) (v := .int 3) (ty := .int) (C := RX12) (T := TX12) (N := 12) hx hb hts hi_X12_putOnTape_X12 tyX12 tyX12_ok nmX12 hown hK hP hD hS 0 rfl rfl 1 (by decide) (hts (.fieldLink RX12 43 "TimeMachine" "taped" "I") (List.mem_of_getElem? (i := 1) (by decide +kernel))) (fun _ h9 => h9) rfl (by decide +kernel) rfl rfl (Nat.le_of_ble_eq_true rfl) dX12_putOnTape_36 (fun H locs hP hD hS => ?_)
  have hP : va_P (dC, dI) vwCl [(c0, .inr (13, [.ref c1, .int 3, .int 0, .ref c4, .ref c5, .null, .ref c6, .ref c7, .null, .null, .int 0, .ref c8])), (c1, .inl (c2, 32768, .inl f11))] H := hP
  have hD : va_D A [(c0, .inr (13, [.ref c1, .int 3, .int 0, .ref c4, .ref c5, .null, .ref c6, .ref c7, .null, .null, .int 0, .ref c8])), (c1, .inl (c2, 32768, .inl f11))] := hD
  refine lv_iinc (v := 0) (lv' := [(2, .int 0), (0, .ref c0), (1, .int c3)]) hx hb dX12_putOnTape_39 hl (k := 0) rfl (by decide) (by decide) rfl (fun ls hl => ?_)
  refine lv_goto (tgt := 3) hx hb dX12_putOnTape_42 (by decide) ?_
  refine lv_iload_n hx hb dX12_putOnTape_3 rfl (lv_at hl 0 rfl) ?_
  refine lv_if_lt (tgt := 45) hx hb dX12_putOnTape_4 (by decide) (fun h9 => absurd h9 (by decide)) (fun _ => ?_)
  refine lv_aload_n hx hb dX12_putOnTape_7 rfl (lv_at hl 1 rfl) ?_
  refine va_get (D := (dC, dI)) (ci := 13) (v := .int 3) (C := RX12) (T := TX12) (N := 12) hx hb hts hi_X12_putOnTape_X12 hown hK hP 0 rfl rfl 1 (by decide) (hts (.fieldLink RX12 43 "TimeMachine" "taped" "I") (List.mem_of_getElem? (i := 1) (by decide +kernel))) (fun _ h9 => h9) rfl dX12_putOnTape_8 ?_
  refine lv_ldc hx hb hown (hts (.constant RX12 9 (32768)) (List.mem_of_getElem? (i := 2) (by decide +kernel))) dX12_putOnTape_11 ?_
  refine lv_icmp_ge (tgt := 39) hx hb dX12_putOnTape_13 (by decide) (fun h9 => absurd h9 (by decide)) (fun _ => ?_)
  refine lv_aload_n hx hb dX12_putOnTape_16 rfl (lv_at hl 1 rfl) ?_
  refine va_get (D := (dC, dI)) (ci := 13) (v := .ref c1) (C := RX12) (T := TX12) (N := 12) hx hb hts hi_X12_putOnTape_X12 hown hK hP 0 rfl rfl 0 (by decide) (hts (.fieldLink RX12 10 "TimeMachine" "tape" "[B") (List.mem_of_getElem? (i := 3) (by decide +kernel))) (fun _ h9 => h9) rfl dX12_putOnTape_17 ?_
  refine lv_aload_n hx hb dX12_putOnTape_20 rfl (lv_at hl 1 rfl) ?_
  refine va_get (D := (dC, dI)) (ci := 13) (v := .int 3) (C := RX12) (T := TX12) (N := 12) hx hb hts hi_X12_putOnTape_X12 hown hK hP 0 rfl rfl 1 (by decide) (hts (.fieldLink RX12 43 "TimeMachine" "taped" "I") (List.mem_of_getElem? (i := 1) (by decide +kernel))) (fun _ h9 => h9) rfl dX12_putOnTape_21 ?_
  refine lv_iload_n hx hb dX12_putOnTape_24 rfl (lv_at hl 2 rfl) ?_
  refine lv_iload_n hx hb dX12_putOnTape_25 rfl (lv_at hl 0 rfl) ?_
  refine lv_ishr hx hb dX12_putOnTape_26 ?_
  refine lv_topi (fun z13 ez13 => ?_)
  refine lv_i2b hx hb dX12_putOnTape_27 rfl ?_
  refine lv_topi (fun z14 ez14 => ?_)
  refine va_bast (i := 3) (x := z14) hx hb hK hP hD hS 1 0 rfl rfl (vp_in_iff.mpr ⟨by decide, by decide⟩) dX12_putOnTape_28 (fun H locs hP hD hS => ?_)
  generalize hf15 : upd f11 (Int32.toNatClampNeg 3) (vp_nar .byte z14) = f15 at hP hD
  have hP : va_P (dC, dI) vwCl [(c0, .inr (13, [.ref c1, .int 3, .int 0, .ref c4, .ref c5, .null, .ref c6, .ref c7, .null, .null, .int 0, .ref c8])), (c1, .inl (c2, 32768, .inl f15))] H := hP
  have hD : va_D A [(c0, .inr (13, [.ref c1, .int 3, .int 0, .ref c4, .ref c5, .null, .ref c6, .ref c7, .null, .null, .int 0, .ref c8])), (c1, .inl (c2, 32768, .inl f15))] := hD
  refine lv_aload_n hx hb dX12_putOnTape_29 rfl (lv_at hl 1 rfl) ?_
  refine lv_dup hx hb dX12_putOnTape_30 rfl ?_
  refine va_get (D := (dC, dI)) (ci := 13) (v := .int 3) (C := RX12) (T := TX12) (N := 12) hx hb hts hi_X12_putOnTape_X12 hown hK hP 0 rfl rfl 1 (by decide) (hts (.fieldLink RX12 43 "TimeMachine" "taped" "I") (List.mem_of_getElem? (i := 1) (by decide +kernel))) (fun _ h9 => h9) rfl dX12_putOnTape_31 ?_
  refine lv_iconst (v := 1) hx hb dX12_putOnTape_34 (by decide) ?_
  refine lv_iadd hx hb dX12_putOnTape_35 ?_
  refine lv_topi (fun z16 ez16 => ?_)
  obtain rfl : z16 = 4 := ez16.trans (by decide)
  refine va_put (D := (dC, dI)) (ci := 13) (v := .int 4) (ty := .int) (C := RX12) (T := TX12) (N := 12) hx hb hts hi_X12_putOnTape_X12 tyX12 tyX12_ok nmX12 hown hK hP hD hS 0 rfl rfl 1 (by decide) (hts (.fieldLink RX12 43 "TimeMachine" "taped" "I") (List.mem_of_getElem? (i := 1) (by decide +kernel))) (fun _ h9 => h9) rfl (by decide +kernel) rfl rfl (Nat.le_of_ble_eq_true rfl) dX12_putOnTape_36 (fun H locs hP hD hS => ?_)
  have hP : va_P (dC, dI) vwCl [(c0, .inr (13, [.ref c1, .int 4, .int 0, .ref c4, .ref c5, .null, .ref c6, .ref c7, .null, .null, .int 0, .ref c8])), (c1, .inl (c2, 32768, .inl f15))] H := hP
  have hD : va_D A [(c0, .inr (13, [.ref c1, .int 4, .int 0, .ref c4, .ref c5, .null, .ref c6, .ref c7, .null, .null, .int 0, .ref c8])), (c1, .inl (c2, 32768, .inl f15))] := hD
  refine lv_iinc (v := (-8)) (lv' := [(2, .int (-8)), (0, .ref c0), (1, .int c3)]) hx hb dX12_putOnTape_39 hl (k := 0) rfl (by decide) (by decide) rfl (fun ls hl => ?_)
  refine lv_goto (tgt := 3) hx hb dX12_putOnTape_42 (by decide) ?_
  refine lv_iload_n hx hb dX12_putOnTape_3 rfl (lv_at hl 0 rfl) ?_
  refine lv_if_lt (tgt := 45) hx hb dX12_putOnTape_4 (by decide) (fun _ => ?_) (fun h9 => absurd (by decide) h9)
  have hP9 := hP.sub (ws' := [(c0, .inr (13, [.ref c1, .int 4, .int 0, .ref c4, .ref c5, .null, .ref c6, .ref c7, .null, .null, .int 0, .ref c8])), (c1, .inl (c2, 32768, .inl f15))]) [0, 1] rfl
  have hD9 := hD.sub (ws' := [(c0, .inr (13, [.ref c1, .int 4, .int 0, .ref c4, .ref c5, .null, .ref c6, .ref c7, .null, .null, .int 0, .ref c8])), (c1, .inl (c2, 32768, .inl f15))]) [0, 1] (by decide) rfl
  have hK9 := hK.sub (tys' := [(c2, .byte)]) [0] rfl
  refine W.widen (k := 0) (n := 0) (by decide +kernel) (by decide +kernel) ?_
  exact W.vret hx hb hr (fun t ht hW => ⟨⟨(), rfl, trivial, f15, by rw [ht]; exact hP9, va_K.moved hW.alike hK9, hD9⟩, hS.F ht⟩) hS.2.2 dX12_putOnTape_45
set_option maxHeartbeats 40000000 in
set_option maxRecDepth 100000 in
theorem k_X12_putOnTape_v1 (l : Launch) (dC : Nat → ClassId) (dI : Nat → Nat → Nat) (c0 : Nat) (c1 : Nat) (c2 : ClassId) (c3 : Nat → Int32) (c4 : Int32) (c5 : Nat) (c6 : Nat) (c7 : Nat) (c8 : Nat) (c9 : Nat) (sz : Nat) : Met l yX12_putOnTape wsX12_putOnTape ({ frames := 0, cells := 0, slots := 0, locals := 0 }) (va_Pc [.ref c0, .int c4] (fun U => U.heap.size = sz ∧ va_P (dC, dI) vwCl [(c0, .inr (13, [.ref c1, .int 4, .int 0, .ref c5, .ref c6, .null, .ref c7, .ref c8, .null, .null, .int 0, .ref c9])), (c1, .inl (c2, 32768, .inl c3))] U.heap ∧ va_K (dC, dI) vwCl [(c2, .byte)] U ∧ va_D (fun _ => True) [(c0, .inr (13, [.ref c1, .int 4, .int 0, .ref c5, .ref c6, .null, .ref c7, .ref c8, .null, .null, .int 0, .ref c9])), (c1, .inl (c2, 32768, .inl c3))] ∧ nv_E (va_A [(c0, .inr (13, [.ref c1, .int 4, .int 0, .ref c5, .ref c6, .null, .ref c7, .ref c8, .null, .null, .int 0, .ref c9])), (c1, .inl (c2, 32768, .inl c3))] sz) U)) (va_Qv (fun _ => True) (fun (_ : Unit) t => ∃ (f15 : Nat → Int32), va_P (dC, dI) vwCl [(c0, .inr (13, [.ref c1, .int 8, .int 0, .ref c5, .ref c6, .null, .ref c7, .ref c8, .null, .null, .int 0, .ref c9])), (c1, .inl (c2, 32768, .inl f15))] t.heap ∧ va_K (dC, dI) vwCl [(c2, .byte)] t ∧ va_D (va_A [(c0, .inr (13, [.ref c1, .int 4, .int 0, .ref c5, .ref c6, .null, .ref c7, .ref c8, .null, .null, .int 0, .ref c9])), (c1, .inl (c2, 32768, .inl c3))] sz) [(c0, .inr (13, [.ref c1, .int 8, .int 0, .ref c5, .ref c6, .null, .ref c7, .ref c8, .null, .null, .int 0, .ref c9])), (c1, .inl (c2, 32768, .inl f15))]) (va_A [(c0, .inr (13, [.ref c1, .int 4, .int 0, .ref c5, .ref c6, .null, .ref c7, .ref c8, .null, .null, .int 0, .ref c9])), (c1, .inl (c2, 32768, .inl c3))] sz)) 0 0 (va_A [(c0, .inr (13, [.ref c1, .int 4, .int 0, .ref c5, .ref c6, .null, .ref c7, .ref c8, .null, .null, .int 0, .ref c9])), (c1, .inl (c2, 32768, .inl c3))] sz) := by
  refine Met.ofW (cc := cX12_putOnTape) (maxL := 3) (ret := none) (by decide) rfl ?_
  intro p e s m args below meth c s₁ B hml hv
  obtain ⟨rfl, hsz, hP, hK, hD0, hN⟩ := hv
  have hx := B.exec
  have hb := B.bytes
  have hr := B.returns
  have hts := atoms_spec (ws := wsX12_putOnTape) B.pre
  have hown : s.vm.findClass RX12 = some m.cls := findClass_of_methodNamed B.named
  have hlocks := B.notSynchronized
  subst hsz
  have hD := hD0.self (sz := s.heap.size)
  generalize hAe : va_A [(c0, .inr (13, [.ref c1, .int 4, .int 0, .ref c5, .ref c6, .null, .ref c7, .ref c8, .null, .null, .int 0, .ref c9])), (c1, .inl (c2, 32768, .inl c3))] s.heap.size = A at hD hN ⊢
  have hA : ∀ q : Nat, s.heap.size ≤ q → A q := fun q h => by rw [← hAe]; exact Or.inr h
  have hS : va_S A s.heap s.heap [] := va_S.rf
  have hl := lv_entry ([.ref c0, .int c4]) (n := 3) (Nat.le_of_ble_eq_true rfl)
  rw [lg_entry_eq]
  generalize (lg_sl ([.ref c0, .int c4]) ++ List.replicate (3 - (lg_sl ([.ref c0, .int c4])).length) Slot.unset).toArray = ls at hl ⊢
  have hl : lv_has ls 3 [(0, .ref c0), (1, .int c4)] := hl
  refine lv_bipush (v := 24) hx hb dX12_putOnTape_0 (by decide) ?_
  refine lv_istore_n (lv' := [(2, .int 24), (0, .ref c0), (1, .int c4)]) hx hb dX12_putOnTape_2 rfl hl (by decide) rfl (fun ls hl => ?_)
  refine lv_iload_n hx hb dX12_putOnTape_3 rfl (lv_at hl 0 rfl) ?_
  refine lv_if_lt (tgt := 45) hx hb dX12_putOnTape_4 (by decide) (fun h9 => absurd h9 (by decide)) (fun _ => ?_)
  refine lv_aload_n hx hb dX12_putOnTape_7 rfl (lv_at hl 1 rfl) ?_
  refine va_get (D := (dC, dI)) (ci := 13) (v := .int 4) (C := RX12) (T := TX12) (N := 12) hx hb hts hi_X12_putOnTape_X12 hown hK hP 0 rfl rfl 1 (by decide) (hts (.fieldLink RX12 43 "TimeMachine" "taped" "I") (List.mem_of_getElem? (i := 1) (by decide +kernel))) (fun _ h9 => h9) rfl dX12_putOnTape_8 ?_
  refine lv_ldc hx hb hown (hts (.constant RX12 9 (32768)) (List.mem_of_getElem? (i := 2) (by decide +kernel))) dX12_putOnTape_11 ?_
  refine lv_icmp_ge (tgt := 39) hx hb dX12_putOnTape_13 (by decide) (fun h9 => absurd h9 (by decide)) (fun _ => ?_)
  refine lv_aload_n hx hb dX12_putOnTape_16 rfl (lv_at hl 1 rfl) ?_
  refine va_get (D := (dC, dI)) (ci := 13) (v := .ref c1) (C := RX12) (T := TX12) (N := 12) hx hb hts hi_X12_putOnTape_X12 hown hK hP 0 rfl rfl 0 (by decide) (hts (.fieldLink RX12 10 "TimeMachine" "tape" "[B") (List.mem_of_getElem? (i := 3) (by decide +kernel))) (fun _ h9 => h9) rfl dX12_putOnTape_17 ?_
  refine lv_aload_n hx hb dX12_putOnTape_20 rfl (lv_at hl 1 rfl) ?_
  refine va_get (D := (dC, dI)) (ci := 13) (v := .int 4) (C := RX12) (T := TX12) (N := 12) hx hb hts hi_X12_putOnTape_X12 hown hK hP 0 rfl rfl 1 (by decide) (hts (.fieldLink RX12 43 "TimeMachine" "taped" "I") (List.mem_of_getElem? (i := 1) (by decide +kernel))) (fun _ h9 => h9) rfl dX12_putOnTape_21 ?_
  refine lv_iload_n hx hb dX12_putOnTape_24 rfl (lv_at hl 2 rfl) ?_
  refine lv_iload_n hx hb dX12_putOnTape_25 rfl (lv_at hl 0 rfl) ?_
  refine lv_ishr hx hb dX12_putOnTape_26 ?_
  refine lv_topi (fun z1 ez1 => ?_)
  refine lv_i2b hx hb dX12_putOnTape_27 rfl ?_
  refine lv_topi (fun z2 ez2 => ?_)
  refine va_bast (i := 4) (x := z2) hx hb hK hP hD hS 1 0 rfl rfl (vp_in_iff.mpr ⟨by decide, by decide⟩) dX12_putOnTape_28 (fun H locs hP hD hS => ?_)
  generalize hf3 : upd c3 (Int32.toNatClampNeg 4) (vp_nar .byte z2) = f3 at hP hD
  have hP : va_P (dC, dI) vwCl [(c0, .inr (13, [.ref c1, .int 4, .int 0, .ref c5, .ref c6, .null, .ref c7, .ref c8, .null, .null, .int 0, .ref c9])), (c1, .inl (c2, 32768, .inl f3))] H := hP
  have hD : va_D A [(c0, .inr (13, [.ref c1, .int 4, .int 0, .ref c5, .ref c6, .null, .ref c7, .ref c8, .null, .null, .int 0, .ref c9])), (c1, .inl (c2, 32768, .inl f3))] := hD
  refine lv_aload_n hx hb dX12_putOnTape_29 rfl (lv_at hl 1 rfl) ?_
  refine lv_dup hx hb dX12_putOnTape_30 rfl ?_
  refine va_get (D := (dC, dI)) (ci := 13) (v := .int 4) (C := RX12) (T := TX12) (N := 12) hx hb hts hi_X12_putOnTape_X12 hown hK hP 0 rfl rfl 1 (by decide) (hts (.fieldLink RX12 43 "TimeMachine" "taped" "I") (List.mem_of_getElem? (i := 1) (by decide +kernel))) (fun _ h9 => h9) rfl dX12_putOnTape_31 ?_
  refine lv_iconst (v := 1) hx hb dX12_putOnTape_34 (by decide) ?_
  refine lv_iadd hx hb dX12_putOnTape_35 ?_
  refine lv_topi (fun z4 ez4 => ?_)
  obtain rfl : z4 = 5 := ez4.trans (by decide)
  refine va_put (D := (dC, dI)) (ci := 13) (v := .int 5) (ty := .int) (C := RX12) (T := TX12) (N := 12) hx hb hts hi_X12_putOnTape_X12 tyX12 tyX12_ok nmX12 hown hK hP hD hS 0 rfl rfl 1 (by decide) (hts (.fieldLink RX12 43 "TimeMachine" "taped" "I") (List.mem_of_getElem? (i := 1) (by decide +kernel))) (fun _ h9 => h9) rfl (by decide +kernel) rfl rfl (Nat.le_of_ble_eq_true rfl) dX12_putOnTape_36 (fun H locs hP hD hS => ?_)
  have hP : va_P (dC, dI) vwCl [(c0, .inr (13, [.ref c1, .int 5, .int 0, .ref c5, .ref c6, .null, .ref c7, .ref c8, .null, .null, .int 0, .ref c9])), (c1, .inl (c2, 32768, .inl f3))] H := hP
  have hD : va_D A [(c0, .inr (13, [.ref c1, .int 5, .int 0, .ref c5, .ref c6, .null, .ref c7, .ref c8, .null, .null, .int 0, .ref c9])), (c1, .inl (c2, 32768, .inl f3))] := hD
  refine lv_iinc (v := 16) (lv' := [(2, .int 16), (0, .ref c0), (1, .int c4)]) hx hb dX12_putOnTape_39 hl (k := 0) rfl (by decide) (by decide) rfl (fun ls hl => ?_)
  refine lv_goto (tgt := 3) hx hb dX12_putOnTape_42 (by decide) ?_
  refine lv_iload_n hx hb dX12_putOnTape_3 rfl (lv_at hl 0 rfl) ?_
  refine lv_if_lt (tgt := 45) hx hb dX12_putOnTape_4 (by decide) (fun h9 => absurd h9 (by decide)) (fun _ => ?_)
  refine lv_aload_n hx hb dX12_putOnTape_7 rfl (lv_at hl 1 rfl) ?_
  refine va_get (D := (dC, dI)) (ci := 13) (v := .int 5) (C := RX12) (T := TX12) (N := 12) hx hb hts hi_X12_putOnTape_X12 hown hK hP 0 rfl rfl 1 (by decide) (hts (.fieldLink RX12 43 "TimeMachine" "taped" "I") (List.mem_of_getElem? (i := 1) (by decide +kernel))) (fun _ h9 => h9) rfl dX12_putOnTape_8 ?_
  refine lv_ldc hx hb hown (hts (.constant RX12 9 (32768)) (List.mem_of_getElem? (i := 2) (by decide +kernel))) dX12_putOnTape_11 ?_
  refine lv_icmp_ge (tgt := 39) hx hb dX12_putOnTape_13 (by decide) (fun h9 => absurd h9 (by decide)) (fun _ => ?_)
  refine lv_aload_n hx hb dX12_putOnTape_16 rfl (lv_at hl 1 rfl) ?_
  refine va_get (D := (dC, dI)) (ci := 13) (v := .ref c1) (C := RX12) (T := TX12) (N := 12) hx hb hts hi_X12_putOnTape_X12 hown hK hP 0 rfl rfl 0 (by decide) (hts (.fieldLink RX12 10 "TimeMachine" "tape" "[B") (List.mem_of_getElem? (i := 3) (by decide +kernel))) (fun _ h9 => h9) rfl dX12_putOnTape_17 ?_
  refine lv_aload_n hx hb dX12_putOnTape_20 rfl (lv_at hl 1 rfl) ?_
  refine va_get (D := (dC, dI)) (ci := 13) (v := .int 5) (C := RX12) (T := TX12) (N := 12) hx hb hts hi_X12_putOnTape_X12 hown hK hP 0 rfl rfl 1 (by decide) (hts (.fieldLink RX12 43 "TimeMachine" "taped" "I") (List.mem_of_getElem? (i := 1) (by decide +kernel))) (fun _ h9 => h9) rfl dX12_putOnTape_21 ?_
  refine lv_iload_n hx hb dX12_putOnTape_24 rfl (lv_at hl 2 rfl) ?_
  refine lv_iload_n hx hb dX12_putOnTape_25 rfl (lv_at hl 0 rfl) ?_
  refine lv_ishr hx hb dX12_putOnTape_26 ?_
  refine lv_topi (fun z5 ez5 => ?_)
  refine lv_i2b hx hb dX12_putOnTape_27 rfl ?_
  refine lv_topi (fun z6 ez6 => ?_)
  refine va_bast (i := 5) (x := z6) hx hb hK hP hD hS 1 0 rfl rfl (vp_in_iff.mpr ⟨by decide, by decide⟩) dX12_putOnTape_28 (fun H locs hP hD hS => ?_)
  generalize hf7 : upd f3 (Int32.toNatClampNeg 5) (vp_nar .byte z6) = f7 at hP hD
  have hP : va_P (dC, dI) vwCl [(c0, .inr (13, [.ref c1, .int 5, .int 0, .ref c5, .ref c6, .null, .ref c7, .ref c8, .null, .null, .int 0, .ref c9])), (c1, .inl (c2, 32768, .inl f7))] H := hP
  have hD : va_D A [(c0, .inr (13, [.ref c1, .int 5, .int 0, .ref c5, .ref c6, .null, .ref c7, .ref c8, .null, .null, .int 0, .ref c9])), (c1, .inl (c2, 32768, .inl f7))] := hD
  refine lv_aload_n hx hb dX12_putOnTape_29 rfl (lv_at hl 1 rfl) ?_
  refine lv_dup hx hb dX12_putOnTape_30 rfl ?_
  refine va_get (D := (dC, dI)) (ci := 13) (v := .int 5) (C := RX12) (T := TX12) (N := 12) hx hb hts hi_X12_putOnTape_X12 hown hK hP 0 rfl rfl 1 (by decide) (hts (.fieldLink RX12 43 "TimeMachine" "taped" "I") (List.mem_of_getElem? (i := 1) (by decide +kernel))) (fun _ h9 => h9) rfl dX12_putOnTape_31 ?_
  refine lv_iconst (v := 1) hx hb dX12_putOnTape_34 (by decide) ?_
  refine lv_iadd hx hb dX12_putOnTape_35 ?_
  refine lv_topi (fun z8 ez8 => ?_)
  obtain rfl : z8 = 6 := ez8.trans (by decide)
  refine va_put (D := (dC, dI)) (ci := 13) (v := .int 6) (ty := .int) (C := RX12) (T := TX12) (N := 12) hx hb hts hi_X12_putOnTape_X12 tyX12 tyX12_ok nmX12 hown hK hP hD hS 0 rfl rfl 1 (by decide) (hts (.fieldLink RX12 43 "TimeMachine" "taped" "I") (List.mem_of_getElem? (i := 1) (by decide +kernel))) (fun _ h9 => h9) rfl (by decide +kernel) rfl rfl (Nat.le_of_ble_eq_true rfl) dX12_putOnTape_36 (fun H locs hP hD hS => ?_)
  have hP : va_P (dC, dI) vwCl [(c0, .inr (13, [.ref c1, .int 6, .int 0, .ref c5, .ref c6, .null, .ref c7, .ref c8, .null, .null, .int 0, .ref c9])), (c1, .inl (c2, 32768, .inl f7))] H := hP
  have hD : va_D A [(c0, .inr (13, [.ref c1, .int 6, .int 0, .ref c5, .ref c6, .null, .ref c7, .ref c8, .null, .null, .int 0, .ref c9])), (c1, .inl (c2, 32768, .inl f7))] := hD
  refine lv_iinc (v := 8) (lv' := [(2, .int 8), (0, .ref c0), (1, .int c4)]) hx hb dX12_putOnTape_39 hl (k := 0) rfl (by decide) (by decide) rfl (fun ls hl => ?_)
  refine lv_goto (tgt := 3) hx hb dX12_putOnTape_42 (by decide) ?_
  refine lv_iload_n hx hb dX12_putOnTape_3 rfl (lv_at hl 0 rfl) ?_
  refine lv_if_lt (tgt := 45) hx hb dX12_putOnTape_4 (by decide) (fun h9 => absurd h9 (by decide)) (fun _ => ?_)
  refine lv_aload_n hx hb dX12_putOnTape_7 rfl (lv_at hl 1 rfl) ?_
  refine va_get (D := (dC, dI)) (ci := 13) (v := .int 6) (C := RX12) (T := TX12) (N := 12) hx hb hts hi_X12_putOnTape_X12 hown hK hP 0 rfl rfl 1 (by decide) (hts (.fieldLink RX12 43 "TimeMachine" "taped" "I") (List.mem_of_getElem? (i := 1) (by decide +kernel))) (fun _ h9 => h9) rfl dX12_putOnTape_8 ?_
  refine lv_ldc hx hb hown (hts (.constant RX12 9 (32768)) (List.mem_of_getElem? (i := 2) (by decide +kernel))) dX12_putOnTape_11 ?_
  refine lv_icmp_ge (tgt := 39) hx hb dX12_putOnTape_13 (by decide) (fun h9 => absurd h9 (by decide)) (fun _ => ?_)
  refine lv_aload_n hx hb dX12_putOnTape_16 rfl (lv_at hl 1 rfl) ?_
  refine va_get (D := (dC, dI)) (ci := 13) (v := .ref c1) (C := RX12) (T := TX12) (N := 12) hx hb hts hi_X12_putOnTape_X12 hown hK hP 0 rfl rfl 0 (by decide) (hts (.fieldLink RX12 10 "TimeMachine" "tape" "[B") (List.mem_of_getElem? (i := 3) (by decide +kernel))) (fun _ h9 => h9) rfl dX12_putOnTape_17 ?_
  refine lv_aload_n hx hb dX12_putOnTape_20 rfl (lv_at hl 1 rfl) ?_
  refine va_get (D := (dC, dI)) (ci := 13) (v := .int 6) (C := RX12) (T := TX12) (N := 12) hx hb hts hi_X12_putOnTape_X12 hown hK hP 0 rfl rfl 1 (by decide) (hts (.fieldLink RX12 43 "TimeMachine" "taped" "I") (List.mem_of_getElem? (i := 1) (by decide +kernel))) (fun _ h9 => h9) rfl dX12_putOnTape_21 ?_
  refine lv_iload_n hx hb dX12_putOnTape_24 rfl (lv_at hl 2 rfl) ?_
  refine lv_iload_n hx hb dX12_putOnTape_25 rfl (lv_at hl 0 rfl) ?_
  refine lv_ishr hx hb dX12_putOnTape_26 ?_
  refine lv_topi (fun z9 ez9 => ?_)
  refine lv_i2b hx hb dX12_putOnTape_27 rfl ?_
  refine lv_topi (fun z10 ez10 => ?_)
  refine va_bast (i := 6) (x := z10) hx hb hK hP hD hS 1 0 rfl rfl (vp_in_iff.mpr ⟨by decide, by decide⟩) dX12_putOnTape_28 (fun H locs hP hD hS => ?_)
  generalize hf11 : upd f7 (Int32.toNatClampNeg 6) (vp_nar .byte z10) = f11 at hP hD
  have hP : va_P (dC, dI) vwCl [(c0, .inr (13, [.ref c1, .int 6, .int 0, .ref c5, .ref c6, .null, .ref c7, .ref c8, .null, .null, .int 0, .ref c9])), (c1, .inl (c2, 32768, .inl f11))] H := hP
  have hD : va_D A [(c0, .inr (13, [.ref c1, .int 6, .int 0, .ref c5, .ref c6, .null, .ref c7, .ref c8, .null, .null, .int 0, .ref c9])), (c1, .inl (c2, 32768, .inl f11))] := hD
  refine lv_aload_n hx hb dX12_putOnTape_29 rfl (lv_at hl 1 rfl) ?_
  refine lv_dup hx hb dX12_putOnTape_30 rfl ?_
  refine va_get (D := (dC, dI)) (ci := 13) (v := .int 6) (C := RX12) (T := TX12) (N := 12) hx hb hts hi_X12_putOnTape_X12 hown hK hP 0 rfl rfl 1 (by decide) (hts (.fieldLink RX12 43 "TimeMachine" "taped" "I") (List.mem_of_getElem? (i := 1) (by decide +kernel))) (fun _ h9 => h9) rfl dX12_putOnTape_31 ?_
  refine lv_iconst (v := 1) hx hb dX12_putOnTape_34 (by decide) ?_
  refine lv_iadd hx hb dX12_putOnTape_35 ?_
  refine lv_topi (fun z12 ez12 => ?_)
  obtain rfl : z12 = 7 := ez12.trans (by decide)
  refine va_put (D := (dC, dI)) (ci := 13) (v := .int 7) (ty := .int) (C := RX12) (T := TX12) (N := 12) hx hb hts hi_X12_putOnTape_X12 tyX12 tyX12_ok nmX12 hown hK hP hD hS 0 rfl rfl 1 (by decide) (hts (.fieldLink RX12 43 "TimeMachine" "taped" "I") (List.mem_of_getElem? (i := 1) (by decide +kernel))) (fun _ h9 => h9) rfl (by decide +kernel) rfl rfl (Nat.le_of_ble_eq_true rfl) dX12_putOnTape_36 (fun H locs hP hD hS => ?_)
  have hP : va_P (dC, dI) vwCl [(c0, .inr (13, [.ref c1, .int 7, .int 0, .ref c5, .ref c6, .null, .ref c7, .ref c8, .null, .null, .int 0, .ref c9])), (c1, .inl (c2, 32768, .inl f11))] H := hP
  have hD : va_D A [(c0, .inr (13, [.ref c1, .int 7, .int 0, .ref c5, .ref c6, .null, .ref c7, .ref c8, .null, .null, .int 0, .ref c9])), (c1, .inl (c2, 32768, .inl f11))] := hD
  refine lv_iinc (v := 0) (lv' := [(2, .int 0), (0, .ref c0), (1, .int c4)]) hx hb dX12_putOnTape_39 hl (k := 0) rfl (by decide) (by decide) rfl (fun ls hl => ?_)
  refine lv_goto (tgt := 3) hx hb dX12_putOnTape_42 (by decide) ?_
  refine lv_iload_n hx hb dX12_putOnTape_3 rfl (lv_at hl 0 rfl) ?_
  refine lv_if_lt (tgt := 45) hx hb dX12_putOnTape_4 (by decide) (fun h9 => absurd h9 (by decide)) (fun _ => ?_)
  refine lv_aload_n hx hb dX12_putOnTape_7 rfl (lv_at hl 1 rfl) ?_
  refine va_get (D := (dC, dI)) (ci := 13) (v := .int 7) (C := RX12) (T := TX12) (N := 12) hx hb hts hi_X12_putOnTape_X12 hown hK hP 0 rfl rfl 1 (by decide) (hts (.fieldLink RX12 43 "TimeMachine" "taped" "I") (List.mem_of_getElem? (i := 1) (by decide +kernel))) (fun _ h9 => h9) rfl dX12_putOnTape_8 ?_
  refine lv_ldc hx hb hown (hts (.constant RX12 9 (32768)) (List.mem_of_getElem? (i := 2) (by decide +kernel))) dX12_putOnTape_11 ?_
  refine lv_icmp_ge (tgt := 39) hx hb dX12_putOnTape_13 (by decide) (fun h9 => absurd h9 (by decide)) (fun _ => ?_)
  refine lv_aload_n hx hb dX12_putOnTape_16 rfl (lv_at hl 1 rfl) ?_
  refine va_get (D := (dC, dI)) (ci := 13) (v := .ref c1) (C := RX12) (T := TX12) (N := 12) hx hb hts hi_X12_putOnTape_X12 hown hK hP 0 rfl rfl 0 (by decide) (hts (.fieldLink RX12 10 "TimeMachine" "tape" "[B") (List.mem_of_getElem? (i := 3) (by decide +kernel))) (fun _ h9 => h9) rfl dX12_putOnTape_17 ?_
  refine lv_aload_n hx hb dX12_putOnTape_20 rfl (lv_at hl 1 rfl) ?_
  refine va_get (D := (dC, dI)) (ci := 13) (v := .int 7) (C := RX12) (T := TX12) (N := 12) hx hb hts hi_X12_putOnTape_X12 hown hK hP 0 rfl rfl 1 (by decide) (hts (.fieldLink RX12 43 "TimeMachine" "taped" "I") (List.mem_of_getElem? (i := 1) (by decide +kernel))) (fun _ h9 => h9) rfl dX12_putOnTape_21 ?_
  refine lv_iload_n hx hb dX12_putOnTape_24 rfl (lv_at hl 2 rfl) ?_
  refine lv_iload_n hx hb dX12_putOnTape_25 rfl (lv_at hl 0 rfl) ?_
  refine lv_ishr hx hb dX12_putOnTape_26 ?_
  refine lv_topi (fun z13 ez13 => ?_)
  refine lv_i2b hx hb dX12_putOnTape_27 rfl ?_
  refine lv_topi (fun z14 ez14 => ?_)
  refine va_bast (i := 7) (x := z14) hx hb hK hP hD hS 1 0 rfl rfl (vp_in_iff.mpr ⟨by decide, by decide⟩) dX12_putOnTape_28 (fun H locs hP hD hS => ?_)
  generalize hf15 : upd f11 (Int32.toNatClampNeg 7) (vp_nar .byte z14) = f15 at hP hD
  have hP : va_P (dC, dI) vwCl [(c0, .inr (13, [.ref c1, .int 7, .int 0, .ref c5, .ref c6, .null, .ref c7, .ref c8, .null, .null, .int 0, .ref c9])), (c1, .inl (c2, 32768, .inl f15))] H := hP
  have hD : va_D A [(c0, .inr (13, [.ref c1, .int 7, .int 0, .ref c5, .ref c6, .null, .ref c7, .ref c8, .null, .null, .int 0, .ref c9])), (c1, .inl (c2, 32768, .inl f15))] := hD
  refine lv_aload_n hx hb dX12_putOnTape_29 rfl (lv_at hl 1 rfl) ?_
  refine lv_dup hx hb dX12_putOnTape_30 rfl ?_
  refine va_get (D := (dC, dI)) (ci := 13) (v := .int 7) (C := RX12) (T := TX12) (N := 12) hx hb hts hi_X12_putOnTape_X12 hown hK hP 0 rfl rfl 1 (by decide) (hts (.fieldLink RX12 43 "TimeMachine" "taped" "I") (List.mem_of_getElem? (i := 1) (by decide +kernel))) (fun _ h9 => h9) rfl dX12_putOnTape_31 ?_
  refine lv_iconst (v := 1) hx hb dX12_putOnTape_34 (by decide) ?_
  refine lv_iadd hx hb dX12_putOnTape_35 ?_
  refine lv_topi (fun z16 ez16 => ?_)
  obtain rfl : z16 = 8 := ez16.trans (by decide)
  refine va_put (D := (dC, dI)) (ci := 13) (v := .int 8) (ty := .int) (C := RX12) (T := TX12) (N := 12) hx hb hts hi_X12_putOnTape_X12 tyX12 tyX12_ok nmX12 hown hK hP hD hS 0 rfl rfl 1 (by decide) (hts (.fieldLink RX12 43 "TimeMachine" "taped" "I") (List.mem_of_getElem? (i := 1) (by decide +kernel))) (fun _ h9 => h9) rfl (by decide +kernel) rfl rfl (Nat.le_of_ble_eq_true rfl) dX12_putOnTape_36 (fun H locs hP hD hS => ?_)
  have hP : va_P (dC, dI) vwCl [(c0, .inr (13, [.ref c1, .int 8, .int 0, .ref c5, .ref c6, .null, .ref c7, .ref c8, .null, .null, .int 0, .ref c9])), (c1, .inl (c2, 32768, .inl f15))] H := hP
  have hD : va_D A [(c0, .inr (13, [.ref c1, .int 8, .int 0, .ref c5, .ref c6, .null, .ref c7, .ref c8, .null, .null, .int 0, .ref c9])), (c1, .inl (c2, 32768, .inl f15))] := hD
  refine lv_iinc (v := (-8)) (lv' := [(2, .int (-8)), (0, .ref c0), (1, .int c4)]) hx hb dX12_putOnTape_39 hl (k := 0) rfl (by decide) (by decide) rfl (fun ls hl => ?_)
  refine lv_goto (tgt := 3) hx hb dX12_putOnTape_42 (by decide) ?_
  refine lv_iload_n hx hb dX12_putOnTape_3 rfl (lv_at hl 0 rfl) ?_
  refine lv_if_lt (tgt := 45) hx hb dX12_putOnTape_4 (by decide) (fun _ => ?_) (fun h9 => absurd (by decide) h9)
  have hP9 := hP.sub (ws' := [(c0, .inr (13, [.ref c1, .int 8, .int 0, .ref c5, .ref c6, .null, .ref c7, .ref c8, .null, .null, .int 0, .ref c9])), (c1, .inl (c2, 32768, .inl f15))]) [0, 1] rfl
  have hD9 := hD.sub (ws' := [(c0, .inr (13, [.ref c1, .int 8, .int 0, .ref c5, .ref c6, .null, .ref c7, .ref c8, .null, .null, .int 0, .ref c9])), (c1, .inl (c2, 32768, .inl f15))]) [0, 1] (by decide) rfl
  have hK9 := hK.sub (tys' := [(c2, .byte)]) [0] rfl
  refine W.widen (k := 0) (n := 0) (by decide +kernel) (by decide +kernel) ?_
  exact W.vret hx hb hr (fun t ht hW => ⟨⟨(), rfl, trivial, f15, by rw [ht]; exact hP9, va_K.moved hW.alike hK9, hD9⟩, hS.F ht⟩) hS.2.2 dX12_putOnTape_45
set_option maxHeartbeats 40000000 in
set_option maxRecDepth 100000 in
theorem k_X12_putOnTape_v2 (l : Launch) (dC : Nat → ClassId) (dI : Nat → Nat → Nat) (c0 : Nat) (c1 : Nat) (c2 : ClassId) (c3 : Nat → Int32) (c4 : Int32) (c5 : Nat) (c6 : Nat) (c7 : Nat) (c8 : Nat) (c9 : Nat) (sz : Nat) : Met l yX12_putOnTape wsX12_putOnTape ({ frames := 0, cells := 0, slots := 0, locals := 0 }) (va_Pc [.ref c0, .int c4] (fun U => U.heap.size = sz ∧ va_P (dC, dI) vwCl [(c0, .inr (13, [.ref c1, .int 8, .int 0, .ref c5, .ref c6, .null, .ref c7, .ref c8, .null, .null, .int 0, .ref c9])), (c1, .inl (c2, 32768, .inl c3))] U.heap ∧ va_K (dC, dI) vwCl [(c2, .byte)] U ∧ va_D (fun _ => True) [(c0, .inr (13, [.ref c1, .int 8, .int 0, .ref c5, .ref c6, .null, .ref c7, .ref c8, .null, .null, .int 0, .ref c9])), (c1, .inl (c2, 32768, .inl c3))] ∧ nv_E (va_A [(c0, .inr (13, [.ref c1, .int 8, .int 0, .ref c5, .ref c6, .null, .ref c7, .ref c8, .null, .null, .int 0, .ref c9])), (c1, .inl (c2, 32768, .inl c3))] sz) U)) (va_Qv (fun _ => True) (fun (_ : Unit) t => ∃ (f15 : Nat → Int32), va_P (dC, dI) vwCl [(c0, .inr (13, [.ref c1, .int 12, .int 0, .ref c5, .ref c6, .null, .ref c7, .ref c8, .null, .null, .int 0, .ref c9])), (c1, .inl (c2, 32768, .inl f15))] t.heap ∧ va_K (dC, dI) vwCl [(c2, .byte)] t ∧ va_D (va_A [(c0, .inr (13, [.ref c1, .int 8, .int 0, .ref c5, .ref c6, .null, .ref c7, .ref c8, .null, .null, .int 0, .ref c9])), (c1, .inl (c2, 32768, .inl c3))] sz) [(c0, .inr (13, [.ref c1, .int 12, .int 0, .ref c5, .ref c6, .null, .ref c7, .ref c8, .null, .null, .int 0, .ref c9])), (c1, .inl (c2, 32768, .inl f15))]) (va_A [(c0, .inr (13, [.ref c1, .int 8, .int 0, .ref c5, .ref c6, .null, .ref c7, .ref c8, .null, .null, .int 0, .ref c9])), (c1, .inl (c2, 32768, .inl c3))] sz)) 0 0 (va_A [(c0, .inr (13, [.ref c1, .int 8, .int 0, .ref c5, .ref c6, .null, .ref c7, .ref c8, .null, .null, .int 0, .ref c9])), (c1, .inl (c2, 32768, .inl c3))] sz) := by
  refine Met.ofW (cc := cX12_putOnTape) (maxL := 3) (ret := none) (by decide) rfl ?_
  intro p e s m args below meth c s₁ B hml hv
  obtain ⟨rfl, hsz, hP, hK, hD0, hN⟩ := hv
  have hx := B.exec
  have hb := B.bytes
  have hr := B.returns
  have hts := atoms_spec (ws := wsX12_putOnTape) B.pre
  have hown : s.vm.findClass RX12 = some m.cls := findClass_of_methodNamed B.named
  have hlocks := B.notSynchronized
  subst hsz
  have hD := hD0.self (sz := s.heap.size)
  generalize hAe : va_A [(c0, .inr (13, [.ref c1, .int 8, .int 0, .ref c5, .ref c6, .null, .ref c7, .ref c8, .null, .null, .int 0, .ref c9])), (c1, .inl (c2, 32768, .inl c3))] s.heap.size = A at hD hN ⊢
  have hA : ∀ q : Nat, s.heap.size ≤ q → A q := fun q h => by rw [← hAe]; exact Or.inr h
  have hS : va_S A s.heap s.heap [] := va_S.rf
  have hl := lv_entry ([.ref c0, .int c4]) (n := 3) (Nat.le_of_ble_eq_true rfl)
  rw [lg_entry_eq]
  generalize (lg_sl ([.ref c0, .int c4]) ++ List.replicate (3 - (lg_sl ([.ref c0, .int c4])).length) Slot.unset).toArray = ls at hl ⊢
  have hl : lv_has ls 3 [(0, .ref c0), (1, .int c4)] := hl
  refine lv_bipush (v := 24) hx hb dX12_putOnTape_0 (by decide) ?_
  refine lv_istore_n (lv' := [(2, .int 24), (0, .ref c0), (1, .int c4)]) hx hb dX12_putOnTape_2 rfl hl (by decide) rfl (fun ls hl => ?_)
  refine lv_iload_n hx hb dX12_putOnTape_3 rfl (lv_at hl 0 rfl) ?_
  refine lv_if_lt (tgt := 45) hx hb dX12_putOnTape_4 (by decide) (fun h9 => absurd h9 (by decide)) (fun _ => ?_)
  refine lv_aload_n hx hb dX12_putOnTape_7 rfl (lv_at hl 1 rfl) ?_
  refine va_get (D := (dC, dI)) (ci := 13) (v := .int 8) (C := RX12) (T := TX12) (N := 12) hx hb hts hi_X12_putOnTape_X12 hown hK hP 0 rfl rfl 1 (by decide) (hts (.fieldLink RX12 43 "TimeMachine" "taped" "I") (List.mem_of_getElem? (i := 1) (by decide +kernel))) (fun _ h9 => h9) rfl dX12_putOnTape_8 ?_
  refine lv_ldc hx hb hown (hts (.constant RX12 9 (32768)) (List.mem_of_getElem? (i := 2) (by decide +kernel))) dX12_putOnTape_11 ?_
  refine lv_icmp_ge (tgt := 39) hx hb dX12_putOnTape_13 (by decide) (fun h9 => absurd h9 (by decide)) (fun _ => ?_)
  refine lv_aload_n hx hb dX12_putOnTape_16 rfl (lv_at hl 1 rfl) ?_
  refine va_get (D := (dC, dI)) (ci := 13) (v := .ref c1) (C := RX12) (T := TX12) (N := 12) hx hb hts hi_X12_putOnTape_X12 hown hK hP 0 rfl rfl 0 (by decide) (hts (.fieldLink RX12 10 "TimeMachine" "tape" "[B") (List.mem_of_getElem? (i := 3) (by decide +kernel))) (fun _ h9 => h9) rfl dX12_putOnTape_17 ?_
  refine lv_aload_n hx hb dX12_putOnTape_20 rfl (lv_at hl 1 rfl) ?_
  refine va_get (D := (dC, dI)) (ci := 13) (v := .int 8) (C := RX12) (T := TX12) (N := 12) hx hb hts hi_X12_putOnTape_X12 hown hK hP 0 rfl rfl 1 (by decide) (hts (.fieldLink RX12 43 "TimeMachine" "taped" "I") (List.mem_of_getElem? (i := 1) (by decide +kernel))) (fun _ h9 => h9) rfl dX12_putOnTape_21 ?_
  refine lv_iload_n hx hb dX12_putOnTape_24 rfl (lv_at hl 2 rfl) ?_
  refine lv_iload_n hx hb dX12_putOnTape_25 rfl (lv_at hl 0 rfl) ?_
  refine lv_ishr hx hb dX12_putOnTape_26 ?_
  refine lv_topi (fun z1 ez1 => ?_)
  refine lv_i2b hx hb dX12_putOnTape_27 rfl ?_
  refine lv_topi (fun z2 ez2 => ?_)
  refine va_bast (i := 8) (x := z2) hx hb hK hP hD hS 1 0 rfl rfl (vp_in_iff.mpr ⟨by decide, by decide⟩) dX12_putOnTape_28 (fun H locs hP hD hS => ?_)
  generalize hf3 : upd c3 (Int32.toNatClampNeg 8) (vp_nar .byte z2) = f3 at hP hD
  have hP : va_P (dC, dI) vwCl [(c0, .inr (13, [.ref c1, .int 8, .int 0, .ref c5, .ref c6, .null, .ref c7, .ref c8, .null, .null, .int 0, .ref c9])), (c1, .inl (c2, 32768, .inl f3))] H := hP
  have hD : va_D A [(c0, .inr (13, [.ref c1, .int 8, .int 0, .ref c5, .ref c6, .null, .ref c7, .ref c8, .null, .null, .int 0, .ref c9])), (c1, .inl (c2, 32768, .inl f3))] := hD
  refine lv_aload_n hx hb dX12_putOnTape_29 rfl (lv_at hl 1 rfl) ?_
  refine lv_dup hx hb dX12_putOnTape_30 rfl ?_
  refine va_get (D := (dC, dI)) (ci := 13) (v := .int 8) (C := RX12) (T := TX12) (N := 12) hx hb hts hi_X12_putOnTape_X12 hown hK hP 0 rfl rfl 1 (by decide) (hts (.fieldLink RX12 43 "TimeMachine" "taped" "I") (List.mem_of_getElem? (i := 1) (by decide +kernel))) (fun _ h9 => h9) rfl dX12_putOnTape_31 ?_
  refine lv_iconst (v := 1) hx hb dX12_putOnTape_34 (by decide) ?_
  refine lv_iadd hx hb dX12_putOnTape_35 ?_
  refine lv_topi (fun z4 ez4 => ?_)
  obtain rfl : z4 = 9 := ez4.trans (by decide)
  refine va_put (D := (dC, dI)) (ci := 13) (v := .int 9) (ty := .int) (C := RX12) (T := TX12) (N := 12) hx hb hts hi_X12_putOnTape_X12 tyX12 tyX12_ok nmX12 hown hK hP hD hS 0 rfl rfl 1 (by decide) (hts (.fieldLink RX12 43 "TimeMachine" "taped" "I") (List.mem_of_getElem? (i := 1) (by decide +kernel))) (fun _ h9 => h9) rfl (by decide +kernel) rfl rfl (Nat.le_of_ble_eq_true rfl) dX12_putOnTape_36 (fun H locs hP hD hS => ?_)
  have hP : va_P (dC, dI) vwCl [(c0, .inr (13, [.ref c1, .int 9, .int 0, .ref c5, .ref c6, .null, .ref c7, .ref c8, .null, .null, .int 0, .ref c9])), (c1, .inl (c2, 32768, .inl f3))] H := hP
  have hD : va_D A [(c0, .inr (13, [.ref c1, .int 9, .int 0, .ref c5, .ref c6, .null, .ref c7, .ref c8, .null, .null, .int 0, .ref c9])), (c1, .inl (c2, 32768, .inl f3))] := hD
  refine lv_iinc (v := 16) (lv' := [(2, .int 16), (0, .ref c0), (1, .int c4)]) hx hb dX12_putOnTape_39 hl (k := 0) rfl (by decide) (by decide) rfl (fun ls hl => ?_)
  refine lv_goto (tgt := 3) hx hb dX12_putOnTape_42 (by decide) ?_
  refine lv_iload_n hx hb dX12_putOnTape_3 rfl (lv_at hl 0 rfl) ?_
  refine lv_if_lt (tgt := 45) hx hb dX12_putOnTape_4 (by decide) (fun h9 => absurd h9 (by decide)) (fun _ => ?_)
  refine lv_aload_n hx hb dX12_putOnTape_7 rfl (lv_at hl 1 rfl) ?_
  refine va_get (D := (dC, dI)) (ci := 13) (v := .int 9) (C := RX12) (T := TX12) (N := 12) hx hb hts hi_X12_putOnTape_X12 hown hK hP 0 rfl rfl 1 (by decide) (hts (.fieldLink RX12 43 "TimeMachine" "taped" "I") (List.mem_of_getElem? (i := 1) (by decide +kernel))) (fun _ h9 => h9) rfl dX12_putOnTape_8 ?_
  refine lv_ldc hx hb hown (hts (.constant RX12 9 (32768)) (List.mem_of_getElem? (i := 2) (by decide +kernel))) dX12_putOnTape_11 ?_
  refine lv_icmp_ge (tgt := 39) hx hb dX12_putOnTape_13 (by decide) (fun h9 => absurd h9 (by decide)) (fun _ => ?_)
  refine lv_aload_n hx hb dX12_putOnTape_16 rfl (lv_at hl 1 rfl) ?_
  refine va_get (D := (dC, dI)) (ci := 13) (v := .ref c1) (C := RX12) (T := TX12) (N := 12) hx hb hts hi_X12_putOnTape_X12 hown hK hP 0 rfl rfl 0 (by decide) (hts (.fieldLink RX12 10 "TimeMachine" "tape" "[B") (List.mem_of_getElem? (i := 3) (by decide +kernel))) (fun _ h9 => h9) rfl dX12_putOnTape_17 ?_
  refine lv_aload_n hx hb dX12_putOnTape_20 rfl (lv_at hl 1 rfl) ?_
  refine va_get (D := (dC, dI)) (ci := 13) (v := .int 9) (C := RX12) (T := TX12) (N := 12) hx hb hts hi_X12_putOnTape_X12 hown hK hP 0 rfl rfl 1 (by decide) (hts (.fieldLink RX12 43 "TimeMachine" "taped" "I") (List.mem_of_getElem? (i := 1) (by decide +kernel))) (fun _ h9 => h9) rfl dX12_putOnTape_21 ?_
  refine lv_iload_n hx hb dX12_putOnTape_24 rfl (lv_at hl 2 rfl) ?_
  refine lv_iload_n hx hb dX12_putOnTape_25 rfl (lv_at hl 0 rfl) ?_
  refine lv_ishr hx hb dX12_putOnTape_26 ?_
  refine lv_topi (fun z5 ez5 => ?_)
  refine lv_i2b hx hb dX12_putOnTape_27 rfl ?_
  refine lv_topi (fun z6 ez6 => ?_)
  refine va_bast (i := 9) (x := z6) hx hb hK hP hD hS 1 0 rfl rfl (vp_in_iff.mpr ⟨by decide, by decide⟩) dX12_putOnTape_28 (fun H locs hP hD hS => ?_)
  generalize hf7 : upd f3 (Int32.toNatClampNeg 9) (vp_nar .byte z6) = f7 at hP hD
  have hP : va_P (dC, dI) vwCl [(c0, .inr (13, [.ref c1, .int 9, .int 0, .ref c5, .ref c6, .null, .ref c7, .ref c8, .null, .null, .int 0, .ref c9])), (c1, .inl (c2, 32768, .inl f7))] H := hP
  have hD : va_D A [(c0, .inr (13, [.ref c1, .int 9, .int 0, .ref c5, .ref c6, .null, .ref c7, .ref c8, .null, .null, .int 0, .ref c9])), (c1, .inl (c2, 32768, .inl f7))] := hD
  refine lv_aload_n hx hb dX12_putOnTape_29 rfl (lv_at hl 1 rfl) ?_
  refine lv_dup hx hb dX12_putOnTape_30 rfl ?_
  refine va_get (D := (dC, dI)) (ci := 13) (v := .int 9) (C := RX12) (T := TX12) (N := 12) hx hb hts hi_X12_putOnTape_X12 hown hK hP 0 rfl rfl 1 (by decide) (hts (.fieldLink RX12 43 "TimeMachine" "taped" "I") (List.mem_of_getElem? (i := 1) (by decide +kernel))) (fun _ h9 => h9) rfl dX12_putOnTape_31 ?_
  refine lv_iconst (v := 1) hx hb dX12_putOnTape_34 (by decide) ?_
  refine lv_iadd hx hb dX12_putOnTape_35 ?_
  refine lv_topi (fun z8 ez8 => ?_)
  obtain rfl : z8 = 10 := ez8.trans (by decide)
  refine va_put (D := (dC, dI)) (ci := 13) (v := .int 10) (ty := .int) (C := RX12) (T := TX12) (N := 12) hx hb hts hi_X12_putOnTape_X12 tyX12 tyX12_ok nmX12 hown hK hP hD hS 0 rfl rfl 1 (by decide) (hts (.fieldLink RX12 43 "TimeMachine" "taped" "I") (List.mem_of_getElem? (i := 1) (by decide +kernel))) (fun _ h9 => h9) rfl (by decide +kernel) rfl rfl (Nat.le_of_ble_eq_true rfl) dX12_putOnTape_36 (fun H locs hP hD hS => ?_)
  have hP : va_P (dC, dI) vwCl [(c0, .inr (13, [.ref c1, .int 10, .int 0, .ref c5, .ref c6, .null, .ref c7, .ref c8, .null, .null, .int 0, .ref c9])), (c1, .inl (c2, 32768, .inl f7))] H := hP
  have hD : va_D A [(c0, .inr (13, [.ref c1, .int 10, .int 0, .ref c5, .ref c6, .null, .ref c7, .ref c8, .null, .null, .int 0, .ref c9])), (c1, .inl (c2, 32768, .inl f7))] := hD
  refine lv_iinc (v := 8) (lv' := [(2, .int 8), (0, .ref c0), (1, .int c4)]) hx hb dX12_putOnTape_39 hl (k := 0) rfl (by decide) (by decide) rfl (fun ls hl => ?_)
  refine lv_goto (tgt := 3) hx hb dX12_putOnTape_42 (by decide) ?_
  refine lv_iload_n hx hb dX12_putOnTape_3 rfl (lv_at hl 0 rfl) ?_
  refine lv_if_lt (tgt := 45) hx hb dX12_putOnTape_4 (by decide) (fun h9 => absurd h9 (by decide)) (fun _ => ?_)
  refine lv_aload_n hx hb dX12_putOnTape_7 rfl (lv_at hl 1 rfl) ?_
  refine va_get (D := (dC, dI)) (ci := 13) (v := .int 10) (C := RX12) (T := TX12) (N := 12) hx hb hts hi_X12_putOnTape_X12 hown hK hP 0 rfl rfl 1 (by decide) (hts (.fieldLink RX12 43 "TimeMachine" "taped" "I") (List.mem_of_getElem? (i := 1) (by decide +kernel))) (fun _ h9 => h9) rfl dX12_putOnTape_8 ?_
  refine lv_ldc hx hb hown (hts (.constant RX12 9 (32768)) (List.mem_of_getElem? (i := 2) (by decide +kernel))) dX12_putOnTape_11 ?_
  refine lv_icmp_ge (tgt := 39) hx hb dX12_putOnTape_13 (by decide) (fun h9 => absurd h9 (by decide)) (fun _ => ?_)
  refine lv_aload_n hx hb dX12_putOnTape_16 rfl (lv_at hl 1 rfl) ?_
  refine va_get (D := (dC, dI)) (ci := 13) (v := .ref c1) (C := RX12) (T := TX12) (N := 12) hx hb hts hi_X12_putOnTape_X12 hown hK hP 0 rfl rfl 0 (by decide) (hts (.fieldLink RX12 10 "TimeMachine" "tape" "[B") (List.mem_of_getElem? (i := 3) (by decide +kernel))) (fun _ h9 => h9) rfl dX12_putOnTape_17 ?_
  refine lv_aload_n hx hb dX12_putOnTape_20 rfl (lv_at hl 1 rfl) ?_
  refine va_get (D := (dC, dI)) (ci := 13) (v := .int 10) (C := RX12) (T := TX12) (N := 12) hx hb hts hi_X12_putOnTape_X12 hown hK hP 0 rfl rfl 1 (by decide) (hts (.fieldLink RX12 43 "TimeMachine" "taped" "I") (List.mem_of_getElem? (i := 1) (by decide +kernel))) (fun _ h9 => h9) rfl dX12_putOnTape_21 ?_
  refine lv_iload_n hx hb dX12_putOnTape_24 rfl (lv_at hl 2 rfl) ?_
  refine lv_iload_n hx hb dX12_putOnTape_25 rfl (lv_at hl 0 rfl) ?_
  refine lv_ishr hx hb dX12_putOnTape_26 ?_
  refine lv_topi (fun z9 ez9 => ?_)
  refine lv_i2b hx hb dX12_putOnTape_27 rfl ?_
  refine lv_topi (fun z10 ez10 => ?_)
  refine va_bast (i := 10) (x := z10) hx hb hK hP hD hS 1 0 rfl rfl (vp_in_iff.mpr ⟨by decide, by decide⟩) dX12_putOnTape_28 (fun H locs hP hD hS => ?_)
  generalize hf11 : upd f7 (Int32.toNatClampNeg 10) (vp_nar .byte z10) = f11 at hP hD
  have hP : va_P (dC, dI) vwCl [(c0, .inr (13, [.ref c1, .int 10, .int 0, .ref c5, .ref c6, .null, .ref c7, .ref c8, .null, .null, .int 0, .ref c9])), (c1, .inl (c2, 32768, .inl f11))] H := hP
  have hD : va_D A [(c0, .inr (13, [.ref c1, .int 10, .int 0, .ref c5, .ref c6, .null, .ref c7, .ref c8, .null, .null, .int 0, .ref c9])), (c1, .inl (c2, 32768, .inl f11))] := hD
  refine lv_aload_n hx hb dX12_putOnTape_29 rfl (lv_at hl 1 rfl) ?_
  refine lv_dup hx hb dX12_putOnTape_30 rfl ?_
  refine va_get (D := (dC, dI)) (ci := 13) (v := .int 10) (C := RX12) (T := TX12) (N := 12) hx hb hts hi_X12_putOnTape_X12 hown hK hP 0 rfl rfl 1 (by decide) (hts (.fieldLink RX12 43 "TimeMachine" "taped" "I") (List.mem_of_getElem? (i := 1) (by decide +kernel))) (fun _ h9 => h9) rfl dX12_putOnTape_31 ?_
  refine lv_iconst (v := 1) hx hb dX12_putOnTape_34 (by decide) ?_
  refine lv_iadd hx hb dX12_putOnTape_35 ?_
  refine lv_topi (fun z12 ez12 => ?_)
  obtain rfl : z12 = 11 := ez12.trans (by decide)
  refine va_put (D := (dC, dI)) (ci := 13) (v := .int 11) (ty := .int) (C := RX12) (T := TX12) (N := 12) hx hb hts hi_X12_putOnTape_X12 tyX12 tyX12_ok nmX12 hown hK hP hD hS 0 rfl rfl 1 (by decide) (hts (.fieldLink RX12 43 "TimeMachine" "taped" "I") (List.mem_of_getElem? (i := 1) (by decide +kernel))) (fun _ h9 => h9) rfl (by decide +kernel) rfl rfl (Nat.le_of_ble_eq_true rfl) dX12_putOnTape_36 (fun H locs hP hD hS => ?_)
  have hP : va_P (dC, dI) vwCl [(c0, .inr (13, [.ref c1, .int 11, .int 0, .ref c5, .ref c6, .null, .ref c7, .ref c8, .null, .null, .int 0, .ref c9])), (c1, .inl (c2, 32768, .inl f11))] H := hP
  have hD : va_D A [(c0, .inr (13, [.ref c1, .int 11, .int 0, .ref c5, .ref c6, .null, .ref c7, .ref c8, .null, .null, .int 0, .ref c9])), (c1, .inl (c2, 32768, .inl f11))] := hD
  refine lv_iinc (v := 0) (lv' := [(2, .int 0), (0, .ref c0), (1, .int c4)]) hx hb dX12_putOnTape_39 hl (k := 0) rfl (by decide) (by decide) rfl (fun ls hl => ?_)
  refine lv_goto (tgt := 3) hx hb dX12_putOnTape_42 (by decide) ?_
  refine lv_iload_n hx hb dX12_putOnTape_3 rfl (lv_at hl 0 rfl) ?_
  refine lv_if_lt (tgt := 45) hx hb dX12_putOnTape_4 (by decide) (fun h9 => absurd h9 (by decide)) (fun _ => ?_)
  refine lv_aload_n hx hb dX12_putOnTape_7 rfl (lv_at hl 1 rfl) ?_
  refine va_get (D := (dC, dI)) (ci := 13) (v := .int 11) (C := RX12) (T := TX12) (N := 12) hx hb hts hi_X12_putOnTape_X12 hown hK hP 0 rfl rfl 1 (by decide) (hts (.fieldLink RX12 43 "TimeMachine" "taped" "I") (List.mem_of_getElem? (i := 1) (by decide +kernel))) (fun _ h9 => h9) rfl dX12_putOnTape_8 ?_
  refine lv_ldc hx hb hown (hts (.constant RX12 9 (32768)) (List.mem_of_getElem? (i := 2) (by decide +kernel))) dX12_putOnTape_11 ?_
  refine lv_icmp_ge (tgt := 39) hx hb dX12_putOnTape_13 (by decide) (fun h9 => absurd h9 (by decide)) (fun _ => ?_)
  refine lv_aload_n hx hb dX12_putOnTape_16 rfl (lv_at hl 1 rfl) ?_
  refine va_get (D := (dC, dI)) (ci := 13) (v := .ref c1) (C := RX12) (T := TX12) (N := 12) hx hb hts hi_X12_putOnTape_X12 hown hK hP 0 rfl rfl 0 (by decide) (hts (.fieldLink RX12 10 "TimeMachine" "tape" "[B") (List.mem_of_getElem? (i := 3) (by decide +kernel))) (fun _ h9 => h9) rfl dX12_putOnTape_17 ?_
  refine lv_aload_n hx hb dX12_putOnTape_20 rfl (lv_at hl 1 rfl) ?_
  refine va_get (D := (dC, dI)) (ci := 13) (v := .int 11) (C := RX12) (T := TX12) (N := 12) hx hb hts hi_X12_putOnTape_X12 hown hK hP 0 rfl rfl 1 (by decide) (hts (.fieldLink RX12 43 "TimeMachine" "taped" "I") (List.mem_of_getElem? (i := 1) (by decide +kernel))) (fun _ h9 => h9) rfl dX12_putOnTape_21 ?_
  refine lv_iload_n hx hb dX12_putOnTape_24 rfl (lv_at hl 2 rfl) ?_
  refine lv_iload_n hx hb dX12_putOnTape_25 rfl (lv_at hl 0 rfl) ?_
  refine lv_ishr hx hb dX12_putOnTape_26 ?_
  refine lv_topi (fun z13 ez13 => ?_)
  refine lv_i2b hx hb dX12_putOnTape_27 rfl ?_
  refine lv_topi (fun z14 ez14 => ?_)
  refine va_bast (i := 11) (x := z14) hx hb hK hP hD hS 1 0 rfl rfl (vp_in_iff.mpr ⟨by decide, by decide⟩) dX12_putOnTape_28 (fun H locs hP hD hS => ?_)
  generalize hf15 : upd f11 (Int32.toNatClampNeg 11) (vp_nar .byte z14) = f15 at hP hD
  have hP : va_P (dC, dI) vwCl [(c0, .inr (13, [.ref c1, .int 11, .int 0, .ref c5, .ref c6, .null, .ref c7, .ref c8, .null, .null, .int 0, .ref c9])), (c1, .inl (c2, 32768, .inl f15))] H := hP
  have hD : va_D A [(c0, .inr (13, [.ref c1, .int 11, .int 0, .ref c5, .ref c6, .null, .ref c7, .ref c8, .null, .null, .int 0, .ref c9])), (c1, .inl (c2, 32768, .inl f15))] := hD
  refine lv_aload_n hx hb dX12_putOnTape_29 rfl (lv_at hl 1 rfl) ?_
  refine lv_dup hx hb dX12_putOnTape_30 rfl ?_
  refine va_get (D := (dC, dI)) (ci := 13) (v := .int 11) (C := RX12) (T := TX12) (N := 12) hx hb hts hi_X12_putOnTape_X12 hown hK hP 0 rfl rfl 1 (by decide) (hts (.fieldLink RX12 43 "TimeMachine" "taped" "I") (List.mem_of_getElem? (i := 1) (by decide +kernel))) (fun _ h9 => h9) rfl dX12_putOnTape_31 ?_
  refine lv_iconst (v := 1) hx hb dX12_putOnTape_34 (by decide) ?_
  refine lv_iadd hx hb dX12_putOnTape_35 ?_
  refine lv_topi (fun z16 ez16 => ?_)
  obtain rfl : z16 = 12 := ez16.trans (by decide)
  refine va_put (D := (dC, dI)) (ci := 13) (v := .int 12) (ty := .int) (C := RX12) (T := TX12) (N := 12) hx hb hts hi_X12_putOnTape_X12 tyX12 tyX12_ok nmX12 hown hK hP hD hS 0 rfl rfl 1 (by decide) (hts (.fieldLink RX12 43 "TimeMachine" "taped" "I") (List.mem_of_getElem? (i := 1) (by decide +kernel))) (fun _ h9 => h9) rfl (by decide +kernel) rfl rfl (Nat.le_of_ble_eq_true rfl) dX12_putOnTape_36 (fun H locs hP hD hS => ?_)
  have hP : va_P (dC, dI) vwCl [(c0, .inr (13, [.ref c1, .int 12, .int 0, .ref c5, .ref c6, .null, .ref c7, .ref c8, .null, .null, .int 0, .ref c9])), (c1, .inl (c2, 32768, .inl f15))] H := hP
  have hD : va_D A [(c0, .inr (13, [.ref c1, .int 12, .int 0, .ref c5, .ref c6, .null, .ref c7, .ref c8, .null, .null, .int 0, .ref c9])), (c1, .inl (c2, 32768, .inl f15))] := hD
  refine lv_iinc (v := (-8)) (lv' := [(2, .int (-8)), (0, .ref c0), (1, .int c4)]) hx hb dX12_putOnTape_39 hl (k := 0) rfl (by decide) (by decide) rfl (fun ls hl => ?_)
  refine lv_goto (tgt := 3) hx hb dX12_putOnTape_42 (by decide) ?_
  refine lv_iload_n hx hb dX12_putOnTape_3 rfl (lv_at hl 0 rfl) ?_
  refine lv_if_lt (tgt := 45) hx hb dX12_putOnTape_4 (by decide) (fun _ => ?_) (fun h9 => absurd (by decide) h9)
  have hP9 := hP.sub (ws' := [(c0, .inr (13, [.ref c1, .int 12, .int 0, .ref c5, .ref c6, .null, .ref c7, .ref c8, .null, .null, .int 0, .ref c9])), (c1, .inl (c2, 32768, .inl f15))]) [0, 1] rfl
  have hD9 := hD.sub (ws' := [(c0, .inr (13, [.ref c1, .int 12, .int 0, .ref c5, .ref c6, .null, .ref c7, .ref c8, .null, .null, .int 0, .ref c9])), (c1, .inl (c2, 32768, .inl f15))]) [0, 1] (by decide) rfl
  have hK9 := hK.sub (tys' := [(c2, .byte)]) [0] rfl
  refine W.widen (k := 0) (n := 0) (by decide +kernel) (by decide +kernel) ?_
  exact W.vret hx hb hr (fun t ht hW => ⟨⟨(), rfl, trivial, f15, by rw [ht]; exact hP9, va_K.moved hW.alike hK9, hD9⟩, hS.F ht⟩) hS.2.2 dX12_putOnTape_45
set_option maxHeartbeats 40000000 in
set_option maxRecDepth 100000 in
theorem k_X12_putOnTape_v3 (l : Launch) (dC : Nat → ClassId) (dI : Nat → Nat → Nat) (c0 : Nat) (c1 : Nat) (c2 : ClassId) (c3 : Nat → Int32) (c4 : Int32) (c5 : Nat) (c6 : Nat) (c7 : Nat) (c8 : Nat) (c9 : Nat) (sz : Nat) : Met l yX12_putOnTape wsX12_putOnTape ({ frames := 0, cells := 0, slots := 0, locals := 0 }) (va_Pc [.ref c0, .int c4] (fun U => U.heap.size = sz ∧ va_P (dC, dI) vwCl [(c0, .inr (13, [.ref c1, .int 12, .int 0, .ref c5, .ref c6, .null, .ref c7, .ref c8, .null, .null, .int 0, .ref c9])), (c1, .inl (c2, 32768, .inl c3))] U.heap ∧ va_K (dC, dI) vwCl [(c2, .byte)] U ∧ va_D (fun _ => True) [(c0, .inr (13, [.ref c1, .int 12, .int 0, .ref c5, .ref c6, .null, .ref c7, .ref c8, .null, .null, .int 0, .ref c9])), (c1, .inl (c2, 32768, .inl c3))] ∧ nv_E (va_A [(c0, .inr (13, [.ref c1, .int 12, .int 0, .ref c5, .ref c6, .null, .ref c7, .ref c8, .null, .null, .int 0, .ref c9])), (c1, .inl (c2, 32768, .inl c3))] sz) U)) (va_Qv (fun _ => True) (fun (_ : Unit) t => ∃ (f15 : Nat → Int32), va_P (dC, dI) vwCl [(c0, .inr (13, [.ref c1, .int 16, .int 0, .ref c5, .ref c6, .null, .ref c7, .ref c8, .null, .null, .int 0, .ref c9])), (c1, .inl (c2, 32768, .inl f15))] t.heap ∧ va_K (dC, dI) vwCl [(c2, .byte)] t ∧ va_D (va_A [(c0, .inr (13, [.ref c1, .int 12, .int 0, .ref c5, .ref c6, .null, .ref c7, .ref c8, .null, .null, .int 0, .ref c9])), (c1, .inl (c2, 32768, .inl c3))] sz) [(c0, .inr (13, [.ref c1, .int 16, .int 0, .ref c5, .ref c6, .null, .ref c7, .ref c8, .null, .null, .int 0, .ref c9])), (c1, .inl (c2, 32768, .inl f15))]) (va_A [(c0, .inr (13, [.ref c1, .int 12, .int 0, .ref c5, .ref c6, .null, .ref c7, .ref c8, .null, .null, .int 0, .ref c9])), (c1, .inl (c2, 32768, .inl c3))] sz)) 0 0 (va_A [(c0, .inr (13, [.ref c1, .int 12, .int 0, .ref c5, .ref c6, .null, .ref c7, .ref c8, .null, .null, .int 0, .ref c9])), (c1, .inl (c2, 32768, .inl c3))] sz) := by
  refine Met.ofW (cc := cX12_putOnTape) (maxL := 3) (ret := none) (by decide) rfl ?_
  intro p e s m args below meth c s₁ B hml hv
  obtain ⟨rfl, hsz, hP, hK, hD0, hN⟩ := hv
  have hx := B.exec
  have hb := B.bytes
  have hr := B.returns
  have hts := atoms_spec (ws := wsX12_putOnTape) B.pre
  have hown : s.vm.findClass RX12 = some m.cls := findClass_of_methodNamed B.named
  have hlocks := B.notSynchronized
  subst hsz
  have hD := hD0.self (sz := s.heap.size)
  generalize hAe : va_A [(c0, .inr (13, [.ref c1, .int 12, .int 0, .ref c5, .ref c6, .null, .ref c7, .ref c8, .null, .null, .int 0, .ref c9])), (c1, .inl (c2, 32768, .inl c3))] s.heap.size = A at hD hN ⊢
  have hA : ∀ q : Nat, s.heap.size ≤ q → A q := fun q h => by rw [← hAe]; exact Or.inr h
  have hS : va_S A s.heap s.heap [] := va_S.rf
  have hl := lv_entry ([.ref c0, .int c4]) (n := 3) (Nat.le_of_ble_eq_true rfl)
  rw [lg_entry_eq]
  generalize (lg_sl ([.ref c0, .int c4]) ++ List.replicate (3 - (lg_sl ([.ref c0, .int c4])).length) Slot.unset).toArray = ls at hl ⊢
  have hl : lv_has ls 3 [(0, .ref c0), (1, .int c4)] := hl
  refine lv_bipush (v := 24) hx hb dX12_putOnTape_0 (by decide) ?_
  refine lv_istore_n (lv' := [(2, .int 24), (0, .ref c0), (1, .int c4)]) hx hb dX12_putOnTape_2 rfl hl (by decide) rfl (fun ls hl => ?_)
  refine lv_iload_n hx hb dX12_putOnTape_3 rfl (lv_at hl 0 rfl) ?_
  refine lv_if_lt (tgt := 45) hx hb dX12_putOnTape_4 (by decide) (fun h9 => absurd h9 (by decide)) (fun _ => ?_)
  refine lv_aload_n hx hb dX12_putOnTape_7 rfl (lv_at hl 1 rfl) ?_
  refine va_get (D := (dC, dI)) (ci := 13) (v := .int 12) (C := RX12) (T := TX12) (N := 12) hx hb hts hi_X12_putOnTape_X12 hown hK hP 0 rfl rfl 1 (by decide) (hts (.fieldLink RX12 43 "TimeMachine" "taped" "I") (List.mem_of_getElem? (i := 1) (by decide +kernel))) (fun _ h9 => h9) rfl dX12_putOnTape_8 ?_
  refine lv_ldc hx hb hown (hts (.constant RX12 9 (32768)) (List.mem_of_getElem? (i := 2) (by decide +kernel))) dX12_putOnTape_11 ?_
  refine lv_icmp_ge (tgt := 39) hx hb dX12_putOnTape_13 (by decide) (fun h9 => absurd h9 (by decide)) (fun _ => ?_)
  refine lv_aload_n hx hb dX12_putOnTape_16 rfl (lv_at hl 1 rfl) ?_
  refine va_get (D := (dC, dI)) (ci := 13) (v := .ref c1) (C := RX12) (T := TX12) (N := 12) hx hb hts hi_X12_putOnTape_X12 hown hK hP 0 rfl rfl 0 (by decide) (hts (.fieldLink RX12 10 "TimeMachine" "tape" "[B") (List.mem_of_getElem? (i := 3) (by decide +kernel))) (fun _ h9 => h9) rfl dX12_putOnTape_17 ?_
  refine lv_aload_n hx hb dX12_putOnTape_20 rfl (lv_at hl 1 rfl) ?_
  refine va_get (D := (dC, dI)) (ci := 13) (v := .int 12) (C := RX12) (T := TX12) (N := 12) hx hb hts hi_X12_putOnTape_X12 hown hK hP 0 rfl rfl 1 (by decide) (hts (.fieldLink RX12 43 "TimeMachine" "taped" "I") (List.mem_of_getElem? (i := 1) (by decide +kernel))) (fun _ h9 => h9) rfl dX12_putOnTape_21 ?_
  refine lv_iload_n hx hb dX12_putOnTape_24 rfl (lv_at hl 2 rfl) ?_
  refine lv_iload_n hx hb dX12_putOnTape_25 rfl (lv_at hl 0 rfl) ?_
  refine lv_ishr hx hb dX12_putOnTape_26 ?_
  refine lv_topi (fun z1 ez1 => ?_)
  refine lv_i2b hx hb dX12_putOnTape_27 rfl ?_
  refine lv_topi (fun z2 ez2 => ?_)
  refine va_bast (i := 12) (x := z2) hx hb hK hP hD hS 1 0 rfl rfl (vp_in_iff.mpr ⟨by decide, by decide⟩) dX12_putOnTape_28 (fun H locs hP hD hS => ?_)
  generalize hf3 : upd c3 (Int32.toNatClampNeg 12) (vp_nar .byte z2) = f3 at hP hD
  have hP : va_P (dC, dI) vwCl [(c0, .inr (13, [.ref c1, .int 12, .int 0, .ref c5, .ref c6, .null, .ref c7, .ref c8, .null, .null, .int 0, .ref c9])), (c1, .inl (c2, 32768, .inl f3))] H := hP
  have hD : va_D A [(c0, .inr (13, [.ref c1, .int 12, .int 0, .ref c5, .ref c6, .null, .ref c7, .ref c8, .null, .null, .int 0, .ref c9])), (c1, .inl (c2, 32768, .inl f3))] := hD
  refine lv_aload_n hx hb dX12_putOnTape_29 rfl (lv_at hl 1 rfl) ?_
  refine lv_dup hx hb dX12_putOnTape_30 rfl ?_
  refine va_get (D := (dC, dI)) (ci := 13) (v := .int 12) (C := RX12) (T := TX12) (N := 12) hx hb hts hi_X12_putOnTape_X12 hown hK hP 0 rfl rfl 1 (by decide) (hts (.fieldLink RX12 43 "TimeMachine" "taped" "I") (List.mem_of_getElem? (i := 1) (by decide +kernel))) (fun _ h9 => h9) rfl dX12_putOnTape_31 ?_
  refine lv_iconst (v := 1) hx hb dX12_putOnTape_34 (by decide) ?_
  refine lv_iadd hx hb dX12_putOnTape_35 ?_
  refine lv_topi (fun z4 ez4 => ?_)
  obtain rfl : z4 = 13 := ez4.trans (by decide)
  refine va_put (D := (dC, dI)) (ci := 13) (v := .int 13) (ty := .int) (C := RX12) (T := TX12) (N := 12) hx hb hts hi_X12_putOnTape_X12 tyX12 tyX12_ok nmX12 hown hK hP hD hS 0 rfl rfl 1 (by decide) (hts (.fieldLink RX12 43 "TimeMachine" "taped" "I") (List.mem_of_getElem? (i := 1) (by decide +kernel))) (fun _ h9 => h9) rfl (by decide +kernel) rfl rfl (Nat.le_of_ble_eq_true rfl) dX12_putOnTape_36 (fun H locs hP hD hS => ?_)
  have hP : va_P (dC, dI) vwCl [(c0, .inr (13, [.ref c1, .int 13, .int 0, .ref c5, .ref c6, .null, .ref c7, .ref c8, .null, .null, .int 0, .ref c9])), (c1, .inl (c2, 32768, .inl f3))] H := hP
  have hD : va_D A [(c0, .inr (13, [.ref c1, .int 13, .int 0, .ref c5, .ref c6, .null, .ref c7, .ref c8, .null, .null, .int 0, .ref c9])), (c1, .inl (c2, 32768, .inl f3))] := hD
  refine lv_iinc (v := 16) (lv' := [(2, .int 16), (0, .ref c0), (1, .int c4)]) hx hb dX12_putOnTape_39 hl (k := 0) rfl (by decide) (by decide) rfl (fun ls hl => ?_)
  refine lv_goto (tgt := 3) hx hb dX12_putOnTape_42 (by decide) ?_
  refine lv_iload_n hx hb dX12_putOnTape_3 rfl (lv_at hl 0 rfl) ?_
  refine lv_if_lt (tgt := 45) hx hb dX12_putOnTape_4 (by decide) (fun h9 => absurd h9 (by decide)) (fun _ => ?_)
  refine lv_aload_n hx hb dX12_putOnTape_7 rfl (lv_at hl 1 rfl) ?_
  refine va_get (D := (dC, dI)) (ci := 13) (v := .int 13) (C := RX12) (T := TX12) (N := 12) hx hb hts hi_X12_putOnTape_X12 hown hK hP 0 rfl rfl 1 (by decide) (hts (.fieldLink RX12 43 "TimeMachine" "taped" "I") (List.mem_of_getElem? (i := 1) (by decide +kernel))) (fun _ h9 => h9) rfl dX12_putOnTape_8 ?_
  refine lv_ldc hx hb hown (hts (.constant RX12 9 (32768)) (List.mem_of_getElem? (i := 2) (by decide +kernel))) dX12_putOnTape_11 ?_
  refine lv_icmp_ge (tgt := 39) hx hb dX12_putOnTape_13 (by decide) (fun h9 => absurd h9 (by decide)) (fun _ => ?_)
  refine lv_aload_n hx hb dX12_putOnTape_16 rfl (lv_at hl 1 rfl) ?_
  refine va_get (D := (dC, dI)) (ci := 13) (v := .ref c1) (C := RX12) (T := TX12) (N := 12) hx hb hts hi_X12_putOnTape_X12 hown hK hP 0 rfl rfl 0 (by decide) (hts (.fieldLink RX12 10 "TimeMachine" "tape" "[B") (List.mem_of_getElem? (i := 3) (by decide +kernel))) (fun _ h9 => h9) rfl dX12_putOnTape_17 ?_
  refine lv_aload_n hx hb dX12_putOnTape_20 rfl (lv_at hl 1 rfl) ?_
  refine va_get (D := (dC, dI)) (ci := 13) (v := .int 13) (C := RX12) (T := TX12) (N := 12) hx hb hts hi_X12_putOnTape_X12 hown hK hP 0 rfl rfl 1 (by decide) (hts (.fieldLink RX12 43 "TimeMachine" "taped" "I") (List.mem_of_getElem? (i := 1) (by decide +kernel))) (fun _ h9 => h9) rfl dX12_putOnTape_21 ?_
  refine lv_iload_n hx hb dX12_putOnTape_24 rfl (lv_at hl 2 rfl) ?_
  refine lv_iload_n hx hb dX12_putOnTape_25 rfl (lv_at hl 0 rfl) ?_
  refine lv_ishr hx hb dX12_putOnTape_26 ?_
  refine lv_topi (fun z5 ez5 => ?_)
  refine lv_i2b hx hb dX12_putOnTape_27 rfl ?_
  refine lv_topi (fun z6 ez6 => ?_)
  refine va_bast (i := 13) (x := z6) hx hb hK hP hD hS 1 0 rfl rfl (vp_in_iff.mpr ⟨by decide, by decide⟩) dX12_putOnTape_28 (fun H locs hP hD hS => ?_)
  generalize hf7 : upd f3 (Int32.toNatClampNeg 13) (vp_nar .byte z6) = f7 at hP hD
  have hP : va_P (dC, dI) vwCl [(c0, .inr (13, [.ref c1, .int 13, .int 0, .ref c5, .ref c6, .null, .ref c7, .ref c8, .null, .null, .int 0, .ref c9])), (c1, .inl (c2, 32768, .inl f7))] H := hP
  have hD : va_D A [(c0, .inr (13, [.ref c1, .int 13, .int 0, .ref c5, .ref c6, .null, .ref c7, .ref c8, .null, .null, .int 0, .ref c9])), (c1, .inl (c2, 32768, .inl f7))] := hD
  refine lv_aload_n hx hb dX12_putOnTape_29 rfl (lv_at hl 1 rfl) ?_
  refine lv_dup hx hb dX12_putOnTape_30 rfl ?_
  refine va_get (D := (dC, dI)) (ci := 13) (v := .int 13) (C := RX12) (T := TX12) (N := 12) hx hb hts hi_X12_putOnTape_X12 hown hK hP 0 rfl rfl 1 (by decide) (hts (.fieldLink RX12 43 "TimeMachine" "taped" "I") (List.mem_of_getElem? (i := 1) (by decide +kernel))) (fun _ h9 => h9) rfl dX12_putOnTape_31 ?_
  refine lv_iconst (v := 1) hx hb dX12_putOnTape_34 (by decide) ?_
  refine lv_iadd hx hb dX12_putOnTape_35 ?_
  refine lv_topi (fun z8 ez8 => ?_)
  obtain rfl : z8 = 14 := ez8.trans (by decide)
  refine va_put (D := (dC, dI)) (ci := 13) (v := .int 14) (ty := .int) (C := RX12) (T := TX12) (N := 12) hx hb hts hi_X12_putOnTape_X12 tyX12 tyX12_ok nmX12 hown hK hP hD hS 0 rfl rfl 1 (by decide) (hts (.fieldLink RX12 43 "TimeMachine" "taped" "I") (List.mem_of_getElem? (i := 1) (by decide +kernel))) (fun _ h9 => h9) rfl (by decide +kernel) rfl rfl (Nat.le_of_ble_eq_true rfl) dX12_putOnTape_36 (fun H locs hP hD hS => ?_)
  have hP : va_P (dC, dI) vwCl [(c0, .inr (13, [.ref c1, .int 14, .int 0, .ref c5, .ref c6, .null, .ref c7, .ref c8, .null, .null, .int 0, .ref c9])), (c1, .inl (c2, 32768, .inl f7))] H := hP
  have hD : va_D A [(c0, .inr (13, [.ref c1, .int 14, .int 0, .ref c5, .ref c6, .null, .ref c7, .ref c8, .null, .null, .int 0, .ref c9])), (c1, .inl (c2, 32768, .inl f7))] := hD
  refine lv_iinc (v := 8) (lv' := [(2, .int 8), (0, .ref c0), (1, .int c4)]) hx hb dX12_putOnTape_39 hl (k := 0) rfl (by decide) (by decide) rfl (fun ls hl => ?_)
  refine lv_goto (tgt := 3) hx hb dX12_putOnTape_42 (by decide) ?_
  refine lv_iload_n hx hb dX12_putOnTape_3 rfl (lv_at hl 0 rfl) ?_
  refine lv_if_lt (tgt := 45) hx hb dX12_putOnTape_4 (by decide) (fun h9 => absurd h9 (by decide)) (fun _ => ?_)
  refine lv_aload_n hx hb dX12_putOnTape_7 rfl (lv_at hl 1 rfl) ?_
  refine va_get (D := (dC, dI)) (ci := 13) (v := .int 14) (C := RX12) (T := TX12) (N := 12) hx hb hts hi_X12_putOnTape_X12 hown hK hP 0 rfl rfl 1 (by decide) (hts (.fieldLink RX12 43 "TimeMachine" "taped" "I") (List.mem_of_getElem? (i := 1) (by decide +kernel))) (fun _ h9 => h9) rfl dX12_putOnTape_8 ?_
  refine lv_ldc hx hb hown (hts (.constant RX12 9 (32768)) (List.mem_of_getElem? (i := 2) (by decide +kernel))) dX12_putOnTape_11 ?_
  refine lv_icmp_ge (tgt := 39) hx hb dX12_putOnTape_13 (by decide) (fun h9 => absurd h9 (by decide)) (fun _ => ?_)
  refine lv_aload_n hx hb dX12_putOnTape_16 rfl (lv_at hl 1 rfl) ?_
  refine va_get (D := (dC, dI)) (ci := 13) (v := .ref c1) (C := RX12) (T := TX12) (N := 12) hx hb hts hi_X12_putOnTape_X12 hown hK hP 0 rfl rfl 0 (by decide) (hts (.fieldLink RX12 10 "TimeMachine" "tape" "[B") (List.mem_of_getElem? (i := 3) (by decide +kernel))) (fun _ h9 => h9) rfl dX12_putOnTape_17 ?_
  refine lv_aload_n hx hb dX12_putOnTape_20 rfl (lv_at hl 1 rfl) ?_
  refine va_get (D := (dC, dI)) (ci := 13) (v := .int 14) (C := RX12) (T := TX12) (N := 12) hx hb hts hi_X12_putOnTape_X12 hown hK hP 0 rfl rfl 1 (by decide) (hts (.fieldLink RX12 43 "TimeMachine" "taped" "I") (List.mem_of_getElem? (i := 1) (by decide +kernel))) (fun _ h9 => h9) rfl dX12_putOnTape_21 ?_
  refine lv_iload_n hx hb dX12_putOnTape_24 rfl (lv_at hl 2 rfl) ?_
  refine lv_iload_n hx hb dX12_putOnTape_25 rfl (lv_at hl 0 rfl) ?_
  refine lv_ishr hx hb dX12_putOnTape_26 ?_
  refine lv_topi (fun z9 ez9 => ?_)
  refine lv_i2b hx hb dX12_putOnTape_27 rfl ?_
  refine lv_topi (fun z10 ez10 => ?_)
  refine va_bast (i := 14) (x := z10) hx hb hK hP hD hS 1 0 rfl rfl (vp_in_iff.mpr ⟨by decide, by decide⟩) dX12_putOnTape_28 (fun H locs hP hD hS => ?_)
  generalize hf11 : upd f7 (Int32.toNatClampNeg 14) (vp_nar .byte z10) = f11 at hP hD
  have hP : va_P (dC, dI) vwCl [(c0, .inr (13, [.ref c1, .int 14, .int 0, .ref c5, .ref c6, .null, .ref c7, .ref c8, .null, .null, .int 0, .ref c9])), (c1, .inl (c2, 32768, .inl f11))] H := hP
  have hD : va_D A [(c0, .inr (13, [.ref c1, .int 14, .int 0, .ref c5, .ref c6, .null, .ref c7, .ref c8, .null, .null, .int 0, .ref c9])), (c1, .inl (c2, 32768, .inl f11))] := hD
  refine lv_aload_n hx hb dX12_putOnTape_29 rfl (lv_at hl 1 rfl) ?_
  refine lv_dup hx hb dX12_putOnTape_30 rfl ?_
  refine va_get (D := (dC, dI)) (ci := 13) (v := .int 14) (C := RX12) (T := TX12) (N := 12) hx hb hts hi_X12_putOnTape_X12 hown hK hP 0 rfl rfl 1 (by decide) (hts (.fieldLink RX12 43 "TimeMachine" "taped" "I") (List.mem_of_getElem? (i := 1) (by decide +kernel))) (fun _ h9 => h9) rfl dX12_putOnTape_31 ?_
  refine lv_iconst (v := 1) hx hb dX12_putOnTape_34 (by decide) ?_
  refine lv_iadd hx hb dX12_putOnTape_35 ?_
  refine lv_topi (fun z12 ez12 => ?_)
  obtain rfl : z12 = 15 := ez12.trans (by decide)
  refine va_put (D := (dC, dI)) (ci := 13) (v := .int 15) (ty := .int) (C := RX12) (T := TX12) (N := 12) hx hb hts hi_X12_putOnTape_X12 tyX12 tyX12_ok nmX12 hown hK hP hD hS 0 rfl rfl 1 (by decide) (hts (.fieldLink RX12 43 "TimeMachine" "taped" "I") (List.mem_of_getElem? (i := 1) (by decide +kernel))) (fun _ h9 => h9) rfl (by decide +kernel) rfl rfl (Nat.le_of_ble_eq_true rfl) dX12_putOnTape_36 (fun H locs hP hD hS => ?_)
  have hP : va_P (dC, dI) vwCl [(c0, .inr (13, [.ref c1, .int 15, .int 0, .ref c5, .ref c6, .null, .ref c7, .ref c8, .null, .null, .int 0, .ref c9])), (c1, .inl (c2, 32768, .inl f11))] H := hP
  have hD : va_D A [(c0, .inr (13, [.ref c1, .int 15, .int 0, .ref c5, .ref c6, .null, .ref c7, .ref c8, .null, .null, .int 0, .ref c9])), (c1, .inl (c2, 32768, .inl f11))] := hD
  refine lv_iinc (v := 0) (lv' := [(2, .int 0), (0, .ref c0), (1, .int c4)]) hx hb dX12_putOnTape_39 hl (k := 0) rfl (by decide) (by decide) rfl (fun ls hl => ?_)
  refine lv_goto (tgt := 3) hx hb dX12_putOnTape_42 (by decide) ?_
  refine lv_iload_n hx hb dX12_putOnTape_3 rfl (lv_at hl 0 rfl) ?_
  refine lv_if_lt (tgt := 45) hx hb dX12_putOnTape_4 (by decide) (fun h9 => absurd h9 (by decide)) (fun _ => ?_)
  refine lv_aload_n hx hb dX12_putOnTape_7 rfl (lv_at hl 1 rfl) ?_
  refine va_get (D := (dC, dI)) (ci := 13) (v := .int 15) (C := RX12) (T := TX12) (N := 12) hx hb hts hi_X12_putOnTape_X12 hown hK hP 0 rfl rfl 1 (by decide) (hts (.fieldLink RX12 43 "TimeMachine" "taped" "I") (List.mem_of_getElem? (i := 1) (by decide +kernel))) (fun _ h9 => h9) rfl dX12_putOnTape_8 ?_
  refine lv_ldc hx hb hown (hts (.constant RX12 9 (32768)) (List.mem_of_getElem? (i := 2) (by decide +kernel))) dX12_putOnTape_11 ?_
  refine lv_icmp_ge (tgt := 39) hx hb dX12_putOnTape_13 (by decide) (fun h9 => absurd h9 (by decide)) (fun _ => ?_)
  refine lv_aload_n hx hb dX12_putOnTape_16 rfl (lv_at hl 1 rfl) ?_
  refine va_get (D := (dC, dI)) (ci := 13) (v := .ref c1) (C := RX12) (T := TX12) (N := 12) hx hb hts hi_X12_putOnTape_X12 hown hK hP 0 rfl rfl 0 (by decide) (hts (.fieldLink RX12 10 "TimeMachine" "tape" "[B") (List.mem_of_getElem? (i := 3) (by decide +kernel))) (fun _ h9 => h9) rfl dX12_putOnTape_17 ?_
  refine lv_aload_n hx hb dX12_putOnTape_20 rfl (lv_at hl 1 rfl) ?_
  refine va_get (D := (dC, dI)) (ci := 13) (v := .int 15) (C := RX12) (T := TX12) (N := 12) hx hb hts hi_X12_putOnTape_X12 hown hK hP 0 rfl rfl 1 (by decide) (hts (.fieldLink RX12 43 "TimeMachine" "taped" "I") (List.mem_of_getElem? (i := 1) (by decide +kernel))) (fun _ h9 => h9) rfl dX12_putOnTape_21 ?_
  refine lv_iload_n hx hb dX12_putOnTape_24 rfl (lv_at hl 2 rfl) ?_
  refine lv_iload_n hx hb dX12_putOnTape_25 rfl (lv_at hl 0 rfl) ?_
  refine lv_ishr hx hb dX12_putOnTape_26 ?_
  refine lv_topi (fun z13 ez13 => ?_)
  refine lv_i2b hx hb dX12_putOnTape_27 rfl ?_
  refine lv_topi (fun z14 ez14 => ?_)
  refine va_bast (i := 15) (x := z14) hx hb hK hP hD hS 1 0 rfl rfl (vp_in_iff.mpr ⟨by decide, by decide⟩) dX12_putOnTape_28 (fun H locs hP hD hS => ?_)
  generalize hf15 : upd f11 (Int32.toNatClampNeg 15) (vp_nar .byte z14) = f15 at hP hD
  have hP : va_P (dC, dI) vwCl [(c0, .inr (13, [.ref c1, .int 15, .int 0, .ref c5, .ref c6, .null, .ref c7, .ref c8, .null, .null, .int 0, .ref c9])), (c1, .inl (c2, 32768, .inl f15))] H := hP
  have hD : va_D A [(c0, .inr (13, [.ref c1, .int 15, .int 0, .ref c5, .ref c6, .null, .ref c7, .ref c8, .null, .null, .int 0, .ref c9])), (c1, .inl (c2, 32768, .inl f15))] := hD
  refine lv_aload_n hx hb dX12_putOnTape_29 rfl (lv_at hl 1 rfl) ?_
  refine lv_dup hx hb dX12_putOnTape_30 rfl ?_
  refine va_get (D := (dC, dI)) (ci := 13) (v := .int 15) (C := RX12) (T := TX12) (N := 12) hx hb hts hi_X12_putOnTape_X12 hown hK hP 0 rfl rfl 1 (by decide) (hts (.fieldLink RX12 43 "TimeMachine" "taped" "I") (List.mem_of_getElem? (i := 1) (by decide +kernel))) (fun _ h9 => h9) rfl dX12_putOnTape_31 ?_
  refine lv_iconst (v := 1) hx hb dX12_putOnTape_34 (by decide) ?_
  refine lv_iadd hx hb dX12_putOnTape_35 ?_
  refine lv_topi (fun z16 ez16 => ?_)
  obtain rfl : z16 = 16 := ez16.trans (by decide)
  refine va_put (D := (dC, dI)) (ci := 13) (v := .int 16) (ty := .int) (C := RX12) (T := TX12) (N := 12) hx hb hts hi_X12_putOnTape_X12 tyX12 tyX12_ok nmX12 hown hK hP hD hS 0 rfl rfl 1 (by decide) (hts (.fieldLink RX12 43 "TimeMachine" "taped" "I") (List.mem_of_getElem? (i := 1) (by decide +kernel))) (fun _ h9 => h9) rfl (by decide +kernel) rfl rfl (Nat.le_of_ble_eq_true rfl) dX12_putOnTape_36 (fun H locs hP hD hS => ?_)
  have hP : va_P (dC, dI) vwCl [(c0, .inr (13, [.ref c1, .int 16, .int 0, .ref c5, .ref c6, .null, .ref c7, .ref c8, .null, .null, .int 0, .ref c9])), (c1, .inl (c2, 32768, .inl f15))] H := hP
  have hD : va_D A [(c0, .inr (13, [.ref c1, .int 16, .int 0, .ref c5, .ref c6, .null, .ref c7, .ref c8, .null, .null, .int 0, .ref c9])), (c1, .inl (c2, 32768, .inl f15))] := hD
  refine lv_iinc (v := (-8)) (lv' := [(2, .int (-8)), (0, .ref c0), (1, .int c4)]) hx hb dX12_putOnTape_39 hl (k := 0) rfl (by decide) (by decide) rfl (fun ls hl => ?_)
  refine lv_goto (tgt := 3) hx hb dX12_putOnTape_42 (by decide) ?_
  refine lv_iload_n hx hb dX12_putOnTape_3 rfl (lv_at hl 0 rfl) ?_
  refine lv_if_lt (tgt := 45) hx hb dX12_putOnTape_4 (by decide) (fun _ => ?_) (fun h9 => absurd (by decide) h9)
  have hP9 := hP.sub (ws' := [(c0, .inr (13, [.ref c1, .int 16, .int 0, .ref c5, .ref c6, .null, .ref c7, .ref c8, .null, .null, .int 0, .ref c9])), (c1, .inl (c2, 32768, .inl f15))]) [0, 1] rfl
  have hD9 := hD.sub (ws' := [(c0, .inr (13, [.ref c1, .int 16, .int 0, .ref c5, .ref c6, .null, .ref c7, .ref c8, .null, .null, .int 0, .ref c9])), (c1, .inl (c2, 32768, .inl f15))]) [0, 1] (by decide) rfl
  have hK9 := hK.sub (tys' := [(c2, .byte)]) [0] rfl
  refine W.widen (k := 0) (n := 0) (by decide +kernel) (by decide +kernel) ?_
  exact W.vret hx hb hr (fun t ht hW => ⟨⟨(), rfl, trivial, f15, by rw [ht]; exact hP9, va_K.moved hW.alike hK9, hD9⟩, hS.F ht⟩) hS.2.2 dX12_putOnTape_45
set_option maxHeartbeats 40000000 in
set_option maxRecDepth 100000 in
theorem k_X12_putOnTape_v4 (l : Launch) (dC : Nat → ClassId) (dI : Nat → Nat → Nat) (c0 : Nat) (c1 : Nat) (c2 : ClassId) (c3 : Nat → Int32) (c4 : Int32) (c5 : Nat) (c6 : Nat) (c7 : Nat) (c8 : Nat) (c9 : Nat) (sz : Nat) : Met l yX12_putOnTape wsX12_putOnTape ({ frames := 0, cells := 0, slots := 0, locals := 0 }) (va_Pc [.ref c0, .int c4] (fun U => U.heap.size = sz ∧ va_P (dC, dI) vwCl [(c0, .inr (13, [.ref c1, .int 16, .int 0, .ref c5, .ref c6, .null, .ref c7, .ref c8, .null, .null, .int 0, .ref c9])), (c1, .inl (c2, 32768, .inl c3))] U.heap ∧ va_K (dC, dI) vwCl [(c2, .byte)] U ∧ va_D (fun _ => True) [(c0, .inr (13, [.ref c1, .int 16, .int 0, .ref c5, .ref c6, .null, .ref c7, .ref c8, .null, .null, .int 0, .ref c9])), (c1, .inl (c2, 32768, .inl c3))] ∧ nv_E (va_A [(c0, .inr (13, [.ref c1, .int 16, .int 0, .ref c5, .ref c6, .null, .ref c7, .ref c8, .null, .null, .int 0, .ref c9])), (c1, .inl (c2, 32768, .inl c3))] sz) U)) (va_Qv (fun _ => True) (fun (_ : Unit) t => ∃ (f15 : Nat → Int32), va_P (dC, dI) vwCl [(c0, .inr (13, [.ref c1, .int 20, .int 0, .ref c5, .ref c6, .null, .ref c7, .ref c8, .null, .null, .int 0, .ref c9])), (c1, .inl (c2, 32768, .inl f15))] t.heap ∧ va_K (dC, dI) vwCl [(c2, .byte)] t ∧ va_D (va_A [(c0, .inr (13, [.ref c1, .int 16, .int 0, .ref c5, .ref c6, .null, .ref c7, .ref c8, .null, .null, .int 0, .ref c9])), (c1, .inl (c2, 32768, .inl c3))] sz) [(c0, .inr (13, [.ref c1, .int 20, .int 0, .ref c5, .ref c6, .null, .ref c7, .ref c8, .null, .null, .int 0, .ref c9])), (c1, .inl (c2, 32768, .inl f15))]) (va_A [(c0, .inr (13, [.ref c1, .int 16, .int 0, .ref c5, .ref c6, .null, .ref c7, .ref c8, .null, .null, .int 0, .ref c9])), (c1, .inl (c2, 32768, .inl c3))] sz)) 0 0 (va_A [(c0, .inr (13, [.ref c1, .int 16, .int 0, .ref c5, .ref c6, .null, .ref c7, .ref c8, .null, .null, .int 0, .ref c9])), (c1, .inl (c2, 32768, .inl c3))] sz) := by
  refine Met.ofW (cc := cX12_putOnTape) (maxL := 3) (ret := none) (by decide) rfl ?_
  intro p e s m args below meth c s₁ B hml hv
  obtain ⟨rfl, hsz, hP, hK, hD0, hN⟩ := hv
  have hx := B.exec
  have hb := B.bytes
  have hr := B.returns
  have hts := atoms_spec (ws := wsX12_putOnTape) B.pre
  have hown : s.vm.findClass RX12 = some m.cls := findClass_of_methodNamed B.named
  have hlocks := B.notSynchronized
  subst hsz
  have hD := hD0.self (sz := s.heap.size)
  generalize hAe : va_A [(c0, .inr (13, [.ref c1, .int 16, .int 0, .ref c5, .ref c6, .null, .ref c7, .ref c8, .null, .null, .int 0, .ref c9])), (c1, .inl (c2, 32768, .inl c3))] s.heap.size = A at hD hN ⊢
  have hA : ∀ q : Nat, s.heap.size ≤ q → A q := fun q h => by rw [← hAe]; exact Or.inr h
  have hS : va_S A s.heap s.heap [] := va_S.rf
  have hl := lv_entry ([.ref c0, .int c4]) (n := 3) (Nat.le_of_ble_eq_true rfl)
  rw [lg_entry_eq]
  generalize (lg_sl ([.ref c0, .int c4]) ++ List.replicate (3 - (lg_sl ([.ref c0, .int c4])).length) Slot.unset).toArray = ls at hl ⊢
  have hl : lv_has ls 3 [(0, .ref c0), (1, .int c4)] := hl
  refine lv_bipush (v := 24) hx hb dX12_putOnTape_0 (by decide) ?_
  refine lv_istore_n (lv' := [(2, .int 24), (0, .ref c0), (1, .int c4)]) hx hb dX12_putOnTape_2 rfl hl (by decide) rfl (fun ls hl => ?_)
  refine lv_iload_n hx hb dX12_putOnTape_3 rfl (lv_at hl 0 rfl) ?_
  refine lv_if_lt (tgt := 45) hx hb dX12_putOnTape_4 (by decide) (fun h9 => absurd h9 (by decide)) (fun _ => ?_)
  refine lv_aload_n hx hb dX12_putOnTape_7 rfl (lv_at hl 1 rfl) ?_
  refine va_get (D := (dC, dI)) (ci := 13) (v := .int 16) (C := RX12) (T := TX12) (N := 12) hx hb hts hi_X12_putOnTape_X12 hown hK hP 0 rfl rfl 1 (by decide) (hts (.fieldLink RX12 43 "TimeMachine" "taped" "I") (List.mem_of_getElem? (i := 1) (by decide +kernel))) (fun _ h9 => h9) rfl dX12_putOnTape_8 ?_
  refine lv_ldc hx hb hown (hts (.constant RX12 9 (32768)) (List.mem_of_getElem? (i := 2) (by decide +kernel))) dX12_putOnTape_11 ?_
  refine lv_icmp_ge (tgt := 39) hx hb dX12_putOnTape_13 (by decide) (fun h9 => absurd h9 (by decide)) (fun _ => ?_)
  refine lv_aload_n hx hb dX12_putOnTape_16 rfl (lv_at hl 1 rfl) ?_
  refine va_get (D := (dC, dI)) (ci := 13) (v := .ref c1) (C := RX12) (T := TX12) (N := 12) hx hb hts hi_X12_putOnTape_X12 hown hK hP 0 rfl rfl 0 (by decide) (hts (.fieldLink RX12 10 "TimeMachine" "tape" "[B") (List.mem_of_getElem? (i := 3) (by decide +kernel))) (fun _ h9 => h9) rfl dX12_putOnTape_17 ?_
  refine lv_aload_n hx hb dX12_putOnTape_20 rfl (lv_at hl 1 rfl) ?_
  refine va_get (D := (dC, dI)) (ci := 13) (v := .int 16) (C := RX12) (T := TX12) (N := 12) hx hb hts hi_X12_putOnTape_X12 hown hK hP 0 rfl rfl 1 (by decide) (hts (.fieldLink RX12 43 "TimeMachine" "taped" "I") (List.mem_of_getElem? (i := 1) (by decide +kernel))) (fun _ h9 => h9) rfl dX12_putOnTape_21 ?_
  refine lv_iload_n hx hb dX12_putOnTape_24 rfl (lv_at hl 2 rfl) ?_
  refine lv_iload_n hx hb dX12_putOnTape_25 rfl (lv_at hl 0 rfl) ?_
  refine lv_ishr hx hb dX12_putOnTape_26 ?_
  refine lv_topi (fun z1 ez1 => ?_)
  refine lv_i2b hx hb dX12_putOnTape_27 rfl ?_
  refine lv_topi (fun z2 ez2 => ?_)
  refine va_bast (i := 16) (x := z2) hx hb hK hP hD hS 1 0 rfl rfl (vp_in_iff.mpr ⟨by decide, by decide⟩) dX12_putOnTape_28 (fun H locs hP hD hS => ?_)
  generalize hf3 : upd c3 (Int32.toNatClampNeg 16) (vp_nar .byte z2) = f3 at hP hD
  have hP : va_P (dC, dI) vwCl [(c0, .inr (13, [.ref c1, .int 16, .int 0, .ref c5, .ref c6, .null, .ref c7, .ref c8, .null, .null, .int 0, .ref c9])), (c1, .inl (c2, 32768, .inl f3))] H := hP
  have hD : va_D A [(c0, .inr (13, [.ref c1, .int 16, .int 0, .ref c5, .ref c6, .null, .ref c7, .ref c8, .null, .null, .int 0, .ref c9])), (c1, .inl (c2, 32768, .inl f3))] := hD
  refine lv_aload_n hx hb dX12_putOnTape_29 rfl (lv_at hl 1 rfl) ?_
  refine lv_dup hx hb dX12_putOnTape_30 rfl ?_
  refine va_get (D := (dC, dI)) (ci := 13) (v := .int 16) (C := RX12) (T := TX12) (N := 12) hx hb hts hi_X12_putOnTape_X12 hown hK hP 0 rfl rfl 1 (by decide) (hts (.fieldLink RX12 43 "TimeMachine" "taped" "I") (List.mem_of_getElem? (i := 1) (by decide +kernel))) (fun _ h9 => h9) rfl dX12_putOnTape_31 ?_
  refine lv_iconst (v := 1) hx hb dX12_putOnTape_34 (by decide) ?_
  refine lv_iadd hx hb dX12_putOnTape_35 ?_
  refine lv_topi (fun z4 ez4 => ?_)
  obtain rfl : z4 = 17 := ez4.trans (by decide)
  refine va_put (D := (dC, dI)) (ci := 13) (v := .int 17) (ty := .int) (C := RX12) (T := TX12) (N := 12) hx hb hts hi_X12_putOnTape_X12 tyX12 tyX12_ok nmX12 hown hK hP hD hS 0 rfl rfl 1 (by decide) (hts (.fieldLink RX12 43 "TimeMachine" "taped" "I") (List.mem_of_getElem? (i := 1) (by decide +kernel))) (fun _ h9 => h9) rfl (by decide +kernel) rfl rfl (Nat.le_of_ble_eq_true rfl) dX12_putOnTape_36 (fun H locs hP hD hS => ?_)
  have hP : va_P (dC, dI) vwCl [(c0, .inr (13, [.ref c1, .int 17, .int 0, .ref c5, .ref c6, .null, .ref c7, .ref c8, .null, .null, .int 0, .ref c9])), (c1, .inl (c2, 32768, .inl f3))] H := hP
  have hD : va_D A [(c0, .inr (13, [.ref c1, .int 17, .int 0, .ref c5, .ref c6, .null, .ref c7, .ref c8, .null, .null, .int 0, .ref c9])), (c1, .inl (c2, 32768, .inl f3))] := hD
  refine lv_iinc (v := 16) (lv' := [(2, .int 16), (0, .ref c0), (1, .int c4)]) hx hb dX12_putOnTape_39 hl (k := 0) rfl (by decide) (by decide) rfl (fun ls hl => ?_)
  refine lv_goto (tgt := 3) hx hb dX12_putOnTape_42 (by decide) ?_
  refine lv_iload_n hx hb dX12_putOnTape_3 rfl (lv_at hl 0 rfl) ?_
  refine lv_if_lt (tgt := 45) hx hb dX12_putOnTape_4 (by decide) (fun h9 => absurd h9 (by decide)) (fun _ => ?_)
  refine lv_aload_n hx hb dX12_putOnTape_7 rfl (lv_at hl 1 rfl) ?_
  refine va_get (D := (dC, dI)) (ci := 13) (v := .int 17) (C := RX12) (T := TX12) (N := 12) hx hb hts hi_X12_putOnTape_X12 hown hK hP 0 rfl rfl 1 (by decide) (hts (.fieldLink RX12 43 "TimeMachine" "taped" "I") (List.mem_of_getElem? (i := 1) (by decide +kernel))) (fun _ h9 => h9) rfl dX12_putOnTape_8 ?_
  refine lv_ldc hx hb hown (hts (.constant RX12 9 (32768)) (List.mem_of_getElem? (i := 2) (by decide +kernel))) dX12_putOnTape_11 ?_
  refine lv_icmp_ge (tgt := 39) hx hb dX12_putOnTape_13 (by decide) (fun h9 => absurd h9 (by decide)) (fun _ => ?_)
  refine lv_aload_n hx hb dX12_putOnTape_16 rfl (lv_at hl 1 rfl) ?_
  refine va_get (D := (dC, dI)) (ci := 13) (v := .ref c1) (C := RX12) (T := TX12) (N := 12) hx hb hts hi_X12_putOnTape_X12 hown hK hP 0 rfl rfl 0 (by decide) (hts (.fieldLink RX12 10 "TimeMachine" "tape" "[B") (List.mem_of_getElem? (i := 3) (by decide +kernel))) (fun _ h9 => h9) rfl dX12_putOnTape_17 ?_
  refine lv_aload_n hx hb dX12_putOnTape_20 rfl (lv_at hl 1 rfl) ?_
  refine va_get (D := (dC, dI)) (ci := 13) (v := .int 17) (C := RX12) (T := TX12) (N := 12) hx hb hts hi_X12_putOnTape_X12 hown hK hP 0 rfl rfl 1 (by decide) (hts (.fieldLink RX12 43 "TimeMachine" "taped" "I") (List.mem_of_getElem? (i := 1) (by decide +kernel))) (fun _ h9 => h9) rfl dX12_putOnTape_21 ?_
  refine lv_iload_n hx hb dX12_putOnTape_24 rfl (lv_at hl 2 rfl) ?_
  refine lv_iload_n hx hb dX12_putOnTape_25 rfl (lv_at hl 0 rfl) ?_
  refine lv_ishr hx hb dX12_putOnTape_26 ?_
  refine lv_topi (fun z5 ez5 => ?_)
  refine lv_i2b hx hb dX12_putOnTape_27 rfl ?_
  refine lv_topi (fun z6 ez6 => ?_)
  refine va_bast (i := 17) (x := z6) hx hb hK hP hD hS 1 0 rfl rfl (vp_in_iff.mpr ⟨by decide, by decide⟩) dX12_putOnTape_28 (fun H locs hP hD hS => ?_)
  generalize hf7 : upd f3 (Int32.toNatClampNeg 17) (vp_nar .byte z6) = f7 at hP hD
  have hP : va_P (dC, dI) vwCl [(c0, .inr (13, [.ref c1, .int 17, .int 0, .ref c5, .ref c6, .null, .ref c7, .ref c8, .null, .null, .int 0, .ref c9])), (c1, .inl (c2, 32768, .inl f7))] H := hP
  have hD : va_D A [(c0, .inr (13, [.ref c1, .int 17, .int 0, .ref c5, .ref c6, .null, .ref c7, .ref c8, .null, .null, .int 0, .ref c9])), (c1, .inl (c2, 32768, .inl f7))] := hD
  refine lv_aload_n hx hb dX12_putOnTape_29 rfl (lv_at hl 1 rfl) ?_
  refine lv_dup hx hb dX12_putOnTape_30 rfl ?_
  refine va_get (D := (dC, dI)) (ci := 13) (v := .int 17) (C := RX12) (T := TX12) (N := 12) hx hb hts hi_X12_putOnTape_X12 hown hK hP 0 rfl rfl 1 (by decide) (hts (.fieldLink RX12 43 "TimeMachine" "taped" "I") (List.mem_of_getElem? (i := 1) (by decide +kernel))) (fun _ h9 => h9) rfl dX12_putOnTape_31 ?_
  refine lv_iconst (v := 1) hx hb dX12_putOnTape_34 (by decide) ?_
  refine lv_iadd hx hb dX12_putOnTape_35 ?_
  refine lv_topi (fun z8 ez8 => ?_)
  obtain rfl : z8 = 18 := ez8.trans (by decide)
  refine va_put (D := (dC, dI)) (ci := 13) (v := .int 18) (ty := .int) (C := RX12) (T := TX12) (N := 12) hx hb hts hi_X12_putOnTape_X12 tyX12 tyX12_ok nmX12 hown hK hP hD hS 0 rfl rfl 1 (by decide) (hts (.fieldLink RX12 43 "TimeMachine" "taped" "I") (List.mem_of_getElem? (i := 1) (by decide +kernel))) (fun _ h9 => h9) rfl (by decide +kernel) rfl rfl (Nat.le_of_ble_eq_true rfl) dX12_putOnTape_36 (fun H locs hP hD hS => ?_)
  have hP : va_P (dC, dI) vwCl [(c0, .inr (13, [.ref c1, .int 18, .int 0, .ref c5, .ref c6, .null, .ref c7, .ref c8, .null, .null, .int 0, .ref c9])), (c1, .inl (c2, 32768, .inl f7))] H := hP
  have hD : va_D A [(c0, .inr (13, [.ref c1, .int 18, .int 0, .ref c5, .ref c6, .null, .ref c7, .ref c8, .null, .null, .int 0, .ref c9])), (c1, .inl (c2, 32768, .inl f7))] := hD
  refine lv_iinc (v := 8) (lv' := [(2, .int 8), (0, .ref c0), (1, .int c4)]) hx hb dX12_putOnTape_39 hl (k := 0) rfl (by decide) (by decide) rfl (fun ls hl => ?_)
  refine lv_goto (tgt := 3) hx hb dX12_putOnTape_42 (by decide) ?_
  refine lv_iload_n hx hb dX12_putOnTape_3 rfl (lv_at hl 0 rfl) ?_
  refine lv_if_lt (tgt := 45) hx hb dX12_putOnTape_4 (by decide) (fun h9 => absurd h9 (by decide)) (fun _ => ?_)
  refine lv_aload_n hx hb dX12_putOnTape_7 rfl (lv_at hl 1 rfl) ?_
  refine va_get (D := (dC, dI)) (ci := 13) (v := .int 18) (C := RX12) (T := TX12) (N := 12) hx hb hts hi_X12_putOnTape_X12 hown hK hP 0 rfl rfl 1 (by decide) (hts (.fieldLink RX12 43 "TimeMachine" "taped" "I") (List.mem_of_getElem? (i := 1) (by decide +kernel))) (fun _ h9 => h9) rfl dX12_putOnTape_8 ?_
  refine lv_ldc hx hb hown (hts (.constant RX12 9 (32768)) (List.mem_of_getElem? (i := 2) (by decide +kernel))) dX12_putOnTape_11 ?_
  refine lv_icmp_ge (tgt := 39) hx hb dX12_putOnTape_13 (by decide) (fun h9 => absurd h9 (by decide)) (fun _ => ?_)
  refine lv_aload_n hx hb dX12_putOnTape_16 rfl (lv_at hl 1 rfl) ?_
  refine va_get (D := (dC, dI)) (ci := 13) (v := .ref c1) (C := RX12) (T := TX12) (N := 12) hx hb hts hi_X12_putOnTape_X12 hown hK hP 0 rfl rfl 0 (by decide) (hts (.fieldLink RX12 10 "TimeMachine" "tape" "[B") (List.mem_of_getElem? (i := 3) (by decide +kernel))) (fun _ h9 => h9) rfl dX12_putOnTape_17 ?_
  refine lv_aload_n hx hb dX12_putOnTape_20 rfl (lv_at hl 1 rfl) ?_
  refine va_get (D := (dC, dI)) (ci := 13) (v := .int 18) (C := RX12) (T := TX12) (N := 12) hx hb hts hi_X12_putOnTape_X12 hown hK hP 0 rfl rfl 1 (by decide) (hts (.fieldLink RX12 43 "TimeMachine" "taped" "I") (List.mem_of_getElem? (i := 1) (by decide +kernel))) (fun _ h9 => h9) rfl dX12_putOnTape_21 ?_
  refine lv_iload_n hx hb dX12_putOnTape_24 rfl (lv_at hl 2 rfl) ?_
  refine lv_iload_n hx hb dX12_putOnTape_25 rfl (lv_at hl 0 rfl) ?_
  refine lv_ishr hx hb dX12_putOnTape_26 ?_
  refine lv_topi (fun z9 ez9 => ?_)
  refine lv_i2b hx hb dX12_putOnTape_27 rfl ?_
  refine lv_topi (fun z10 ez10 => ?_)
  refine va_bast (i := 18) (x := z10) hx hb hK hP hD hS 1 0 rfl rfl (vp_in_iff.mpr ⟨by decide, by decide⟩) dX12_putOnTape_28 (fun H locs hP hD hS => ?_)
  generalize hf11 : upd f7 (Int32.toNatClampNeg 18) (vp_nar .byte z10) = f11 at hP hD
  have hP : va_P (dC, dI) vwCl [(c0, .inr (13, [.ref c1, .int 18, .int 0, .ref c5, .ref c6, .null, .ref c7, .ref c8, .null, .null, .int 0, .ref c9])), (c1, .inl (c2, 32768, .inl f11))] H := hP
  have hD : va_D A [(c0, .inr (13, [.ref c1, .int 18, .int 0, .ref c5, .ref c6, .null, .ref c7, .ref c8, .null, .null, .int 0, .ref c9])), (c1, .inl (c2, 32768, .inl f11))] := hD
  refine lv_aload_n hx hb dX12_putOnTape_29 rfl (lv_at hl 1 rfl) ?_
  refine lv_dup hx hb dX12_putOnTape_30 rfl ?_
  refine va_get (D := (dC, dI)) (ci := 13) (v := .int 18) (C := RX12) (T := TX12) (N := 12) hx hb hts hi_X12_putOnTape_X12 hown hK hP 0 rfl rfl 1 (by decide) (hts (.fieldLink RX12 43 "TimeMachine" "taped" "I") (List.mem_of_getElem? (i := 1) (by decide +kernel))) (fun _ h9 => h9) rfl dX12_putOnTape_31 ?_
  refine lv_iconst (v := 1) hx hb dX12_putOnTape_34 (by decide) ?_
  refine lv_iadd hx hb dX12_putOnTape_35 ?_
  refine lv_topi (fun z12 ez12 => ?_)
  obtain rfl : z12 = 19 := ez12.trans (by decide)
  refine va_put (D := (dC, dI)) (ci := 13) (v := .int 19) (ty := .int) (C := RX12) (T := TX12) (N := 12) hx hb hts hi_X12_putOnTape_X12 tyX12 tyX12_ok nmX12 hown hK hP hD hS 0 rfl rfl 1 (by decide) (hts (.fieldLink RX12 43 "TimeMachine" "taped" "I") (List.mem_of_getElem? (i := 1) (by decide +kernel))) (fun _ h9 => h9) rfl (by decide +kernel) rfl rfl (Nat.le_of_ble_eq_true rfl) dX12_putOnTape_36 (fun H locs hP hD hS => ?_)
  have hP : va_P (dC, dI) vwCl [(c0, .inr (13, [.ref c1, .int 19, .int 0, .ref c5, .ref c6, .null, .ref c7, .ref c8, .null, .null, .int 0, .ref c9])), (c1, .inl (c2, 32768, .inl f11))] H := hP
  have hD : va_D A [(c0, .inr (13, [.ref c1, .int 19, .int 0, .ref c5, .ref c6, .null, .ref c7, .ref c8, .null, .null, .int 0, .ref c9])), (c1, .inl (c2, 32768, .inl f11))] := hD
  refine lv_iinc (v := 0) (lv' := [(2, .int 0), (0, .ref c0), (1, .int c4)]) hx hb dX12_putOnTape_39 hl (k := 0) rfl (by decide) (by decide) rfl (fun ls hl => ?_)
  refine lv_goto (tgt := 3) hx hb dX12_putOnTape_42 (by decide) ?_
  refine lv_iload_n hx hb dX12_putOnTape_3 rfl (lv_at hl 0 rfl) ?_
  refine lv_if_lt (tgt := 45) hx hb dX12_putOnTape_4 (by decide) (fun h9 => absurd h9 (by decide)) (fun _ => ?_)
  refine lv_aload_n hx hb dX12_putOnTape_7 rfl (lv_at hl 1 rfl) ?_
  refine va_get (D := (dC, dI)) (ci := 13) (v := .int 19) (C := RX12) (T := TX12) (N := 12) hx hb hts hi_X12_putOnTape_X12 hown hK hP 0 rfl rfl 1 (by decide) (hts (.fieldLink RX12 43 "TimeMachine" "taped" "I") (List.mem_of_getElem? (i := 1) (by decide +kernel))) (fun _ h9 => h9) rfl dX12_putOnTape_8 ?_
  refine lv_ldc hx hb hown (hts (.constant RX12 9 (32768)) (List.mem_of_getElem? (i := 2) (by decide +kernel))) dX12_putOnTape_11 ?_
  refine lv_icmp_ge (tgt := 39) hx hb dX12_putOnTape_13 (by decide) (fun h9 => absurd h9 (by decide)) (fun _ => ?_)
  refine lv_aload_n hx hb dX12_putOnTape_16 rfl (lv_at hl 1 rfl) ?_
  refine va_get (D := (dC, dI)) (ci := 13) (v := .ref c1) (C := RX12) (T := TX12) (N := 12) hx hb hts hi_X12_putOnTape_X12 hown hK hP 0 rfl rfl 0 (by decide) (hts (.fieldLink RX12 10 "TimeMachine" "tape" "[B") (List.mem_of_getElem? (i := 3) (by decide +kernel))) (fun _ h9 => h9) rfl dX12_putOnTape_17 ?_
  refine lv_aload_n hx hb dX12_putOnTape_20 rfl (lv_at hl 1 rfl) ?_
  refine va_get (D := (dC, dI)) (ci := 13) (v := .int 19) (C := RX12) (T := TX12) (N := 12) hx hb hts hi_X12_putOnTape_X12 hown hK hP 0 rfl rfl 1 (by decide) (hts (.fieldLink RX12 43 "TimeMachine" "taped" "I") (List.mem_of_getElem? (i := 1) (by decide +kernel))) (fun _ h9 => h9) rfl dX12_putOnTape_21 ?_
  refine lv_iload_n hx hb dX12_putOnTape_24 rfl (lv_at hl 2 rfl) ?_
  refine lv_iload_n hx hb dX12_putOnTape_25 rfl (lv_at hl 0 rfl) ?_
  refine lv_ishr hx hb dX12_putOnTape_26 ?_
  refine lv_topi (fun z13 ez13 => ?_)
  refine lv_i2b hx hb dX12_putOnTape_27 rfl ?_
  refine lv_topi (fun z14 ez14 => ?_)
  refine va_bast (i := 19) (x := z14) hx hb hK hP hD hS 1 0 rfl rfl (vp_in_iff.mpr ⟨by decide, by decide⟩) dX12_putOnTape_28 (fun H locs hP hD hS => ?_)
  generalize hf15 : upd f11 (Int32.toNatClampNeg 19) (vp_nar .byte z14) = f15 at hP hD
  have hP : va_P (dC, dI) vwCl [(c0, .inr (13, [.ref c1, .int 19, .int 0, .ref c5, .ref c6, .null, .ref c7, .ref c8, .null, .null, .int 0, .ref c9])), (c1, .inl (c2, 32768, .inl f15))] H := hP
  have hD : va_D A [(c0, .inr (13, [.ref c1, .int 19, .int 0, .ref c5, .ref c6, .null, .ref c7, .ref c8, .null, .null, .int 0, .ref c9])), (c1, .inl (c2, 32768, .inl f15))] := hD
  refine lv_aload_n hx hb dX12_putOnTape_29 rfl (lv_at hl 1 rfl) ?_
  refine lv_dup hx hb dX12_putOnTape_30 rfl ?_
  refine va_get (D := (dC, dI)) (ci := 13) (v := .int 19) (C := RX12) (T := TX12) (N := 12) hx hb hts hi_X12_putOnTape_X12 hown hK hP 0 rfl rfl 1 (by decide) (hts (.fieldLink RX12 43 "TimeMachine" "taped" "I") (List.mem_of_getElem? (i := 1) (by decide +kernel))) (fun _ h9 => h9) rfl dX12_putOnTape_31 ?_
  refine lv_iconst (v := 1) hx hb dX12_putOnTape_34 (by decide) ?_
  refine lv_iadd hx hb dX12_putOnTape_35 ?_
  refine lv_topi (fun z16 ez16 => ?_)
  obtain rfl : z16 = 20 := ez16.trans (by decide)
  refine va_put (D := (dC, dI)) (ci := 13) (v := .int 20) (ty := .int) (C := RX12) (T := TX12) (N := 12) hx hb hts hi_X12_putOnTape_X12 tyX12 tyX12_ok nmX12 hown hK hP hD hS 0 rfl rfl 1 (by decide) (hts (.fieldLink RX12 43 "TimeMachine" "taped" "I") (List.mem_of_getElem? (i := 1) (by decide +kernel))) (fun _ h9 => h9) rfl (by decide +kernel) rfl rfl (Nat.le_of_ble_eq_true rfl) dX12_putOnTape_36 (fun H locs hP hD hS => ?_)
  have hP : va_P (dC, dI) vwCl [(c0, .inr (13, [.ref c1, .int 20, .int 0, .ref c5, .ref c6, .null, .ref c7, .ref c8, .null, .null, .int 0, .ref c9])), (c1, .inl (c2, 32768, .inl f15))] H := hP
  have hD : va_D A [(c0, .inr (13, [.ref c1, .int 20, .int 0, .ref c5, .ref c6, .null, .ref c7, .ref c8, .null, .null, .int 0, .ref c9])), (c1, .inl (c2, 32768, .inl f15))] := hD
  refine lv_iinc (v := (-8)) (lv' := [(2, .int (-8)), (0, .ref c0), (1, .int c4)]) hx hb dX12_putOnTape_39 hl (k := 0) rfl (by decide) (by decide) rfl (fun ls hl => ?_)
  refine lv_goto (tgt := 3) hx hb dX12_putOnTape_42 (by decide) ?_
  refine lv_iload_n hx hb dX12_putOnTape_3 rfl (lv_at hl 0 rfl) ?_
  refine lv_if_lt (tgt := 45) hx hb dX12_putOnTape_4 (by decide) (fun _ => ?_) (fun h9 => absurd (by decide) h9)
  have hP9 := hP.sub (ws' := [(c0, .inr (13, [.ref c1, .int 20, .int 0, .ref c5, .ref c6, .null, .ref c7, .ref c8, .null, .null, .int 0, .ref c9])), (c1, .inl (c2, 32768, .inl f15))]) [0, 1] rfl
  have hD9 := hD.sub (ws' := [(c0, .inr (13, [.ref c1, .int 20, .int 0, .ref c5, .ref c6, .null, .ref c7, .ref c8, .null, .null, .int 0, .ref c9])), (c1, .inl (c2, 32768, .inl f15))]) [0, 1] (by decide) rfl
  have hK9 := hK.sub (tys' := [(c2, .byte)]) [0] rfl
  refine W.widen (k := 0) (n := 0) (by decide +kernel) (by decide +kernel) ?_
  exact W.vret hx hb hr (fun t ht hW => ⟨⟨(), rfl, trivial, f15, by rw [ht]; exact hP9, va_K.moved hW.alike hK9, hD9⟩, hS.F ht⟩) hS.2.2 dX12_putOnTape_45
theorem hi_X12_feed_X12 : ∀ w ∈ u_ws RX12 TX12 12, w ∈ wsX12_feed := by decide +kernel
set_option maxHeartbeats 40000000 in
set_option maxRecDepth 100000 in
theorem k_X12_feed (l : Launch) (dC : Nat → ClassId) (dI : Nat → Nat → Nat) (c0 : Nat) (c1 : Nat) (c2 : ClassId) (c3 : Int32) (c4 : Int32) (c5 : Int32) (c6 : Int32) (c7 : Int32) (c8 : Nat) (c9 : Nat) (c10 : Nat) (c11 : Nat) (c12 : Nat) (sz : Nat) : Met l yX12_feed wsX12_feed ({ frames := 1, cells := 0, slots := 0, locals := 22 }) (va_Pc [.ref c0, .int c3, .int c4, .int c5, .int c6, .int c7] (fun U => U.heap.size = sz ∧ va_P (dC, dI) vwCl [(c0, .inr (13, [.ref c1, .int 0, .int 0, .ref c8, .ref c9, .null, .ref c10, .ref c11, .null, .null, .int 0, .ref c12])), (c1, .inl (c2, 32768, .inl (fun _ => 0)))] U.heap ∧ va_K (dC, dI) vwCl [(c2, .byte)] U ∧ va_D (fun _ => True) [(c0, .inr (13, [.ref c1, .int 0, .int 0, .ref c8, .ref c9, .null, .ref c10, .ref c11, .null, .null, .int 0, .ref c12])), (c1, .inl (c2, 32768, .inl (fun _ => 0)))] ∧ nv_E (va_A [(c0, .inr (13, [.ref c1, .int 0, .int 0, .ref c8, .ref c9, .null, .ref c10, .ref c11, .null, .null, .int 0, .ref c12])), (c1, .inl (c2, 32768, .inl (fun _ => 0)))] sz) U)) (va_Qi (fun r _ => r = 20) (fun (_ : Unit) t => ∃ (f10 : Nat → Int32), va_P (dC, dI) vwCl [(c0, .inr (13, [.ref c1, .int 20, .int 1, .ref c8, .ref c9, .null, .ref c10, .ref c11, .null, .null, .int 0, .ref c12])), (c1, .inl (c2, 32768, .inl f10))] t.heap ∧ va_K (dC, dI) vwCl [(c2, .byte)] t ∧ va_D (va_A [(c0, .inr (13, [.ref c1, .int 0, .int 0, .ref c8, .ref c9, .null, .ref c10, .ref c11, .null, .null, .int 0, .ref c12])), (c1, .inl (c2, 32768, .inl (fun _ => 0)))] sz) [(c0, .inr (13, [.ref c1, .int 20, .int 1, .ref c8, .ref c9, .null, .ref c10, .ref c11, .null, .null, .int 0, .ref c12])), (c1, .inl (c2, 32768, .inl f10))]) (va_A [(c0, .inr (13, [.ref c1, .int 0, .int 0, .ref c8, .ref c9, .null, .ref c10, .ref c11, .null, .null, .int 0, .ref c12])), (c1, .inl (c2, 32768, .inl (fun _ => 0)))] sz)) 0 0 (va_A [(c0, .inr (13, [.ref c1, .int 0, .int 0, .ref c8, .ref c9, .null, .ref c10, .ref c11, .null, .null, .int 0, .ref c12])), (c1, .inl (c2, 32768, .inl (fun _ => 0)))] sz) := by
  refine Met.ofW (cc := cX12_feed) (maxL := 6) (ret := (some .int)) (by decide) rfl ?_
  intro p e s m args below meth c s₁ B hml hv
  obtain ⟨rfl, hsz, hP, hK, hD0, hN⟩ := hv
  have hx := B.exec
  have hb := B.bytes
  have hr := B.returns
  have hts := atoms_spec (ws := wsX12_feed) B.pre
  have hown : s.vm.findClass RX12 = some m.cls := findClass_of_methodNamed B.named
  have hlocks := B.notSynchronized
  subst hsz
  have hD := hD0.self (sz := s.heap.size)
  generalize hAe : va_A [(c0, .inr (13, [.ref c1, .int 0, .int 0, .ref c8, .ref c9, .null, .ref c10, .ref c11, .null, .null, .int 0, .ref c12])), (c1, .inl (c2, 32768, .inl (fun _ => 0)))] s.heap.size = A at hD hN ⊢
  have hA : ∀ q : Nat, s.heap.size ≤ q → A q := fun q h => by rw [← hAe]; exact Or.inr h
  have hS : va_S A s.heap s.heap [] := va_S.rf
  have hl := lv_entry ([.ref c0, .int c3, .int c4, .int c5, .int c6, .int c7]) (n := 6) (Nat.le_of_ble_eq_true rfl)
  rw [lg_entry_eq]
  generalize (lg_sl ([.ref c0, .int c3, .int c4, .int c5, .int c6, .int c7]) ++ List.replicate (6 - (lg_sl ([.ref c0, .int c3, .int c4, .int c5, .int c6, .int c7])).length) Slot.unset).toArray = ls at hl ⊢
  have hl : lv_has ls 6 [(0, .ref c0), (1, .int c3), (2, .int c4), (3, .int c5), (4, .int c6), (5, .int c7)] := hl
  refine lv_aload_n hx hb dX12_feed_0 rfl (lv_at hl 0 rfl) ?_
  refine va_get (D := (dC, dI)) (ci := 13) (v := .int 0) (C := RX12) (T := TX12) (N := 12) hx hb hts hi_X12_feed_X12 hown hK hP 0 rfl rfl 1 (by decide) (hts (.fieldLink RX12 43 "TimeMachine" "taped" "I") (List.mem_of_getElem? (i := 1) (by decide +kernel))) (fun _ h9 => h9) rfl dX12_feed_1 ?_
  refine lv_bipush (v := 20) hx hb dX12_feed_4 (by decide) ?_
  refine lv_iadd hx hb dX12_feed_6 ?_
  refine lv_topi (fun z1 ez1 => ?_)
  obtain rfl : z1 = 20 := ez1.trans (by decide)
  refine lv_ldc hx hb hown (hts (.constant RX12 9 (32768)) (List.mem_of_getElem? (i := 2) (by decide +kernel))) dX12_feed_7 ?_
  refine lv_icmp_le (tgt := 14) hx hb dX12_feed_9 (by decide) (fun _ => ?_) (fun h9 => absurd (by decide) h9)
  refine lv_aload_n hx hb dX12_feed_14 rfl (lv_at hl 0 rfl) ?_
  refine lv_iload_n hx hb dX12_feed_15 rfl (lv_at hl 1 rfl) ?_
  have hPc := hP.sub (ws' := [(c0, .inr (13, [.ref c1, .int 0, .int 0, .ref c8, .ref c9, .null, .ref c10, .ref c11, .null, .null, .int 0, .ref c12])), (c1, .inl (c2, 32768, .inl (fun _ => 0)))]) [0, 1] rfl
  have hDc := hD.sub (ws' := [(c0, .inr (13, [.ref c1, .int 0, .int 0, .ref c8, .ref c9, .null, .ref c10, .ref c11, .null, .null, .int 0, .ref c12])), (c1, .inl (c2, 32768, .inl (fun _ => 0)))]) [0, 1] (by decide) rfl
  have hKc := hK.sub (tys' := [(c2, .byte)]) [0] rfl
  have hFc := va_free (wc := [(c0, .inr (13, [.ref c1, .int 0, .int 0, .ref c8, .ref c9, .null, .ref c10, .ref c11, .null, .null, .int 0, .ref c12])), (c1, .inl (c2, 32768, .inl (fun _ => 0)))]) hD hS hA [0, 1] rfl
  refine va_callv (va_runV (As := [.int c3]) (rest := []) ⟨hx, hb, hml, hown, hts⟩ (k_X12_putOnTape l dC dI c0 c1 c2 c3 c8 c9 c10 c11 c12 s.heap.size) (cwV 1 hts gX12_feed_X12_putOnTape rfl rfl rfl (by decide +kernel) ⟨Nat.le_of_ble_eq_true rfl, Nat.le_of_ble_eq_true rfl⟩) ⟨fun a U g mk q => by obtain ⟨q0, q1, qP, qK, qD, qN⟩ := q; exact ⟨q0, q1, qP, va_K.moved (u := U) (U := U.calling g mk a) (Vm.Alike.refl U.vm) qK, qD, nv_same rfl rfl qN⟩, va_recv hKc hPc (ci := 13) (q0 := 0) rfl rfl, fun U hU hW => ⟨rfl, by rw [hU], by rw [hU]; exact hPc, va_K.moved hW.alike hKc, hDc.weaken (fun _ _ _ _ => trivial), nv_call hS hFc hU hW hN⟩⟩ rfl rfl hl.1 rfl (lv_room (Nat.le_of_ble_eq_true rfl)) dX12_feed_16 ⟨by decide +kernel, by decide +kernel⟩) hS (fun q _ h => hFc q h) hFc (fun u t H1 locs ht hvm hw hB hz1 hk1 hS => ?_)
  obtain ⟨f2, hP1, hK1, hD1⟩ := hB
  rw [ht] at hP1
  have hK1 := va_K.moved hvm.symm hK1
  obtain ⟨hP, hD⟩ := va_join (wr := []) (w1 := [(c0, .inr (13, [.ref c1, .int 4, .int 0, .ref c8, .ref c9, .null, .ref c10, .ref c11, .null, .null, .int 0, .ref c12])), (c1, .inl (c2, 32768, .inl f2))]) hP hD [0, 1] [] rfl rfl (by decide) (by decide) hk1 hFc hP1 hD1
  have hK := (hK.sub (tys' := []) [] rfl).app hK1
  generalize H1 = H at hP hS ⊢
  have hP : va_P (dC, dI) vwCl [(c0, .inr (13, [.ref c1, .int 4, .int 0, .ref c8, .ref c9, .null, .ref c10, .ref c11, .null, .null, .int 0, .ref c12])), (c1, .inl (c2, 32768, .inl f2))] H := hP
  have hD : va_D A [(c0, .inr (13, [.ref c1, .int 4, .int 0, .ref c8, .ref c9, .null, .ref c10, .ref c11, .null, .null, .int 0, .ref c12])), (c1, .inl (c2, 32768, .inl f2))] := hD
  have hK : va_K (dC, dI) vwCl [(c2, .byte)] s := hK
  refine W.widen (k := 0) (n := 0) (by decide +kernel) (by decide +kernel) ?_
  refine lv_aload_n hx hb dX12_feed_19 rfl (lv_at hl 0 rfl) ?_
  refine lv_iload_n hx hb dX12_feed_20 rfl (lv_at hl 2 rfl) ?_
  have hPc := hP.sub (ws' := [(c0, .inr (13, [.ref c1, .int 4, .int 0, .ref c8, .ref c9, .null, .ref c10, .ref c11, .null, .null, .int 0, .ref c12])), (c1, .inl (c2, 32768, .inl f2))]) [0, 1] rfl
  have hDc := hD.sub (ws' := [(c0, .inr (13, [.ref c1, .int 4, .int 0, .ref c8, .ref c9, .null, .ref c10, .ref c11, .null, .null, .int 0, .ref c12])), (c1, .inl (c2, 32768, .inl f2))]) [0, 1] (by decide) rfl
  have hKc := hK.sub (tys' := [(c2, .byte)]) [0] rfl
  have hFc := va_free (wc := [(c0, .inr (13, [.ref c1, .int 4, .int 0, .ref c8, .ref c9, .null, .ref c10, .ref c11, .null, .null, .int 0, .ref c12])), (c1, .inl (c2, 32768, .inl f2))]) hD hS hA [0, 1] rfl
  refine va_callv (va_runV (As := [.int c4]) (rest := []) ⟨hx, hb, hml, hown, hts⟩ (k_X12_putOnTape_v1 l dC dI c0 c1 c2 f2 c4 c8 c9 c10 c11 c12 H.size) (cwV 1 hts gX12_feed_X12_putOnTape rfl rfl rfl (by decide +kernel) ⟨Nat.le_of_ble_eq_true rfl, Nat.le_of_ble_eq_true rfl⟩) ⟨fun a U g mk q => by obtain ⟨q0, q1, qP, qK, qD, qN⟩ := q; exact ⟨q0, q1, qP, va_K.moved (u := U) (U := U.calling g mk a) (Vm.Alike.refl U.vm) qK, qD, nv_same rfl rfl qN⟩, va_recv hKc hPc (ci := 13) (q0 := 0) rfl rfl, fun U hU hW => ⟨rfl, by rw [hU], by rw [hU]; exact hPc, va_K.moved hW.alike hKc, hDc.weaken (fun _ _ _ _ => trivial), nv_call hS hFc hU hW hN⟩⟩ rfl rfl hl.1 rfl (lv_room (Nat.le_of_ble_eq_true rfl)) dX12_feed_21 ⟨by decide +kernel, by decide +kernel⟩) hS (fun q _ h => hFc q h) hFc (fun u t H1 locs ht hvm hw hB hz1 hk1 hS => ?_)
  obtain ⟨f4, hP1, hK1, hD1⟩ := hB
  rw [ht] at hP1
  have hK1 := va_K.moved hvm.symm hK1
  obtain ⟨hP, hD⟩ := va_join (wr := []) (w1 := [(c0, .inr (13, [.ref c1, .int 8, .int 0, .ref c8, .ref c9, .null, .ref c10, .ref c11, .null, .null, .int 0, .ref c12])), (c1, .inl (c2, 32768, .inl f4))]) hP hD [0, 1] [] rfl rfl (by decide) (by decide) hk1 hFc hP1 hD1
  have hK := (hK.sub (tys' := []) [] rfl).app hK1
  generalize H1 = H at hP hS ⊢
  have hP : va_P (dC, dI) vwCl [(c0, .inr (13, [.ref c1, .int 8, .int 0, .ref c8, .ref c9, .null, .ref c10, .ref c11, .null, .null, .int 0, .ref c12])), (c1, .inl (c2, 32768, .inl f4))] H := hP
  have hD : va_D A [(c0, .inr (13, [.ref c1, .int 8, .int 0, .ref c8, .ref c9, .null, .ref c10, .ref c11, .null, .null, .int 0, .ref c12])), (c1, .inl (c2, 32768, .inl f4))] := hD
  have hK : va_K (dC, dI) vwCl [(c2, .byte)] s := hK
  refine W.widen (k := 0) (n := 0) (by decide +kernel) (by decide +kernel) ?_
  refine lv_aload_n hx hb dX12_feed_24 rfl (lv_at hl 0 rfl) ?_
  refine lv_iload_n hx hb dX12_feed_25 rfl (lv_at hl 3 rfl) ?_
  have hPc := hP.sub (ws' := [(c0, .inr (13, [.ref c1, .int 8, .int 0, .ref c8, .ref c9, .null, .ref c10, .ref c11, .null, .null, .int 0, .ref c12])), (c1, .inl (c2, 32768, .inl f4))]) [0, 1] rfl
  have hDc := hD.sub (ws' := [(c0, .inr (13, [.ref c1, .int 8, .int 0, .ref c8, .ref c9, .null, .ref c10, .ref c11, .null, .null, .int 0, .ref c12])), (c1, .inl (c2, 32768, .inl f4))]) [0, 1] (by decide) rfl
  have hKc := hK.sub (tys' := [(c2, .byte)]) [0] rfl
  have hFc := va_free (wc := [(c0, .inr (13, [.ref c1, .int 8, .int 0, .ref c8, .ref c9, .null, .ref c10, .ref c11, .null, .null, .int 0, .ref c12])), (c1, .inl (c2, 32768, .inl f4))]) hD hS hA [0, 1] rfl
  refine va_callv (va_runV (As := [.int c5]) (rest := []) ⟨hx, hb, hml, hown, hts⟩ (k_X12_putOnTape_v2 l dC dI c0 c1 c2 f4 c5 c8 c9 c10 c11 c12 H.size) (cwV 1 hts gX12_feed_X12_putOnTape rfl rfl rfl (by decide +kernel) ⟨Nat.le_of_ble_eq_true rfl, Nat.le_of_ble_eq_true rfl⟩) ⟨fun a U g mk q => by obtain ⟨q0, q1, qP, qK, qD, qN⟩ := q; exact ⟨q0, q1, qP, va_K.moved (u := U) (U := U.calling g mk a) (Vm.Alike.refl U.vm) qK, qD, nv_same rfl rfl qN⟩, va_recv hKc hPc (ci := 13) (q0 := 0) rfl rfl, fun U hU hW => ⟨rfl, by rw [hU], by rw [hU]; exact hPc, va_K.moved hW.alike hKc, hDc.weaken (fun _ _ _ _ => trivial), nv_call hS hFc hU hW hN⟩⟩ rfl rfl hl.1 rfl (lv_room (Nat.le_of_ble_eq_true rfl)) dX12_feed_26 ⟨by decide +kernel, by decide +kernel⟩) hS (fun q _ h => hFc q h) hFc (fun u t H1 locs ht hvm hw hB hz1 hk1 hS => ?_)
  obtain ⟨f6, hP1, hK1, hD1⟩ := hB
  rw [ht] at hP1
  have hK1 := va_K.moved hvm.symm hK1
  obtain ⟨hP, hD⟩ := va_join (wr := []) (w1 := [(c0, .inr (13, [.ref c1, .int 12, .int 0, .ref c8, .ref c9, .null, .ref c10, .ref c11, .null, .null, .int 0, .ref c12])), (c1, .inl (c2, 32768, .inl f6))]) hP hD [0, 1] [] rfl rfl (by decide) (by decide) hk1 hFc hP1 hD1
  have hK := (hK.sub (tys' := []) [] rfl).app hK1
  generalize H1 = H at hP hS ⊢
  have hP : va_P (dC, dI) vwCl [(c0, .inr (13, [.ref c1, .int 12, .int 0, .ref c8, .ref c9, .null, .ref c10, .ref c11, .null, .null, .int 0, .ref c12])), (c1, .inl (c2, 32768, .inl f6))] H := hP
  have hD : va_D A [(c0, .inr (13, [.ref c1, .int 12, .int 0, .ref c8, .ref c9, .null, .ref c10, .ref c11, .null, .null, .int 0, .ref c12])), (c1, .inl (c2, 32768, .inl f6))] := hD
  have hK : va_K (dC, dI) vwCl [(c2, .byte)] s := hK
  refine W.widen (k := 0) (n := 0) (by decide +kernel) (by decide +kernel) ?_
  refine lv_aload_n hx hb dX12_feed_29 rfl (lv_at hl 0 rfl) ?_
  refine lv_iload hx hb dX12_feed_30 (lv_at hl 4 rfl) ?_
  have hPc := hP.sub (ws' := [(c0, .inr (13, [.ref c1, .int 12, .int 0, .ref c8, .ref c9, .null, .ref c10, .ref c11, .null, .null, .int 0, .ref c12])), (c1, .inl (c2, 32768, .inl f6))]) [0, 1] rfl
  have hDc := hD.sub (ws' := [(c0, .inr (13, [.ref c1, .int 12, .int 0, .ref c8, .ref c9, .null, .ref c10, .ref c11, .null, .null, .int 0, .ref c12])), (c1, .inl (c2, 32768, .inl f6))]) [0, 1] (by decide) rfl
  have hKc := hK.sub (tys' := [(c2, .byte)]) [0] rfl
  have hFc := va_free (wc := [(c0, .inr (13, [.ref c1, .int 12, .int 0, .ref c8, .ref c9, .null, .ref c10, .ref c11, .null, .null, .int 0, .ref c12])), (c1, .inl (c2, 32768, .inl f6))]) hD hS hA [0, 1] rfl
  refine va_callv (va_runV (As := [.int c6]) (rest := []) ⟨hx, hb, hml, hown, hts⟩ (k_X12_putOnTape_v3 l dC dI c0 c1 c2 f6 c6 c8 c9 c10 c11 c12 H.size) (cwV 1 hts gX12_feed_X12_putOnTape rfl rfl rfl (by decide +kernel) ⟨Nat.le_of_ble_eq_true rfl, Nat.le_of_ble_eq_true rfl⟩) ⟨fun a U g mk q => by obtain ⟨q0, q1, qP, qK, qD, qN⟩ := q; exact ⟨q0, q1, qP, va_K.moved (u := U) (U := U.calling g mk a) (Vm.Alike.refl U.vm) qK, qD, nv_same rfl rfl qN⟩, va_recv hKc hPc (ci := 13) (q0 := 0) rfl rfl, fun U hU hW => ⟨rfl, by rw [hU], by rw [hU]; exact hPc, va_K.moved hW.alike hKc, hDc.weaken (fun _ _ _ _ => trivial), nv_call hS hFc hU hW hN⟩⟩ rfl rfl hl.1 rfl (lv_room (Nat.le_of_ble_eq_true rfl)) dX12_feed_32 ⟨by decide +kernel, by decide +kernel⟩) hS (fun q _ h => hFc q h) hFc (fun u t H1 locs ht hvm hw hB hz1 hk1 hS => ?_)
  obtain ⟨f8, hP1, hK1, hD1⟩ := hB
  rw [ht] at hP1
  have hK1 := va_K.moved hvm.symm hK1
  obtain ⟨hP, hD⟩ := va_join (wr := []) (w1 := [(c0, .inr (13, [.ref c1, .int 16, .int 0, .ref c8, .ref c9, .null, .ref c10, .ref c11, .null, .null, .int 0, .ref c12])), (c1, .inl (c2, 32768, .inl f8))]) hP hD [0, 1] [] rfl rfl (by decide) (by decide) hk1 hFc hP1 hD1
  have hK := (hK.sub (tys' := []) [] rfl).app hK1
  generalize H1 = H at hP hS ⊢
  have hP : va_P (dC, dI) vwCl [(c0, .inr (13, [.ref c1, .int 16, .int 0, .ref c8, .ref c9, .null, .ref c10, .ref c11, .null, .null, .int 0, .ref c12])), (c1, .inl (c2, 32768, .inl f8))] H := hP
  have hD : va_D A [(c0, .inr (13, [.ref c1, .int 16, .int 0, .ref c8, .ref c9, .null, .ref c10, .ref c11, .null, .null, .int 0, .ref c12])), (c1, .inl (c2, 32768, .inl f8))] := hD
  have hK : va_K (dC, dI) vwCl [(c2, .byte)] s := hK
  refine W.widen (k := 0) (n := 0) (by decide +kernel) (by decide +kernel) ?_
  refine lv_aload_n hx hb dX12_feed_35 rfl (lv_at hl 0 rfl) ?_
  refine lv_iload hx hb dX12_feed_36 (lv_at hl 5 rfl) ?_
  have hPc := hP.sub (ws' := [(c0, .inr (13, [.ref c1, .int 16, .int 0, .ref c8, .ref c9, .null, .ref c10, .ref c11, .null, .null, .int 0, .ref c12])), (c1, .inl (c2, 32768, .inl f8))]) [0, 1] rfl
  have hDc := hD.sub (ws' := [(c0, .inr (13, [.ref c1, .int 16, .int 0, .ref c8, .ref c9, .null, .ref c10, .ref c11, .null, .null, .int 0, .ref c12])), (c1, .inl (c2, 32768, .inl f8))]) [0, 1] (by decide) rfl
  have hKc := hK.sub (tys' := [(c2, .byte)]) [0] rfl
  have hFc := va_free (wc := [(c0, .inr (13, [.ref c1, .int 16, .int 0, .ref c8, .ref c9, .null, .ref c10, .ref c11, .null, .null, .int 0, .ref c12])), (c1, .inl (c2, 32768, .inl f8))]) hD hS hA [0, 1] rfl
  refine va_callv (va_runV (As := [.int c7]) (rest := []) ⟨hx, hb, hml, hown, hts⟩ (k_X12_putOnTape_v4 l dC dI c0 c1 c2 f8 c7 c8 c9 c10 c11 c12 H.size) (cwV 1 hts gX12_feed_X12_putOnTape rfl rfl rfl (by decide +kernel) ⟨Nat.le_of_ble_eq_true rfl, Nat.le_of_ble_eq_true rfl⟩) ⟨fun a U g mk q => by obtain ⟨q0, q1, qP, qK, qD, qN⟩ := q; exact ⟨q0, q1, qP, va_K.moved (u := U) (U := U.calling g mk a) (Vm.Alike.refl U.vm) qK, qD, nv_same rfl rfl qN⟩, va_recv hKc hPc (ci := 13) (q0 := 0) rfl rfl, fun U hU hW => ⟨rfl, by rw [hU], by rw [hU]; exact hPc, va_K.moved hW.alike hKc, hDc.weaken (fun _ _ _ _ => trivial), nv_call hS hFc hU hW hN⟩⟩ rfl rfl hl.1 rfl (lv_room (Nat.le_of_ble_eq_true rfl)) dX12_feed_38 ⟨by decide +kernel, by decide +kernel⟩) hS (fun q _ h => hFc q h) hFc (fun u t H1 locs ht hvm hw hB hz1 hk1 hS => ?_)
  obtain ⟨f10, hP1, hK1, hD1⟩ := hB
  rw [ht] at hP1
  have hK1 := va_K.moved hvm.symm hK1
  obtain ⟨hP, hD⟩ := va_join (wr := []) (w1 := [(c0, .inr (13, [.ref c1, .int 20, .int 0, .ref c8, .ref c9, .null, .ref c10, .ref c11, .null, .null, .int 0, .ref c12])), (c1, .inl (c2, 32768, .inl f10))]) hP hD [0, 1] [] rfl rfl (by decide) (by decide) hk1 hFc hP1 hD1
  have hK := (hK.sub (tys' := []) [] rfl).app hK1
  generalize H1 = H at hP hS ⊢
  have hP : va_P (dC, dI) vwCl [(c0, .inr (13, [.ref c1, .int 20, .int 0, .ref c8, .ref c9, .null, .ref c10, .ref c11, .null, .null, .int 0, .ref c12])), (c1, .inl (c2, 32768, .inl f10))] H := hP
  have hD : va_D A [(c0, .inr (13, [.ref c1, .int 20, .int 0, .ref c8, .ref c9, .null, .ref c10, .ref c11, .null, .null, .int 0, .ref c12])), (c1, .inl (c2, 32768, .inl f10))] := hD
  have hK : va_K (dC, dI) vwCl [(c2, .byte)] s := hK
  refine W.widen (k := 0) (n := 0) (by decide +kernel) (by decide +kernel) ?_
  refine lv_aload_n hx hb dX12_feed_41 rfl (lv_at hl 0 rfl) ?_
  refine lv_iconst (v := 1) hx hb dX12_feed_42 (by decide) ?_
  refine va_put (D := (dC, dI)) (ci := 13) (v := .int 1) (ty := .boolean) (C := RX12) (T := TX12) (N := 12) hx hb hts hi_X12_feed_X12 tyX12 tyX12_ok nmX12 hown hK hP hD hS 0 rfl rfl 2 (by decide) (hts (.fieldLink RX12 51 "TimeMachine" "fresh" "Z") (List.mem_of_getElem? (i := 3) (by decide +kernel))) (fun _ h9 => h9) rfl (by decide +kernel) rfl rfl (Nat.le_of_ble_eq_true rfl) dX12_feed_43 (fun H locs hP hD hS => ?_)
  have hP : va_P (dC, dI) vwCl [(c0, .inr (13, [.ref c1, .int 20, .int 1, .ref c8, .ref c9, .null, .ref c10, .ref c11, .null, .null, .int 0, .ref c12])), (c1, .inl (c2, 32768, .inl f10))] H := hP
  have hD : va_D A [(c0, .inr (13, [.ref c1, .int 20, .int 1, .ref c8, .ref c9, .null, .ref c10, .ref c11, .null, .null, .int 0, .ref c12])), (c1, .inl (c2, 32768, .inl f10))] := hD
  refine lv_aload_n hx hb dX12_feed_46 rfl (lv_at hl 0 rfl) ?_
  refine va_get (D := (dC, dI)) (ci := 13) (v := .int 20) (C := RX12) (T := TX12) (N := 12) hx hb hts hi_X12_feed_X12 hown hK hP 0 rfl rfl 1 (by decide) (hts (.fieldLink RX12 43 "TimeMachine" "taped" "I") (List.mem_of_getElem? (i := 1) (by decide +kernel))) (fun _ h9 => h9) rfl dX12_feed_47 ?_
  have hP9 := hP.sub (ws' := [(c0, .inr (13, [.ref c1, .int 20, .int 1, .ref c8, .ref c9, .null, .ref c10, .ref c11, .null, .null, .int 0, .ref c12])), (c1, .inl (c2, 32768, .inl f10))]) [0, 1] rfl
  have hD9 := hD.sub (ws' := [(c0, .inr (13, [.ref c1, .int 20, .int 1, .ref c8, .ref c9, .null, .ref c10, .ref c11, .null, .null, .int 0, .ref c12])), (c1, .inl (c2, 32768, .inl f10))]) [0, 1] (by decide) rfl
  have hK9 := hK.sub (tys' := [(c2, .byte)]) [0] rfl
  refine W.widen (k := 0) (n := 0) (by decide +kernel) (by decide +kernel) ?_
  exact W.iret (v := 20) hx hb hr (fun t ht hW => ⟨⟨20, (), rfl, rfl, f10, by rw [ht]; exact hP9, va_K.moved hW.alike hK9, hD9⟩, hS.F ht⟩) hS.2.2 dX12_feed_50
