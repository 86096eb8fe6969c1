theorem hi_X12_end_X12 : ∀ w ∈ u_ws RX12 TX12 12, w ∈ wsX12_end := by decide +kernel
set_option maxHeartbeats 40000000 in
set_option maxRecDepth 100000 in
theorem k_X12_end (l : Launch) (dC : Nat → ClassId) (dI : Nat → Nat → Nat) (c0 : Nat) (c1 : Int32) (c2 : Nat) (c3 : Nat) (c4 : Nat) (c5 : Nat) (c6 : Nat) (c7 : Nat) (sz : Nat) : Met l yX12_end wsX12_end ({ frames := 0, cells := 0, slots := 0, locals := 0 }) (va_Pc [.ref c0, .int c1] (fun U => U.heap.size = sz ∧ va_P (dC, dI) vwCl [(c0, .inr (13, [.ref c2, .int 0, .int 0, .ref c3, .ref c4, .null, .ref c5, .ref c6, .null, .null, .int 0, .ref c7]))] U.heap ∧ va_K (dC, dI) vwCl [] U ∧ va_D (fun _ => True) [(c0, .inr (13, [.ref c2, .int 0, .int 0, .ref c3, .ref c4, .null, .ref c5, .ref c6, .null, .null, .int 0, .ref c7]))] ∧ nv_E (va_A [(c0, .inr (13, [.ref c2, .int 0, .int 0, .ref c3, .ref c4, .null, .ref c5, .ref c6, .null, .null, .int 0, .ref c7]))] sz) U)) (va_Qi (fun r _ => ((c1 < 0) ∧ r = (-1)) ∨ ((¬ c1 < 0) ∧ (20 < c1) ∧ r = (-1)) ∨ ((¬ c1 < 0) ∧ (¬ 20 < c1) ∧ r = (-1)) ∨ False) (fun (_ : Unit) t => True) (va_A [(c0, .inr (13, [.ref c2, .int 0, .int 0, .ref c3, .ref c4, .null, .ref c5, .ref c6, .null, .null, .int 0, .ref c7]))] sz)) 0 0 (va_A [(c0, .inr (13, [.ref c2, .int 0, .int 0, .ref c3, .ref c4, .null, .ref c5, .ref c6, .null, .null, .int 0, .ref c7]))] sz) := by
  refine Met.ofW (cc := cX12_end) (maxL := 2) (ret := (some .int)) (by decide) rfl ?_
  intro p e s m args below meth c s₁ B hml hv
  obtain ⟨rfl, hsz, hP, hK, hD0, hN⟩ := hv
  have hx := B.exec
  have hb := B.bytes
  have hr := B.returns
  have hts := atoms_spec (ws := wsX12_end) B.pre
  have hown : s.vm.findClass RX12 = some m.cls := findClass_of_methodNamed B.named
  have hlocks := B.notSynchronized
  subst hsz
  have hD := hD0.self (sz := s.heap.size)
  generalize hAe : va_A [(c0, .inr (13, [.ref c2, .int 0, .int 0, .ref c3, .ref c4, .null, .ref c5, .ref c6, .null, .null, .int 0, .ref c7]))] s.heap.size = A at hD hN ⊢
  have hA : ∀ q : Nat, s.heap.size ≤ q → A q := fun q h => by rw [← hAe]; exact Or.inr h
  have hS : va_S A s.heap s.heap [] := va_S.rf
  have hl := lv_entry ([.ref c0, .int c1]) (n := 2) (Nat.le_of_ble_eq_true rfl)
  rw [lg_entry_eq]
  generalize (lg_sl ([.ref c0, .int c1]) ++ List.replicate (2 - (lg_sl ([.ref c0, .int c1])).length) Slot.unset).toArray = ls at hl ⊢
  have hl : lv_has ls 2 [(0, .ref c0), (1, .int c1)] := hl
  refine lv_iload_n hx hb dX12_end_0 rfl (lv_at hl 1 rfl) ?_
  refine lv_if_lt (tgt := 17) hx hb dX12_end_1 (by decide) (fun c_1 => ?_) (fun c_1 => ?_)
  · refine lv_iconst (v := (-1)) hx hb dX12_end_17 (by decide) ?_
    refine W.widen (k := 0) (n := 0) (by decide +kernel) (by decide +kernel) ?_
    exact W.iret (v := (-1)) hx hb hr (fun t ht hW => ⟨⟨(-1), (), rfl, Or.inl ⟨c_1, rfl⟩, trivial⟩, hS.F ht⟩) hS.2.2 dX12_end_18
  · refine lv_iload_n hx hb dX12_end_4 rfl (lv_at hl 1 rfl) ?_
    refine lv_bipush (v := 20) hx hb dX12_end_5 (by decide) ?_
    refine lv_icmp_gt (tgt := 17) hx hb dX12_end_7 (by decide) (fun c_2 => ?_) (fun c_2 => ?_)
    · refine lv_iconst (v := (-1)) hx hb dX12_end_17 (by decide) ?_
      refine W.widen (k := 0) (n := 0) (by decide +kernel) (by decide +kernel) ?_
      exact W.iret (v := (-1)) hx hb hr (fun t ht hW => ⟨⟨(-1), (), rfl, Or.inr (Or.inl ⟨c_1, c_2, rfl⟩), trivial⟩, hS.F ht⟩) hS.2.2 dX12_end_18
    · refine lv_aload_n hx hb dX12_end_10 rfl (lv_at hl 0 rfl) ?_
      refine va_get (D := (dC, dI)) (ci := 13) (v := .int 0) (C := RX12) (T := TX12) (N := 12) hx hb hts hi_X12_end_X12 hown hK hP 0 rfl rfl 2 (by decide) (hts (.fieldLink RX12 51 "TimeMachine" "fresh" "Z") (List.mem_of_getElem? (i := 1) (by decide +kernel))) (fun _ h9 => h9) rfl dX12_end_11 ?_
      refine lv_if_ne (tgt := 19) hx hb dX12_end_14 (by decide) (fun h9 => absurd h9 (by decide)) (fun _ => ?_)
      refine lv_iconst (v := (-1)) hx hb dX12_end_17 (by decide) ?_
      refine W.widen (k := 0) (n := 0) (by decide +kernel) (by decide +kernel) ?_
      exact W.iret (v := (-1)) hx hb hr (fun t ht hW => ⟨⟨(-1), (), rfl, Or.inr (Or.inr (Or.inl ⟨c_1, c_2, rfl⟩)), trivial⟩, hS.F ht⟩) hS.2.2 dX12_end_18
theorem hi_X12_programOf_X12 : ∀ w ∈ u_ws RX12 TX12 12, w ∈ wsX12_programOf := by decide +kernel
set_option maxHeartbeats 40000000 in
set_option maxRecDepth 100000 in
theorem k_X12_programOf (l : Launch) (dC : Nat → ClassId) (dI : Nat → Nat → Nat) (c0 : Nat) (c1 : Nat) (c2 : ClassId) (c3 : Int32) (c4 : Nat) (c5 : Nat) (c6 : Nat) (c7 : Nat) (c8 : Nat) (sz : Nat) : Met l yX12_programOf wsX12_programOf ({ frames := 0, cells := 0, slots := 0, locals := 0 }) (va_Pc [.ref c0, .int c3] (fun U => U.heap.size = sz ∧ va_P (dC, dI) vwCl [(c0, .inr (13, [.ref c4, .int 0, .int 0, .ref c1, .ref c5, .null, .ref c6, .ref c7, .null, .null, .int 0, .ref c8])), (c1, .inl (c2, 4, .inr (.inr (.inr (.inr (fun _ => none))))))] U.heap ∧ va_K (dC, dI) vwCl [(c2, .object RX8)] U ∧ va_D (fun _ => True) [(c0, .inr (13, [.ref c4, .int 0, .int 0, .ref c1, .ref c5, .null, .ref c6, .ref c7, .null, .null, .int 0, .ref c8])), (c1, .inl (c2, 4, .inr (.inr (.inr (.inr (fun _ => none))))))] ∧ nv_E (va_A [(c0, .inr (13, [.ref c4, .int 0, .int 0, .ref c1, .ref c5, .null, .ref c6, .ref c7, .null, .null, .int 0, .ref c8])), (c1, .inl (c2, 4, .inr (.inr (.inr (.inr (fun _ => none))))))] sz) U)) (va_Qq (fun r _ => ((c3 < 0) ∧ r = none) ∨ ((¬ c3 < 0) ∧ (c3 < 4) ∧ r = none) ∨ ((¬ c3 < 0) ∧ (¬ c3 < 4) ∧ r = none) ∨ False) (fun (_ : Unit) t => va_P (dC, dI) vwCl [(c0, .inr (13, [.ref c4, .int 0, .int 0, .ref c1, .ref c5, .null, .ref c6, .ref c7, .null, .null, .int 0, .ref c8])), (c1, .inl (c2, 4, .inr (.inr (.inr (.inr (fun _ => none))))))] t.heap ∧ va_K (dC, dI) vwCl [(c2, .object RX8)] t ∧ va_D (va_A [(c0, .inr (13, [.ref c4, .int 0, .int 0, .ref c1, .ref c5, .null, .ref c6, .ref c7, .null, .null, .int 0, .ref c8])), (c1, .inl (c2, 4, .inr (.inr (.inr (.inr (fun _ => none))))))] sz) [(c0, .inr (13, [.ref c4, .int 0, .int 0, .ref c1, .ref c5, .null, .ref c6, .ref c7, .null, .null, .int 0, .ref c8])), (c1, .inl (c2, 4, .inr (.inr (.inr (.inr (fun _ => none))))))]) (va_A [(c0, .inr (13, [.ref c4, .int 0, .int 0, .ref c1, .ref c5, .null, .ref c6, .ref c7, .null, .null, .int 0, .ref c8])), (c1, .inl (c2, 4, .inr (.inr (.inr (.inr (fun _ => none))))))] sz)) 0 0 (va_A [(c0, .inr (13, [.ref c4, .int 0, .int 0, .ref c1, .ref c5, .null, .ref c6, .ref c7, .null, .null, .int 0, .ref c8])), (c1, .inl (c2, 4, .inr (.inr (.inr (.inr (fun _ => none))))))] sz) := by
  refine Met.ofW (cc := cX12_programOf) (maxL := 2) (ret := (some (.object "TimeMachine$Program"))) (by decide) rfl ?_
  intro p e s m args below meth c s₁ B hml hv
  obtain ⟨rfl, hsz, hP, hK, hD0, hN⟩ := hv
  have hx := B.exec
  have hb := B.bytes
  have hr := B.returns
  have hts := atoms_spec (ws := wsX12_programOf) B.pre
  have hown : s.vm.findClass RX12 = some m.cls := findClass_of_methodNamed B.named
  have hlocks := B.notSynchronized
  subst hsz
  have hD := hD0.self (sz := s.heap.size)
  generalize hAe : va_A [(c0, .inr (13, [.ref c4, .int 0, .int 0, .ref c1, .ref c5, .null, .ref c6, .ref c7, .null, .null, .int 0, .ref c8])), (c1, .inl (c2, 4, .inr (.inr (.inr (.inr (fun _ => none))))))] s.heap.size = A at hD hN ⊢
  have hA : ∀ q : Nat, s.heap.size ≤ q → A q := fun q h => by rw [← hAe]; exact Or.inr h
  have hS : va_S A s.heap s.heap [] := va_S.rf
  have hl := lv_entry ([.ref c0, .int c3]) (n := 2) (Nat.le_of_ble_eq_true rfl)
  rw [lg_entry_eq]
  generalize (lg_sl ([.ref c0, .int c3]) ++ List.replicate (2 - (lg_sl ([.ref c0, .int c3])).length) Slot.unset).toArray = ls at hl ⊢
  have hl : lv_has ls 2 [(0, .ref c0), (1, .int c3)] := hl
  refine lv_iload_n hx hb dX12_programOf_0 rfl (lv_at hl 1 rfl) ?_
  refine lv_if_lt (tgt := 9) hx hb dX12_programOf_1 (by decide) (fun c_1 => ?_) (fun c_1 => ?_)
  · refine lv_null hx hb dX12_programOf_9 ?_
    refine lv_goto (tgt := 19) hx hb dX12_programOf_10 (by decide) ?_
    refine W.widen (k := 0) (n := 0) (by decide +kernel) (by decide +kernel) ?_
    exact W.aret (v := .null) hx hb hr (by first | exact Or.inl ⟨_, rfl⟩ | exact Or.inr ⟨_, rfl⟩) (by first | exact Or.inl rfl | exact Or.inr ⟨_, rfl⟩) (fun t ht hW => ⟨⟨none, (), rfl, Or.inl ⟨c_1, rfl⟩, by rw [ht]; exact hP, va_K.moved hW.alike hK, hD⟩, hS.F ht⟩) hS.2.2 dX12_programOf_19
  · refine lv_iload_n hx hb dX12_programOf_4 rfl (lv_at hl 1 rfl) ?_
    refine lv_iconst (v := 4) hx hb dX12_programOf_5 (by decide) ?_
    refine lv_icmp_lt (tgt := 13) hx hb dX12_programOf_6 (by decide) (fun c_2 => ?_) (fun c_2 => ?_)
    · refine lv_aload_n hx hb dX12_programOf_13 rfl (lv_at hl 0 rfl) ?_
      refine va_get (D := (dC, dI)) (ci := 13) (v := .ref c1) (C := RX12) (T := TX12) (N := 12) hx hb hts hi_X12_programOf_X12 hown hK hP 0 rfl rfl 3 (by decide) (hts (.fieldLink RX12 16 "TimeMachine" "programs" "[LTimeMachine$Program;") (List.mem_of_getElem? (i := 1) (by decide +kernel))) (fun _ h9 => h9) rfl dX12_programOf_14 ?_
      refine lv_iload_n hx hb dX12_programOf_17 rfl (lv_at hl 1 rfl) ?_
      refine va_aldq (i := c3) hx hb hK hP 1 0 rfl rfl (nv_in1 (k := 4) c_1 c_2 (by decide) (by decide)) dX12_programOf_18 ?_
      refine W.eq (g2 := F0 m 19 ls [.null]) rfl ?_
      refine W.widen (k := 0) (n := 0) (by decide +kernel) (by decide +kernel) ?_
      exact W.aret (v := .null) hx hb hr (by first | exact Or.inl ⟨_, rfl⟩ | exact Or.inr ⟨_, rfl⟩) (by first | exact Or.inl rfl | exact Or.inr ⟨_, rfl⟩) (fun t ht hW => ⟨⟨none, (), rfl, Or.inr (Or.inl ⟨c_1, c_2, rfl⟩), by rw [ht]; exact hP, va_K.moved hW.alike hK, hD⟩, hS.F ht⟩) hS.2.2 dX12_programOf_19
    · refine lv_null hx hb dX12_programOf_9 ?_
      refine lv_goto (tgt := 19) hx hb dX12_programOf_10 (by decide) ?_
      refine W.widen (k := 0) (n := 0) (by decide +kernel) (by decide +kernel) ?_
      exact W.aret (v := .null) hx hb hr (by first | exact Or.inl ⟨_, rfl⟩ | exact Or.inr ⟨_, rfl⟩) (by first | exact Or.inl rfl | exact Or.inr ⟨_, rfl⟩) (fun t ht hW => ⟨⟨none, (), rfl, Or.inr (Or.inr (Or.inl ⟨c_1, c_2, rfl⟩)), by rw [ht]; exact hP, va_K.moved hW.alike hK, hD⟩, hS.F ht⟩) hS.2.2 dX12_programOf_19
set_option maxHeartbeats 40000000 in
set_option maxRecDepth 100000 in
theorem k_X12_program (l : Launch) (dC : Nat → ClassId) (dI : Nat → Nat → Nat) (c0 : Nat) (c1 : Nat) (c2 : ClassId) (c3 : Int32) (c4 : Int32) (c5 : Nat) (c6 : Nat) (c7 : Nat) (c8 : Nat) (c9 : Nat) (sz : Nat) : Met l yX12_program wsX12_program ({ frames := 1, cells := 0, slots := 0, locals := 21 }) (va_Pc [.ref c0, .int c3, .int c4] (fun U => U.heap.size = sz ∧ va_P (dC, dI) vwCl [(c0, .inr (13, [.ref c5, .int 0, .int 0, .ref c1, .ref c6, .null, .ref c7, .ref c8, .null, .null, .int 0, .ref c9])), (c1, .inl (c2, 4, .inr (.inr (.inr (.inr (fun _ => none))))))] U.heap ∧ va_K (dC, dI) vwCl [(c2, .object RX8)] U ∧ va_D (fun _ => True) [(c0, .inr (13, [.ref c5, .int 0, .int 0, .ref c1, .ref c6, .null, .ref c7, .ref c8, .null, .null, .int 0, .ref c9])), (c1, .inl (c2, 4, .inr (.inr (.inr (.inr (fun _ => none))))))] ∧ nv_E (va_A [(c0, .inr (13, [.ref c5, .int 0, .int 0, .ref c1, .ref c6, .null, .ref c7, .ref c8, .null, .null, .int 0, .ref c9])), (c1, .inl (c2, 4, .inr (.inr (.inr (.inr (fun _ => none))))))] sz) U)) (va_Qi (fun r _ => r = (-1)) (fun (_ : Unit) t => va_P (dC, dI) vwCl [(c0, .inr (13, [.ref c5, .int 0, .int 0, .ref c1, .ref c6, .null, .ref c7, .ref c8, .null, .null, .int 0, .ref c9])), (c1, .inl (c2, 4, .inr (.inr (.inr (.inr (fun _ => none))))))] t.heap ∧ va_K (dC, dI) vwCl [(c2, .object RX8)] t ∧ va_D (va_A [(c0, .inr (13, [.ref c5, .int 0, .int 0, .ref c1, .ref c6, .null, .ref c7, .ref c8, .null, .null, .int 0, .ref c9])), (c1, .inl (c2, 4, .inr (.inr (.inr (.inr (fun _ => none))))))] sz) [(c0, .inr (13, [.ref c5, .int 0, .int 0, .ref c1, .ref c6, .null, .ref c7, .ref c8, .null, .null, .int 0, .ref c9])), (c1, .inl (c2, 4, .inr (.inr (.inr (.inr (fun _ => none))))))]) (va_A [(c0, .inr (13, [.ref c5, .int 0, .int 0, .ref c1, .ref c6, .null, .ref c7, .ref c8, .null, .null, .int 0, .ref c9])), (c1, .inl (c2, 4, .inr (.inr (.inr (.inr (fun _ => none))))))] sz)) 0 0 (va_A [(c0, .inr (13, [.ref c5, .int 0, .int 0, .ref c1, .ref c6, .null, .ref c7, .ref c8, .null, .null, .int 0, .ref c9])), (c1, .inl (c2, 4, .inr (.inr (.inr (.inr (fun _ => none))))))] sz) := by
  refine Met.ofW (cc := cX12_program) (maxL := 4) (ret := (some .int)) (by decide) rfl ?_
  intro p e s m args below meth c s₁ B hml hv
  obtain ⟨rfl, hsz, hP, hK, hD0, hN⟩ := hv
  have hx := B.exec
  have hb := B.bytes
  have hr := B.returns
  have hts := atoms_spec (ws := wsX12_program) B.pre
  have hown : s.vm.findClass RX12 = some m.cls := findClass_of_methodNamed B.named
  have hlocks := B.notSynchronized
  subst hsz
  have hD := hD0.self (sz := s.heap.size)
  generalize hAe : va_A [(c0, .inr (13, [.ref c5, .int 0, .int 0, .ref c1, .ref c6, .null, .ref c7, .ref c8, .null, .null, .int 0, .ref c9])), (c1, .inl (c2, 4, .inr (.inr (.inr (.inr (fun _ => none))))))] s.heap.size = A at hD hN ⊢
  have hA : ∀ q : Nat, s.heap.size ≤ q → A q := fun q h => by rw [← hAe]; exact Or.inr h
  have hS : va_S A s.heap s.heap [] := va_S.rf
  have hl := lv_entry ([.ref c0, .int c3, .int c4]) (n := 4) (Nat.le_of_ble_eq_true rfl)
  rw [lg_entry_eq]
  generalize (lg_sl ([.ref c0, .int c3, .int c4]) ++ List.replicate (4 - (lg_sl ([.ref c0, .int c3, .int c4])).length) Slot.unset).toArray = ls at hl ⊢
  have hl : lv_has ls 4 [(0, .ref c0), (1, .int c3), (2, .int c4)] := hl
  refine lv_aload_n hx hb dX12_program_0 rfl (lv_at hl 0 rfl) ?_
  refine lv_iload_n hx hb dX12_program_1 rfl (lv_at hl 1 rfl) ?_
  have hPc := hP.sub (ws' := [(c0, .inr (13, [.ref c5, .int 0, .int 0, .ref c1, .ref c6, .null, .ref c7, .ref c8, .null, .null, .int 0, .ref c9])), (c1, .inl (c2, 4, .inr (.inr (.inr (.inr (fun _ => none))))))]) [0, 1] rfl
  have hDc := hD.sub (ws' := [(c0, .inr (13, [.ref c5, .int 0, .int 0, .ref c1, .ref c6, .null, .ref c7, .ref c8, .null, .null, .int 0, .ref c9])), (c1, .inl (c2, 4, .inr (.inr (.inr (.inr (fun _ => none))))))]) [0, 1] (by decide) rfl
  have hKc := hK.sub (tys' := [(c2, .object RX8)]) [0] rfl
  have hFc := va_free (wc := [(c0, .inr (13, [.ref c5, .int 0, .int 0, .ref c1, .ref c6, .null, .ref c7, .ref c8, .null, .null, .int 0, .ref c9])), (c1, .inl (c2, 4, .inr (.inr (.inr (.inr (fun _ => none))))))]) hD hS hA [0, 1] rfl
  refine va_callq (va_runV (As := [.int c3]) (rest := []) ⟨hx, hb, hml, hown, hts⟩ (k_X12_programOf l dC dI c0 c1 c2 c3 c5 c6 c7 c8 c9 s.heap.size) (cwV 1 hts gX12_program_X12_programOf rfl rfl rfl (by decide +kernel) ⟨Nat.le_of_ble_eq_true rfl, Nat.le_of_ble_eq_true rfl⟩) ⟨fun a U g mk q => by obtain ⟨q0, q1, qP, qK, qD, qN⟩ := q; exact ⟨q0, q1, qP, va_K.moved (u := U) (U := U.calling g mk a) (Vm.Alike.refl U.vm) qK, qD, nv_same rfl rfl qN⟩, va_recv hKc hPc (ci := 13) (q0 := 0) rfl rfl, fun U hU hW => ⟨rfl, by rw [hU], by rw [hU]; exact hPc, va_K.moved hW.alike hKc, hDc.weaken (fun _ _ _ _ => trivial), nv_call hS hFc hU hW hN⟩⟩ rfl rfl hl.1 rfl (lv_room (Nat.le_of_ble_eq_true rfl)) dX12_program_2 ⟨by decide +kernel, by decide +kernel⟩) hS (fun q _ h => hFc q h) hFc (fun r1 u t H1 locs ht hvm hw hB hz1 hk1 hS => ?_)
  obtain ⟨hP1, hK1, hD1⟩ := hB
  rw [ht] at hP1
  have hK1 := va_K.moved hvm.symm hK1
  obtain rfl : r1 = none := by rcases hw with ⟨_, h9⟩ | ⟨_, _, h9⟩ | ⟨_, _, h9⟩ | h9 <;> first | exact h9 | exact h9.elim
  obtain ⟨hP, hD⟩ := va_join (wr := []) (w1 := [(c0, .inr (13, [.ref c5, .int 0, .int 0, .ref c1, .ref c6, .null, .ref c7, .ref c8, .null, .null, .int 0, .ref c9])), (c1, .inl (c2, 4, .inr (.inr (.inr (.inr (fun _ => none))))))]) hP hD [0, 1] [] rfl rfl (by decide) (by decide) hk1 hFc hP1 hD1
  have hK := (hK.sub (tys' := []) [] rfl).app hK1
  generalize H1 = H at hP hS ⊢
  have hP : va_P (dC, dI) vwCl [(c0, .inr (13, [.ref c5, .int 0, .int 0, .ref c1, .ref c6, .null, .ref c7, .ref c8, .null, .null, .int 0, .ref c9])), (c1, .inl (c2, 4, .inr (.inr (.inr (.inr (fun _ => none))))))] H := hP
  have hD : va_D A [(c0, .inr (13, [.ref c5, .int 0, .int 0, .ref c1, .ref c6, .null, .ref c7, .ref c8, .null, .null, .int 0, .ref c9])), (c1, .inl (c2, 4, .inr (.inr (.inr (.inr (fun _ => none))))))] := hD
  have hK : va_K (dC, dI) vwCl [(c2, .object RX8)] s := hK
  refine W.widen (k := 0) (n := 0) (by decide +kernel) (by decide +kernel) ?_
  refine lv_astore_nN (lv' := [(3, .null), (0, .ref c0), (1, .int c3), (2, .int c4)]) hx hb dX12_program_5 rfl hl (by decide) rfl (fun ls hl => ?_)
  refine lv_aload_nN hx hb dX12_program_6 rfl (lv_at hl 0 rfl) ?_
  refine lv_ifnonnullN hx hb dX12_program_7 ?_
  refine lv_iconst (v := (-1)) hx hb dX12_program_10 (by decide) ?_
  have hP9 := hP.sub (ws' := [(c0, .inr (13, [.ref c5, .int 0, .int 0, .ref c1, .ref c6, .null, .ref c7, .ref c8, .null, .null, .int 0, .ref c9])), (c1, .inl (c2, 4, .inr (.inr (.inr (.inr (fun _ => none))))))]) [0, 1] rfl
  have hD9 := hD.sub (ws' := [(c0, .inr (13, [.ref c5, .int 0, .int 0, .ref c1, .ref c6, .null, .ref c7, .ref c8, .null, .null, .int 0, .ref c9])), (c1, .inl (c2, 4, .inr (.inr (.inr (.inr (fun _ => none))))))]) [0, 1] (by decide) rfl
  have hK9 := hK.sub (tys' := [(c2, .object RX8)]) [0] rfl
  refine W.widen (k := 0) (n := 0) (by decide +kernel) (by decide +kernel) ?_
  exact W.iret (v := (-1)) hx hb hr (fun t ht hW => ⟨⟨(-1), (), rfl, rfl, by rw [ht]; exact hP9, va_K.moved hW.alike hK9, hD9⟩, hS.F ht⟩) hS.2.2 dX12_program_11
set_option maxHeartbeats 40000000 in
set_option maxRecDepth 100000 in
theorem k_X12_image (l : Launch) (dC : Nat → ClassId) (dI : Nat → Nat → Nat) (c0 : Nat) (c1 : Nat) (c2 : ClassId) (c3 : Int32) (c4 : Int32) (c5 : Nat) (c6 : Nat) (c7 : Nat) (c8 : Nat) (c9 : Nat) (sz : Nat) : Met l yX12_image wsX12_image ({ frames := 1, cells := 0, slots := 0, locals := 21 }) (va_Pc [.ref c0, .int c3, .int c4] (fun U => U.heap.size = sz ∧ va_P (dC, dI) vwCl [(c0, .inr (13, [.ref c5, .int 0, .int 0, .ref c1, .ref c6, .null, .ref c7, .ref c8, .null, .null, .int 0, .ref c9])), (c1, .inl (c2, 4, .inr (.inr (.inr (.inr (fun _ => none))))))] U.heap ∧ va_K (dC, dI) vwCl [(c2, .object RX8)] U ∧ va_D (fun _ => True) [(c0, .inr (13, [.ref c5, .int 0, .int 0, .ref c1, .ref c6, .null, .ref c7, .ref c8, .null, .null, .int 0, .ref c9])), (c1, .inl (c2, 4, .inr (.inr (.inr (.inr (fun _ => none))))))] ∧ nv_E (va_A [(c0, .inr (13, [.ref c5, .int 0, .int 0, .ref c1, .ref c6, .null, .ref c7, .ref c8, .null, .null, .int 0, .ref c9])), (c1, .inl (c2, 4, .inr (.inr (.inr (.inr (fun _ => none))))))] sz) U)) (va_Qi (fun r _ => r = (-1)) (fun (_ : Unit) t => va_P (dC, dI) vwCl [(c0, .inr (13, [.ref c5, .int 0, .int 0, .ref c1, .ref c6, .null, .ref c7, .ref c8, .null, .null, .int 0, .ref c9])), (c1, .inl (c2, 4, .inr (.inr (.inr (.inr (fun _ => none))))))] t.heap ∧ va_K (dC, dI) vwCl [(c2, .object RX8)] t ∧ va_D (va_A [(c0, .inr (13, [.ref c5, .int 0, .int 0, .ref c1, .ref c6, .null, .ref c7, .ref c8, .null, .null, .int 0, .ref c9])), (c1, .inl (c2, 4, .inr (.inr (.inr (.inr (fun _ => none))))))] sz) [(c0, .inr (13, [.ref c5, .int 0, .int 0, .ref c1, .ref c6, .null, .ref c7, .ref c8, .null, .null, .int 0, .ref c9])), (c1, .inl (c2, 4, .inr (.inr (.inr (.inr (fun _ => none))))))]) (va_A [(c0, .inr (13, [.ref c5, .int 0, .int 0, .ref c1, .ref c6, .null, .ref c7, .ref c8, .null, .null, .int 0, .ref c9])), (c1, .inl (c2, 4, .inr (.inr (.inr (.inr (fun _ => none))))))] sz)) 0 0 (va_A [(c0, .inr (13, [.ref c5, .int 0, .int 0, .ref c1, .ref c6, .null, .ref c7, .ref c8, .null, .null, .int 0, .ref c9])), (c1, .inl (c2, 4, .inr (.inr (.inr (.inr (fun _ => none))))))] sz) := by
  refine Met.ofW (cc := cX12_image) (maxL := 4) (ret := (some .int)) (by decide) rfl ?_
  intro p e s m args below meth c s₁ B hml hv
  obtain ⟨rfl, hsz, hP, hK, hD0, hN⟩ := hv
  have hx := B.exec
  have hb := B.bytes
  have hr := B.returns
  have hts := atoms_spec (ws := wsX12_image) B.pre
  have hown : s.vm.findClass RX12 = some m.cls := findClass_of_methodNamed B.named
  have hlocks := B.notSynchronized
  subst hsz
  have hD := hD0.self (sz := s.heap.size)
  generalize hAe : va_A [(c0, .inr (13, [.ref c5, .int 0, .int 0, .ref c1, .ref c6, .null, .ref c7, .ref c8, .null, .null, .int 0, .ref c9])), (c1, .inl (c2, 4, .inr (.inr (.inr (.inr (fun _ => none))))))] s.heap.size = A at hD hN ⊢
  have hA : ∀ q : Nat, s.heap.size ≤ q → A q := fun q h => by rw [← hAe]; exact Or.inr h
  have hS : va_S A s.heap s.heap [] := va_S.rf
  have hl := lv_entry ([.ref c0, .int c3, .int c4]) (n := 4) (Nat.le_of_ble_eq_true rfl)
  rw [lg_entry_eq]
  generalize (lg_sl ([.ref c0, .int c3, .int c4]) ++ List.replicate (4 - (lg_sl ([.ref c0, .int c3, .int c4])).length) Slot.unset).toArray = ls at hl ⊢
  have hl : lv_has ls 4 [(0, .ref c0), (1, .int c3), (2, .int c4)] := hl
  refine lv_aload_n hx hb dX12_image_0 rfl (lv_at hl 0 rfl) ?_
  refine lv_iload_n hx hb dX12_image_1 rfl (lv_at hl 1 rfl) ?_
  have hPc := hP.sub (ws' := [(c0, .inr (13, [.ref c5, .int 0, .int 0, .ref c1, .ref c6, .null, .ref c7, .ref c8, .null, .null, .int 0, .ref c9])), (c1, .inl (c2, 4, .inr (.inr (.inr (.inr (fun _ => none))))))]) [0, 1] rfl
  have hDc := hD.sub (ws' := [(c0, .inr (13, [.ref c5, .int 0, .int 0, .ref c1, .ref c6, .null, .ref c7, .ref c8, .null, .null, .int 0, .ref c9])), (c1, .inl (c2, 4, .inr (.inr (.inr (.inr (fun _ => none))))))]) [0, 1] (by decide) rfl
  have hKc := hK.sub (tys' := [(c2, .object RX8)]) [0] rfl
  have hFc := va_free (wc := [(c0, .inr (13, [.ref c5, .int 0, .int 0, .ref c1, .ref c6, .null, .ref c7, .ref c8, .null, .null, .int 0, .ref c9])), (c1, .inl (c2, 4, .inr (.inr (.inr (.inr (fun _ => none))))))]) hD hS hA [0, 1] rfl
  refine va_callq (va_runV (As := [.int c3]) (rest := []) ⟨hx, hb, hml, hown, hts⟩ (k_X12_programOf l dC dI c0 c1 c2 c3 c5 c6 c7 c8 c9 s.heap.size) (cwV 1 hts gX12_image_X12_programOf rfl rfl rfl (by decide +kernel) ⟨Nat.le_of_ble_eq_true rfl, Nat.le_of_ble_eq_true rfl⟩) ⟨fun a U g mk q => by obtain ⟨q0, q1, qP, qK, qD, qN⟩ := q; exact ⟨q0, q1, qP, va_K.moved (u := U) (U := U.calling g mk a) (Vm.Alike.refl U.vm) qK, qD, nv_same rfl rfl qN⟩, va_recv hKc hPc (ci := 13) (q0 := 0) rfl rfl, fun U hU hW => ⟨rfl, by rw [hU], by rw [hU]; exact hPc, va_K.moved hW.alike hKc, hDc.weaken (fun _ _ _ _ => trivial), nv_call hS hFc hU hW hN⟩⟩ rfl rfl hl.1 rfl (lv_room (Nat.le_of_ble_eq_true rfl)) dX12_image_2 ⟨by decide +kernel, by decide +kernel⟩) hS (fun q _ h => hFc q h) hFc (fun r1 u t H1 locs ht hvm hw hB hz1 hk1 hS => ?_)
  obtain ⟨hP1, hK1, hD1⟩ := hB
  rw [ht] at hP1
  have hK1 := va_K.moved hvm.symm hK1
  obtain rfl : r1 = none := by rcases hw with ⟨_, h9⟩ | ⟨_, _, h9⟩ | ⟨_, _, h9⟩ | h9 <;> first | exact h9 | exact h9.elim
  obtain ⟨hP, hD⟩ := va_join (wr := []) (w1 := [(c0, .inr (13, [.ref c5, .int 0, .int 0, .ref c1, .ref c6, .null, .ref c7, .ref c8, .null, .null, .int 0, .ref c9])), (c1, .inl (c2, 4, .inr (.inr (.inr (.inr (fun _ => none))))))]) hP hD [0, 1] [] rfl rfl (by decide) (by decide) hk1 hFc hP1 hD1
  have hK := (hK.sub (tys' := []) [] rfl).app hK1
  generalize H1 = H at hP hS ⊢
  have hP : va_P (dC, dI) vwCl [(c0, .inr (13, [.ref c5, .int 0, .int 0, .ref c1, .ref c6, .null, .ref c7, .ref c8, .null, .null, .int 0, .ref c9])), (c1, .inl (c2, 4, .inr (.inr (.inr (.inr (fun _ => none))))))] H := hP
  have hD : va_D A [(c0, .inr (13, [.ref c5, .int 0, .int 0, .ref c1, .ref c6, .null, .ref c7, .ref c8, .null, .null, .int 0, .ref c9])), (c1, .inl (c2, 4, .inr (.inr (.inr (.inr (fun _ => none))))))] := hD
  have hK : va_K (dC, dI) vwCl [(c2, .object RX8)] s := hK
  refine W.widen (k := 0) (n := 0) (by decide +kernel) (by decide +kernel) ?_
  refine lv_astore_nN (lv' := [(3, .null), (0, .ref c0), (1, .int c3), (2, .int c4)]) hx hb dX12_image_5 rfl hl (by decide) rfl (fun ls hl => ?_)
  refine lv_aload_nN hx hb dX12_image_6 rfl (lv_at hl 0 rfl) ?_
  refine lv_ifnullN (tgt := 22) hx hb dX12_image_7 (by decide) ?_
  refine lv_iconst (v := (-1)) hx hb dX12_image_22 (by decide) ?_
  refine lv_goto (tgt := 36) hx hb dX12_image_23 (by decide) ?_
  have hP9 := hP.sub (ws' := [(c0, .inr (13, [.ref c5, .int 0, .int 0, .ref c1, .ref c6, .null, .ref c7, .ref c8, .null, .null, .int 0, .ref c9])), (c1, .inl (c2, 4, .inr (.inr (.inr (.inr (fun _ => none))))))]) [0, 1] rfl
  have hD9 := hD.sub (ws' := [(c0, .inr (13, [.ref c5, .int 0, .int 0, .ref c1, .ref c6, .null, .ref c7, .ref c8, .null, .null, .int 0, .ref c9])), (c1, .inl (c2, 4, .inr (.inr (.inr (.inr (fun _ => none))))))]) [0, 1] (by decide) rfl
  have hK9 := hK.sub (tys' := [(c2, .object RX8)]) [0] rfl
  refine W.widen (k := 0) (n := 0) (by decide +kernel) (by decide +kernel) ?_
  exact W.iret (v := (-1)) hx hb hr (fun t ht hW => ⟨⟨(-1), (), rfl, rfl, by rw [ht]; exact hP9, va_K.moved hW.alike hK9, hD9⟩, hS.F ht⟩) hS.2.2 dX12_image_36
set_option maxHeartbeats 40000000 in
set_option maxRecDepth 100000 in
theorem k_X12_label (l : Launch) (dC : Nat → ClassId) (dI : Nat → Nat → Nat) (c0 : Nat) (c1 : Nat) (c2 : ClassId) (c3 : Int32) (c4 : Int32) (c5 : Nat) (c6 : Nat) (c7 : Nat) (c8 : Nat) (c9 : Nat) (sz : Nat) : Met l yX12_label wsX12_label ({ frames := 1, cells := 0, slots := 0, locals := 21 }) (va_Pc [.ref c0, .int c3, .int c4] (fun U => U.heap.size = sz ∧ va_P (dC, dI) vwCl [(c0, .inr (13, [.ref c5, .int 0, .int 0, .ref c1, .ref c6, .null, .ref c7, .ref c8, .null, .null, .int 0, .ref c9])), (c1, .inl (c2, 4, .inr (.inr (.inr (.inr (fun _ => none))))))] U.heap ∧ va_K (dC, dI) vwCl [(c2, .object RX8)] U ∧ va_D (fun _ => True) [(c0, .inr (13, [.ref c5, .int 0, .int 0, .ref c1, .ref c6, .null, .ref c7, .ref c8, .null, .null, .int 0, .ref c9])), (c1, .inl (c2, 4, .inr (.inr (.inr (.inr (fun _ => none))))))] ∧ nv_E (va_A [(c0, .inr (13, [.ref c5, .int 0, .int 0, .ref c1, .ref c6, .null, .ref c7, .ref c8, .null, .null, .int 0, .ref c9])), (c1, .inl (c2, 4, .inr (.inr (.inr (.inr (fun _ => none))))))] sz) U)) (va_Qi (fun r _ => r = (-1)) (fun (_ : Unit) t => va_P (dC, dI) vwCl [(c0, .inr (13, [.ref c5, .int 0, .int 0, .ref c1, .ref c6, .null, .ref c7, .ref c8, .null, .null, .int 0, .ref c9])), (c1, .inl (c2, 4, .inr (.inr (.inr (.inr (fun _ => none))))))] t.heap ∧ va_K (dC, dI) vwCl [(c2, .object RX8)] t ∧ va_D (va_A [(c0, .inr (13, [.ref c5, .int 0, .int 0, .ref c1, .ref c6, .null, .ref c7, .ref c8, .null, .null, .int 0, .ref c9])), (c1, .inl (c2, 4, .inr (.inr (.inr (.inr (fun _ => none))))))] sz) [(c0, .inr (13, [.ref c5, .int 0, .int 0, .ref c1, .ref c6, .null, .ref c7, .ref c8, .null, .null, .int 0, .ref c9])), (c1, .inl (c2, 4, .inr (.inr (.inr (.inr (fun _ => none))))))]) (va_A [(c0, .inr (13, [.ref c5, .int 0, .int 0, .ref c1, .ref c6, .null, .ref c7, .ref c8, .null, .null, .int 0, .ref c9])), (c1, .inl (c2, 4, .inr (.inr (.inr (.inr (fun _ => none))))))] sz)) 0 0 (va_A [(c0, .inr (13, [.ref c5, .int 0, .int 0, .ref c1, .ref c6, .null, .ref c7, .ref c8, .null, .null, .int 0, .ref c9])), (c1, .inl (c2, 4, .inr (.inr (.inr (.inr (fun _ => none))))))] sz) := by
  refine Met.ofW (cc := cX12_label) (maxL := 4) (ret := (some .int)) (by decide) rfl ?_
  intro p e s m args below meth c s₁ B hml hv
  obtain ⟨rfl, hsz, hP, hK, hD0, hN⟩ := hv
  have hx := B.exec
  have hb := B.bytes
  have hr := B.returns
  have hts := atoms_spec (ws := wsX12_label) B.pre
  have hown : s.vm.findClass RX12 = some m.cls := findClass_of_methodNamed B.named
  have hlocks := B.notSynchronized
  subst hsz
  have hD := hD0.self (sz := s.heap.size)
  generalize hAe : va_A [(c0, .inr (13, [.ref c5, .int 0, .int 0, .ref c1, .ref c6, .null, .ref c7, .ref c8, .null, .null, .int 0, .ref c9])), (c1, .inl (c2, 4, .inr (.inr (.inr (.inr (fun _ => none))))))] s.heap.size = A at hD hN ⊢
  have hA : ∀ q : Nat, s.heap.size ≤ q → A q := fun q h => by rw [← hAe]; exact Or.inr h
  have hS : va_S A s.heap s.heap [] := va_S.rf
  have hl := lv_entry ([.ref c0, .int c3, .int c4]) (n := 4) (Nat.le_of_ble_eq_true rfl)
  rw [lg_entry_eq]
  generalize (lg_sl ([.ref c0, .int c3, .int c4]) ++ List.replicate (4 - (lg_sl ([.ref c0, .int c3, .int c4])).length) Slot.unset).toArray = ls at hl ⊢
  have hl : lv_has ls 4 [(0, .ref c0), (1, .int c3), (2, .int c4)] := hl
  refine lv_aload_n hx hb dX12_label_0 rfl (lv_at hl 0 rfl) ?_
  refine lv_iload_n hx hb dX12_label_1 rfl (lv_at hl 1 rfl) ?_
  have hPc := hP.sub (ws' := [(c0, .inr (13, [.ref c5, .int 0, .int 0, .ref c1, .ref c6, .null, .ref c7, .ref c8, .null, .null, .int 0, .ref c9])), (c1, .inl (c2, 4, .inr (.inr (.inr (.inr (fun _ => none))))))]) [0, 1] rfl
  have hDc := hD.sub (ws' := [(c0, .inr (13, [.ref c5, .int 0, .int 0, .ref c1, .ref c6, .null, .ref c7, .ref c8, .null, .null, .int 0, .ref c9])), (c1, .inl (c2, 4, .inr (.inr (.inr (.inr (fun _ => none))))))]) [0, 1] (by decide) rfl
  have hKc := hK.sub (tys' := [(c2, .object RX8)]) [0] rfl
  have hFc := va_free (wc := [(c0, .inr (13, [.ref c5, .int 0, .int 0, .ref c1, .ref c6, .null, .ref c7, .ref c8, .null, .null, .int 0, .ref c9])), (c1, .inl (c2, 4, .inr (.inr (.inr (.inr (fun _ => none))))))]) hD hS hA [0, 1] rfl
  refine va_callq (va_runV (As := [.int c3]) (rest := []) ⟨hx, hb, hml, hown, hts⟩ (k_X12_programOf l dC dI c0 c1 c2 c3 c5 c6 c7 c8 c9 s.heap.size) (cwV 1 hts gX12_label_X12_programOf rfl rfl rfl (by decide +kernel) ⟨Nat.le_of_ble_eq_true rfl, Nat.le_of_ble_eq_true rfl⟩) ⟨fun a U g mk q => by obtain ⟨q0, q1, qP, qK, qD, qN⟩ := q; exact ⟨q0, q1, qP, va_K.moved (u := U) (U := U.calling g mk a) (Vm.Alike.refl U.vm) qK, qD, nv_same rfl rfl qN⟩, va_recv hKc hPc (ci := 13) (q0 := 0) rfl rfl, fun U hU hW => ⟨rfl, by rw [hU], by rw [hU]; exact hPc, va_K.moved hW.alike hKc, hDc.weaken (fun _ _ _ _ => trivial), nv_call hS hFc hU hW hN⟩⟩ rfl rfl hl.1 rfl (lv_room (Nat.le_of_ble_eq_true rfl)) dX12_label_2 ⟨by decide +kernel, by decide +kernel⟩) hS (fun q _ h => hFc q h) hFc (fun r1 u t H1 locs ht hvm hw hB hz1 hk1 hS => ?_)
  obtain ⟨hP1, hK1, hD1⟩ := hB
  rw [ht] at hP1
  have hK1 := va_K.moved hvm.symm hK1
  obtain rfl : r1 = none := by rcases hw with ⟨_, h9⟩ | ⟨_, _, h9⟩ | ⟨_, _, h9⟩ | h9 <;> first | exact h9 | exact h9.elim
  obtain ⟨hP, hD⟩ := va_join (wr := []) (w1 := [(c0, .inr (13, [.ref c5, .int 0, .int 0, .ref c1, .ref c6, .null, .ref c7, .ref c8, .null, .null, .int 0, .ref c9])), (c1, .inl (c2, 4, .inr (.inr (.inr (.inr (fun _ => none))))))]) hP hD [0, 1] [] rfl rfl (by decide) (by decide) hk1 hFc hP1 hD1
  have hK := (hK.sub (tys' := []) [] rfl).app hK1
  generalize H1 = H at hP hS ⊢
  have hP : va_P (dC, dI) vwCl [(c0, .inr (13, [.ref c5, .int 0, .int 0, .ref c1, .ref c6, .null, .ref c7, .ref c8, .null, .null, .int 0, .ref c9])), (c1, .inl (c2, 4, .inr (.inr (.inr (.inr (fun _ => none))))))] H := hP
  have hD : va_D A [(c0, .inr (13, [.ref c5, .int 0, .int 0, .ref c1, .ref c6, .null, .ref c7, .ref c8, .null, .null, .int 0, .ref c9])), (c1, .inl (c2, 4, .inr (.inr (.inr (.inr (fun _ => none))))))] := hD
  have hK : va_K (dC, dI) vwCl [(c2, .object RX8)] s := hK
  refine W.widen (k := 0) (n := 0) (by decide +kernel) (by decide +kernel) ?_
  refine lv_astore_nN (lv' := [(3, .null), (0, .ref c0), (1, .int c3), (2, .int c4)]) hx hb dX12_label_5 rfl hl (by decide) rfl (fun ls hl => ?_)
  refine lv_aload_nN hx hb dX12_label_6 rfl (lv_at hl 0 rfl) ?_
  refine lv_ifnullN (tgt := 23) hx hb dX12_label_7 (by decide) ?_
  refine lv_iconst (v := (-1)) hx hb dX12_label_23 (by decide) ?_
  refine lv_goto (tgt := 33) hx hb dX12_label_24 (by decide) ?_
  have hP9 := hP.sub (ws' := [(c0, .inr (13, [.ref c5, .int 0, .int 0, .ref c1, .ref c6, .null, .ref c7, .ref c8, .null, .null, .int 0, .ref c9])), (c1, .inl (c2, 4, .inr (.inr (.inr (.inr (fun _ => none))))))]) [0, 1] rfl
  have hD9 := hD.sub (ws' := [(c0, .inr (13, [.ref c5, .int 0, .int 0, .ref c1, .ref c6, .null, .ref c7, .ref c8, .null, .null, .int 0, .ref c9])), (c1, .inl (c2, 4, .inr (.inr (.inr (.inr (fun _ => none))))))]) [0, 1] (by decide) rfl
  have hK9 := hK.sub (tys' := [(c2, .object RX8)]) [0] rfl
  refine W.widen (k := 0) (n := 0) (by decide +kernel) (by decide +kernel) ?_
  exact W.iret (v := (-1)) hx hb hr (fun t ht hW => ⟨⟨(-1), (), rfl, rfl, by rw [ht]; exact hP9, va_K.moved hW.alike hK9, hD9⟩, hS.F ht⟩) hS.2.2 dX12_label_33
set_option maxHeartbeats 40000000 in
set_option maxRecDepth 100000 in
theorem k_X12_before (l : Launch) (dC : Nat → ClassId) (dI : Nat → Nat → Nat) (c0 : Nat) (c1 : Nat) (c2 : ClassId) (c3 : Int32) (c4 : Int32) (c5 : Nat) (c6 : Nat) (c7 : Nat) (c8 : Nat) (c9 : Nat) (sz : Nat) : Met l yX12_before wsX12_before ({ frames := 1, cells := 0, slots := 0, locals := 21 }) (va_Pc [.ref c0, .int c3, .int c4] (fun U => U.heap.size = sz ∧ va_P (dC, dI) vwCl [(c0, .inr (13, [.ref c5, .int 0, .int 0, .ref c1, .ref c6, .null, .ref c7, .ref c8, .null, .null, .int 0, .ref c9])), (c1, .inl (c2, 4, .inr (.inr (.inr (.inr (fun _ => none))))))] U.heap ∧ va_K (dC, dI) vwCl [(c2, .object RX8)] U ∧ va_D (fun _ => True) [(c0, .inr (13, [.ref c5, .int 0, .int 0, .ref c1, .ref c6, .null, .ref c7, .ref c8, .null, .null, .int 0, .ref c9])), (c1, .inl (c2, 4, .inr (.inr (.inr (.inr (fun _ => none))))))] ∧ nv_E (va_A [(c0, .inr (13, [.ref c5, .int 0, .int 0, .ref c1, .ref c6, .null, .ref c7, .ref c8, .null, .null, .int 0, .ref c9])), (c1, .inl (c2, 4, .inr (.inr (.inr (.inr (fun _ => none))))))] sz) U)) (va_Qi (fun r _ => r = (-1)) (fun (_ : Unit) t => va_P (dC, dI) vwCl [(c0, .inr (13, [.ref c5, .int 0, .int 0, .ref c1, .ref c6, .null, .ref c7, .ref c8, .null, .null, .int 0, .ref c9])), (c1, .inl (c2, 4, .inr (.inr (.inr (.inr (fun _ => none))))))] t.heap ∧ va_K (dC, dI) vwCl [(c2, .object RX8)] t ∧ va_D (va_A [(c0, .inr (13, [.ref c5, .int 0, .int 0, .ref c1, .ref c6, .null, .ref c7, .ref c8, .null, .null, .int 0, .ref c9])), (c1, .inl (c2, 4, .inr (.inr (.inr (.inr (fun _ => none))))))] sz) [(c0, .inr (13, [.ref c5, .int 0, .int 0, .ref c1, .ref c6, .null, .ref c7, .ref c8, .null, .null, .int 0, .ref c9])), (c1, .inl (c2, 4, .inr (.inr (.inr (.inr (fun _ => none))))))]) (va_A [(c0, .inr (13, [.ref c5, .int 0, .int 0, .ref c1, .ref c6, .null, .ref c7, .ref c8, .null, .null, .int 0, .ref c9])), (c1, .inl (c2, 4, .inr (.inr (.inr (.inr (fun _ => none))))))] sz)) 0 0 (va_A [(c0, .inr (13, [.ref c5, .int 0, .int 0, .ref c1, .ref c6, .null, .ref c7, .ref c8, .null, .null, .int 0, .ref c9])), (c1, .inl (c2, 4, .inr (.inr (.inr (.inr (fun _ => none))))))] sz) := by
  refine Met.ofW (cc := cX12_before) (maxL := 4) (ret := (some .int)) (by decide) rfl ?_
  intro p e s m args below meth c s₁ B hml hv
  obtain ⟨rfl, hsz, hP, hK, hD0, hN⟩ := hv
  have hx := B.exec
  have hb := B.bytes
  have hr := B.returns
  have hts := atoms_spec (ws := wsX12_before) B.pre
  have hown : s.vm.findClass RX12 = some m.cls := findClass_of_methodNamed B.named
  have hlocks := B.notSynchronized
  subst hsz
  have hD := hD0.self (sz := s.heap.size)
  generalize hAe : va_A [(c0, .inr (13, [.ref c5, .int 0, .int 0, .ref c1, .ref c6, .null, .ref c7, .ref c8, .null, .null, .int 0, .ref c9])), (c1, .inl (c2, 4, .inr (.inr (.inr (.inr (fun _ => none))))))] s.heap.size = A at hD hN ⊢
  have hA : ∀ q : Nat, s.heap.size ≤ q → A q := fun q h => by rw [← hAe]; exact Or.inr h
  have hS : va_S A s.heap s.heap [] := va_S.rf
  have hl := lv_entry ([.ref c0, .int c3, .int c4]) (n := 4) (Nat.le_of_ble_eq_true rfl)
  rw [lg_entry_eq]
  generalize (lg_sl ([.ref c0, .int c3, .int c4]) ++ List.replicate (4 - (lg_sl ([.ref c0, .int c3, .int c4])).length) Slot.unset).toArray = ls at hl ⊢
  have hl : lv_has ls 4 [(0, .ref c0), (1, .int c3), (2, .int c4)] := hl
  refine lv_aload_n hx hb dX12_before_0 rfl (lv_at hl 0 rfl) ?_
  refine lv_iload_n hx hb dX12_before_1 rfl (lv_at hl 1 rfl) ?_
  have hPc := hP.sub (ws' := [(c0, .inr (13, [.ref c5, .int 0, .int 0, .ref c1, .ref c6, .null, .ref c7, .ref c8, .null, .null, .int 0, .ref c9])), (c1, .inl (c2, 4, .inr (.inr (.inr (.inr (fun _ => none))))))]) [0, 1] rfl
  have hDc := hD.sub (ws' := [(c0, .inr (13, [.ref c5, .int 0, .int 0, .ref c1, .ref c6, .null, .ref c7, .ref c8, .null, .null, .int 0, .ref c9])), (c1, .inl (c2, 4, .inr (.inr (.inr (.inr (fun _ => none))))))]) [0, 1] (by decide) rfl
  have hKc := hK.sub (tys' := [(c2, .object RX8)]) [0] rfl
  have hFc := va_free (wc := [(c0, .inr (13, [.ref c5, .int 0, .int 0, .ref c1, .ref c6, .null, .ref c7, .ref c8, .null, .null, .int 0, .ref c9])), (c1, .inl (c2, 4, .inr (.inr (.inr (.inr (fun _ => none))))))]) hD hS hA [0, 1] rfl
  refine va_callq (va_runV (As := [.int c3]) (rest := []) ⟨hx, hb, hml, hown, hts⟩ (k_X12_programOf l dC dI c0 c1 c2 c3 c5 c6 c7 c8 c9 s.heap.size) (cwV 1 hts gX12_before_X12_programOf rfl rfl rfl (by decide +kernel) ⟨Nat.le_of_ble_eq_true rfl, Nat.le_of_ble_eq_true rfl⟩) ⟨fun a U g mk q => by obtain ⟨q0, q1, qP, qK, qD, qN⟩ := q; exact ⟨q0, q1, qP, va_K.moved (u := U) (U := U.calling g mk a) (Vm.Alike.refl U.vm) qK, qD, nv_same rfl rfl qN⟩, va_recv hKc hPc (ci := 13) (q0 := 0) rfl rfl, fun U hU hW => ⟨rfl, by rw [hU], by rw [hU]; exact hPc, va_K.moved hW.alike hKc, hDc.weaken (fun _ _ _ _ => trivial), nv_call hS hFc hU hW hN⟩⟩ rfl rfl hl.1 rfl (lv_room (Nat.le_of_ble_eq_true rfl)) dX12_before_2 ⟨by decide +kernel, by decide +kernel⟩) hS (fun q _ h => hFc q h) hFc (fun r1 u t H1 locs ht hvm hw hB hz1 hk1 hS => ?_)
  obtain ⟨hP1, hK1, hD1⟩ := hB
  rw [ht] at hP1
  have hK1 := va_K.moved hvm.symm hK1
  obtain rfl : r1 = none := by rcases hw with ⟨_, h9⟩ | ⟨_, _, h9⟩ | ⟨_, _, h9⟩ | h9 <;> first | exact h9 | exact h9.elim
  obtain ⟨hP, hD⟩ := va_join (wr := []) (w1 := [(c0, .inr (13, [.ref c5, .int 0, .int 0, .ref c1, .ref c6, .null, .ref c7, .ref c8, .null, .null, .int 0, .ref c9])), (c1, .inl (c2, 4, .inr (.inr (.inr (.inr (fun _ => none))))))]) hP hD [0, 1] [] rfl rfl (by decide) (by decide) hk1 hFc hP1 hD1
  have hK := (hK.sub (tys' := []) [] rfl).app hK1
  generalize H1 = H at hP hS ⊢
  have hP : va_P (dC, dI) vwCl [(c0, .inr (13, [.ref c5, .int 0, .int 0, .ref c1, .ref c6, .null, .ref c7, .ref c8, .null, .null, .int 0, .ref c9])), (c1, .inl (c2, 4, .inr (.inr (.inr (.inr (fun _ => none))))))] H := hP
  have hD : va_D A [(c0, .inr (13, [.ref c5, .int 0, .int 0, .ref c1, .ref c6, .null, .ref c7, .ref c8, .null, .null, .int 0, .ref c9])), (c1, .inl (c2, 4, .inr (.inr (.inr (.inr (fun _ => none))))))] := hD
  have hK : va_K (dC, dI) vwCl [(c2, .object RX8)] s := hK
  refine W.widen (k := 0) (n := 0) (by decide +kernel) (by decide +kernel) ?_
  refine lv_astore_nN (lv' := [(3, .null), (0, .ref c0), (1, .int c3), (2, .int c4)]) hx hb dX12_before_5 rfl hl (by decide) rfl (fun ls hl => ?_)
  refine lv_aload_nN hx hb dX12_before_6 rfl (lv_at hl 0 rfl) ?_
  refine lv_ifnonnullN hx hb dX12_before_7 ?_
  refine lv_iconst (v := (-1)) hx hb dX12_before_10 (by decide) ?_
  refine lv_goto (tgt := 19) hx hb dX12_before_11 (by decide) ?_
  have hP9 := hP.sub (ws' := [(c0, .inr (13, [.ref c5, .int 0, .int 0, .ref c1, .ref c6, .null, .ref c7, .ref c8, .null, .null, .int 0, .ref c9])), (c1, .inl (c2, 4, .inr (.inr (.inr (.inr (fun _ => none))))))]) [0, 1] rfl
  have hD9 := hD.sub (ws' := [(c0, .inr (13, [.ref c5, .int 0, .int 0, .ref c1, .ref c6, .null, .ref c7, .ref c8, .null, .null, .int 0, .ref c9])), (c1, .inl (c2, 4, .inr (.inr (.inr (.inr (fun _ => none))))))]) [0, 1] (by decide) rfl
  have hK9 := hK.sub (tys' := [(c2, .object RX8)]) [0] rfl
  refine W.widen (k := 0) (n := 0) (by decide +kernel) (by decide +kernel) ?_
  exact W.iret (v := (-1)) hx hb hr (fun t ht hW => ⟨⟨(-1), (), rfl, rfl, by rw [ht]; exact hP9, va_K.moved hW.alike hK9, hD9⟩, hS.F ht⟩) hS.2.2 dX12_before_19
set_option maxHeartbeats 40000000 in
set_option maxRecDepth 100000 in
theorem k_X12_line (l : Launch) (dC : Nat → ClassId) (dI : Nat → Nat → Nat) (c0 : Nat) (c1 : Nat) (c2 : ClassId) (c3 : Int32) (c4 : Int32) (c5 : Nat) (c6 : Nat) (c7 : Nat) (c8 : Nat) (c9 : Nat) (sz : Nat) : Met l yX12_line wsX12_line ({ frames := 1, cells := 0, slots := 0, locals := 21 }) (va_Pc [.ref c0, .int c3, .int c4] (fun U => U.heap.size = sz ∧ va_P (dC, dI) vwCl [(c0, .inr (13, [.ref c5, .int 0, .int 0, .ref c1, .ref c6, .null, .ref c7, .ref c8, .null, .null, .int 0, .ref c9])), (c1, .inl (c2, 4, .inr (.inr (.inr (.inr (fun _ => none))))))] U.heap ∧ va_K (dC, dI) vwCl [(c2, .object RX8)] U ∧ va_D (fun _ => True) [(c0, .inr (13, [.ref c5, .int 0, .int 0, .ref c1, .ref c6, .null, .ref c7, .ref c8, .null, .null, .int 0, .ref c9])), (c1, .inl (c2, 4, .inr (.inr (.inr (.inr (fun _ => none))))))] ∧ nv_E (va_A [(c0, .inr (13, [.ref c5, .int 0, .int 0, .ref c1, .ref c6, .null, .ref c7, .ref c8, .null, .null, .int 0, .ref c9])), (c1, .inl (c2, 4, .inr (.inr (.inr (.inr (fun _ => none))))))] sz) U)) (va_Qi (fun r _ => r = 0) (fun (_ : Unit) t => va_P (dC, dI) vwCl [(c0, .inr (13, [.ref c5, .int 0, .int 0, .ref c1, .ref c6, .null, .ref c7, .ref c8, .null, .null, .int 0, .ref c9])), (c1, .inl (c2, 4, .inr (.inr (.inr (.inr (fun _ => none))))))] t.heap ∧ va_K (dC, dI) vwCl [(c2, .object RX8)] t ∧ va_D (va_A [(c0, .inr (13, [.ref c5, .int 0, .int 0, .ref c1, .ref c6, .null, .ref c7, .ref c8, .null, .null, .int 0, .ref c9])), (c1, .inl (c2, 4, .inr (.inr (.inr (.inr (fun _ => none))))))] sz) [(c0, .inr (13, [.ref c5, .int 0, .int 0, .ref c1, .ref c6, .null, .ref c7, .ref c8, .null, .null, .int 0, .ref c9])), (c1, .inl (c2, 4, .inr (.inr (.inr (.inr (fun _ => none))))))]) (va_A [(c0, .inr (13, [.ref c5, .int 0, .int 0, .ref c1, .ref c6, .null, .ref c7, .ref c8, .null, .null, .int 0, .ref c9])), (c1, .inl (c2, 4, .inr (.inr (.inr (.inr (fun _ => none))))))] sz)) 0 0 (va_A [(c0, .inr (13, [.ref c5, .int 0, .int 0, .ref c1, .ref c6, .null, .ref c7, .ref c8, .null, .null, .int 0, .ref c9])), (c1, .inl (c2, 4, .inr (.inr (.inr (.inr (fun _ => none))))))] sz) := by
  refine Met.ofW (cc := cX12_line) (maxL := 4) (ret := (some .int)) (by decide) rfl ?_
  intro p e s m args below meth c s₁ B hml hv
  obtain ⟨rfl, hsz, hP, hK, hD0, hN⟩ := hv
  have hx := B.exec
  have hb := B.bytes
  have hr := B.returns
  have hts := atoms_spec (ws := wsX12_line) B.pre
  have hown : s.vm.findClass RX12 = some m.cls := findClass_of_methodNamed B.named
  have hlocks := B.notSynchronized
  subst hsz
  have hD := hD0.self (sz := s.heap.size)
  generalize hAe : va_A [(c0, .inr (13, [.ref c5, .int 0, .int 0, .ref c1, .ref c6, .null, .ref c7, .ref c8, .null, .null, .int 0, .ref c9])), (c1, .inl (c2, 4, .inr (.inr (.inr (.inr (fun _ => none))))))] s.heap.size = A at hD hN ⊢
  have hA : ∀ q : Nat, s.heap.size ≤ q → A q := fun q h => by rw [← hAe]; exact Or.inr h
  have hS : va_S A s.heap s.heap [] := va_S.rf
  have hl := lv_entry ([.ref c0, .int c3, .int c4]) (n := 4) (Nat.le_of_ble_eq_true rfl)
  rw [lg_entry_eq]
  generalize (lg_sl ([.ref c0, .int c3, .int c4]) ++ List.replicate (4 - (lg_sl ([.ref c0, .int c3, .int c4])).length) Slot.unset).toArray = ls at hl ⊢
  have hl : lv_has ls 4 [(0, .ref c0), (1, .int c3), (2, .int c4)] := hl
  refine lv_aload_n hx hb dX12_line_0 rfl (lv_at hl 0 rfl) ?_
  refine lv_iload_n hx hb dX12_line_1 rfl (lv_at hl 1 rfl) ?_
  have hPc := hP.sub (ws' := [(c0, .inr (13, [.ref c5, .int 0, .int 0, .ref c1, .ref c6, .null, .ref c7, .ref c8, .null, .null, .int 0, .ref c9])), (c1, .inl (c2, 4, .inr (.inr (.inr (.inr (fun _ => none))))))]) [0, 1] rfl
  have hDc := hD.sub (ws' := [(c0, .inr (13, [.ref c5, .int 0, .int 0, .ref c1, .ref c6, .null, .ref c7, .ref c8, .null, .null, .int 0, .ref c9])), (c1, .inl (c2, 4, .inr (.inr (.inr (.inr (fun _ => none))))))]) [0, 1] (by decide) rfl
  have hKc := hK.sub (tys' := [(c2, .object RX8)]) [0] rfl
  have hFc := va_free (wc := [(c0, .inr (13, [.ref c5, .int 0, .int 0, .ref c1, .ref c6, .null, .ref c7, .ref c8, .null, .null, .int 0, .ref c9])), (c1, .inl (c2, 4, .inr (.inr (.inr (.inr (fun _ => none))))))]) hD hS hA [0, 1] rfl
  refine va_callq (va_runV (As := [.int c3]) (rest := []) ⟨hx, hb, hml, hown, hts⟩ (k_X12_programOf l dC dI c0 c1 c2 c3 c5 c6 c7 c8 c9 s.heap.size) (cwV 1 hts gX12_line_X12_programOf rfl rfl rfl (by decide +kernel) ⟨Nat.le_of_ble_eq_true rfl, Nat.le_of_ble_eq_true rfl⟩) ⟨fun a U g mk q => by obtain ⟨q0, q1, qP, qK, qD, qN⟩ := q; exact ⟨q0, q1, qP, va_K.moved (u := U) (U := U.calling g mk a) (Vm.Alike.refl U.vm) qK, qD, nv_same rfl rfl qN⟩, va_recv hKc hPc (ci := 13) (q0 := 0) rfl rfl, fun U hU hW => ⟨rfl, by rw [hU], by rw [hU]; exact hPc, va_K.moved hW.alike hKc, hDc.weaken (fun _ _ _ _ => trivial), nv_call hS hFc hU hW hN⟩⟩ rfl rfl hl.1 rfl (lv_room (Nat.le_of_ble_eq_true rfl)) dX12_line_2 ⟨by decide +kernel, by decide +kernel⟩) hS (fun q _ h => hFc q h) hFc (fun r1 u t H1 locs ht hvm hw hB hz1 hk1 hS => ?_)
  obtain ⟨hP1, hK1, hD1⟩ := hB
  rw [ht] at hP1
  have hK1 := va_K.moved hvm.symm hK1
  obtain rfl : r1 = none := by rcases hw with ⟨_, h9⟩ | ⟨_, _, h9⟩ | ⟨_, _, h9⟩ | h9 <;> first | exact h9 | exact h9.elim
  obtain ⟨hP, hD⟩ := va_join (wr := []) (w1 := [(c0, .inr (13, [.ref c5, .int 0, .int 0, .ref c1, .ref c6, .null, .ref c7, .ref c8, .null, .null, .int 0, .ref c9])), (c1, .inl (c2, 4, .inr (.inr (.inr (.inr (fun _ => none))))))]) hP hD [0, 1] [] rfl rfl (by decide) (by decide) hk1 hFc hP1 hD1
  have hK := (hK.sub (tys' := []) [] rfl).app hK1
  generalize H1 = H at hP hS ⊢
  have hP : va_P (dC, dI) vwCl [(c0, .inr (13, [.ref c5, .int 0, .int 0, .ref c1, .ref c6, .null, .ref c7, .ref c8, .null, .null, .int 0, .ref c9])), (c1, .inl (c2, 4, .inr (.inr (.inr (.inr (fun _ => none))))))] H := hP
  have hD : va_D A [(c0, .inr (13, [.ref c5, .int 0, .int 0, .ref c1, .ref c6, .null, .ref c7, .ref c8, .null, .null, .int 0, .ref c9])), (c1, .inl (c2, 4, .inr (.inr (.inr (.inr (fun _ => none))))))] := hD
  have hK : va_K (dC, dI) vwCl [(c2, .object RX8)] s := hK
  refine W.widen (k := 0) (n := 0) (by decide +kernel) (by decide +kernel) ?_
  refine lv_astore_nN (lv' := [(3, .null), (0, .ref c0), (1, .int c3), (2, .int c4)]) hx hb dX12_line_5 rfl hl (by decide) rfl (fun ls hl => ?_)
  refine lv_aload_nN hx hb dX12_line_6 rfl (lv_at hl 0 rfl) ?_
  refine lv_ifnonnullN hx hb dX12_line_7 ?_
  refine lv_iconst (v := 0) hx hb dX12_line_10 (by decide) ?_
  refine lv_goto (tgt := 19) hx hb dX12_line_11 (by decide) ?_
  have hP9 := hP.sub (ws' := [(c0, .inr (13, [.ref c5, .int 0, .int 0, .ref c1, .ref c6, .null, .ref c7, .ref c8, .null, .null, .int 0, .ref c9])), (c1, .inl (c2, 4, .inr (.inr (.inr (.inr (fun _ => none))))))]) [0, 1] rfl
  have hD9 := hD.sub (ws' := [(c0, .inr (13, [.ref c5, .int 0, .int 0, .ref c1, .ref c6, .null, .ref c7, .ref c8, .null, .null, .int 0, .ref c9])), (c1, .inl (c2, 4, .inr (.inr (.inr (.inr (fun _ => none))))))]) [0, 1] (by decide) rfl
  have hK9 := hK.sub (tys' := [(c2, .object RX8)]) [0] rfl
  refine W.widen (k := 0) (n := 0) (by decide +kernel) (by decide +kernel) ?_
  exact W.iret (v := 0) hx hb hr (fun t ht hW => ⟨⟨0, (), rfl, rfl, by rw [ht]; exact hP9, va_K.moved hW.alike hK9, hD9⟩, hS.F ht⟩) hS.2.2 dX12_line_19
theorem hi_X12_reason_X11 : ∀ w ∈ u_ws RX11 TX11 16, w ∈ wsX12_reason := by decide +kernel
theorem hi_X12_reason_X12 : ∀ w ∈ u_ws RX12 TX12 12, w ∈ wsX12_reason := by decide +kernel
set_option maxHeartbeats 40000000 in
set_option maxRecDepth 100000 in
theorem k_X12_reason (l : Launch) (dC : Nat → ClassId) (dI : Nat → Nat → Nat) (c0 : Nat) (c1 : Nat) (c2 : Nat) (c3 : Nat) (c4 : Nat) (c5 : Nat) (c6 : Nat) (c7 : Nat) (c8 : Nat) (c9 : Nat) (c10 : Nat) (c11 : Nat) (c12 : Nat) (c13 : Nat) (c14 : Nat) (sz : Nat) : Met l yX12_reason wsX12_reason ({ frames := 0, cells := 0, slots := 0, locals := 0 }) (va_Pc [.ref c0] (fun U => U.heap.size = sz ∧ va_P (dC, dI) vwCl [(c0, .inr (13, [.ref c2, .int 0, .int 0, .ref c3, .ref c4, .null, .ref c1, .ref c5, .null, .null, .int 0, .ref c6])), (c1, .inr (12, [.ref c7, .ref c8, .ref c9, .ref c10, .ref c11, .ref c12, .int 0, .ref c13, .ref c14, .int 0, .int 0, .int 0, .int 0, .int 0, .int 0, .int 0]))] U.heap ∧ va_K (dC, dI) vwCl [] U ∧ va_D (fun _ => True) [(c0, .inr (13, [.ref c2, .int 0, .int 0, .ref c3, .ref c4, .null, .ref c1, .ref c5, .null, .null, .int 0, .ref c6])), (c1, .inr (12, [.ref c7, .ref c8, .ref c9, .ref c10, .ref c11, .ref c12, .int 0, .ref c13, .ref c14, .int 0, .int 0, .int 0, .int 0, .int 0, .int 0, .int 0]))] ∧ nv_E (va_A [(c0, .inr (13, [.ref c2, .int 0, .int 0, .ref c3, .ref c4, .null, .ref c1, .ref c5, .null, .null, .int 0, .ref c6])), (c1, .inr (12, [.ref c7, .ref c8, .ref c9, .ref c10, .ref c11, .ref c12, .int 0, .ref c13, .ref c14, .int 0, .int 0, .int 0, .int 0, .int 0, .int 0, .int 0]))] sz) U)) (va_Qi (fun r _ => r = 0) (fun (_ : Unit) t => va_P (dC, dI) vwCl [(c0, .inr (13, [.ref c2, .int 0, .int 0, .ref c3, .ref c4, .null, .ref c1, .ref c5, .null, .null, .int 0, .ref c6])), (c1, .inr (12, [.ref c7, .ref c8, .ref c9, .ref c10, .ref c11, .ref c12, .int 0, .ref c13, .ref c14, .int 0, .int 0, .int 0, .int 0, .int 0, .int 0, .int 0]))] t.heap ∧ va_K (dC, dI) vwCl [] t ∧ va_D (va_A [(c0, .inr (13, [.ref c2, .int 0, .int 0, .ref c3, .ref c4, .null, .ref c1, .ref c5, .null, .null, .int 0, .ref c6])), (c1, .inr (12, [.ref c7, .ref c8, .ref c9, .ref c10, .ref c11, .ref c12, .int 0, .ref c13, .ref c14, .int 0, .int 0, .int 0, .int 0, .int 0, .int 0, .int 0]))] sz) [(c0, .inr (13, [.ref c2, .int 0, .int 0, .ref c3, .ref c4, .null, .ref c1, .ref c5, .null, .null, .int 0, .ref c6])), (c1, .inr (12, [.ref c7, .ref c8, .ref c9, .ref c10, .ref c11, .ref c12, .int 0, .ref c13, .ref c14, .int 0, .int 0, .int 0, .int 0, .int 0, .int 0, .int 0]))]) (va_A [(c0, .inr (13, [.ref c2, .int 0, .int 0, .ref c3, .ref c4, .null, .ref c1, .ref c5, .null, .null, .int 0, .ref c6])), (c1, .inr (12, [.ref c7, .ref c8, .ref c9, .ref c10, .ref c11, .ref c12, .int 0, .ref c13, .ref c14, .int 0, .int 0, .int 0, .int 0, .int 0, .int 0, .int 0]))] sz)) 0 0 (va_A [(c0, .inr (13, [.ref c2, .int 0, .int 0, .ref c3, .ref c4, .null, .ref c1, .ref c5, .null, .null, .int 0, .ref c6])), (c1, .inr (12, [.ref c7, .ref c8, .ref c9, .ref c10, .ref c11, .ref c12, .int 0, .ref c13, .ref c14, .int 0, .int 0, .int 0, .int 0, .int 0, .int 0, .int 0]))] sz) := by
  refine Met.ofW (cc := cX12_reason) (maxL := 1) (ret := (some .int)) (by decide) rfl ?_
  intro p e s m args below meth c s₁ B hml hv
  obtain ⟨rfl, hsz, hP, hK, hD0, hN⟩ := hv
  have hx := B.exec
  have hb := B.bytes
  have hr := B.returns
  have hts := atoms_spec (ws := wsX12_reason) B.pre
  have hown : s.vm.findClass RX12 = some m.cls := findClass_of_methodNamed B.named
  have hlocks := B.notSynchronized
  subst hsz
  have hD := hD0.self (sz := s.heap.size)
  generalize hAe : va_A [(c0, .inr (13, [.ref c2, .int 0, .int 0, .ref c3, .ref c4, .null, .ref c1, .ref c5, .null, .null, .int 0, .ref c6])), (c1, .inr (12, [.ref c7, .ref c8, .ref c9, .ref c10, .ref c11, .ref c12, .int 0, .ref c13, .ref c14, .int 0, .int 0, .int 0, .int 0, .int 0, .int 0, .int 0]))] s.heap.size = A at hD hN ⊢
  have hA : ∀ q : Nat, s.heap.size ≤ q → A q := fun q h => by rw [← hAe]; exact Or.inr h
  have hS : va_S A s.heap s.heap [] := va_S.rf
  have hl := lv_entry ([.ref c0]) (n := 1) (Nat.le_of_ble_eq_true rfl)
  rw [lg_entry_eq]
  generalize (lg_sl ([.ref c0]) ++ List.replicate (1 - (lg_sl ([.ref c0])).length) Slot.unset).toArray = ls at hl ⊢
  have hl : lv_has ls 1 [(0, .ref c0)] := hl
  refine lv_aload_n hx hb dX12_reason_0 rfl (lv_at hl 0 rfl) ?_
  refine va_get (D := (dC, dI)) (ci := 13) (v := .ref c1) (C := RX12) (T := TX12) (N := 12) hx hb hts hi_X12_reason_X12 hown hK hP 0 rfl rfl 6 (by decide) (hts (.fieldLink RX12 26 "TimeMachine" "timeline" "LTimeMachine$Timeline;") (List.mem_of_getElem? (i := 1) (by decide +kernel))) (fun _ h9 => h9) rfl dX12_reason_1 ?_
  refine va_get (D := (dC, dI)) (ci := 12) (v := .int 0) (C := RX11) (T := TX11) (N := 16) hx hb hts hi_X12_reason_X11 hown hK hP 1 rfl rfl 15 (by decide) (hts (.fieldLink RX12 151 "TimeMachine$Timeline" "why" "I") (List.mem_of_getElem? (i := 2) (by decide +kernel))) (fun _ h9 => h9) rfl dX12_reason_4 ?_
  have hP9 := hP.sub (ws' := [(c0, .inr (13, [.ref c2, .int 0, .int 0, .ref c3, .ref c4, .null, .ref c1, .ref c5, .null, .null, .int 0, .ref c6])), (c1, .inr (12, [.ref c7, .ref c8, .ref c9, .ref c10, .ref c11, .ref c12, .int 0, .ref c13, .ref c14, .int 0, .int 0, .int 0, .int 0, .int 0, .int 0, .int 0]))]) [0, 1] rfl
  have hD9 := hD.sub (ws' := [(c0, .inr (13, [.ref c2, .int 0, .int 0, .ref c3, .ref c4, .null, .ref c1, .ref c5, .null, .null, .int 0, .ref c6])), (c1, .inr (12, [.ref c7, .ref c8, .ref c9, .ref c10, .ref c11, .ref c12, .int 0, .ref c13, .ref c14, .int 0, .int 0, .int 0, .int 0, .int 0, .int 0, .int 0]))]) [0, 1] (by decide) rfl
  have hK9 := hK.sub (tys' := []) [] rfl
  refine W.widen (k := 0) (n := 0) (by decide +kernel) (by decide +kernel) ?_
  exact W.iret (v := 0) hx hb hr (fun t ht hW => ⟨⟨0, (), rfl, rfl, by rw [ht]; exact hP9, va_K.moved hW.alike hK9, hD9⟩, hS.F ht⟩) hS.2.2 dX12_reason_7
theorem hi_X12_cut_X11 : ∀ w ∈ u_ws RX11 TX11 16, w ∈ wsX12_cut := by decide +kernel
theorem hi_X12_cut_X12 : ∀ w ∈ u_ws RX12 TX12 12, w ∈ wsX12_cut := by decide +kernel
set_option maxHeartbeats 40000000 in
set_option maxRecDepth 100000 in
theorem k_X12_cut (l : Launch) (dC : Nat → ClassId) (dI : Nat → Nat → Nat) (c0 : Nat) (c1 : Nat) (c2 : Nat) (c3 : Nat) (c4 : Nat) (c5 : Nat) (c6 : Nat) (c7 : Nat) (c8 : Nat) (c9 : Nat) (c10 : Nat) (c11 : Nat) (c12 : Nat) (c13 : Nat) (c14 : Nat) (sz : Nat) : Met l yX12_cut wsX12_cut ({ frames := 0, cells := 0, slots := 0, locals := 0 }) (va_Pc [.ref c0] (fun U => U.heap.size = sz ∧ va_P (dC, dI) vwCl [(c0, .inr (13, [.ref c2, .int 0, .int 0, .ref c3, .ref c4, .null, .ref c1, .ref c5, .null, .null, .int 0, .ref c6])), (c1, .inr (12, [.ref c7, .ref c8, .ref c9, .ref c10, .ref c11, .ref c12, .int 0, .ref c13, .ref c14, .int 0, .int 0, .int 0, .int 0, .int 0, .int 0, .int 0]))] U.heap ∧ va_K (dC, dI) vwCl [] U ∧ va_D (fun _ => True) [(c0, .inr (13, [.ref c2, .int 0, .int 0, .ref c3, .ref c4, .null, .ref c1, .ref c5, .null, .null, .int 0, .ref c6])), (c1, .inr (12, [.ref c7, .ref c8, .ref c9, .ref c10, .ref c11, .ref c12, .int 0, .ref c13, .ref c14, .int 0, .int 0, .int 0, .int 0, .int 0, .int 0, .int 0]))] ∧ nv_E (va_A [(c0, .inr (13, [.ref c2, .int 0, .int 0, .ref c3, .ref c4, .null, .ref c1, .ref c5, .null, .null, .int 0, .ref c6])), (c1, .inr (12, [.ref c7, .ref c8, .ref c9, .ref c10, .ref c11, .ref c12, .int 0, .ref c13, .ref c14, .int 0, .int 0, .int 0, .int 0, .int 0, .int 0, .int 0]))] sz) U)) (va_Qi (fun r _ => r = 0) (fun (_ : Unit) t => va_P (dC, dI) vwCl [(c0, .inr (13, [.ref c2, .int 0, .int 0, .ref c3, .ref c4, .null, .ref c1, .ref c5, .null, .null, .int 0, .ref c6])), (c1, .inr (12, [.ref c7, .ref c8, .ref c9, .ref c10, .ref c11, .ref c12, .int 0, .ref c13, .ref c14, .int 0, .int 0, .int 0, .int 0, .int 0, .int 0, .int 0]))] t.heap ∧ va_K (dC, dI) vwCl [] t ∧ va_D (va_A [(c0, .inr (13, [.ref c2, .int 0, .int 0, .ref c3, .ref c4, .null, .ref c1, .ref c5, .null, .null, .int 0, .ref c6])), (c1, .inr (12, [.ref c7, .ref c8, .ref c9, .ref c10, .ref c11, .ref c12, .int 0, .ref c13, .ref c14, .int 0, .int 0, .int 0, .int 0, .int 0, .int 0, .int 0]))] sz) [(c0, .inr (13, [.ref c2, .int 0, .int 0, .ref c3, .ref c4, .null, .ref c1, .ref c5, .null, .null, .int 0, .ref c6])), (c1, .inr (12, [.ref c7, .ref c8, .ref c9, .ref c10, .ref c11, .ref c12, .int 0, .ref c13, .ref c14, .int 0, .int 0, .int 0, .int 0, .int 0, .int 0, .int 0]))]) (va_A [(c0, .inr (13, [.ref c2, .int 0, .int 0, .ref c3, .ref c4, .null, .ref c1, .ref c5, .null, .null, .int 0, .ref c6])), (c1, .inr (12, [.ref c7, .ref c8, .ref c9, .ref c10, .ref c11, .ref c12, .int 0, .ref c13, .ref c14, .int 0, .int 0, .int 0, .int 0, .int 0, .int 0, .int 0]))] sz)) 0 0 (va_A [(c0, .inr (13, [.ref c2, .int 0, .int 0, .ref c3, .ref c4, .null, .ref c1, .ref c5, .null, .null, .int 0, .ref c6])), (c1, .inr (12, [.ref c7, .ref c8, .ref c9, .ref c10, .ref c11, .ref c12, .int 0, .ref c13, .ref c14, .int 0, .int 0, .int 0, .int 0, .int 0, .int 0, .int 0]))] sz) := by
  refine Met.ofW (cc := cX12_cut) (maxL := 1) (ret := (some .int)) (by decide) rfl ?_
  intro p e s m args below meth c s₁ B hml hv
  obtain ⟨rfl, hsz, hP, hK, hD0, hN⟩ := hv
  have hx := B.exec
  have hb := B.bytes
  have hr := B.returns
  have hts := atoms_spec (ws := wsX12_cut) B.pre
  have hown : s.vm.findClass RX12 = some m.cls := findClass_of_methodNamed B.named
  have hlocks := B.notSynchronized
  subst hsz
  have hD := hD0.self (sz := s.heap.size)
  generalize hAe : va_A [(c0, .inr (13, [.ref c2, .int 0, .int 0, .ref c3, .ref c4, .null, .ref c1, .ref c5, .null, .null, .int 0, .ref c6])), (c1, .inr (12, [.ref c7, .ref c8, .ref c9, .ref c10, .ref c11, .ref c12, .int 0, .ref c13, .ref c14, .int 0, .int 0, .int 0, .int 0, .int 0, .int 0, .int 0]))] s.heap.size = A at hD hN ⊢
  have hA : ∀ q : Nat, s.heap.size ≤ q → A q := fun q h => by rw [← hAe]; exact Or.inr h
  have hS : va_S A s.heap s.heap [] := va_S.rf
  have hl := lv_entry ([.ref c0]) (n := 1) (Nat.le_of_ble_eq_true rfl)
  rw [lg_entry_eq]
  generalize (lg_sl ([.ref c0]) ++ List.replicate (1 - (lg_sl ([.ref c0])).length) Slot.unset).toArray = ls at hl ⊢
  have hl : lv_has ls 1 [(0, .ref c0)] := hl
  refine lv_aload_n hx hb dX12_cut_0 rfl (lv_at hl 0 rfl) ?_
  refine va_get (D := (dC, dI)) (ci := 13) (v := .ref c1) (C := RX12) (T := TX12) (N := 12) hx hb hts hi_X12_cut_X12 hown hK hP 0 rfl rfl 6 (by decide) (hts (.fieldLink RX12 26 "TimeMachine" "timeline" "LTimeMachine$Timeline;") (List.mem_of_getElem? (i := 1) (by decide +kernel))) (fun _ h9 => h9) rfl dX12_cut_1 ?_
  refine va_get (D := (dC, dI)) (ci := 12) (v := .int 0) (C := RX11) (T := TX11) (N := 16) hx hb hts hi_X12_cut_X11 hown hK hP 1 rfl rfl 6 (by decide) (hts (.fieldLink RX12 131 "TimeMachine$Timeline" "booted" "Z") (List.mem_of_getElem? (i := 2) (by decide +kernel))) (fun _ h9 => h9) rfl dX12_cut_4 ?_
  refine lv_if_eq (tgt := 20) hx hb dX12_cut_7 (by decide) (fun _ => ?_) (fun h9 => absurd (by decide) h9)
  refine lv_iconst (v := 0) hx hb dX12_cut_20 (by decide) ?_
  have hP9 := hP.sub (ws' := [(c0, .inr (13, [.ref c2, .int 0, .int 0, .ref c3, .ref c4, .null, .ref c1, .ref c5, .null, .null, .int 0, .ref c6])), (c1, .inr (12, [.ref c7, .ref c8, .ref c9, .ref c10, .ref c11, .ref c12, .int 0, .ref c13, .ref c14, .int 0, .int 0, .int 0, .int 0, .int 0, .int 0, .int 0]))]) [0, 1] rfl
  have hD9 := hD.sub (ws' := [(c0, .inr (13, [.ref c2, .int 0, .int 0, .ref c3, .ref c4, .null, .ref c1, .ref c5, .null, .null, .int 0, .ref c6])), (c1, .inr (12, [.ref c7, .ref c8, .ref c9, .ref c10, .ref c11, .ref c12, .int 0, .ref c13, .ref c14, .int 0, .int 0, .int 0, .int 0, .int 0, .int 0, .int 0]))]) [0, 1] (by decide) rfl
  have hK9 := hK.sub (tys' := []) [] rfl
  refine W.widen (k := 0) (n := 0) (by decide +kernel) (by decide +kernel) ?_
  exact W.iret (v := 0) hx hb hr (fun t ht hW => ⟨⟨0, (), rfl, rfl, by rw [ht]; exact hP9, va_K.moved hW.alike hK9, hD9⟩, hS.F ht⟩) hS.2.2 dX12_cut_21
theorem hi_X12_isThere_X11 : ∀ w ∈ u_ws RX11 TX11 16, w ∈ wsX12_isThere := by decide +kernel
theorem hi_X12_isThere_X12 : ∀ w ∈ u_ws RX12 TX12 12, w ∈ wsX12_isThere := by decide +kernel
set_option maxHeartbeats 40000000 in
set_option maxRecDepth 100000 in
theorem k_X12_isThere (l : Launch) (dC : Nat → ClassId) (dI : Nat → Nat → Nat) (c0 : Nat) (c1 : Nat) (c2 : Int32) (c3 : Nat) (c4 : Nat) (c5 : Nat) (c6 : Nat) (c7 : Nat) (c8 : Nat) (c9 : Nat) (c10 : Nat) (c11 : Nat) (c12 : Nat) (c13 : Nat) (c14 : Nat) (c15 : Nat) (sz : Nat) : Met l yX12_isThere wsX12_isThere ({ frames := 0, cells := 0, slots := 0, locals := 0 }) (va_Pc [.ref c0, .int c2] (fun U => U.heap.size = sz ∧ va_P (dC, dI) vwCl [(c0, .inr (13, [.ref c3, .int 0, .int 0, .ref c4, .ref c5, .null, .ref c1, .ref c6, .null, .null, .int 0, .ref c7])), (c1, .inr (12, [.ref c8, .ref c9, .ref c10, .ref c11, .ref c12, .ref c13, .int 0, .ref c14, .ref c15, .int 0, .int 0, .int 0, .int 0, .int 0, .int 0, .int 0]))] U.heap ∧ va_K (dC, dI) vwCl [] U ∧ va_D (fun _ => True) [(c0, .inr (13, [.ref c3, .int 0, .int 0, .ref c4, .ref c5, .null, .ref c1, .ref c6, .null, .null, .int 0, .ref c7])), (c1, .inr (12, [.ref c8, .ref c9, .ref c10, .ref c11, .ref c12, .ref c13, .int 0, .ref c14, .ref c15, .int 0, .int 0, .int 0, .int 0, .int 0, .int 0, .int 0]))] ∧ nv_E (va_A [(c0, .inr (13, [.ref c3, .int 0, .int 0, .ref c4, .ref c5, .null, .ref c1, .ref c6, .null, .null, .int 0, .ref c7])), (c1, .inr (12, [.ref c8, .ref c9, .ref c10, .ref c11, .ref c12, .ref c13, .int 0, .ref c14, .ref c15, .int 0, .int 0, .int 0, .int 0, .int 0, .int 0, .int 0]))] sz) U)) (va_Qi (fun r _ => r = 0) (fun (_ : Unit) t => va_P (dC, dI) vwCl [(c0, .inr (13, [.ref c3, .int 0, .int 0, .ref c4, .ref c5, .null, .ref c1, .ref c6, .null, .null, .int 0, .ref c7])), (c1, .inr (12, [.ref c8, .ref c9, .ref c10, .ref c11, .ref c12, .ref c13, .int 0, .ref c14, .ref c15, .int 0, .int 0, .int 0, .int 0, .int 0, .int 0, .int 0]))] t.heap ∧ va_K (dC, dI) vwCl [] t ∧ va_D (va_A [(c0, .inr (13, [.ref c3, .int 0, .int 0, .ref c4, .ref c5, .null, .ref c1, .ref c6, .null, .null, .int 0, .ref c7])), (c1, .inr (12, [.ref c8, .ref c9, .ref c10, .ref c11, .ref c12, .ref c13, .int 0, .ref c14, .ref c15, .int 0, .int 0, .int 0, .int 0, .int 0, .int 0, .int 0]))] sz) [(c0, .inr (13, [.ref c3, .int 0, .int 0, .ref c4, .ref c5, .null, .ref c1, .ref c6, .null, .null, .int 0, .ref c7])), (c1, .inr (12, [.ref c8, .ref c9, .ref c10, .ref c11, .ref c12, .ref c13, .int 0, .ref c14, .ref c15, .int 0, .int 0, .int 0, .int 0, .int 0, .int 0, .int 0]))]) (va_A [(c0, .inr (13, [.ref c3, .int 0, .int 0, .ref c4, .ref c5, .null, .ref c1, .ref c6, .null, .null, .int 0, .ref c7])), (c1, .inr (12, [.ref c8, .ref c9, .ref c10, .ref c11, .ref c12, .ref c13, .int 0, .ref c14, .ref c15, .int 0, .int 0, .int 0, .int 0, .int 0, .int 0, .int 0]))] sz)) 0 0 (va_A [(c0, .inr (13, [.ref c3, .int 0, .int 0, .ref c4, .ref c5, .null, .ref c1, .ref c6, .null, .null, .int 0, .ref c7])), (c1, .inr (12, [.ref c8, .ref c9, .ref c10, .ref c11, .ref c12, .ref c13, .int 0, .ref c14, .ref c15, .int 0, .int 0, .int 0, .int 0, .int 0, .int 0, .int 0]))] sz) := by
  refine Met.ofW (cc := cX12_isThere) (maxL := 2) (ret := (some .boolean)) (by decide) rfl ?_
  intro p e s m args below meth c s₁ B hml hv
  obtain ⟨rfl, hsz, hP, hK, hD0, hN⟩ := hv
  have hx := B.exec
  have hb := B.bytes
  have hr := B.returns
  have hts := atoms_spec (ws := wsX12_isThere) B.pre
  have hown : s.vm.findClass RX12 = some m.cls := findClass_of_methodNamed B.named
  have hlocks := B.notSynchronized
  subst hsz
  have hD := hD0.self (sz := s.heap.size)
  generalize hAe : va_A [(c0, .inr (13, [.ref c3, .int 0, .int 0, .ref c4, .ref c5, .null, .ref c1, .ref c6, .null, .null, .int 0, .ref c7])), (c1, .inr (12, [.ref c8, .ref c9, .ref c10, .ref c11, .ref c12, .ref c13, .int 0, .ref c14, .ref c15, .int 0, .int 0, .int 0, .int 0, .int 0, .int 0, .int 0]))] s.heap.size = A at hD hN ⊢
  have hA : ∀ q : Nat, s.heap.size ≤ q → A q := fun q h => by rw [← hAe]; exact Or.inr h
  have hS : va_S A s.heap s.heap [] := va_S.rf
  have hl := lv_entry ([.ref c0, .int c2]) (n := 2) (Nat.le_of_ble_eq_true rfl)
  rw [lg_entry_eq]
  generalize (lg_sl ([.ref c0, .int c2]) ++ List.replicate (2 - (lg_sl ([.ref c0, .int c2])).length) Slot.unset).toArray = ls at hl ⊢
  have hl : lv_has ls 2 [(0, .ref c0), (1, .int c2)] := hl
  refine lv_aload_n hx hb dX12_isThere_0 rfl (lv_at hl 0 rfl) ?_
  refine va_get (D := (dC, dI)) (ci := 13) (v := .ref c1) (C := RX12) (T := TX12) (N := 12) hx hb hts hi_X12_isThere_X12 hown hK hP 0 rfl rfl 6 (by decide) (hts (.fieldLink RX12 26 "TimeMachine" "timeline" "LTimeMachine$Timeline;") (List.mem_of_getElem? (i := 1) (by decide +kernel))) (fun _ h9 => h9) rfl dX12_isThere_1 ?_
  refine va_get (D := (dC, dI)) (ci := 12) (v := .int 0) (C := RX11) (T := TX11) (N := 16) hx hb hts hi_X12_isThere_X11 hown hK hP 1 rfl rfl 6 (by decide) (hts (.fieldLink RX12 131 "TimeMachine$Timeline" "booted" "Z") (List.mem_of_getElem? (i := 2) (by decide +kernel))) (fun _ h9 => h9) rfl dX12_isThere_4 ?_
  refine lv_if_eq (tgt := 24) hx hb dX12_isThere_7 (by decide) (fun _ => ?_) (fun h9 => absurd (by decide) h9)
  refine lv_iconst (v := 0) hx hb dX12_isThere_24 (by decide) ?_
  have hP9 := hP.sub (ws' := [(c0, .inr (13, [.ref c3, .int 0, .int 0, .ref c4, .ref c5, .null, .ref c1, .ref c6, .null, .null, .int 0, .ref c7])), (c1, .inr (12, [.ref c8, .ref c9, .ref c10, .ref c11, .ref c12, .ref c13, .int 0, .ref c14, .ref c15, .int 0, .int 0, .int 0, .int 0, .int 0, .int 0, .int 0]))]) [0, 1] rfl
  have hD9 := hD.sub (ws' := [(c0, .inr (13, [.ref c3, .int 0, .int 0, .ref c4, .ref c5, .null, .ref c1, .ref c6, .null, .null, .int 0, .ref c7])), (c1, .inr (12, [.ref c8, .ref c9, .ref c10, .ref c11, .ref c12, .ref c13, .int 0, .ref c14, .ref c15, .int 0, .int 0, .int 0, .int 0, .int 0, .int 0, .int 0]))]) [0, 1] (by decide) rfl
  have hK9 := hK.sub (tys' := []) [] rfl
  refine W.widen (k := 0) (n := 0) (by decide +kernel) (by decide +kernel) ?_
  exact W.zret (v := 0) hx hb hr (by decide) (fun t ht hW => ⟨⟨0, (), rfl, rfl, by rw [ht]; exact hP9, va_K.moved hW.alike hK9, hD9⟩, hS.F ht⟩) hS.2.2 dX12_isThere_25
set_option maxHeartbeats 40000000 in
set_option maxRecDepth 100000 in
theorem k_X12_wrote (l : Launch) (dC : Nat → ClassId) (dI : Nat → Nat → Nat) (c0 : Nat) (c1 : Nat) (c2 : Int32) (c3 : Int32) (c4 : Nat) (c5 : Nat) (c6 : Nat) (c7 : Nat) (c8 : Nat) (c9 : Nat) (c10 : Nat) (c11 : Nat) (c12 : Nat) (c13 : Nat) (c14 : Nat) (c15 : Nat) (c16 : Nat) (sz : Nat) : Met l yX12_wrote wsX12_wrote ({ frames := 1, cells := 0, slots := 0, locals := 21 }) (va_Pc [.ref c0, .int c2, .int c3] (fun U => U.heap.size = sz ∧ va_P (dC, dI) vwCl [(c0, .inr (13, [.ref c4, .int 0, .int 0, .ref c5, .ref c6, .null, .ref c1, .ref c7, .null, .null, .int 0, .ref c8])), (c1, .inr (12, [.ref c9, .ref c10, .ref c11, .ref c12, .ref c13, .ref c14, .int 0, .ref c15, .ref c16, .int 0, .int 0, .int 0, .int 0, .int 0, .int 0, .int 0]))] U.heap ∧ va_K (dC, dI) vwCl [] U ∧ va_D (fun _ => True) [(c0, .inr (13, [.ref c4, .int 0, .int 0, .ref c5, .ref c6, .null, .ref c1, .ref c7, .null, .null, .int 0, .ref c8])), (c1, .inr (12, [.ref c9, .ref c10, .ref c11, .ref c12, .ref c13, .ref c14, .int 0, .ref c15, .ref c16, .int 0, .int 0, .int 0, .int 0, .int 0, .int 0, .int 0]))] ∧ nv_E (va_A [(c0, .inr (13, [.ref c4, .int 0, .int 0, .ref c5, .ref c6, .null, .ref c1, .ref c7, .null, .null, .int 0, .ref c8])), (c1, .inr (12, [.ref c9, .ref c10, .ref c11, .ref c12, .ref c13, .ref c14, .int 0, .ref c15, .ref c16, .int 0, .int 0, .int 0, .int 0, .int 0, .int 0, .int 0]))] sz) U)) (va_Qi (fun r _ => r = (-1)) (fun (_ : Unit) t => va_P (dC, dI) vwCl [(c0, .inr (13, [.ref c4, .int 0, .int 0, .ref c5, .ref c6, .null, .ref c1, .ref c7, .null, .null, .int 0, .ref c8])), (c1, .inr (12, [.ref c9, .ref c10, .ref c11, .ref c12, .ref c13, .ref c14, .int 0, .ref c15, .ref c16, .int 0, .int 0, .int 0, .int 0, .int 0, .int 0, .int 0]))] t.heap ∧ va_K (dC, dI) vwCl [] t ∧ va_D (va_A [(c0, .inr (13, [.ref c4, .int 0, .int 0, .ref c5, .ref c6, .null, .ref c1, .ref c7, .null, .null, .int 0, .ref c8])), (c1, .inr (12, [.ref c9, .ref c10, .ref c11, .ref c12, .ref c13, .ref c14, .int 0, .ref c15, .ref c16, .int 0, .int 0, .int 0, .int 0, .int 0, .int 0, .int 0]))] sz) [(c0, .inr (13, [.ref c4, .int 0, .int 0, .ref c5, .ref c6, .null, .ref c1, .ref c7, .null, .null, .int 0, .ref c8])), (c1, .inr (12, [.ref c9, .ref c10, .ref c11, .ref c12, .ref c13, .ref c14, .int 0, .ref c15, .ref c16, .int 0, .int 0, .int 0, .int 0, .int 0, .int 0, .int 0]))]) (va_A [(c0, .inr (13, [.ref c4, .int 0, .int 0, .ref c5, .ref c6, .null, .ref c1, .ref c7, .null, .null, .int 0, .ref c8])), (c1, .inr (12, [.ref c9, .ref c10, .ref c11, .ref c12, .ref c13, .ref c14, .int 0, .ref c15, .ref c16, .int 0, .int 0, .int 0, .int 0, .int 0, .int 0, .int 0]))] sz)) 0 0 (va_A [(c0, .inr (13, [.ref c4, .int 0, .int 0, .ref c5, .ref c6, .null, .ref c1, .ref c7, .null, .null, .int 0, .ref c8])), (c1, .inr (12, [.ref c9, .ref c10, .ref c11, .ref c12, .ref c13, .ref c14, .int 0, .ref c15, .ref c16, .int 0, .int 0, .int 0, .int 0, .int 0, .int 0, .int 0]))] sz) := by
  refine Met.ofW (cc := cX12_wrote) (maxL := 3) (ret := (some .int)) (by decide) rfl ?_
  intro p e s m args below meth c s₁ B hml hv
  obtain ⟨rfl, hsz, hP, hK, hD0, hN⟩ := hv
  have hx := B.exec
  have hb := B.bytes
  have hr := B.returns
  have hts := atoms_spec (ws := wsX12_wrote) B.pre
  have hown : s.vm.findClass RX12 = some m.cls := findClass_of_methodNamed B.named
  have hlocks := B.notSynchronized
  subst hsz
  have hD := hD0.self (sz := s.heap.size)
  generalize hAe : va_A [(c0, .inr (13, [.ref c4, .int 0, .int 0, .ref c5, .ref c6, .null, .ref c1, .ref c7, .null, .null, .int 0, .ref c8])), (c1, .inr (12, [.ref c9, .ref c10, .ref c11, .ref c12, .ref c13, .ref c14, .int 0, .ref c15, .ref c16, .int 0, .int 0, .int 0, .int 0, .int 0, .int 0, .int 0]))] s.heap.size = A at hD hN ⊢
  have hA : ∀ q : Nat, s.heap.size ≤ q → A q := fun q h => by rw [← hAe]; exact Or.inr h
  have hS : va_S A s.heap s.heap [] := va_S.rf
  have hl := lv_entry ([.ref c0, .int c2, .int c3]) (n := 3) (Nat.le_of_ble_eq_true rfl)
  rw [lg_entry_eq]
  generalize (lg_sl ([.ref c0, .int c2, .int c3]) ++ List.replicate (3 - (lg_sl ([.ref c0, .int c2, .int c3])).length) Slot.unset).toArray = ls at hl ⊢
  have hl : lv_has ls 3 [(0, .ref c0), (1, .int c2), (2, .int c3)] := hl
  refine lv_aload_n hx hb dX12_wrote_0 rfl (lv_at hl 0 rfl) ?_
  refine lv_iload_n hx hb dX12_wrote_1 rfl (lv_at hl 1 rfl) ?_
  have hPc := hP.sub (ws' := [(c0, .inr (13, [.ref c4, .int 0, .int 0, .ref c5, .ref c6, .null, .ref c1, .ref c7, .null, .null, .int 0, .ref c8])), (c1, .inr (12, [.ref c9, .ref c10, .ref c11, .ref c12, .ref c13, .ref c14, .int 0, .ref c15, .ref c16, .int 0, .int 0, .int 0, .int 0, .int 0, .int 0, .int 0]))]) [0, 1] rfl
  have hDc := hD.sub (ws' := [(c0, .inr (13, [.ref c4, .int 0, .int 0, .ref c5, .ref c6, .null, .ref c1, .ref c7, .null, .null, .int 0, .ref c8])), (c1, .inr (12, [.ref c9, .ref c10, .ref c11, .ref c12, .ref c13, .ref c14, .int 0, .ref c15, .ref c16, .int 0, .int 0, .int 0, .int 0, .int 0, .int 0, .int 0]))]) [0, 1] (by decide) rfl
  have hKc := hK.sub (tys' := []) [] rfl
  have hFc := va_free (wc := [(c0, .inr (13, [.ref c4, .int 0, .int 0, .ref c5, .ref c6, .null, .ref c1, .ref c7, .null, .null, .int 0, .ref c8])), (c1, .inr (12, [.ref c9, .ref c10, .ref c11, .ref c12, .ref c13, .ref c14, .int 0, .ref c15, .ref c16, .int 0, .int 0, .int 0, .int 0, .int 0, .int 0, .int 0]))]) hD hS hA [0, 1] rfl
  refine va_calli (va_runV (As := [.int c2]) (rest := []) ⟨hx, hb, hml, hown, hts⟩ (k_X12_isThere l dC dI c0 c1 c2 c4 c5 c6 c7 c8 c9 c10 c11 c12 c13 c14 c15 c16 s.heap.size) (cwV 1 hts gX12_wrote_X12_isThere rfl rfl rfl (by decide +kernel) ⟨Nat.le_of_ble_eq_true rfl, Nat.le_of_ble_eq_true rfl⟩) ⟨fun a U g mk q => by obtain ⟨q0, q1, qP, qK, qD, qN⟩ := q; exact ⟨q0, q1, qP, va_K.moved (u := U) (U := U.calling g mk a) (Vm.Alike.refl U.vm) qK, qD, nv_same rfl rfl qN⟩, va_recv hKc hPc (ci := 13) (q0 := 0) rfl rfl, fun U hU hW => ⟨rfl, by rw [hU], by rw [hU]; exact hPc, va_K.moved hW.alike hKc, hDc.weaken (fun _ _ _ _ => trivial), nv_call hS hFc hU hW hN⟩⟩ rfl rfl hl.1 rfl (lv_room (Nat.le_of_ble_eq_true rfl)) dX12_wrote_2 ⟨by decide +kernel, by decide +kernel⟩) hS (fun q _ h => hFc q h) hFc (fun r1 u t H1 locs ht hvm hw hB hz1 hk1 hS => ?_)
  obtain ⟨hP1, hK1, hD1⟩ := hB
  rw [ht] at hP1
  have hK1 := va_K.moved hvm.symm hK1
  obtain rfl : r1 = 0 := hw
  obtain ⟨hP, hD⟩ := va_join (wr := []) (w1 := [(c0, .inr (13, [.ref c4, .int 0, .int 0, .ref c5, .ref c6, .null, .ref c1, .ref c7, .null, .null, .int 0, .ref c8])), (c1, .inr (12, [.ref c9, .ref c10, .ref c11, .ref c12, .ref c13, .ref c14, .int 0, .ref c15, .ref c16, .int 0, .int 0, .int 0, .int 0, .int 0, .int 0, .int 0]))]) hP hD [0, 1] [] rfl rfl (by decide) (by decide) hk1 hFc hP1 hD1
  have hK := (hK.sub (tys' := []) [] rfl).app hK1
  generalize H1 = H at hP hS ⊢
  have hP : va_P (dC, dI) vwCl [(c0, .inr (13, [.ref c4, .int 0, .int 0, .ref c5, .ref c6, .null, .ref c1, .ref c7, .null, .null, .int 0, .ref c8])), (c1, .inr (12, [.ref c9, .ref c10, .ref c11, .ref c12, .ref c13, .ref c14, .int 0, .ref c15, .ref c16, .int 0, .int 0, .int 0, .int 0, .int 0, .int 0, .int 0]))] H := hP
  have hD : va_D A [(c0, .inr (13, [.ref c4, .int 0, .int 0, .ref c5, .ref c6, .null, .ref c1, .ref c7, .null, .null, .int 0, .ref c8])), (c1, .inr (12, [.ref c9, .ref c10, .ref c11, .ref c12, .ref c13, .ref c14, .int 0, .ref c15, .ref c16, .int 0, .int 0, .int 0, .int 0, .int 0, .int 0, .int 0]))] := hD
  have hK : va_K (dC, dI) vwCl [] s := hK
  refine W.widen (k := 0) (n := 0) (by decide +kernel) (by decide +kernel) ?_
  refine lv_if_eq (tgt := 30) hx hb dX12_wrote_5 (by decide) (fun _ => ?_) (fun h9 => absurd (by decide) h9)
  refine lv_iconst (v := (-1)) hx hb dX12_wrote_30 (by decide) ?_
  have hP9 := hP.sub (ws' := [(c0, .inr (13, [.ref c4, .int 0, .int 0, .ref c5, .ref c6, .null, .ref c1, .ref c7, .null, .null, .int 0, .ref c8])), (c1, .inr (12, [.ref c9, .ref c10, .ref c11, .ref c12, .ref c13, .ref c14, .int 0, .ref c15, .ref c16, .int 0, .int 0, .int 0, .int 0, .int 0, .int 0, .int 0]))]) [0, 1] rfl
  have hD9 := hD.sub (ws' := [(c0, .inr (13, [.ref c4, .int 0, .int 0, .ref c5, .ref c6, .null, .ref c1, .ref c7, .null, .null, .int 0, .ref c8])), (c1, .inr (12, [.ref c9, .ref c10, .ref c11, .ref c12, .ref c13, .ref c14, .int 0, .ref c15, .ref c16, .int 0, .int 0, .int 0, .int 0, .int 0, .int 0, .int 0]))]) [0, 1] (by decide) rfl
  have hK9 := hK.sub (tys' := []) [] rfl
  refine W.widen (k := 0) (n := 0) (by decide +kernel) (by decide +kernel) ?_
  exact W.iret (v := (-1)) hx hb hr (fun t ht hW => ⟨⟨(-1), (), rfl, rfl, by rw [ht]; exact hP9, va_K.moved hW.alike hK9, hD9⟩, hS.F ht⟩) hS.2.2 dX12_wrote_31
set_option maxHeartbeats 40000000 in
set_option maxRecDepth 100000 in
theorem k_X12_register (l : Launch) (dC : Nat → ClassId) (dI : Nat → Nat → Nat) (c0 : Nat) (c1 : Nat) (c2 : Int32) (c3 : Int32) (c4 : Nat) (c5 : Nat) (c6 : Nat) (c7 : Nat) (c8 : Nat) (c9 : Nat) (c10 : Nat) (c11 : Nat) (c12 : Nat) (c13 : Nat) (c14 : Nat) (c15 : Nat) (c16 : Nat) (sz : Nat) : Met l yX12_register wsX12_register ({ frames := 1, cells := 0, slots := 0, locals := 21 }) (va_Pc [.ref c0, .int c2, .int c3] (fun U => U.heap.size = sz ∧ va_P (dC, dI) vwCl [(c0, .inr (13, [.ref c4, .int 0, .int 0, .ref c5, .ref c6, .null, .ref c1, .ref c7, .null, .null, .int 0, .ref c8])), (c1, .inr (12, [.ref c9, .ref c10, .ref c11, .ref c12, .ref c13, .ref c14, .int 0, .ref c15, .ref c16, .int 0, .int 0, .int 0, .int 0, .int 0, .int 0, .int 0]))] U.heap ∧ va_K (dC, dI) vwCl [] U ∧ va_D (fun _ => True) [(c0, .inr (13, [.ref c4, .int 0, .int 0, .ref c5, .ref c6, .null, .ref c1, .ref c7, .null, .null, .int 0, .ref c8])), (c1, .inr (12, [.ref c9, .ref c10, .ref c11, .ref c12, .ref c13, .ref c14, .int 0, .ref c15, .ref c16, .int 0, .int 0, .int 0, .int 0, .int 0, .int 0, .int 0]))] ∧ nv_E (va_A [(c0, .inr (13, [.ref c4, .int 0, .int 0, .ref c5, .ref c6, .null, .ref c1, .ref c7, .null, .null, .int 0, .ref c8])), (c1, .inr (12, [.ref c9, .ref c10, .ref c11, .ref c12, .ref c13, .ref c14, .int 0, .ref c15, .ref c16, .int 0, .int 0, .int 0, .int 0, .int 0, .int 0, .int 0]))] sz) U)) (va_Qi (fun r _ => r = 0) (fun (_ : Unit) t => va_P (dC, dI) vwCl [(c0, .inr (13, [.ref c4, .int 0, .int 0, .ref c5, .ref c6, .null, .ref c1, .ref c7, .null, .null, .int 0, .ref c8])), (c1, .inr (12, [.ref c9, .ref c10, .ref c11, .ref c12, .ref c13, .ref c14, .int 0, .ref c15, .ref c16, .int 0, .int 0, .int 0, .int 0, .int 0, .int 0, .int 0]))] t.heap ∧ va_K (dC, dI) vwCl [] t ∧ va_D (va_A [(c0, .inr (13, [.ref c4, .int 0, .int 0, .ref c5, .ref c6, .null, .ref c1, .ref c7, .null, .null, .int 0, .ref c8])), (c1, .inr (12, [.ref c9, .ref c10, .ref c11, .ref c12, .ref c13, .ref c14, .int 0, .ref c15, .ref c16, .int 0, .int 0, .int 0, .int 0, .int 0, .int 0, .int 0]))] sz) [(c0, .inr (13, [.ref c4, .int 0, .int 0, .ref c5, .ref c6, .null, .ref c1, .ref c7, .null, .null, .int 0, .ref c8])), (c1, .inr (12, [.ref c9, .ref c10, .ref c11, .ref c12, .ref c13, .ref c14, .int 0, .ref c15, .ref c16, .int 0, .int 0, .int 0, .int 0, .int 0, .int 0, .int 0]))]) (va_A [(c0, .inr (13, [.ref c4, .int 0, .int 0, .ref c5, .ref c6, .null, .ref c1, .ref c7, .null, .null, .int 0, .ref c8])), (c1, .inr (12, [.ref c9, .ref c10, .ref c11, .ref c12, .ref c13, .ref c14, .int 0, .ref c15, .ref c16, .int 0, .int 0, .int 0, .int 0, .int 0, .int 0, .int 0]))] sz)) 0 0 (va_A [(c0, .inr (13, [.ref c4, .int 0, .int 0, .ref c5, .ref c6, .null, .ref c1, .ref c7, .null, .null, .int 0, .ref c8])), (c1, .inr (12, [.ref c9, .ref c10, .ref c11, .ref c12, .ref c13, .ref c14, .int 0, .ref c15, .ref c16, .int 0, .int 0, .int 0, .int 0, .int 0, .int 0, .int 0]))] sz) := by
  refine Met.ofW (cc := cX12_register) (maxL := 3) (ret := (some .int)) (by decide) rfl ?_
  intro p e s m args below meth c s₁ B hml hv
  obtain ⟨rfl, hsz, hP, hK, hD0, hN⟩ := hv
  have hx := B.exec
  have hb := B.bytes
  have hr := B.returns
  have hts := atoms_spec (ws := wsX12_register) B.pre
  have hown : s.vm.findClass RX12 = some m.cls := findClass_of_methodNamed B.named
  have hlocks := B.notSynchronized
  subst hsz
  have hD := hD0.self (sz := s.heap.size)
  generalize hAe : va_A [(c0, .inr (13, [.ref c4, .int 0, .int 0, .ref c5, .ref c6, .null, .ref c1, .ref c7, .null, .null, .int 0, .ref c8])), (c1, .inr (12, [.ref c9, .ref c10, .ref c11, .ref c12, .ref c13, .ref c14, .int 0, .ref c15, .ref c16, .int 0, .int 0, .int 0, .int 0, .int 0, .int 0, .int 0]))] s.heap.size = A at hD hN ⊢
  have hA : ∀ q : Nat, s.heap.size ≤ q → A q := fun q h => by rw [← hAe]; exact Or.inr h
  have hS : va_S A s.heap s.heap [] := va_S.rf
  have hl := lv_entry ([.ref c0, .int c2, .int c3]) (n := 3) (Nat.le_of_ble_eq_true rfl)
  rw [lg_entry_eq]
  generalize (lg_sl ([.ref c0, .int c2, .int c3]) ++ List.replicate (3 - (lg_sl ([.ref c0, .int c2, .int c3])).length) Slot.unset).toArray = ls at hl ⊢
  have hl : lv_has ls 3 [(0, .ref c0), (1, .int c2), (2, .int c3)] := hl
  refine lv_aload_n hx hb dX12_register_0 rfl (lv_at hl 0 rfl) ?_
  refine lv_iload_n hx hb dX12_register_1 rfl (lv_at hl 1 rfl) ?_
  have hPc := hP.sub (ws' := [(c0, .inr (13, [.ref c4, .int 0, .int 0, .ref c5, .ref c6, .null, .ref c1, .ref c7, .null, .null, .int 0, .ref c8])), (c1, .inr (12, [.ref c9, .ref c10, .ref c11, .ref c12, .ref c13, .ref c14, .int 0, .ref c15, .ref c16, .int 0, .int 0, .int 0, .int 0, .int 0, .int 0, .int 0]))]) [0, 1] rfl
  have hDc := hD.sub (ws' := [(c0, .inr (13, [.ref c4, .int 0, .int 0, .ref c5, .ref c6, .null, .ref c1, .ref c7, .null, .null, .int 0, .ref c8])), (c1, .inr (12, [.ref c9, .ref c10, .ref c11, .ref c12, .ref c13, .ref c14, .int 0, .ref c15, .ref c16, .int 0, .int 0, .int 0, .int 0, .int 0, .int 0, .int 0]))]) [0, 1] (by decide) rfl
  have hKc := hK.sub (tys' := []) [] rfl
  have hFc := va_free (wc := [(c0, .inr (13, [.ref c4, .int 0, .int 0, .ref c5, .ref c6, .null, .ref c1, .ref c7, .null, .null, .int 0, .ref c8])), (c1, .inr (12, [.ref c9, .ref c10, .ref c11, .ref c12, .ref c13, .ref c14, .int 0, .ref c15, .ref c16, .int 0, .int 0, .int 0, .int 0, .int 0, .int 0, .int 0]))]) hD hS hA [0, 1] rfl
  refine va_calli (va_runV (As := [.int c2]) (rest := []) ⟨hx, hb, hml, hown, hts⟩ (k_X12_isThere l dC dI c0 c1 c2 c4 c5 c6 c7 c8 c9 c10 c11 c12 c13 c14 c15 c16 s.heap.size) (cwV 1 hts gX12_register_X12_isThere rfl rfl rfl (by decide +kernel) ⟨Nat.le_of_ble_eq_true rfl, Nat.le_of_ble_eq_true rfl⟩) ⟨fun a U g mk q => by obtain ⟨q0, q1, qP, qK, qD, qN⟩ := q; exact ⟨q0, q1, qP, va_K.moved (u := U) (U := U.calling g mk a) (Vm.Alike.refl U.vm) qK, qD, nv_same rfl rfl qN⟩, va_recv hKc hPc (ci := 13) (q0 := 0) rfl rfl, fun U hU hW => ⟨rfl, by rw [hU], by rw [hU]; exact hPc, va_K.moved hW.alike hKc, hDc.weaken (fun _ _ _ _ => trivial), nv_call hS hFc hU hW hN⟩⟩ rfl rfl hl.1 rfl (lv_room (Nat.le_of_ble_eq_true rfl)) dX12_register_2 ⟨by decide +kernel, by decide +kernel⟩) hS (fun q _ h => hFc q h) hFc (fun r1 u t H1 locs ht hvm hw hB hz1 hk1 hS => ?_)
  obtain ⟨hP1, hK1, hD1⟩ := hB
  rw [ht] at hP1
  have hK1 := va_K.moved hvm.symm hK1
  obtain rfl : r1 = 0 := hw
  obtain ⟨hP, hD⟩ := va_join (wr := []) (w1 := [(c0, .inr (13, [.ref c4, .int 0, .int 0, .ref c5, .ref c6, .null, .ref c1, .ref c7, .null, .null, .int 0, .ref c8])), (c1, .inr (12, [.ref c9, .ref c10, .ref c11, .ref c12, .ref c13, .ref c14, .int 0, .ref c15, .ref c16, .int 0, .int 0, .int 0, .int 0, .int 0, .int 0, .int 0]))]) hP hD [0, 1] [] rfl rfl (by decide) (by decide) hk1 hFc hP1 hD1
  have hK := (hK.sub (tys' := []) [] rfl).app hK1
  generalize H1 = H at hP hS ⊢
  have hP : va_P (dC, dI) vwCl [(c0, .inr (13, [.ref c4, .int 0, .int 0, .ref c5, .ref c6, .null, .ref c1, .ref c7, .null, .null, .int 0, .ref c8])), (c1, .inr (12, [.ref c9, .ref c10, .ref c11, .ref c12, .ref c13, .ref c14, .int 0, .ref c15, .ref c16, .int 0, .int 0, .int 0, .int 0, .int 0, .int 0, .int 0]))] H := hP
  have hD : va_D A [(c0, .inr (13, [.ref c4, .int 0, .int 0, .ref c5, .ref c6, .null, .ref c1, .ref c7, .null, .null, .int 0, .ref c8])), (c1, .inr (12, [.ref c9, .ref c10, .ref c11, .ref c12, .ref c13, .ref c14, .int 0, .ref c15, .ref c16, .int 0, .int 0, .int 0, .int 0, .int 0, .int 0, .int 0]))] := hD
  have hK : va_K (dC, dI) vwCl [] s := hK
  refine W.widen (k := 0) (n := 0) (by decide +kernel) (by decide +kernel) ?_
  refine lv_if_eq (tgt := 33) hx hb dX12_register_5 (by decide) (fun _ => ?_) (fun h9 => absurd (by decide) h9)
  refine lv_iconst (v := 0) hx hb dX12_register_33 (by decide) ?_
  have hP9 := hP.sub (ws' := [(c0, .inr (13, [.ref c4, .int 0, .int 0, .ref c5, .ref c6, .null, .ref c1, .ref c7, .null, .null, .int 0, .ref c8])), (c1, .inr (12, [.ref c9, .ref c10, .ref c11, .ref c12, .ref c13, .ref c14, .int 0, .ref c15, .ref c16, .int 0, .int 0, .int 0, .int 0, .int 0, .int 0, .int 0]))]) [0, 1] rfl
  have hD9 := hD.sub (ws' := [(c0, .inr (13, [.ref c4, .int 0, .int 0, .ref c5, .ref c6, .null, .ref c1, .ref c7, .null, .null, .int 0, .ref c8])), (c1, .inr (12, [.ref c9, .ref c10, .ref c11, .ref c12, .ref c13, .ref c14, .int 0, .ref c15, .ref c16, .int 0, .int 0, .int 0, .int 0, .int 0, .int 0, .int 0]))]) [0, 1] (by decide) rfl
  have hK9 := hK.sub (tys' := []) [] rfl
  refine W.widen (k := 0) (n := 0) (by decide +kernel) (by decide +kernel) ?_
  exact W.iret (v := 0) hx hb hr (fun t ht hW => ⟨⟨0, (), rfl, rfl, by rw [ht]; exact hP9, va_K.moved hW.alike hK9, hD9⟩, hS.F ht⟩) hS.2.2 dX12_register_34
set_option maxHeartbeats 40000000 in
set_option maxRecDepth 100000 in
theorem k_X12_process (l : Launch) (dC : Nat → ClassId) (dI : Nat → Nat → Nat) (c0 : Nat) (c1 : Nat) (c2 : Int32) (c3 : Int32) (c4 : Nat) (c5 : Nat) (c6 : Nat) (c7 : Nat) (c8 : Nat) (c9 : Nat) (c10 : Nat) (c11 : Nat) (c12 : Nat) (c13 : Nat) (c14 : Nat) (c15 : Nat) (c16 : Nat) (sz : Nat) : Met l yX12_process wsX12_process ({ frames := 1, cells := 0, slots := 0, locals := 21 }) (va_Pc [.ref c0, .int c2, .int c3] (fun U => U.heap.size = sz ∧ va_P (dC, dI) vwCl [(c0, .inr (13, [.ref c4, .int 0, .int 0, .ref c5, .ref c6, .null, .ref c1, .ref c7, .null, .null, .int 0, .ref c8])), (c1, .inr (12, [.ref c9, .ref c10, .ref c11, .ref c12, .ref c13, .ref c14, .int 0, .ref c15, .ref c16, .int 0, .int 0, .int 0, .int 0, .int 0, .int 0, .int 0]))] U.heap ∧ va_K (dC, dI) vwCl [] U ∧ va_D (fun _ => True) [(c0, .inr (13, [.ref c4, .int 0, .int 0, .ref c5, .ref c6, .null, .ref c1, .ref c7, .null, .null, .int 0, .ref c8])), (c1, .inr (12, [.ref c9, .ref c10, .ref c11, .ref c12, .ref c13, .ref c14, .int 0, .ref c15, .ref c16, .int 0, .int 0, .int 0, .int 0, .int 0, .int 0, .int 0]))] ∧ nv_E (va_A [(c0, .inr (13, [.ref c4, .int 0, .int 0, .ref c5, .ref c6, .null, .ref c1, .ref c7, .null, .null, .int 0, .ref c8])), (c1, .inr (12, [.ref c9, .ref c10, .ref c11, .ref c12, .ref c13, .ref c14, .int 0, .ref c15, .ref c16, .int 0, .int 0, .int 0, .int 0, .int 0, .int 0, .int 0]))] sz) U)) (va_Qi (fun r _ => ((c3 < 0) ∧ r = (-1)) ∨ ((¬ c3 < 0) ∧ (c3 ≤ 7) ∧ (c3 = 1) ∧ r = (-1)) ∨ ((¬ c3 < 0) ∧ (c3 ≤ 7) ∧ (¬ c3 = 1) ∧ (¬ c3 = 7) ∧ r = 0) ∨ ((¬ c3 < 0) ∧ (c3 ≤ 7) ∧ (¬ c3 = 1) ∧ (c3 = 7) ∧ r = (-1)) ∨ ((¬ c3 < 0) ∧ (¬ c3 ≤ 7) ∧ r = (-1)) ∨ False) (fun (_ : Unit) t => True) (va_A [(c0, .inr (13, [.ref c4, .int 0, .int 0, .ref c5, .ref c6, .null, .ref c1, .ref c7, .null, .null, .int 0, .ref c8])), (c1, .inr (12, [.ref c9, .ref c10, .ref c11, .ref c12, .ref c13, .ref c14, .int 0, .ref c15, .ref c16, .int 0, .int 0, .int 0, .int 0, .int 0, .int 0, .int 0]))] sz)) 0 0 (va_A [(c0, .inr (13, [.ref c4, .int 0, .int 0, .ref c5, .ref c6, .null, .ref c1, .ref c7, .null, .null, .int 0, .ref c8])), (c1, .inr (12, [.ref c9, .ref c10, .ref c11, .ref c12, .ref c13, .ref c14, .int 0, .ref c15, .ref c16, .int 0, .int 0, .int 0, .int 0, .int 0, .int 0, .int 0]))] sz) := by
  refine Met.ofW (cc := cX12_process) (maxL := 3) (ret := (some .int)) (by decide) rfl ?_
  intro p e s m args below meth c s₁ B hml hv
  obtain ⟨rfl, hsz, hP, hK, hD0, hN⟩ := hv
  have hx := B.exec
  have hb := B.bytes
  have hr := B.returns
  have hts := atoms_spec (ws := wsX12_process) B.pre
  have hown : s.vm.findClass RX12 = some m.cls := findClass_of_methodNamed B.named
  have hlocks := B.notSynchronized
  subst hsz
  have hD := hD0.self (sz := s.heap.size)
  generalize hAe : va_A [(c0, .inr (13, [.ref c4, .int 0, .int 0, .ref c5, .ref c6, .null, .ref c1, .ref c7, .null, .null, .int 0, .ref c8])), (c1, .inr (12, [.ref c9, .ref c10, .ref c11, .ref c12, .ref c13, .ref c14, .int 0, .ref c15, .ref c16, .int 0, .int 0, .int 0, .int 0, .int 0, .int 0, .int 0]))] s.heap.size = A at hD hN ⊢
  have hA : ∀ q : Nat, s.heap.size ≤ q → A q := fun q h => by rw [← hAe]; exact Or.inr h
  have hS : va_S A s.heap s.heap [] := va_S.rf
  have hl := lv_entry ([.ref c0, .int c2, .int c3]) (n := 3) (Nat.le_of_ble_eq_true rfl)
  rw [lg_entry_eq]
  generalize (lg_sl ([.ref c0, .int c2, .int c3]) ++ List.replicate (3 - (lg_sl ([.ref c0, .int c2, .int c3])).length) Slot.unset).toArray = ls at hl ⊢
  have hl : lv_has ls 3 [(0, .ref c0), (1, .int c2), (2, .int c3)] := hl
  refine lv_iload_n hx hb dX12_process_0 rfl (lv_at hl 2 rfl) ?_
  refine lv_if_lt (tgt := 10) hx hb dX12_process_1 (by decide) (fun c_1 => ?_) (fun c_1 => ?_)
  · refine lv_iconst (v := (-1)) hx hb dX12_process_10 (by decide) ?_
    refine W.widen (k := 0) (n := 0) (by decide +kernel) (by decide +kernel) ?_
    exact W.iret (v := (-1)) hx hb hr (fun t ht hW => ⟨⟨(-1), (), rfl, Or.inl ⟨c_1, rfl⟩, trivial⟩, hS.F ht⟩) hS.2.2 dX12_process_11
  · refine lv_iload_n hx hb dX12_process_4 rfl (lv_at hl 2 rfl) ?_
    refine lv_bipush (v := 7) hx hb dX12_process_5 (by decide) ?_
    refine lv_icmp_le (tgt := 12) hx hb dX12_process_7 (by decide) (fun c_2 => ?_) (fun c_2 => ?_)
    · refine lv_aload_n hx hb dX12_process_12 rfl (lv_at hl 0 rfl) ?_
      refine lv_iload_n hx hb dX12_process_13 rfl (lv_at hl 1 rfl) ?_
      have hPc := hP.sub (ws' := [(c0, .inr (13, [.ref c4, .int 0, .int 0, .ref c5, .ref c6, .null, .ref c1, .ref c7, .null, .null, .int 0, .ref c8])), (c1, .inr (12, [.ref c9, .ref c10, .ref c11, .ref c12, .ref c13, .ref c14, .int 0, .ref c15, .ref c16, .int 0, .int 0, .int 0, .int 0, .int 0, .int 0, .int 0]))]) [0, 1] rfl
      have hDc := hD.sub (ws' := [(c0, .inr (13, [.ref c4, .int 0, .int 0, .ref c5, .ref c6, .null, .ref c1, .ref c7, .null, .null, .int 0, .ref c8])), (c1, .inr (12, [.ref c9, .ref c10, .ref c11, .ref c12, .ref c13, .ref c14, .int 0, .ref c15, .ref c16, .int 0, .int 0, .int 0, .int 0, .int 0, .int 0, .int 0]))]) [0, 1] (by decide) rfl
      have hKc := hK.sub (tys' := []) [] rfl
      have hFc := va_free (wc := [(c0, .inr (13, [.ref c4, .int 0, .int 0, .ref c5, .ref c6, .null, .ref c1, .ref c7, .null, .null, .int 0, .ref c8])), (c1, .inr (12, [.ref c9, .ref c10, .ref c11, .ref c12, .ref c13, .ref c14, .int 0, .ref c15, .ref c16, .int 0, .int 0, .int 0, .int 0, .int 0, .int 0, .int 0]))]) hD hS hA [0, 1] rfl
      refine va_calli (va_runV (As := [.int c2]) (rest := []) ⟨hx, hb, hml, hown, hts⟩ (k_X12_isThere l dC dI c0 c1 c2 c4 c5 c6 c7 c8 c9 c10 c11 c12 c13 c14 c15 c16 s.heap.size) (cwV 1 hts gX12_process_X12_isThere rfl rfl rfl (by decide +kernel) ⟨Nat.le_of_ble_eq_true rfl, Nat.le_of_ble_eq_true rfl⟩) ⟨fun a U g mk q => by obtain ⟨q0, q1, qP, qK, qD, qN⟩ := q; exact ⟨q0, q1, qP, va_K.moved (u := U) (U := U.calling g mk a) (Vm.Alike.refl U.vm) qK, qD, nv_same rfl rfl qN⟩, va_recv hKc hPc (ci := 13) (q0 := 0) rfl rfl, fun U hU hW => ⟨rfl, by rw [hU], by rw [hU]; exact hPc, va_K.moved hW.alike hKc, hDc.weaken (fun _ _ _ _ => trivial), nv_call hS hFc hU hW hN⟩⟩ rfl rfl hl.1 rfl (lv_room (Nat.le_of_ble_eq_true rfl)) dX12_process_14 ⟨by decide +kernel, by decide +kernel⟩) hS (fun q _ h => hFc q h) hFc (fun r1 u t H1 locs ht hvm hw hB hz1 hk1 hS => ?_)
      obtain ⟨hP1, hK1, hD1⟩ := hB
      rw [ht] at hP1
      have hK1 := va_K.moved hvm.symm hK1
      obtain rfl : r1 = 0 := hw
      obtain ⟨hP, hD⟩ := va_join (wr := []) (w1 := [(c0, .inr (13, [.ref c4, .int 0, .int 0, .ref c5, .ref c6, .null, .ref c1, .ref c7, .null, .null, .int 0, .ref c8])), (c1, .inr (12, [.ref c9, .ref c10, .ref c11, .ref c12, .ref c13, .ref c14, .int 0, .ref c15, .ref c16, .int 0, .int 0, .int 0, .int 0, .int 0, .int 0, .int 0]))]) hP hD [0, 1] [] rfl rfl (by decide) (by decide) hk1 hFc hP1 hD1
      have hK := (hK.sub (tys' := []) [] rfl).app hK1
      generalize H1 = H at hP hS ⊢
      have hP : va_P (dC, dI) vwCl [(c0, .inr (13, [.ref c4, .int 0, .int 0, .ref c5, .ref c6, .null, .ref c1, .ref c7, .null, .null, .int 0, .ref c8])), (c1, .inr (12, [.ref c9, .ref c10, .ref c11, .ref c12, .ref c13, .ref c14, .int 0, .ref c15, .ref c16, .int 0, .int 0, .int 0, .int 0, .int 0, .int 0, .int 0]))] H := hP
      have hD : va_D A [(c0, .inr (13, [.ref c4, .int 0, .int 0, .ref c5, .ref c6, .null, .ref c1, .ref c7, .null, .null, .int 0, .ref c8])), (c1, .inr (12, [.ref c9, .ref c10, .ref c11, .ref c12, .ref c13, .ref c14, .int 0, .ref c15, .ref c16, .int 0, .int 0, .int 0, .int 0, .int 0, .int 0, .int 0]))] := hD
      have hK : va_K (dC, dI) vwCl [] s := hK
      refine W.widen (k := 0) (n := 0) (by decide +kernel) (by decide +kernel) ?_
      refine lv_if_ne (tgt := 37) hx hb dX12_process_17 (by decide) (fun h9 => absurd h9 (by decide)) (fun _ => ?_)
      refine lv_iload_n hx hb dX12_process_20 rfl (lv_at hl 2 rfl) ?_
      refine lv_iconst (v := 1) hx hb dX12_process_21 (by decide) ?_
      refine lv_icmp_eq (tgt := 31) hx hb dX12_process_22 (by decide) (fun c_3 => ?_) (fun c_3 => ?_)
      · refine lv_iconst (v := (-1)) hx hb dX12_process_31 (by decide) ?_
        refine lv_goto (tgt := 36) hx hb dX12_process_32 (by decide) ?_
        refine W.widen (k := 0) (n := 0) (by decide +kernel) (by decide +kernel) ?_
        exact W.iret (v := (-1)) hx hb hr (fun t ht hW => ⟨⟨(-1), (), rfl, Or.inr (Or.inl ⟨c_1, c_2, c_3, rfl⟩), trivial⟩, hS.F ht⟩) hS.2.2 dX12_process_36
      · refine lv_iload_n hx hb dX12_process_25 rfl (lv_at hl 2 rfl) ?_
        refine lv_bipush (v := 7) hx hb dX12_process_26 (by decide) ?_
        refine lv_icmp_ne (tgt := 35) hx hb dX12_process_28 (by decide) (fun c_4 => ?_) (fun c_4 => ?_)
        · refine lv_iconst (v := 0) hx hb dX12_process_35 (by decide) ?_
          refine W.widen (k := 0) (n := 0) (by decide +kernel) (by decide +kernel) ?_
          exact W.iret (v := 0) hx hb hr (fun t ht hW => ⟨⟨0, (), rfl, Or.inr (Or.inr (Or.inl ⟨c_1, c_2, c_3, c_4, rfl⟩)), trivial⟩, hS.F ht⟩) hS.2.2 dX12_process_36
        · refine lv_iconst (v := (-1)) hx hb dX12_process_31 (by decide) ?_
          refine lv_goto (tgt := 36) hx hb dX12_process_32 (by decide) ?_
          refine W.widen (k := 0) (n := 0) (by decide +kernel) (by decide +kernel) ?_
          exact W.iret (v := (-1)) hx hb hr (fun t ht hW => ⟨⟨(-1), (), rfl, Or.inr (Or.inr (Or.inr (Or.inl ⟨c_1, c_2, c_3, c_4, rfl⟩))), trivial⟩, hS.F ht⟩) hS.2.2 dX12_process_36
    · refine lv_iconst (v := (-1)) hx hb dX12_process_10 (by decide) ?_
      refine W.widen (k := 0) (n := 0) (by decide +kernel) (by decide +kernel) ?_
      exact W.iret (v := (-1)) hx hb hr (fun t ht hW => ⟨⟨(-1), (), rfl, Or.inr (Or.inr (Or.inr (Or.inr (Or.inl ⟨c_1, c_2, rfl⟩)))), trivial⟩, hS.F ht⟩) hS.2.2 dX12_process_11
theorem hi_X12_peek_X11 : ∀ w ∈ u_ws RX11 TX11 16, w ∈ wsX12_peek := by decide +kernel
theorem hi_X12_peek_X12 : ∀ w ∈ u_ws RX12 TX12 12, w ∈ wsX12_peek := by decide +kernel
set_option maxHeartbeats 40000000 in
set_option maxRecDepth 100000 in
theorem k_X12_peek (l : Launch) (dC : Nat → ClassId) (dI : Nat → Nat → Nat) (c0 : Nat) (c1 : Nat) (c2 : Int32) (c3 : Int32) (c4 : Nat) (c5 : Nat) (c6 : Nat) (c7 : Nat) (c8 : Nat) (c9 : Nat) (c10 : Nat) (c11 : Nat) (c12 : Nat) (c13 : Nat) (c14 : Nat) (c15 : Nat) (c16 : Nat) (sz : Nat) : Met l yX12_peek wsX12_peek ({ frames := 1, cells := 0, slots := 0, locals := 21 }) (va_Pc [.ref c0, .int c2, .int c3] (fun U => U.heap.size = sz ∧ va_P (dC, dI) vwCl [(c0, .inr (13, [.ref c4, .int 0, .int 0, .ref c5, .ref c6, .null, .ref c1, .ref c7, .null, .null, .int 0, .ref c8])), (c1, .inr (12, [.ref c9, .ref c10, .ref c11, .ref c12, .ref c13, .ref c14, .int 0, .ref c15, .ref c16, .int 0, .int 0, .int 0, .int 0, .int 0, .int 0, .int 0]))] U.heap ∧ va_K (dC, dI) vwCl [] U ∧ va_D (fun _ => True) [(c0, .inr (13, [.ref c4, .int 0, .int 0, .ref c5, .ref c6, .null, .ref c1, .ref c7, .null, .null, .int 0, .ref c8])), (c1, .inr (12, [.ref c9, .ref c10, .ref c11, .ref c12, .ref c13, .ref c14, .int 0, .ref c15, .ref c16, .int 0, .int 0, .int 0, .int 0, .int 0, .int 0, .int 0]))] ∧ nv_E (va_A [(c0, .inr (13, [.ref c4, .int 0, .int 0, .ref c5, .ref c6, .null, .ref c1, .ref c7, .null, .null, .int 0, .ref c8])), (c1, .inr (12, [.ref c9, .ref c10, .ref c11, .ref c12, .ref c13, .ref c14, .int 0, .ref c15, .ref c16, .int 0, .int 0, .int 0, .int 0, .int 0, .int 0, .int 0]))] sz) U)) (va_Qi (fun r _ => r = (-1)) (fun (_ : Unit) t => va_P (dC, dI) vwCl [(c0, .inr (13, [.ref c4, .int 0, .int 0, .ref c5, .ref c6, .null, .ref c1, .ref c7, .null, .null, .int 0, .ref c8])), (c1, .inr (12, [.ref c9, .ref c10, .ref c11, .ref c12, .ref c13, .ref c14, .int 0, .ref c15, .ref c16, .int 0, .int 0, .int 0, .int 0, .int 0, .int 0, .int 0]))] t.heap ∧ va_K (dC, dI) vwCl [] t ∧ va_D (va_A [(c0, .inr (13, [.ref c4, .int 0, .int 0, .ref c5, .ref c6, .null, .ref c1, .ref c7, .null, .null, .int 0, .ref c8])), (c1, .inr (12, [.ref c9, .ref c10, .ref c11, .ref c12, .ref c13, .ref c14, .int 0, .ref c15, .ref c16, .int 0, .int 0, .int 0, .int 0, .int 0, .int 0, .int 0]))] sz) [(c0, .inr (13, [.ref c4, .int 0, .int 0, .ref c5, .ref c6, .null, .ref c1, .ref c7, .null, .null, .int 0, .ref c8])), (c1, .inr (12, [.ref c9, .ref c10, .ref c11, .ref c12, .ref c13, .ref c14, .int 0, .ref c15, .ref c16, .int 0, .int 0, .int 0, .int 0, .int 0, .int 0, .int 0]))]) (va_A [(c0, .inr (13, [.ref c4, .int 0, .int 0, .ref c5, .ref c6, .null, .ref c1, .ref c7, .null, .null, .int 0, .ref c8])), (c1, .inr (12, [.ref c9, .ref c10, .ref c11, .ref c12, .ref c13, .ref c14, .int 0, .ref c15, .ref c16, .int 0, .int 0, .int 0, .int 0, .int 0, .int 0, .int 0]))] sz)) 0 0 (va_A [(c0, .inr (13, [.ref c4, .int 0, .int 0, .ref c5, .ref c6, .null, .ref c1, .ref c7, .null, .null, .int 0, .ref c8])), (c1, .inr (12, [.ref c9, .ref c10, .ref c11, .ref c12, .ref c13, .ref c14, .int 0, .ref c15, .ref c16, .int 0, .int 0, .int 0, .int 0, .int 0, .int 0, .int 0]))] sz) := by
  refine Met.ofW (cc := cX12_peek) (maxL := 4) (ret := (some .int)) (by decide) rfl ?_
  intro p e s m args below meth c s₁ B hml hv
  obtain ⟨rfl, hsz, hP, hK, hD0, hN⟩ := hv
  have hx := B.exec
  have hb := B.bytes
  have hr := B.returns
  have hts := atoms_spec (ws := wsX12_peek) B.pre
  have hown : s.vm.findClass RX12 = some m.cls := findClass_of_methodNamed B.named
  have hlocks := B.notSynchronized
  subst hsz
  have hD := hD0.self (sz := s.heap.size)
  generalize hAe : va_A [(c0, .inr (13, [.ref c4, .int 0, .int 0, .ref c5, .ref c6, .null, .ref c1, .ref c7, .null, .null, .int 0, .ref c8])), (c1, .inr (12, [.ref c9, .ref c10, .ref c11, .ref c12, .ref c13, .ref c14, .int 0, .ref c15, .ref c16, .int 0, .int 0, .int 0, .int 0, .int 0, .int 0, .int 0]))] s.heap.size = A at hD hN ⊢
  have hA : ∀ q : Nat, s.heap.size ≤ q → A q := fun q h => by rw [← hAe]; exact Or.inr h
  have hS : va_S A s.heap s.heap [] := va_S.rf
  have hl := lv_entry ([.ref c0, .int c2, .int c3]) (n := 4) (Nat.le_of_ble_eq_true rfl)
  rw [lg_entry_eq]
  generalize (lg_sl ([.ref c0, .int c2, .int c3]) ++ List.replicate (4 - (lg_sl ([.ref c0, .int c2, .int c3])).length) Slot.unset).toArray = ls at hl ⊢
  have hl : lv_has ls 4 [(0, .ref c0), (1, .int c2), (2, .int c3)] := hl
  refine lv_aload_n hx hb dX12_peek_0 rfl (lv_at hl 0 rfl) ?_
  refine va_get (D := (dC, dI)) (ci := 13) (v := .ref c1) (C := RX12) (T := TX12) (N := 12) hx hb hts hi_X12_peek_X12 hown hK hP 0 rfl rfl 6 (by decide) (hts (.fieldLink RX12 26 "TimeMachine" "timeline" "LTimeMachine$Timeline;") (List.mem_of_getElem? (i := 1) (by decide +kernel))) (fun _ h9 => h9) rfl dX12_peek_1 ?_
  refine va_get (D := (dC, dI)) (ci := 12) (v := .ref c12) (C := RX11) (T := TX11) (N := 16) hx hb hts hi_X12_peek_X11 hown hK hP 1 rfl rfl 3 (by decide) (hts (.fieldLink RX12 182 "TimeMachine$Timeline" "machine" "LTimeMachine$Machine;") (List.mem_of_getElem? (i := 2) (by decide +kernel))) (fun _ h9 => h9) rfl dX12_peek_4 ?_
  refine lv_astore_n (lv' := [(3, .ref c12), (0, .ref c0), (1, .int c2), (2, .int c3)]) hx hb dX12_peek_7 rfl hl (by decide) rfl (fun ls hl => ?_)
  refine lv_aload_n hx hb dX12_peek_8 rfl (lv_at hl 1 rfl) ?_
  refine lv_iload_n hx hb dX12_peek_9 rfl (lv_at hl 2 rfl) ?_
  have hPc := hP.sub (ws' := [(c0, .inr (13, [.ref c4, .int 0, .int 0, .ref c5, .ref c6, .null, .ref c1, .ref c7, .null, .null, .int 0, .ref c8])), (c1, .inr (12, [.ref c9, .ref c10, .ref c11, .ref c12, .ref c13, .ref c14, .int 0, .ref c15, .ref c16, .int 0, .int 0, .int 0, .int 0, .int 0, .int 0, .int 0]))]) [0, 1] rfl
  have hDc := hD.sub (ws' := [(c0, .inr (13, [.ref c4, .int 0, .int 0, .ref c5, .ref c6, .null, .ref c1, .ref c7, .null, .null, .int 0, .ref c8])), (c1, .inr (12, [.ref c9, .ref c10, .ref c11, .ref c12, .ref c13, .ref c14, .int 0, .ref c15, .ref c16, .int 0, .int 0, .int 0, .int 0, .int 0, .int 0, .int 0]))]) [0, 1] (by decide) rfl
  have hKc := hK.sub (tys' := []) [] rfl
  have hFc := va_free (wc := [(c0, .inr (13, [.ref c4, .int 0, .int 0, .ref c5, .ref c6, .null, .ref c1, .ref c7, .null, .null, .int 0, .ref c8])), (c1, .inr (12, [.ref c9, .ref c10, .ref c11, .ref c12, .ref c13, .ref c14, .int 0, .ref c15, .ref c16, .int 0, .int 0, .int 0, .int 0, .int 0, .int 0, .int 0]))]) hD hS hA [0, 1] rfl
  refine va_calli (va_runV (As := [.int c2]) (rest := []) ⟨hx, hb, hml, hown, hts⟩ (k_X12_isThere l dC dI c0 c1 c2 c4 c5 c6 c7 c8 c9 c10 c11 c12 c13 c14 c15 c16 s.heap.size) (cwV 1 hts gX12_peek_X12_isThere rfl rfl rfl (by decide +kernel) ⟨Nat.le_of_ble_eq_true rfl, Nat.le_of_ble_eq_true rfl⟩) ⟨fun a U g mk q => by obtain ⟨q0, q1, qP, qK, qD, qN⟩ := q; exact ⟨q0, q1, qP, va_K.moved (u := U) (U := U.calling g mk a) (Vm.Alike.refl U.vm) qK, qD, nv_same rfl rfl qN⟩, va_recv hKc hPc (ci := 13) (q0 := 0) rfl rfl, fun U hU hW => ⟨rfl, by rw [hU], by rw [hU]; exact hPc, va_K.moved hW.alike hKc, hDc.weaken (fun _ _ _ _ => trivial), nv_call hS hFc hU hW hN⟩⟩ rfl rfl hl.1 rfl (lv_room (Nat.le_of_ble_eq_true rfl)) dX12_peek_10 ⟨by decide +kernel, by decide +kernel⟩) hS (fun q _ h => hFc q h) hFc (fun r1 u t H1 locs ht hvm hw hB hz1 hk1 hS => ?_)
  obtain ⟨hP1, hK1, hD1⟩ := hB
  rw [ht] at hP1
  have hK1 := va_K.moved hvm.symm hK1
  obtain rfl : r1 = 0 := hw
  obtain ⟨hP, hD⟩ := va_join (wr := []) (w1 := [(c0, .inr (13, [.ref c4, .int 0, .int 0, .ref c5, .ref c6, .null, .ref c1, .ref c7, .null, .null, .int 0, .ref c8])), (c1, .inr (12, [.ref c9, .ref c10, .ref c11, .ref c12, .ref c13, .ref c14, .int 0, .ref c15, .ref c16, .int 0, .int 0, .int 0, .int 0, .int 0, .int 0, .int 0]))]) hP hD [0, 1] [] rfl rfl (by decide) (by decide) hk1 hFc hP1 hD1
  have hK := (hK.sub (tys' := []) [] rfl).app hK1
  generalize H1 = H at hP hS ⊢
  have hP : va_P (dC, dI) vwCl [(c0, .inr (13, [.ref c4, .int 0, .int 0, .ref c5, .ref c6, .null, .ref c1, .ref c7, .null, .null, .int 0, .ref c8])), (c1, .inr (12, [.ref c9, .ref c10, .ref c11, .ref c12, .ref c13, .ref c14, .int 0, .ref c15, .ref c16, .int 0, .int 0, .int 0, .int 0, .int 0, .int 0, .int 0]))] H := hP
  have hD : va_D A [(c0, .inr (13, [.ref c4, .int 0, .int 0, .ref c5, .ref c6, .null, .ref c1, .ref c7, .null, .null, .int 0, .ref c8])), (c1, .inr (12, [.ref c9, .ref c10, .ref c11, .ref c12, .ref c13, .ref c14, .int 0, .ref c15, .ref c16, .int 0, .int 0, .int 0, .int 0, .int 0, .int 0, .int 0]))] := hD
  have hK : va_K (dC, dI) vwCl [] s := hK
  refine W.widen (k := 0) (n := 0) (by decide +kernel) (by decide +kernel) ?_
  refine lv_if_eq (tgt := 36) hx hb dX12_peek_13 (by decide) (fun _ => ?_) (fun h9 => absurd (by decide) h9)
  refine lv_iconst (v := (-1)) hx hb dX12_peek_36 (by decide) ?_
  have hP9 := hP.sub (ws' := [(c0, .inr (13, [.ref c4, .int 0, .int 0, .ref c5, .ref c6, .null, .ref c1, .ref c7, .null, .null, .int 0, .ref c8])), (c1, .inr (12, [.ref c9, .ref c10, .ref c11, .ref c12, .ref c13, .ref c14, .int 0, .ref c15, .ref c16, .int 0, .int 0, .int 0, .int 0, .int 0, .int 0, .int 0]))]) [0, 1] rfl
  have hD9 := hD.sub (ws' := [(c0, .inr (13, [.ref c4, .int 0, .int 0, .ref c5, .ref c6, .null, .ref c1, .ref c7, .null, .null, .int 0, .ref c8])), (c1, .inr (12, [.ref c9, .ref c10, .ref c11, .ref c12, .ref c13, .ref c14, .int 0, .ref c15, .ref c16, .int 0, .int 0, .int 0, .int 0, .int 0, .int 0, .int 0]))]) [0, 1] (by decide) rfl
  have hK9 := hK.sub (tys' := []) [] rfl
  refine W.widen (k := 0) (n := 0) (by decide +kernel) (by decide +kernel) ?_
  exact W.iret (v := (-1)) hx hb hr (fun t ht hW => ⟨⟨(-1), (), rfl, rfl, by rw [ht]; exact hP9, va_K.moved hW.alike hK9, hD9⟩, hS.F ht⟩) hS.2.2 dX12_peek_37
set_option maxHeartbeats 40000000 in
set_option maxRecDepth 100000 in
theorem k_X12_text (l : Launch) (dC : Nat → ClassId) (dI : Nat → Nat → Nat) (c0 : Nat) (c1 : Nat) (c2 : Int32) (c3 : Int32) (c4 : Int32) (c5 : Nat) (c6 : Nat) (c7 : Nat) (c8 : Nat) (c9 : Nat) (c10 : Nat) (c11 : Nat) (c12 : Nat) (c13 : Nat) (c14 : Nat) (c15 : Nat) (c16 : Nat) (c17 : Nat) (sz : Nat) : Met l yX12_text wsX12_text ({ frames := 1, cells := 0, slots := 0, locals := 21 }) (va_Pc [.ref c0, .int c2, .int c3, .int c4] (fun U => U.heap.size = sz ∧ va_P (dC, dI) vwCl [(c0, .inr (13, [.ref c5, .int 0, .int 0, .ref c6, .ref c7, .null, .ref c1, .ref c8, .null, .null, .int 0, .ref c9])), (c1, .inr (12, [.ref c10, .ref c11, .ref c12, .ref c13, .ref c14, .ref c15, .int 0, .ref c16, .ref c17, .int 0, .int 0, .int 0, .int 0, .int 0, .int 0, .int 0]))] U.heap ∧ va_K (dC, dI) vwCl [] U ∧ va_D (fun _ => True) [(c0, .inr (13, [.ref c5, .int 0, .int 0, .ref c6, .ref c7, .null, .ref c1, .ref c8, .null, .null, .int 0, .ref c9])), (c1, .inr (12, [.ref c10, .ref c11, .ref c12, .ref c13, .ref c14, .ref c15, .int 0, .ref c16, .ref c17, .int 0, .int 0, .int 0, .int 0, .int 0, .int 0, .int 0]))] ∧ nv_E (va_A [(c0, .inr (13, [.ref c5, .int 0, .int 0, .ref c6, .ref c7, .null, .ref c1, .ref c8, .null, .null, .int 0, .ref c9])), (c1, .inr (12, [.ref c10, .ref c11, .ref c12, .ref c13, .ref c14, .ref c15, .int 0, .ref c16, .ref c17, .int 0, .int 0, .int 0, .int 0, .int 0, .int 0, .int 0]))] sz) U)) (va_Qi (fun r _ => r = (-1)) (fun (_ : Unit) t => va_P (dC, dI) vwCl [(c0, .inr (13, [.ref c5, .int 0, .int 0, .ref c6, .ref c7, .null, .ref c1, .ref c8, .null, .null, .int 0, .ref c9])), (c1, .inr (12, [.ref c10, .ref c11, .ref c12, .ref c13, .ref c14, .ref c15, .int 0, .ref c16, .ref c17, .int 0, .int 0, .int 0, .int 0, .int 0, .int 0, .int 0]))] t.heap ∧ va_K (dC, dI) vwCl [] t ∧ va_D (va_A [(c0, .inr (13, [.ref c5, .int 0, .int 0, .ref c6, .ref c7, .null, .ref c1, .ref c8, .null, .null, .int 0, .ref c9])), (c1, .inr (12, [.ref c10, .ref c11, .ref c12, .ref c13, .ref c14, .ref c15, .int 0, .ref c16, .ref c17, .int 0, .int 0, .int 0, .int 0, .int 0, .int 0, .int 0]))] sz) [(c0, .inr (13, [.ref c5, .int 0, .int 0, .ref c6, .ref c7, .null, .ref c1, .ref c8, .null, .null, .int 0, .ref c9])), (c1, .inr (12, [.ref c10, .ref c11, .ref c12, .ref c13, .ref c14, .ref c15, .int 0, .ref c16, .ref c17, .int 0, .int 0, .int 0, .int 0, .int 0, .int 0, .int 0]))]) (va_A [(c0, .inr (13, [.ref c5, .int 0, .int 0, .ref c6, .ref c7, .null, .ref c1, .ref c8, .null, .null, .int 0, .ref c9])), (c1, .inr (12, [.ref c10, .ref c11, .ref c12, .ref c13, .ref c14, .ref c15, .int 0, .ref c16, .ref c17, .int 0, .int 0, .int 0, .int 0, .int 0, .int 0, .int 0]))] sz)) 0 0 (va_A [(c0, .inr (13, [.ref c5, .int 0, .int 0, .ref c6, .ref c7, .null, .ref c1, .ref c8, .null, .null, .int 0, .ref c9])), (c1, .inr (12, [.ref c10, .ref c11, .ref c12, .ref c13, .ref c14, .ref c15, .int 0, .ref c16, .ref c17, .int 0, .int 0, .int 0, .int 0, .int 0, .int 0, .int 0]))] sz) := by
  refine Met.ofW (cc := cX12_text) (maxL := 6) (ret := (some .int)) (by decide) rfl ?_
  intro p e s m args below meth c s₁ B hml hv
  obtain ⟨rfl, hsz, hP, hK, hD0, hN⟩ := hv
  have hx := B.exec
  have hb := B.bytes
  have hr := B.returns
  have hts := atoms_spec (ws := wsX12_text) B.pre
  have hown : s.vm.findClass RX12 = some m.cls := findClass_of_methodNamed B.named
  have hlocks := B.notSynchronized
  subst hsz
  have hD := hD0.self (sz := s.heap.size)
  generalize hAe : va_A [(c0, .inr (13, [.ref c5, .int 0, .int 0, .ref c6, .ref c7, .null, .ref c1, .ref c8, .null, .null, .int 0, .ref c9])), (c1, .inr (12, [.ref c10, .ref c11, .ref c12, .ref c13, .ref c14, .ref c15, .int 0, .ref c16, .ref c17, .int 0, .int 0, .int 0, .int 0, .int 0, .int 0, .int 0]))] s.heap.size = A at hD hN ⊢
  have hA : ∀ q : Nat, s.heap.size ≤ q → A q := fun q h => by rw [← hAe]; exact Or.inr h
  have hS : va_S A s.heap s.heap [] := va_S.rf
  have hl := lv_entry ([.ref c0, .int c2, .int c3, .int c4]) (n := 6) (Nat.le_of_ble_eq_true rfl)
  rw [lg_entry_eq]
  generalize (lg_sl ([.ref c0, .int c2, .int c3, .int c4]) ++ List.replicate (6 - (lg_sl ([.ref c0, .int c2, .int c3, .int c4])).length) Slot.unset).toArray = ls at hl ⊢
  have hl : lv_has ls 6 [(0, .ref c0), (1, .int c2), (2, .int c3), (3, .int c4)] := hl
  refine lv_aload_n hx hb dX12_text_0 rfl (lv_at hl 0 rfl) ?_
  refine lv_iload_n hx hb dX12_text_1 rfl (lv_at hl 1 rfl) ?_
  have hPc := hP.sub (ws' := [(c0, .inr (13, [.ref c5, .int 0, .int 0, .ref c6, .ref c7, .null, .ref c1, .ref c8, .null, .null, .int 0, .ref c9])), (c1, .inr (12, [.ref c10, .ref c11, .ref c12, .ref c13, .ref c14, .ref c15, .int 0, .ref c16, .ref c17, .int 0, .int 0, .int 0, .int 0, .int 0, .int 0, .int 0]))]) [0, 1] rfl
  have hDc := hD.sub (ws' := [(c0, .inr (13, [.ref c5, .int 0, .int 0, .ref c6, .ref c7, .null, .ref c1, .ref c8, .null, .null, .int 0, .ref c9])), (c1, .inr (12, [.ref c10, .ref c11, .ref c12, .ref c13, .ref c14, .ref c15, .int 0, .ref c16, .ref c17, .int 0, .int 0, .int 0, .int 0, .int 0, .int 0, .int 0]))]) [0, 1] (by decide) rfl
  have hKc := hK.sub (tys' := []) [] rfl
  have hFc := va_free (wc := [(c0, .inr (13, [.ref c5, .int 0, .int 0, .ref c6, .ref c7, .null, .ref c1, .ref c8, .null, .null, .int 0, .ref c9])), (c1, .inr (12, [.ref c10, .ref c11, .ref c12, .ref c13, .ref c14, .ref c15, .int 0, .ref c16, .ref c17, .int 0, .int 0, .int 0, .int 0, .int 0, .int 0, .int 0]))]) hD hS hA [0, 1] rfl
  refine va_calli (va_runV (As := [.int c2]) (rest := []) ⟨hx, hb, hml, hown, hts⟩ (k_X12_isThere l dC dI c0 c1 c2 c5 c6 c7 c8 c9 c10 c11 c12 c13 c14 c15 c16 c17 s.heap.size) (cwV 1 hts gX12_text_X12_isThere rfl rfl rfl (by decide +kernel) ⟨Nat.le_of_ble_eq_true rfl, Nat.le_of_ble_eq_true rfl⟩) ⟨fun a U g mk q => by obtain ⟨q0, q1, qP, qK, qD, qN⟩ := q; exact ⟨q0, q1, qP, va_K.moved (u := U) (U := U.calling g mk a) (Vm.Alike.refl U.vm) qK, qD, nv_same rfl rfl qN⟩, va_recv hKc hPc (ci := 13) (q0 := 0) rfl rfl, fun U hU hW => ⟨rfl, by rw [hU], by rw [hU]; exact hPc, va_K.moved hW.alike hKc, hDc.weaken (fun _ _ _ _ => trivial), nv_call hS hFc hU hW hN⟩⟩ rfl rfl hl.1 rfl (lv_room (Nat.le_of_ble_eq_true rfl)) dX12_text_2 ⟨by decide +kernel, by decide +kernel⟩) hS (fun q _ h => hFc q h) hFc (fun r1 u t H1 locs ht hvm hw hB hz1 hk1 hS => ?_)
  obtain ⟨hP1, hK1, hD1⟩ := hB
  rw [ht] at hP1
  have hK1 := va_K.moved hvm.symm hK1
  obtain rfl : r1 = 0 := hw
  obtain ⟨hP, hD⟩ := va_join (wr := []) (w1 := [(c0, .inr (13, [.ref c5, .int 0, .int 0, .ref c6, .ref c7, .null, .ref c1, .ref c8, .null, .null, .int 0, .ref c9])), (c1, .inr (12, [.ref c10, .ref c11, .ref c12, .ref c13, .ref c14, .ref c15, .int 0, .ref c16, .ref c17, .int 0, .int 0, .int 0, .int 0, .int 0, .int 0, .int 0]))]) hP hD [0, 1] [] rfl rfl (by decide) (by decide) hk1 hFc hP1 hD1
  have hK := (hK.sub (tys' := []) [] rfl).app hK1
  generalize H1 = H at hP hS ⊢
  have hP : va_P (dC, dI) vwCl [(c0, .inr (13, [.ref c5, .int 0, .int 0, .ref c6, .ref c7, .null, .ref c1, .ref c8, .null, .null, .int 0, .ref c9])), (c1, .inr (12, [.ref c10, .ref c11, .ref c12, .ref c13, .ref c14, .ref c15, .int 0, .ref c16, .ref c17, .int 0, .int 0, .int 0, .int 0, .int 0, .int 0, .int 0]))] H := hP
  have hD : va_D A [(c0, .inr (13, [.ref c5, .int 0, .int 0, .ref c6, .ref c7, .null, .ref c1, .ref c8, .null, .null, .int 0, .ref c9])), (c1, .inr (12, [.ref c10, .ref c11, .ref c12, .ref c13, .ref c14, .ref c15, .int 0, .ref c16, .ref c17, .int 0, .int 0, .int 0, .int 0, .int 0, .int 0, .int 0]))] := hD
  have hK : va_K (dC, dI) vwCl [] s := hK
  refine W.widen (k := 0) (n := 0) (by decide +kernel) (by decide +kernel) ?_
  refine lv_if_eq (tgt := 34) hx hb dX12_text_5 (by decide) (fun _ => ?_) (fun h9 => absurd (by decide) h9)
  refine lv_iconst (v := (-1)) hx hb dX12_text_34 (by decide) ?_
  have hP9 := hP.sub (ws' := [(c0, .inr (13, [.ref c5, .int 0, .int 0, .ref c6, .ref c7, .null, .ref c1, .ref c8, .null, .null, .int 0, .ref c9])), (c1, .inr (12, [.ref c10, .ref c11, .ref c12, .ref c13, .ref c14, .ref c15, .int 0, .ref c16, .ref c17, .int 0, .int 0, .int 0, .int 0, .int 0, .int 0, .int 0]))]) [0, 1] rfl
  have hD9 := hD.sub (ws' := [(c0, .inr (13, [.ref c5, .int 0, .int 0, .ref c6, .ref c7, .null, .ref c1, .ref c8, .null, .null, .int 0, .ref c9])), (c1, .inr (12, [.ref c10, .ref c11, .ref c12, .ref c13, .ref c14, .ref c15, .int 0, .ref c16, .ref c17, .int 0, .int 0, .int 0, .int 0, .int 0, .int 0, .int 0]))]) [0, 1] (by decide) rfl
  have hK9 := hK.sub (tys' := []) [] rfl
  refine W.widen (k := 0) (n := 0) (by decide +kernel) (by decide +kernel) ?_
  exact W.iret (v := (-1)) hx hb hr (fun t ht hW => ⟨⟨(-1), (), rfl, rfl, by rw [ht]; exact hP9, va_K.moved hW.alike hK9, hD9⟩, hS.F ht⟩) hS.2.2 dX12_text_35
set_option maxHeartbeats 40000000 in
set_option maxRecDepth 100000 in
theorem k_X12_descriptor (l : Launch) (dC : Nat → ClassId) (dI : Nat → Nat → Nat) (c0 : Nat) (c1 : Nat) (c2 : Int32) (c3 : Int32) (c4 : Int32) (c5 : Nat) (c6 : Nat) (c7 : Nat) (c8 : Nat) (c9 : Nat) (c10 : Nat) (c11 : Nat) (c12 : Nat) (c13 : Nat) (c14 : Nat) (c15 : Nat) (c16 : Nat) (c17 : Nat) (sz : Nat) : Met l yX12_descriptor wsX12_descriptor ({ frames := 1, cells := 0, slots := 0, locals := 21 }) (va_Pc [.ref c0, .int c2, .int c3, .int c4] (fun U => U.heap.size = sz ∧ va_P (dC, dI) vwCl [(c0, .inr (13, [.ref c5, .int 0, .int 0, .ref c6, .ref c7, .null, .ref c1, .ref c8, .null, .null, .int 0, .ref c9])), (c1, .inr (12, [.ref c10, .ref c11, .ref c12, .ref c13, .ref c14, .ref c15, .int 0, .ref c16, .ref c17, .int 0, .int 0, .int 0, .int 0, .int 0, .int 0, .int 0]))] U.heap ∧ va_K (dC, dI) vwCl [] U ∧ va_D (fun _ => True) [(c0, .inr (13, [.ref c5, .int 0, .int 0, .ref c6, .ref c7, .null, .ref c1, .ref c8, .null, .null, .int 0, .ref c9])), (c1, .inr (12, [.ref c10, .ref c11, .ref c12, .ref c13, .ref c14, .ref c15, .int 0, .ref c16, .ref c17, .int 0, .int 0, .int 0, .int 0, .int 0, .int 0, .int 0]))] ∧ nv_E (va_A [(c0, .inr (13, [.ref c5, .int 0, .int 0, .ref c6, .ref c7, .null, .ref c1, .ref c8, .null, .null, .int 0, .ref c9])), (c1, .inr (12, [.ref c10, .ref c11, .ref c12, .ref c13, .ref c14, .ref c15, .int 0, .ref c16, .ref c17, .int 0, .int 0, .int 0, .int 0, .int 0, .int 0, .int 0]))] sz) U)) (va_Qi (fun r _ => ((c3 < 0) ∧ r = (-1)) ∨ ((¬ c3 < 0) ∧ (16 ≤ c3) ∧ r = (-1)) ∨ ((¬ c3 < 0) ∧ (¬ 16 ≤ c3) ∧ (c4 < 0) ∧ r = (-1)) ∨ ((¬ c3 < 0) ∧ (¬ 16 ≤ c3) ∧ (¬ c4 < 0) ∧ (c4 ≤ 4) ∧ (¬ c4 = 0) ∧ r = (-1)) ∨ ((¬ c3 < 0) ∧ (¬ 16 ≤ c3) ∧ (¬ c4 < 0) ∧ (c4 ≤ 4) ∧ (c4 = 0) ∧ r = 0) ∨ ((¬ c3 < 0) ∧ (¬ 16 ≤ c3) ∧ (¬ c4 < 0) ∧ (¬ c4 ≤ 4) ∧ r = (-1)) ∨ False) (fun (_ : Unit) t => True) (va_A [(c0, .inr (13, [.ref c5, .int 0, .int 0, .ref c6, .ref c7, .null, .ref c1, .ref c8, .null, .null, .int 0, .ref c9])), (c1, .inr (12, [.ref c10, .ref c11, .ref c12, .ref c13, .ref c14, .ref c15, .int 0, .ref c16, .ref c17, .int 0, .int 0, .int 0, .int 0, .int 0, .int 0, .int 0]))] sz)) 0 0 (va_A [(c0, .inr (13, [.ref c5, .int 0, .int 0, .ref c6, .ref c7, .null, .ref c1, .ref c8, .null, .null, .int 0, .ref c9])), (c1, .inr (12, [.ref c10, .ref c11, .ref c12, .ref c13, .ref c14, .ref c15, .int 0, .ref c16, .ref c17, .int 0, .int 0, .int 0, .int 0, .int 0, .int 0, .int 0]))] sz) := by
  refine Met.ofW (cc := cX12_descriptor) (maxL := 5) (ret := (some .int)) (by decide) rfl ?_
  intro p e s m args below meth c s₁ B hml hv
  obtain ⟨rfl, hsz, hP, hK, hD0, hN⟩ := hv
  have hx := B.exec
  have hb := B.bytes
  have hr := B.returns
  have hts := atoms_spec (ws := wsX12_descriptor) B.pre
  have hown : s.vm.findClass RX12 = some m.cls := findClass_of_methodNamed B.named
  have hlocks := B.notSynchronized
  subst hsz
  have hD := hD0.self (sz := s.heap.size)
  generalize hAe : va_A [(c0, .inr (13, [.ref c5, .int 0, .int 0, .ref c6, .ref c7, .null, .ref c1, .ref c8, .null, .null, .int 0, .ref c9])), (c1, .inr (12, [.ref c10, .ref c11, .ref c12, .ref c13, .ref c14, .ref c15, .int 0, .ref c16, .ref c17, .int 0, .int 0, .int 0, .int 0, .int 0, .int 0, .int 0]))] s.heap.size = A at hD hN ⊢
  have hA : ∀ q : Nat, s.heap.size ≤ q → A q := fun q h => by rw [← hAe]; exact Or.inr h
  have hS : va_S A s.heap s.heap [] := va_S.rf
  have hl := lv_entry ([.ref c0, .int c2, .int c3, .int c4]) (n := 5) (Nat.le_of_ble_eq_true rfl)
  rw [lg_entry_eq]
  generalize (lg_sl ([.ref c0, .int c2, .int c3, .int c4]) ++ List.replicate (5 - (lg_sl ([.ref c0, .int c2, .int c3, .int c4])).length) Slot.unset).toArray = ls at hl ⊢
  have hl : lv_has ls 5 [(0, .ref c0), (1, .int c2), (2, .int c3), (3, .int c4)] := hl
  refine lv_iload_n hx hb dX12_descriptor_0 rfl (lv_at hl 2 rfl) ?_
  refine lv_if_lt (tgt := 19) hx hb dX12_descriptor_1 (by decide) (fun c_1 => ?_) (fun c_1 => ?_)
  · refine lv_iconst (v := (-1)) hx hb dX12_descriptor_19 (by decide) ?_
    refine W.widen (k := 0) (n := 0) (by decide +kernel) (by decide +kernel) ?_
    exact W.iret (v := (-1)) hx hb hr (fun t ht hW => ⟨⟨(-1), (), rfl, Or.inl ⟨c_1, rfl⟩, trivial⟩, hS.F ht⟩) hS.2.2 dX12_descriptor_20
  · refine lv_iload_n hx hb dX12_descriptor_4 rfl (lv_at hl 2 rfl) ?_
    refine lv_bipush (v := 16) hx hb dX12_descriptor_5 (by decide) ?_
    refine lv_icmp_ge (tgt := 19) hx hb dX12_descriptor_7 (by decide) (fun c_2 => ?_) (fun c_2 => ?_)
    · refine lv_iconst (v := (-1)) hx hb dX12_descriptor_19 (by decide) ?_
      refine W.widen (k := 0) (n := 0) (by decide +kernel) (by decide +kernel) ?_
      exact W.iret (v := (-1)) hx hb hr (fun t ht hW => ⟨⟨(-1), (), rfl, Or.inr (Or.inl ⟨c_1, c_2, rfl⟩), trivial⟩, hS.F ht⟩) hS.2.2 dX12_descriptor_20
    · refine lv_iload_n hx hb dX12_descriptor_10 rfl (lv_at hl 3 rfl) ?_
      refine lv_if_lt (tgt := 19) hx hb dX12_descriptor_11 (by decide) (fun c_3 => ?_) (fun c_3 => ?_)
      · refine lv_iconst (v := (-1)) hx hb dX12_descriptor_19 (by decide) ?_
        refine W.widen (k := 0) (n := 0) (by decide +kernel) (by decide +kernel) ?_
        exact W.iret (v := (-1)) hx hb hr (fun t ht hW => ⟨⟨(-1), (), rfl, Or.inr (Or.inr (Or.inl ⟨c_1, c_2, c_3, rfl⟩)), trivial⟩, hS.F ht⟩) hS.2.2 dX12_descriptor_20
      · refine lv_iload_n hx hb dX12_descriptor_14 rfl (lv_at hl 3 rfl) ?_
        refine lv_iconst (v := 4) hx hb dX12_descriptor_15 (by decide) ?_
        refine lv_icmp_le (tgt := 21) hx hb dX12_descriptor_16 (by decide) (fun c_4 => ?_) (fun c_4 => ?_)
        · refine lv_aload_n hx hb dX12_descriptor_21 rfl (lv_at hl 0 rfl) ?_
          refine lv_iload_n hx hb dX12_descriptor_22 rfl (lv_at hl 1 rfl) ?_
          have hPc := hP.sub (ws' := [(c0, .inr (13, [.ref c5, .int 0, .int 0, .ref c6, .ref c7, .null, .ref c1, .ref c8, .null, .null, .int 0, .ref c9])), (c1, .inr (12, [.ref c10, .ref c11, .ref c12, .ref c13, .ref c14, .ref c15, .int 0, .ref c16, .ref c17, .int 0, .int 0, .int 0, .int 0, .int 0, .int 0, .int 0]))]) [0, 1] rfl
          have hDc := hD.sub (ws' := [(c0, .inr (13, [.ref c5, .int 0, .int 0, .ref c6, .ref c7, .null, .ref c1, .ref c8, .null, .null, .int 0, .ref c9])), (c1, .inr (12, [.ref c10, .ref c11, .ref c12, .ref c13, .ref c14, .ref c15, .int 0, .ref c16, .ref c17, .int 0, .int 0, .int 0, .int 0, .int 0, .int 0, .int 0]))]) [0, 1] (by decide) rfl
          have hKc := hK.sub (tys' := []) [] rfl
          have hFc := va_free (wc := [(c0, .inr (13, [.ref c5, .int 0, .int 0, .ref c6, .ref c7, .null, .ref c1, .ref c8, .null, .null, .int 0, .ref c9])), (c1, .inr (12, [.ref c10, .ref c11, .ref c12, .ref c13, .ref c14, .ref c15, .int 0, .ref c16, .ref c17, .int 0, .int 0, .int 0, .int 0, .int 0, .int 0, .int 0]))]) hD hS hA [0, 1] rfl
          refine va_calli (va_runV (As := [.int c2]) (rest := []) ⟨hx, hb, hml, hown, hts⟩ (k_X12_isThere l dC dI c0 c1 c2 c5 c6 c7 c8 c9 c10 c11 c12 c13 c14 c15 c16 c17 s.heap.size) (cwV 1 hts gX12_descriptor_X12_isThere rfl rfl rfl (by decide +kernel) ⟨Nat.le_of_ble_eq_true rfl, Nat.le_of_ble_eq_true rfl⟩) ⟨fun a U g mk q => by obtain ⟨q0, q1, qP, qK, qD, qN⟩ := q; exact ⟨q0, q1, qP, va_K.moved (u := U) (U := U.calling g mk a) (Vm.Alike.refl U.vm) qK, qD, nv_same rfl rfl qN⟩, va_recv hKc hPc (ci := 13) (q0 := 0) rfl rfl, fun U hU hW => ⟨rfl, by rw [hU], by rw [hU]; exact hPc, va_K.moved hW.alike hKc, hDc.weaken (fun _ _ _ _ => trivial), nv_call hS hFc hU hW hN⟩⟩ rfl rfl hl.1 rfl (lv_room (Nat.le_of_ble_eq_true rfl)) dX12_descriptor_23 ⟨by decide +kernel, by decide +kernel⟩) hS (fun q _ h => hFc q h) hFc (fun r1 u t H1 locs ht hvm hw hB hz1 hk1 hS => ?_)
          obtain ⟨hP1, hK1, hD1⟩ := hB
          rw [ht] at hP1
          have hK1 := va_K.moved hvm.symm hK1
          obtain rfl : r1 = 0 := hw
          obtain ⟨hP, hD⟩ := va_join (wr := []) (w1 := [(c0, .inr (13, [.ref c5, .int 0, .int 0, .ref c6, .ref c7, .null, .ref c1, .ref c8, .null, .null, .int 0, .ref c9])), (c1, .inr (12, [.ref c10, .ref c11, .ref c12, .ref c13, .ref c14, .ref c15, .int 0, .ref c16, .ref c17, .int 0, .int 0, .int 0, .int 0, .int 0, .int 0, .int 0]))]) hP hD [0, 1] [] rfl rfl (by decide) (by decide) hk1 hFc hP1 hD1
          have hK := (hK.sub (tys' := []) [] rfl).app hK1
          generalize H1 = H at hP hS ⊢
          have hP : va_P (dC, dI) vwCl [(c0, .inr (13, [.ref c5, .int 0, .int 0, .ref c6, .ref c7, .null, .ref c1, .ref c8, .null, .null, .int 0, .ref c9])), (c1, .inr (12, [.ref c10, .ref c11, .ref c12, .ref c13, .ref c14, .ref c15, .int 0, .ref c16, .ref c17, .int 0, .int 0, .int 0, .int 0, .int 0, .int 0, .int 0]))] H := hP
          have hD : va_D A [(c0, .inr (13, [.ref c5, .int 0, .int 0, .ref c6, .ref c7, .null, .ref c1, .ref c8, .null, .null, .int 0, .ref c9])), (c1, .inr (12, [.ref c10, .ref c11, .ref c12, .ref c13, .ref c14, .ref c15, .int 0, .ref c16, .ref c17, .int 0, .int 0, .int 0, .int 0, .int 0, .int 0, .int 0]))] := hD
          have hK : va_K (dC, dI) vwCl [] s := hK
          refine W.widen (k := 0) (n := 0) (by decide +kernel) (by decide +kernel) ?_
          refine lv_if_eq (tgt := 47) hx hb dX12_descriptor_26 (by decide) (fun _ => ?_) (fun h9 => absurd (by decide) h9)
          refine lv_iconst (v := (-1)) hx hb dX12_descriptor_47 (by decide) ?_
          refine lv_istore (lv' := [(4, .int (-1)), (0, .ref c0), (1, .int c2), (2, .int c3), (3, .int c4)]) hx hb dX12_descriptor_48 hl (by decide) rfl (fun ls hl => ?_)
          refine lv_iload hx hb dX12_descriptor_50 (lv_at hl 0 rfl) ?_
          refine lv_if_ge (tgt := 65) hx hb dX12_descriptor_52 (by decide) (fun h9 => absurd h9 (by decide)) (fun _ => ?_)
          refine lv_iload_n hx hb dX12_descriptor_55 rfl (lv_at hl 4 rfl) ?_
          refine lv_if_ne (tgt := 63) hx hb dX12_descriptor_56 (by decide) (fun c_5 => ?_) (fun c_5 => ?_)
          · refine lv_iconst (v := (-1)) hx hb dX12_descriptor_63 (by decide) ?_
            refine W.widen (k := 0) (n := 0) (by decide +kernel) (by decide +kernel) ?_
            exact W.iret (v := (-1)) hx hb hr (fun t ht hW => ⟨⟨(-1), (), rfl, Or.inr (Or.inr (Or.inr (Or.inl ⟨c_1, c_2, c_3, c_4, c_5, rfl⟩))), trivial⟩, hS.F ht⟩) hS.2.2 dX12_descriptor_64
          · refine lv_iconst (v := 0) hx hb dX12_descriptor_59 (by decide) ?_
            refine lv_goto (tgt := 64) hx hb dX12_descriptor_60 (by decide) ?_
            refine W.widen (k := 0) (n := 0) (by decide +kernel) (by decide +kernel) ?_
            exact W.iret (v := 0) hx hb hr (fun t ht hW => ⟨⟨0, (), rfl, Or.inr (Or.inr (Or.inr (Or.inr (Or.inl ⟨c_1, c_2, c_3, c_4, c_5, rfl⟩)))), trivial⟩, hS.F ht⟩) hS.2.2 dX12_descriptor_64
        · refine lv_iconst (v := (-1)) hx hb dX12_descriptor_19 (by decide) ?_
          refine W.widen (k := 0) (n := 0) (by decide +kernel) (by decide +kernel) ?_
          exact W.iret (v := (-1)) hx hb hr (fun t ht hW => ⟨⟨(-1), (), rfl, Or.inr (Or.inr (Or.inr (Or.inr (Or.inr (Or.inl ⟨c_1, c_2, c_3, c_4, rfl⟩))))), trivial⟩, hS.F ht⟩) hS.2.2 dX12_descriptor_20
set_option maxHeartbeats 40000000 in
set_option maxRecDepth 100000 in
theorem k_X12_held (l : Launch) (dC : Nat → ClassId) (dI : Nat → Nat → Nat) (c0 : Nat) (c1 : Nat) (c2 : Int32) (c3 : Int32) (c4 : Int32) (c5 : Nat) (c6 : Nat) (c7 : Nat) (c8 : Nat) (c9 : Nat) (c10 : Nat) (c11 : Nat) (c12 : Nat) (c13 : Nat) (c14 : Nat) (c15 : Nat) (c16 : Nat) (c17 : Nat) (sz : Nat) : Met l yX12_held wsX12_held ({ frames := 1, cells := 0, slots := 0, locals := 21 }) (va_Pc [.ref c0, .int c2, .int c3, .int c4] (fun U => U.heap.size = sz ∧ va_P (dC, dI) vwCl [(c0, .inr (13, [.ref c5, .int 0, .int 0, .ref c6, .ref c7, .null, .ref c1, .ref c8, .null, .null, .int 0, .ref c9])), (c1, .inr (12, [.ref c10, .ref c11, .ref c12, .ref c13, .ref c14, .ref c15, .int 0, .ref c16, .ref c17, .int 0, .int 0, .int 0, .int 0, .int 0, .int 0, .int 0]))] U.heap ∧ va_K (dC, dI) vwCl [] U ∧ va_D (fun _ => True) [(c0, .inr (13, [.ref c5, .int 0, .int 0, .ref c6, .ref c7, .null, .ref c1, .ref c8, .null, .null, .int 0, .ref c9])), (c1, .inr (12, [.ref c10, .ref c11, .ref c12, .ref c13, .ref c14, .ref c15, .int 0, .ref c16, .ref c17, .int 0, .int 0, .int 0, .int 0, .int 0, .int 0, .int 0]))] ∧ nv_E (va_A [(c0, .inr (13, [.ref c5, .int 0, .int 0, .ref c6, .ref c7, .null, .ref c1, .ref c8, .null, .null, .int 0, .ref c9])), (c1, .inr (12, [.ref c10, .ref c11, .ref c12, .ref c13, .ref c14, .ref c15, .int 0, .ref c16, .ref c17, .int 0, .int 0, .int 0, .int 0, .int 0, .int 0, .int 0]))] sz) U)) (va_Qi (fun r _ => r = (-1)) (fun (_ : Unit) t => va_P (dC, dI) vwCl [(c0, .inr (13, [.ref c5, .int 0, .int 0, .ref c6, .ref c7, .null, .ref c1, .ref c8, .null, .null, .int 0, .ref c9])), (c1, .inr (12, [.ref c10, .ref c11, .ref c12, .ref c13, .ref c14, .ref c15, .int 0, .ref c16, .ref c17, .int 0, .int 0, .int 0, .int 0, .int 0, .int 0, .int 0]))] t.heap ∧ va_K (dC, dI) vwCl [] t ∧ va_D (va_A [(c0, .inr (13, [.ref c5, .int 0, .int 0, .ref c6, .ref c7, .null, .ref c1, .ref c8, .null, .null, .int 0, .ref c9])), (c1, .inr (12, [.ref c10, .ref c11, .ref c12, .ref c13, .ref c14, .ref c15, .int 0, .ref c16, .ref c17, .int 0, .int 0, .int 0, .int 0, .int 0, .int 0, .int 0]))] sz) [(c0, .inr (13, [.ref c5, .int 0, .int 0, .ref c6, .ref c7, .null, .ref c1, .ref c8, .null, .null, .int 0, .ref c9])), (c1, .inr (12, [.ref c10, .ref c11, .ref c12, .ref c13, .ref c14, .ref c15, .int 0, .ref c16, .ref c17, .int 0, .int 0, .int 0, .int 0, .int 0, .int 0, .int 0]))]) (va_A [(c0, .inr (13, [.ref c5, .int 0, .int 0, .ref c6, .ref c7, .null, .ref c1, .ref c8, .null, .null, .int 0, .ref c9])), (c1, .inr (12, [.ref c10, .ref c11, .ref c12, .ref c13, .ref c14, .ref c15, .int 0, .ref c16, .ref c17, .int 0, .int 0, .int 0, .int 0, .int 0, .int 0, .int 0]))] sz)) 0 0 (va_A [(c0, .inr (13, [.ref c5, .int 0, .int 0, .ref c6, .ref c7, .null, .ref c1, .ref c8, .null, .null, .int 0, .ref c9])), (c1, .inr (12, [.ref c10, .ref c11, .ref c12, .ref c13, .ref c14, .ref c15, .int 0, .ref c16, .ref c17, .int 0, .int 0, .int 0, .int 0, .int 0, .int 0, .int 0]))] sz) := by
  refine Met.ofW (cc := cX12_held) (maxL := 5) (ret := (some .int)) (by decide) rfl ?_
  intro p e s m args below meth c s₁ B hml hv
  obtain ⟨rfl, hsz, hP, hK, hD0, hN⟩ := hv
  have hx := B.exec
  have hb := B.bytes
  have hr := B.returns
  have hts := atoms_spec (ws := wsX12_held) B.pre
  have hown : s.vm.findClass RX12 = some m.cls := findClass_of_methodNamed B.named
  have hlocks := B.notSynchronized
  subst hsz
  have hD := hD0.self (sz := s.heap.size)
  generalize hAe : va_A [(c0, .inr (13, [.ref c5, .int 0, .int 0, .ref c6, .ref c7, .null, .ref c1, .ref c8, .null, .null, .int 0, .ref c9])), (c1, .inr (12, [.ref c10, .ref c11, .ref c12, .ref c13, .ref c14, .ref c15, .int 0, .ref c16, .ref c17, .int 0, .int 0, .int 0, .int 0, .int 0, .int 0, .int 0]))] s.heap.size = A at hD hN ⊢
  have hA : ∀ q : Nat, s.heap.size ≤ q → A q := fun q h => by rw [← hAe]; exact Or.inr h
  have hS : va_S A s.heap s.heap [] := va_S.rf
  have hl := lv_entry ([.ref c0, .int c2, .int c3, .int c4]) (n := 5) (Nat.le_of_ble_eq_true rfl)
  rw [lg_entry_eq]
  generalize (lg_sl ([.ref c0, .int c2, .int c3, .int c4]) ++ List.replicate (5 - (lg_sl ([.ref c0, .int c2, .int c3, .int c4])).length) Slot.unset).toArray = ls at hl ⊢
  have hl : lv_has ls 5 [(0, .ref c0), (1, .int c2), (2, .int c3), (3, .int c4)] := hl
  refine lv_aload_n hx hb dX12_held_0 rfl (lv_at hl 0 rfl) ?_
  refine lv_iload_n hx hb dX12_held_1 rfl (lv_at hl 1 rfl) ?_
  have hPc := hP.sub (ws' := [(c0, .inr (13, [.ref c5, .int 0, .int 0, .ref c6, .ref c7, .null, .ref c1, .ref c8, .null, .null, .int 0, .ref c9])), (c1, .inr (12, [.ref c10, .ref c11, .ref c12, .ref c13, .ref c14, .ref c15, .int 0, .ref c16, .ref c17, .int 0, .int 0, .int 0, .int 0, .int 0, .int 0, .int 0]))]) [0, 1] rfl
  have hDc := hD.sub (ws' := [(c0, .inr (13, [.ref c5, .int 0, .int 0, .ref c6, .ref c7, .null, .ref c1, .ref c8, .null, .null, .int 0, .ref c9])), (c1, .inr (12, [.ref c10, .ref c11, .ref c12, .ref c13, .ref c14, .ref c15, .int 0, .ref c16, .ref c17, .int 0, .int 0, .int 0, .int 0, .int 0, .int 0, .int 0]))]) [0, 1] (by decide) rfl
  have hKc := hK.sub (tys' := []) [] rfl
  have hFc := va_free (wc := [(c0, .inr (13, [.ref c5, .int 0, .int 0, .ref c6, .ref c7, .null, .ref c1, .ref c8, .null, .null, .int 0, .ref c9])), (c1, .inr (12, [.ref c10, .ref c11, .ref c12, .ref c13, .ref c14, .ref c15, .int 0, .ref c16, .ref c17, .int 0, .int 0, .int 0, .int 0, .int 0, .int 0, .int 0]))]) hD hS hA [0, 1] rfl
  refine va_calli (va_runV (As := [.int c2]) (rest := []) ⟨hx, hb, hml, hown, hts⟩ (k_X12_isThere l dC dI c0 c1 c2 c5 c6 c7 c8 c9 c10 c11 c12 c13 c14 c15 c16 c17 s.heap.size) (cwV 1 hts gX12_held_X12_isThere rfl rfl rfl (by decide +kernel) ⟨Nat.le_of_ble_eq_true rfl, Nat.le_of_ble_eq_true rfl⟩) ⟨fun a U g mk q => by obtain ⟨q0, q1, qP, qK, qD, qN⟩ := q; exact ⟨q0, q1, qP, va_K.moved (u := U) (U := U.calling g mk a) (Vm.Alike.refl U.vm) qK, qD, nv_same rfl rfl qN⟩, va_recv hKc hPc (ci := 13) (q0 := 0) rfl rfl, fun U hU hW => ⟨rfl, by rw [hU], by rw [hU]; exact hPc, va_K.moved hW.alike hKc, hDc.weaken (fun _ _ _ _ => trivial), nv_call hS hFc hU hW hN⟩⟩ rfl rfl hl.1 rfl (lv_room (Nat.le_of_ble_eq_true rfl)) dX12_held_2 ⟨by decide +kernel, by decide +kernel⟩) hS (fun q _ h => hFc q h) hFc (fun r1 u t H1 locs ht hvm hw hB hz1 hk1 hS => ?_)
  obtain ⟨hP1, hK1, hD1⟩ := hB
  rw [ht] at hP1
  have hK1 := va_K.moved hvm.symm hK1
  obtain rfl : r1 = 0 := hw
  obtain ⟨hP, hD⟩ := va_join (wr := []) (w1 := [(c0, .inr (13, [.ref c5, .int 0, .int 0, .ref c6, .ref c7, .null, .ref c1, .ref c8, .null, .null, .int 0, .ref c9])), (c1, .inr (12, [.ref c10, .ref c11, .ref c12, .ref c13, .ref c14, .ref c15, .int 0, .ref c16, .ref c17, .int 0, .int 0, .int 0, .int 0, .int 0, .int 0, .int 0]))]) hP hD [0, 1] [] rfl rfl (by decide) (by decide) hk1 hFc hP1 hD1
  have hK := (hK.sub (tys' := []) [] rfl).app hK1
  generalize H1 = H at hP hS ⊢
  have hP : va_P (dC, dI) vwCl [(c0, .inr (13, [.ref c5, .int 0, .int 0, .ref c6, .ref c7, .null, .ref c1, .ref c8, .null, .null, .int 0, .ref c9])), (c1, .inr (12, [.ref c10, .ref c11, .ref c12, .ref c13, .ref c14, .ref c15, .int 0, .ref c16, .ref c17, .int 0, .int 0, .int 0, .int 0, .int 0, .int 0, .int 0]))] H := hP
  have hD : va_D A [(c0, .inr (13, [.ref c5, .int 0, .int 0, .ref c6, .ref c7, .null, .ref c1, .ref c8, .null, .null, .int 0, .ref c9])), (c1, .inr (12, [.ref c10, .ref c11, .ref c12, .ref c13, .ref c14, .ref c15, .int 0, .ref c16, .ref c17, .int 0, .int 0, .int 0, .int 0, .int 0, .int 0, .int 0]))] := hD
  have hK : va_K (dC, dI) vwCl [] s := hK
  refine W.widen (k := 0) (n := 0) (by decide +kernel) (by decide +kernel) ?_
  refine lv_if_eq (tgt := 26) hx hb dX12_held_5 (by decide) (fun _ => ?_) (fun h9 => absurd (by decide) h9)
  refine lv_iconst (v := (-1)) hx hb dX12_held_26 (by decide) ?_
  refine lv_istore (lv' := [(4, .int (-1)), (0, .ref c0), (1, .int c2), (2, .int c3), (3, .int c4)]) hx hb dX12_held_27 hl (by decide) rfl (fun ls hl => ?_)
  refine lv_iload hx hb dX12_held_29 (lv_at hl 0 rfl) ?_
  refine lv_if_lt (tgt := 57) hx hb dX12_held_31 (by decide) (fun _ => ?_) (fun h9 => absurd (by decide) h9)
  refine lv_iconst (v := (-1)) hx hb dX12_held_57 (by decide) ?_
  have hP9 := hP.sub (ws' := [(c0, .inr (13, [.ref c5, .int 0, .int 0, .ref c6, .ref c7, .null, .ref c1, .ref c8, .null, .null, .int 0, .ref c9])), (c1, .inr (12, [.ref c10, .ref c11, .ref c12, .ref c13, .ref c14, .ref c15, .int 0, .ref c16, .ref c17, .int 0, .int 0, .int 0, .int 0, .int 0, .int 0, .int 0]))]) [0, 1] rfl
  have hD9 := hD.sub (ws' := [(c0, .inr (13, [.ref c5, .int 0, .int 0, .ref c6, .ref c7, .null, .ref c1, .ref c8, .null, .null, .int 0, .ref c9])), (c1, .inr (12, [.ref c10, .ref c11, .ref c12, .ref c13, .ref c14, .ref c15, .int 0, .ref c16, .ref c17, .int 0, .int 0, .int 0, .int 0, .int 0, .int 0, .int 0]))]) [0, 1] (by decide) rfl
  have hK9 := hK.sub (tys' := []) [] rfl
  refine W.widen (k := 0) (n := 0) (by decide +kernel) (by decide +kernel) ?_
  exact W.iret (v := (-1)) hx hb hr (fun t ht hW => ⟨⟨(-1), (), rfl, rfl, by rw [ht]; exact hP9, va_K.moved hW.alike hK9, hD9⟩, hS.F ht⟩) hS.2.2 dX12_held_58
theorem hi_X12_shown_X11 : ∀ w ∈ u_ws RX11 TX11 16, w ∈ wsX12_shown := by decide +kernel
theorem hi_X12_shown_X12 : ∀ w ∈ u_ws RX12 TX12 12, w ∈ wsX12_shown := by decide +kernel
set_option maxHeartbeats 40000000 in
set_option maxRecDepth 100000 in
theorem k_X12_shown (l : Launch) (dC : Nat → ClassId) (dI : Nat → Nat → Nat) (c0 : Nat) (c1 : Nat) (c2 : Int32) (c3 : Nat) (c4 : Nat) (c5 : Nat) (c6 : Nat) (c7 : Nat) (c8 : Nat) (c9 : Nat) (c10 : Nat) (c11 : Nat) (c12 : Nat) (c13 : Nat) (c14 : Nat) (c15 : Nat) (sz : Nat) : Met l yX12_shown wsX12_shown ({ frames := 0, cells := 0, slots := 0, locals := 0 }) (va_Pc [.ref c0, .int c2] (fun U => U.heap.size = sz ∧ va_P (dC, dI) vwCl [(c0, .inr (13, [.ref c3, .int 0, .int 0, .ref c4, .ref c5, .null, .ref c1, .ref c6, .null, .null, .int 0, .ref c7])), (c1, .inr (12, [.ref c8, .ref c9, .ref c10, .ref c11, .ref c12, .ref c13, .int 0, .ref c14, .ref c15, .int 0, .int 0, .int 0, .int 0, .int 0, .int 0, .int 0]))] U.heap ∧ va_K (dC, dI) vwCl [] U ∧ va_D (fun _ => True) [(c0, .inr (13, [.ref c3, .int 0, .int 0, .ref c4, .ref c5, .null, .ref c1, .ref c6, .null, .null, .int 0, .ref c7])), (c1, .inr (12, [.ref c8, .ref c9, .ref c10, .ref c11, .ref c12, .ref c13, .int 0, .ref c14, .ref c15, .int 0, .int 0, .int 0, .int 0, .int 0, .int 0, .int 0]))] ∧ nv_E (va_A [(c0, .inr (13, [.ref c3, .int 0, .int 0, .ref c4, .ref c5, .null, .ref c1, .ref c6, .null, .null, .int 0, .ref c7])), (c1, .inr (12, [.ref c8, .ref c9, .ref c10, .ref c11, .ref c12, .ref c13, .int 0, .ref c14, .ref c15, .int 0, .int 0, .int 0, .int 0, .int 0, .int 0, .int 0]))] sz) U)) (va_Qi (fun r _ => r = (-1)) (fun (_ : Unit) t => va_P (dC, dI) vwCl [(c0, .inr (13, [.ref c3, .int 0, .int 0, .ref c4, .ref c5, .null, .ref c1, .ref c6, .null, .null, .int 0, .ref c7])), (c1, .inr (12, [.ref c8, .ref c9, .ref c10, .ref c11, .ref c12, .ref c13, .int 0, .ref c14, .ref c15, .int 0, .int 0, .int 0, .int 0, .int 0, .int 0, .int 0]))] t.heap ∧ va_K (dC, dI) vwCl [] t ∧ va_D (va_A [(c0, .inr (13, [.ref c3, .int 0, .int 0, .ref c4, .ref c5, .null, .ref c1, .ref c6, .null, .null, .int 0, .ref c7])), (c1, .inr (12, [.ref c8, .ref c9, .ref c10, .ref c11, .ref c12, .ref c13, .int 0, .ref c14, .ref c15, .int 0, .int 0, .int 0, .int 0, .int 0, .int 0, .int 0]))] sz) [(c0, .inr (13, [.ref c3, .int 0, .int 0, .ref c4, .ref c5, .null, .ref c1, .ref c6, .null, .null, .int 0, .ref c7])), (c1, .inr (12, [.ref c8, .ref c9, .ref c10, .ref c11, .ref c12, .ref c13, .int 0, .ref c14, .ref c15, .int 0, .int 0, .int 0, .int 0, .int 0, .int 0, .int 0]))]) (va_A [(c0, .inr (13, [.ref c3, .int 0, .int 0, .ref c4, .ref c5, .null, .ref c1, .ref c6, .null, .null, .int 0, .ref c7])), (c1, .inr (12, [.ref c8, .ref c9, .ref c10, .ref c11, .ref c12, .ref c13, .int 0, .ref c14, .ref c15, .int 0, .int 0, .int 0, .int 0, .int 0, .int 0, .int 0]))] sz)) 0 0 (va_A [(c0, .inr (13, [.ref c3, .int 0, .int 0, .ref c4, .ref c5, .null, .ref c1, .ref c6, .null, .null, .int 0, .ref c7])), (c1, .inr (12, [.ref c8, .ref c9, .ref c10, .ref c11, .ref c12, .ref c13, .int 0, .ref c14, .ref c15, .int 0, .int 0, .int 0, .int 0, .int 0, .int 0, .int 0]))] sz) := by
  refine Met.ofW (cc := cX12_shown) (maxL := 2) (ret := (some .int)) (by decide) rfl ?_
  intro p e s m args below meth c s₁ B hml hv
  obtain ⟨rfl, hsz, hP, hK, hD0, hN⟩ := hv
  have hx := B.exec
  have hb := B.bytes
  have hr := B.returns
  have hts := atoms_spec (ws := wsX12_shown) B.pre
  have hown : s.vm.findClass RX12 = some m.cls := findClass_of_methodNamed B.named
  have hlocks := B.notSynchronized
  subst hsz
  have hD := hD0.self (sz := s.heap.size)
  generalize hAe : va_A [(c0, .inr (13, [.ref c3, .int 0, .int 0, .ref c4, .ref c5, .null, .ref c1, .ref c6, .null, .null, .int 0, .ref c7])), (c1, .inr (12, [.ref c8, .ref c9, .ref c10, .ref c11, .ref c12, .ref c13, .int 0, .ref c14, .ref c15, .int 0, .int 0, .int 0, .int 0, .int 0, .int 0, .int 0]))] s.heap.size = A at hD hN ⊢
  have hA : ∀ q : Nat, s.heap.size ≤ q → A q := fun q h => by rw [← hAe]; exact Or.inr h
  have hS : va_S A s.heap s.heap [] := va_S.rf
  have hl := lv_entry ([.ref c0, .int c2]) (n := 2) (Nat.le_of_ble_eq_true rfl)
  rw [lg_entry_eq]
  generalize (lg_sl ([.ref c0, .int c2]) ++ List.replicate (2 - (lg_sl ([.ref c0, .int c2])).length) Slot.unset).toArray = ls at hl ⊢
  have hl : lv_has ls 2 [(0, .ref c0), (1, .int c2)] := hl
  refine lv_aload_n hx hb dX12_shown_0 rfl (lv_at hl 0 rfl) ?_
  refine va_get (D := (dC, dI)) (ci := 13) (v := .ref c1) (C := RX12) (T := TX12) (N := 12) hx hb hts hi_X12_shown_X12 hown hK hP 0 rfl rfl 6 (by decide) (hts (.fieldLink RX12 26 "TimeMachine" "timeline" "LTimeMachine$Timeline;") (List.mem_of_getElem? (i := 1) (by decide +kernel))) (fun _ h9 => h9) rfl dX12_shown_1 ?_
  refine va_get (D := (dC, dI)) (ci := 12) (v := .int 0) (C := RX11) (T := TX11) (N := 16) hx hb hts hi_X12_shown_X11 hown hK hP 1 rfl rfl 6 (by decide) (hts (.fieldLink RX12 131 "TimeMachine$Timeline" "booted" "Z") (List.mem_of_getElem? (i := 2) (by decide +kernel))) (fun _ h9 => h9) rfl dX12_shown_4 ?_
  refine lv_if_eq (tgt := 27) hx hb dX12_shown_7 (by decide) (fun _ => ?_) (fun h9 => absurd (by decide) h9)
  refine lv_iconst (v := (-1)) hx hb dX12_shown_27 (by decide) ?_
  have hP9 := hP.sub (ws' := [(c0, .inr (13, [.ref c3, .int 0, .int 0, .ref c4, .ref c5, .null, .ref c1, .ref c6, .null, .null, .int 0, .ref c7])), (c1, .inr (12, [.ref c8, .ref c9, .ref c10, .ref c11, .ref c12, .ref c13, .int 0, .ref c14, .ref c15, .int 0, .int 0, .int 0, .int 0, .int 0, .int 0, .int 0]))]) [0, 1] rfl
  have hD9 := hD.sub (ws' := [(c0, .inr (13, [.ref c3, .int 0, .int 0, .ref c4, .ref c5, .null, .ref c1, .ref c6, .null, .null, .int 0, .ref c7])), (c1, .inr (12, [.ref c8, .ref c9, .ref c10, .ref c11, .ref c12, .ref c13, .int 0, .ref c14, .ref c15, .int 0, .int 0, .int 0, .int 0, .int 0, .int 0, .int 0]))]) [0, 1] (by decide) rfl
  have hK9 := hK.sub (tys' := []) [] rfl
  refine W.widen (k := 0) (n := 0) (by decide +kernel) (by decide +kernel) ?_
  exact W.iret (v := (-1)) hx hb hr (fun t ht hW => ⟨⟨(-1), (), rfl, rfl, by rw [ht]; exact hP9, va_K.moved hW.alike hK9, hD9⟩, hS.F ht⟩) hS.2.2 dX12_shown_28
theorem hi_X12_breaksThere_X12 : ∀ w ∈ u_ws RX12 TX12 12, w ∈ wsX12_breaksThere := by decide +kernel
set_option maxHeartbeats 40000000 in
set_option maxRecDepth 100000 in
theorem k_X12_breaksThere (l : Launch) (dC : Nat → ClassId) (dI : Nat → Nat → Nat) (c0 : Nat) (c1 : Nat) (c2 : ClassId) (c3 : Nat) (c4 : Nat) (c5 : Nat) (c6 : Nat) (c7 : Nat) (sz : Nat) : Met l yX12_breaksThere wsX12_breaksThere ({ frames := 0, cells := 0, slots := 0, locals := 0 }) (va_Pc [.ref c0] (fun U => U.heap.size = sz ∧ va_P (dC, dI) vwCl [(c0, .inr (13, [.ref c3, .int 0, .int 0, .ref c4, .ref c5, .null, .ref c6, .ref c1, .null, .null, .int 0, .ref c7])), (c1, .inl (c2, 8, .inr (.inr (.inr (.inr (fun _ => none))))))] U.heap ∧ va_K (dC, dI) vwCl [(c2, .object RX2)] U ∧ va_D (fun _ => True) [(c0, .inr (13, [.ref c3, .int 0, .int 0, .ref c4, .ref c5, .null, .ref c6, .ref c1, .null, .null, .int 0, .ref c7])), (c1, .inl (c2, 8, .inr (.inr (.inr (.inr (fun _ => none))))))] ∧ nv_E (va_A [(c0, .inr (13, [.ref c3, .int 0, .int 0, .ref c4, .ref c5, .null, .ref c6, .ref c1, .null, .null, .int 0, .ref c7])), (c1, .inl (c2, 8, .inr (.inr (.inr (.inr (fun _ => none))))))] sz) U)) (va_Qi (fun r _ => r = 0) (fun (_ : Unit) t => va_P (dC, dI) vwCl [(c0, .inr (13, [.ref c3, .int 0, .int 0, .ref c4, .ref c5, .null, .ref c6, .ref c1, .null, .null, .int 0, .ref c7])), (c1, .inl (c2, 8, .inr (.inr (.inr (.inr (fun _ => none))))))] t.heap ∧ va_K (dC, dI) vwCl [(c2, .object RX2)] t ∧ va_D (va_A [(c0, .inr (13, [.ref c3, .int 0, .int 0, .ref c4, .ref c5, .null, .ref c6, .ref c1, .null, .null, .int 0, .ref c7])), (c1, .inl (c2, 8, .inr (.inr (.inr (.inr (fun _ => none))))))] sz) [(c0, .inr (13, [.ref c3, .int 0, .int 0, .ref c4, .ref c5, .null, .ref c6, .ref c1, .null, .null, .int 0, .ref c7])), (c1, .inl (c2, 8, .inr (.inr (.inr (.inr (fun _ => none))))))]) (va_A [(c0, .inr (13, [.ref c3, .int 0, .int 0, .ref c4, .ref c5, .null, .ref c6, .ref c1, .null, .null, .int 0, .ref c7])), (c1, .inl (c2, 8, .inr (.inr (.inr (.inr (fun _ => none))))))] sz)) 0 0 (va_A [(c0, .inr (13, [.ref c3, .int 0, .int 0, .ref c4, .ref c5, .null, .ref c6, .ref c1, .null, .null, .int 0, .ref c7])), (c1, .inl (c2, 8, .inr (.inr (.inr (.inr (fun _ => none))))))] sz) := by
  refine Met.ofW (cc := cX12_breaksThere) (maxL := 3) (ret := (some .int)) (by decide) rfl ?_
  intro p e s m args below meth c s₁ B hml hv
  obtain ⟨rfl, hsz, hP, hK, hD0, hN⟩ := hv
  have hx := B.exec
  have hb := B.bytes
  have hr := B.returns
  have hts := atoms_spec (ws := wsX12_breaksThere) B.pre
  have hown : s.vm.findClass RX12 = some m.cls := findClass_of_methodNamed B.named
  have hlocks := B.notSynchronized
  subst hsz
  have hD := hD0.self (sz := s.heap.size)
  generalize hAe : va_A [(c0, .inr (13, [.ref c3, .int 0, .int 0, .ref c4, .ref c5, .null, .ref c6, .ref c1, .null, .null, .int 0, .ref c7])), (c1, .inl (c2, 8, .inr (.inr (.inr (.inr (fun _ => none))))))] s.heap.size = A at hD hN ⊢
  have hA : ∀ q : Nat, s.heap.size ≤ q → A q := fun q h => by rw [← hAe]; exact Or.inr h
  have hS : va_S A s.heap s.heap [] := va_S.rf
  have hl := lv_entry ([.ref c0]) (n := 3) (Nat.le_of_ble_eq_true rfl)
  rw [lg_entry_eq]
  generalize (lg_sl ([.ref c0]) ++ List.replicate (3 - (lg_sl ([.ref c0])).length) Slot.unset).toArray = ls at hl ⊢
  have hl : lv_has ls 3 [(0, .ref c0)] := hl
  refine lv_iconst (v := 0) hx hb dX12_breaksThere_0 (by decide) ?_
  refine lv_istore_n (lv' := [(1, .int 0), (0, .ref c0)]) hx hb dX12_breaksThere_1 rfl hl (by decide) rfl (fun ls hl => ?_)
  refine lv_iconst (v := 0) hx hb dX12_breaksThere_2 (by decide) ?_
  refine lv_istore_n (lv' := [(2, .int 0), (1, .int 0), (0, .ref c0)]) hx hb dX12_breaksThere_3 rfl hl (by decide) rfl (fun ls hl => ?_)
  refine lv_iload_n hx hb dX12_breaksThere_4 rfl (lv_at hl 0 rfl) ?_
  refine lv_bipush (v := 8) hx hb dX12_breaksThere_5 (by decide) ?_
  refine lv_icmp_ge (tgt := 28) hx hb dX12_breaksThere_7 (by decide) (fun h9 => absurd h9 (by decide)) (fun _ => ?_)
  refine lv_aload_n hx hb dX12_breaksThere_10 rfl (lv_at hl 2 rfl) ?_
  refine va_get (D := (dC, dI)) (ci := 13) (v := .ref c1) (C := RX12) (T := TX12) (N := 12) hx hb hts hi_X12_breaksThere_X12 hown hK hP 0 rfl rfl 7 (by decide) (hts (.fieldLink RX12 32 "TimeMachine" "breaks" "[LTimeMachine$Condition;") (List.mem_of_getElem? (i := 1) (by decide +kernel))) (fun _ h9 => h9) rfl dX12_breaksThere_11 ?_
  refine lv_iload_n hx hb dX12_breaksThere_14 rfl (lv_at hl 0 rfl) ?_
  refine va_aldq (i := 0) hx hb hK hP 1 0 rfl rfl (vp_in_iff.mpr ⟨by decide, by decide⟩) dX12_breaksThere_15 ?_
  refine W.eq (g2 := F0 m 16 ls [.null]) rfl ?_
  refine lv_ifnullN (tgt := 22) hx hb dX12_breaksThere_16 (by decide) ?_
  refine lv_iinc (v := 1) (lv' := [(2, .int 1), (1, .int 0), (0, .ref c0)]) hx hb dX12_breaksThere_22 hl (k := 0) rfl (by decide) (by decide) rfl (fun ls hl => ?_)
  refine lv_goto (tgt := 4) hx hb dX12_breaksThere_25 (by decide) ?_
  refine lv_iload_n hx hb dX12_breaksThere_4 rfl (lv_at hl 0 rfl) ?_
  refine lv_bipush (v := 8) hx hb dX12_breaksThere_5 (by decide) ?_
  refine lv_icmp_ge (tgt := 28) hx hb dX12_breaksThere_7 (by decide) (fun h9 => absurd h9 (by decide)) (fun _ => ?_)
  refine lv_aload_n hx hb dX12_breaksThere_10 rfl (lv_at hl 2 rfl) ?_
  refine va_get (D := (dC, dI)) (ci := 13) (v := .ref c1) (C := RX12) (T := TX12) (N := 12) hx hb hts hi_X12_breaksThere_X12 hown hK hP 0 rfl rfl 7 (by decide) (hts (.fieldLink RX12 32 "TimeMachine" "breaks" "[LTimeMachine$Condition;") (List.mem_of_getElem? (i := 1) (by decide +kernel))) (fun _ h9 => h9) rfl dX12_breaksThere_11 ?_
  refine lv_iload_n hx hb dX12_breaksThere_14 rfl (lv_at hl 0 rfl) ?_
  refine va_aldq (i := 1) hx hb hK hP 1 0 rfl rfl (vp_in_iff.mpr ⟨by decide, by decide⟩) dX12_breaksThere_15 ?_
  refine W.eq (g2 := F0 m 16 ls [.null]) rfl ?_
  refine lv_ifnullN (tgt := 22) hx hb dX12_breaksThere_16 (by decide) ?_
  refine lv_iinc (v := 2) (lv' := [(2, .int 2), (1, .int 0), (0, .ref c0)]) hx hb dX12_breaksThere_22 hl (k := 0) rfl (by decide) (by decide) rfl (fun ls hl => ?_)
  refine lv_goto (tgt := 4) hx hb dX12_breaksThere_25 (by decide) ?_
  refine lv_iload_n hx hb dX12_breaksThere_4 rfl (lv_at hl 0 rfl) ?_
  refine lv_bipush (v := 8) hx hb dX12_breaksThere_5 (by decide) ?_
  refine lv_icmp_ge (tgt := 28) hx hb dX12_breaksThere_7 (by decide) (fun h9 => absurd h9 (by decide)) (fun _ => ?_)
  refine lv_aload_n hx hb dX12_breaksThere_10 rfl (lv_at hl 2 rfl) ?_
  refine va_get (D := (dC, dI)) (ci := 13) (v := .ref c1) (C := RX12) (T := TX12) (N := 12) hx hb hts hi_X12_breaksThere_X12 hown hK hP 0 rfl rfl 7 (by decide) (hts (.fieldLink RX12 32 "TimeMachine" "breaks" "[LTimeMachine$Condition;") (List.mem_of_getElem? (i := 1) (by decide +kernel))) (fun _ h9 => h9) rfl dX12_breaksThere_11 ?_
  refine lv_iload_n hx hb dX12_breaksThere_14 rfl (lv_at hl 0 rfl) ?_
  refine va_aldq (i := 2) hx hb hK hP 1 0 rfl rfl (vp_in_iff.mpr ⟨by decide, by decide⟩) dX12_breaksThere_15 ?_
  refine W.eq (g2 := F0 m 16 ls [.null]) rfl ?_
  refine lv_ifnullN (tgt := 22) hx hb dX12_breaksThere_16 (by decide) ?_
  refine lv_iinc (v := 3) (lv' := [(2, .int 3), (1, .int 0), (0, .ref c0)]) hx hb dX12_breaksThere_22 hl (k := 0) rfl (by decide) (by decide) rfl (fun ls hl => ?_)
  refine lv_goto (tgt := 4) hx hb dX12_breaksThere_25 (by decide) ?_
  refine lv_iload_n hx hb dX12_breaksThere_4 rfl (lv_at hl 0 rfl) ?_
  refine lv_bipush (v := 8) hx hb dX12_breaksThere_5 (by decide) ?_
  refine lv_icmp_ge (tgt := 28) hx hb dX12_breaksThere_7 (by decide) (fun h9 => absurd h9 (by decide)) (fun _ => ?_)
  refine lv_aload_n hx hb dX12_breaksThere_10 rfl (lv_at hl 2 rfl) ?_
  refine va_get (D := (dC, dI)) (ci := 13) (v := .ref c1) (C := RX12) (T := TX12) (N := 12) hx hb hts hi_X12_breaksThere_X12 hown hK hP 0 rfl rfl 7 (by decide) (hts (.fieldLink RX12 32 "TimeMachine" "breaks" "[LTimeMachine$Condition;") (List.mem_of_getElem? (i := 1) (by decide +kernel))) (fun _ h9 => h9) rfl dX12_breaksThere_11 ?_
  refine lv_iload_n hx hb dX12_breaksThere_14 rfl (lv_at hl 0 rfl) ?_
  refine va_aldq (i := 3) hx hb hK hP 1 0 rfl rfl (vp_in_iff.mpr ⟨by decide, by decide⟩) dX12_breaksThere_15 ?_
  refine W.eq (g2 := F0 m 16 ls [.null]) rfl ?_
  refine lv_ifnullN (tgt := 22) hx hb dX12_breaksThere_16 (by decide) ?_
  refine lv_iinc (v := 4) (lv' := [(2, .int 4), (1, .int 0), (0, .ref c0)]) hx hb dX12_breaksThere_22 hl (k := 0) rfl (by decide) (by decide) rfl (fun ls hl => ?_)
  refine lv_goto (tgt := 4) hx hb dX12_breaksThere_25 (by decide) ?_
  refine lv_iload_n hx hb dX12_breaksThere_4 rfl (lv_at hl 0 rfl) ?_
  refine lv_bipush (v := 8) hx hb dX12_breaksThere_5 (by decide) ?_
  refine lv_icmp_ge (tgt := 28) hx hb dX12_breaksThere_7 (by decide) (fun h9 => absurd h9 (by decide)) (fun _ => ?_)
  refine lv_aload_n hx hb dX12_breaksThere_10 rfl (lv_at hl 2 rfl) ?_
  refine va_get (D := (dC, dI)) (ci := 13) (v := .ref c1) (C := RX12) (T := TX12) (N := 12) hx hb hts hi_X12_breaksThere_X12 hown hK hP 0 rfl rfl 7 (by decide) (hts (.fieldLink RX12 32 "TimeMachine" "breaks" "[LTimeMachine$Condition;") (List.mem_of_getElem? (i := 1) (by decide +kernel))) (fun _ h9 => h9) rfl dX12_breaksThere_11 ?_
  refine lv_iload_n hx hb dX12_breaksThere_14 rfl (lv_at hl 0 rfl) ?_
  refine va_aldq (i := 4) hx hb hK hP 1 0 rfl rfl (vp_in_iff.mpr ⟨by decide, by decide⟩) dX12_breaksThere_15 ?_
  refine W.eq (g2 := F0 m 16 ls [.null]) rfl ?_
  refine lv_ifnullN (tgt := 22) hx hb dX12_breaksThere_16 (by decide) ?_
  refine lv_iinc (v := 5) (lv' := [(2, .int 5), (1, .int 0), (0, .ref c0)]) hx hb dX12_breaksThere_22 hl (k := 0) rfl (by decide) (by decide) rfl (fun ls hl => ?_)
  refine lv_goto (tgt := 4) hx hb dX12_breaksThere_25 (by decide) ?_
  refine lv_iload_n hx hb dX12_breaksThere_4 rfl (lv_at hl 0 rfl) ?_
  refine lv_bipush (v := 8) hx hb dX12_breaksThere_5 (by decide) ?_
  refine lv_icmp_ge (tgt := 28) hx hb dX12_breaksThere_7 (by decide) (fun h9 => absurd h9 (by decide)) (fun _ => ?_)
  refine lv_aload_n hx hb dX12_breaksThere_10 rfl (lv_at hl 2 rfl) ?_
  refine va_get (D := (dC, dI)) (ci := 13) (v := .ref c1) (C := RX12) (T := TX12) (N := 12) hx hb hts hi_X12_breaksThere_X12 hown hK hP 0 rfl rfl 7 (by decide) (hts (.fieldLink RX12 32 "TimeMachine" "breaks" "[LTimeMachine$Condition;") (List.mem_of_getElem? (i := 1) (by decide +kernel))) (fun _ h9 => h9) rfl dX12_breaksThere_11 ?_
  refine lv_iload_n hx hb dX12_breaksThere_14 rfl (lv_at hl 0 rfl) ?_
  refine va_aldq (i := 5) hx hb hK hP 1 0 rfl rfl (vp_in_iff.mpr ⟨by decide, by decide⟩) dX12_breaksThere_15 ?_
  refine W.eq (g2 := F0 m 16 ls [.null]) rfl ?_
  refine lv_ifnullN (tgt := 22) hx hb dX12_breaksThere_16 (by decide) ?_
  refine lv_iinc (v := 6) (lv' := [(2, .int 6), (1, .int 0), (0, .ref c0)]) hx hb dX12_breaksThere_22 hl (k := 0) rfl (by decide) (by decide) rfl (fun ls hl => ?_)
  refine lv_goto (tgt := 4) hx hb dX12_breaksThere_25 (by decide) ?_
  refine lv_iload_n hx hb dX12_breaksThere_4 rfl (lv_at hl 0 rfl) ?_
  refine lv_bipush (v := 8) hx hb dX12_breaksThere_5 (by decide) ?_
  refine lv_icmp_ge (tgt := 28) hx hb dX12_breaksThere_7 (by decide) (fun h9 => absurd h9 (by decide)) (fun _ => ?_)
  refine lv_aload_n hx hb dX12_breaksThere_10 rfl (lv_at hl 2 rfl) ?_
  refine va_get (D := (dC, dI)) (ci := 13) (v := .ref c1) (C := RX12) (T := TX12) (N := 12) hx hb hts hi_X12_breaksThere_X12 hown hK hP 0 rfl rfl 7 (by decide) (hts (.fieldLink RX12 32 "TimeMachine" "breaks" "[LTimeMachine$Condition;") (List.mem_of_getElem? (i := 1) (by decide +kernel))) (fun _ h9 => h9) rfl dX12_breaksThere_11 ?_
  refine lv_iload_n hx hb dX12_breaksThere_14 rfl (lv_at hl 0 rfl) ?_
  refine va_aldq (i := 6) hx hb hK hP 1 0 rfl rfl (vp_in_iff.mpr ⟨by decide, by decide⟩) dX12_breaksThere_15 ?_
  refine W.eq (g2 := F0 m 16 ls [.null]) rfl ?_
  refine lv_ifnullN (tgt := 22) hx hb dX12_breaksThere_16 (by decide) ?_
  refine lv_iinc (v := 7) (lv' := [(2, .int 7), (1, .int 0), (0, .ref c0)]) hx hb dX12_breaksThere_22 hl (k := 0) rfl (by decide) (by decide) rfl (fun ls hl => ?_)
  refine lv_goto (tgt := 4) hx hb dX12_breaksThere_25 (by decide) ?_
  refine lv_iload_n hx hb dX12_breaksThere_4 rfl (lv_at hl 0 rfl) ?_
  refine lv_bipush (v := 8) hx hb dX12_breaksThere_5 (by decide) ?_
  refine lv_icmp_ge (tgt := 28) hx hb dX12_breaksThere_7 (by decide) (fun h9 => absurd h9 (by decide)) (fun _ => ?_)
  refine lv_aload_n hx hb dX12_breaksThere_10 rfl (lv_at hl 2 rfl) ?_
  refine va_get (D := (dC, dI)) (ci := 13) (v := .ref c1) (C := RX12) (T := TX12) (N := 12) hx hb hts hi_X12_breaksThere_X12 hown hK hP 0 rfl rfl 7 (by decide) (hts (.fieldLink RX12 32 "TimeMachine" "breaks" "[LTimeMachine$Condition;") (List.mem_of_getElem? (i := 1) (by decide +kernel))) (fun _ h9 => h9) rfl dX12_breaksThere_11 ?_
  refine lv_iload_n hx hb dX12_breaksThere_14 rfl (lv_at hl 0 rfl) ?_
  refine va_aldq (i := 7) hx hb hK hP 1 0 rfl rfl (vp_in_iff.mpr ⟨by decide, by decide⟩) dX12_breaksThere_15 ?_
  refine W.eq (g2 := F0 m 16 ls [.null]) rfl ?_
  refine lv_ifnullN (tgt := 22) hx hb dX12_breaksThere_16 (by decide) ?_
  refine lv_iinc (v := 8) (lv' := [(2, .int 8), (1, .int 0), (0, .ref c0)]) hx hb dX12_breaksThere_22 hl (k := 0) rfl (by decide) (by decide) rfl (fun ls hl => ?_)
  refine lv_goto (tgt := 4) hx hb dX12_breaksThere_25 (by decide) ?_
  refine lv_iload_n hx hb dX12_breaksThere_4 rfl (lv_at hl 0 rfl) ?_
  refine lv_bipush (v := 8) hx hb dX12_breaksThere_5 (by decide) ?_
  refine lv_icmp_ge (tgt := 28) hx hb dX12_breaksThere_7 (by decide) (fun _ => ?_) (fun h9 => absurd (by decide) h9)
  refine lv_iload_n hx hb dX12_breaksThere_28 rfl (lv_at hl 1 rfl) ?_
  have hP9 := hP.sub (ws' := [(c0, .inr (13, [.ref c3, .int 0, .int 0, .ref c4, .ref c5, .null, .ref c6, .ref c1, .null, .null, .int 0, .ref c7])), (c1, .inl (c2, 8, .inr (.inr (.inr (.inr (fun _ => none))))))]) [0, 1] rfl
  have hD9 := hD.sub (ws' := [(c0, .inr (13, [.ref c3, .int 0, .int 0, .ref c4, .ref c5, .null, .ref c6, .ref c1, .null, .null, .int 0, .ref c7])), (c1, .inl (c2, 8, .inr (.inr (.inr (.inr (fun _ => none))))))]) [0, 1] (by decide) rfl
  have hK9 := hK.sub (tys' := [(c2, .object RX2)]) [0] rfl
  refine W.widen (k := 0) (n := 0) (by decide +kernel) (by decide +kernel) ?_
  exact W.iret (v := 0) hx hb hr (fun t ht hW => ⟨⟨0, (), rfl, rfl, by rw [ht]; exact hP9, va_K.moved hW.alike hK9, hD9⟩, hS.F ht⟩) hS.2.2 dX12_breaksThere_29
theorem hi_X12_count_X11 : ∀ w ∈ u_ws RX11 TX11 16, w ∈ wsX12_count := by decide +kernel
theorem hi_X12_count_X12 : ∀ w ∈ u_ws RX12 TX12 12, w ∈ wsX12_count := by decide +kernel
set_option maxHeartbeats 40000000 in
set_option maxRecDepth 100000 in
theorem k_X12_count (l : Launch) (dC : Nat → ClassId) (dI : Nat → Nat → Nat) (c0 : Nat) (c1 : Nat) (c2 : Nat) (c3 : ClassId) (c4 : Int32) (c5 : Nat) (c6 : Nat) (c7 : Nat) (c8 : Nat) (c9 : Nat) (c10 : Nat) (c11 : Nat) (c12 : Nat) (c13 : Nat) (c14 : Nat) (c15 : Nat) (c16 : Nat) (sz : Nat) : Met l yX12_count wsX12_count ({ frames := 1, cells := 0, slots := 0, locals := 22 }) (va_Pc [.ref c0, .int c4] (fun U => U.heap.size = sz ∧ va_P (dC, dI) vwCl [(c0, .inr (13, [.ref c5, .int 0, .int 0, .ref c6, .ref c7, .null, .ref c1, .ref c2, .null, .null, .int 0, .ref c8])), (c1, .inr (12, [.ref c9, .ref c10, .ref c11, .ref c12, .ref c13, .ref c14, .int 0, .ref c15, .ref c16, .int 0, .int 0, .int 0, .int 0, .int 0, .int 0, .int 0])), (c2, .inl (c3, 8, .inr (.inr (.inr (.inr (fun _ => none))))))] U.heap ∧ va_K (dC, dI) vwCl [(c3, .object RX2)] U ∧ va_D (fun _ => True) [(c0, .inr (13, [.ref c5, .int 0, .int 0, .ref c6, .ref c7, .null, .ref c1, .ref c2, .null, .null, .int 0, .ref c8])), (c1, .inr (12, [.ref c9, .ref c10, .ref c11, .ref c12, .ref c13, .ref c14, .int 0, .ref c15, .ref c16, .int 0, .int 0, .int 0, .int 0, .int 0, .int 0, .int 0])), (c2, .inl (c3, 8, .inr (.inr (.inr (.inr (fun _ => none))))))] ∧ nv_E (va_A [(c0, .inr (13, [.ref c5, .int 0, .int 0, .ref c6, .ref c7, .null, .ref c1, .ref c2, .null, .null, .int 0, .ref c8])), (c1, .inr (12, [.ref c9, .ref c10, .ref c11, .ref c12, .ref c13, .ref c14, .int 0, .ref c15, .ref c16, .int 0, .int 0, .int 0, .int 0, .int 0, .int 0, .int 0])), (c2, .inl (c3, 8, .inr (.inr (.inr (.inr (fun _ => none))))))] sz) U)) (va_Ql (fun r _ => ((¬ c4 = 15) ∧ (¬ c4 = 16) ∧ (c4 < 0) ∧ r = (-1)) ∨ ((¬ c4 = 15) ∧ (¬ c4 = 16) ∧ (¬ c4 < 0) ∧ (c4 ≤ 14) ∧ (¬ c4 = 2) ∧ r = 0) ∨ ((¬ c4 = 15) ∧ (¬ c4 = 16) ∧ (¬ c4 < 0) ∧ (c4 ≤ 14) ∧ (c4 = 2) ∧ r = (-1)) ∨ ((¬ c4 = 15) ∧ (¬ c4 = 16) ∧ (¬ c4 < 0) ∧ (¬ c4 ≤ 14) ∧ r = (-1)) ∨ ((¬ c4 = 15) ∧ (c4 = 16) ∧ r = 0) ∨ ((c4 = 15) ∧ r = 0) ∨ False) (fun (_ : Unit) t => True) (va_A [(c0, .inr (13, [.ref c5, .int 0, .int 0, .ref c6, .ref c7, .null, .ref c1, .ref c2, .null, .null, .int 0, .ref c8])), (c1, .inr (12, [.ref c9, .ref c10, .ref c11, .ref c12, .ref c13, .ref c14, .int 0, .ref c15, .ref c16, .int 0, .int 0, .int 0, .int 0, .int 0, .int 0, .int 0])), (c2, .inl (c3, 8, .inr (.inr (.inr (.inr (fun _ => none))))))] sz)) 0 0 (va_A [(c0, .inr (13, [.ref c5, .int 0, .int 0, .ref c6, .ref c7, .null, .ref c1, .ref c2, .null, .null, .int 0, .ref c8])), (c1, .inr (12, [.ref c9, .ref c10, .ref c11, .ref c12, .ref c13, .ref c14, .int 0, .ref c15, .ref c16, .int 0, .int 0, .int 0, .int 0, .int 0, .int 0, .int 0])), (c2, .inl (c3, 8, .inr (.inr (.inr (.inr (fun _ => none))))))] sz) := by
  refine Met.ofW (cc := cX12_count) (maxL := 2) (ret := (some .long)) (by decide) rfl ?_
  intro p e s m args below meth c s₁ B hml hv
  obtain ⟨rfl, hsz, hP, hK, hD0, hN⟩ := hv
  have hx := B.exec
  have hb := B.bytes
  have hr := B.returns
  have hts := atoms_spec (ws := wsX12_count) B.pre
  have hown : s.vm.findClass RX12 = some m.cls := findClass_of_methodNamed B.named
  have hlocks := B.notSynchronized
  subst hsz
  have hD := hD0.self (sz := s.heap.size)
  generalize hAe : va_A [(c0, .inr (13, [.ref c5, .int 0, .int 0, .ref c6, .ref c7, .null, .ref c1, .ref c2, .null, .null, .int 0, .ref c8])), (c1, .inr (12, [.ref c9, .ref c10, .ref c11, .ref c12, .ref c13, .ref c14, .int 0, .ref c15, .ref c16, .int 0, .int 0, .int 0, .int 0, .int 0, .int 0, .int 0])), (c2, .inl (c3, 8, .inr (.inr (.inr (.inr (fun _ => none))))))] s.heap.size = A at hD hN ⊢
  have hA : ∀ q : Nat, s.heap.size ≤ q → A q := fun q h => by rw [← hAe]; exact Or.inr h
  have hS : va_S A s.heap s.heap [] := va_S.rf
  have hl := lv_entry ([.ref c0, .int c4]) (n := 2) (Nat.le_of_ble_eq_true rfl)
  rw [lg_entry_eq]
  generalize (lg_sl ([.ref c0, .int c4]) ++ List.replicate (2 - (lg_sl ([.ref c0, .int c4])).length) Slot.unset).toArray = ls at hl ⊢
  have hl : lv_has ls 2 [(0, .ref c0), (1, .int c4)] := hl
  refine lv_iload_n hx hb dX12_count_0 rfl (lv_at hl 1 rfl) ?_
  refine lv_bipush (v := 15) hx hb dX12_count_1 (by decide) ?_
  refine lv_icmp_ne (tgt := 12) hx hb dX12_count_3 (by decide) (fun c_1 => ?_) (fun c_1 => ?_)
  · refine lv_iload_n hx hb dX12_count_12 rfl (lv_at hl 1 rfl) ?_
    refine lv_bipush (v := 16) hx hb dX12_count_13 (by decide) ?_
    refine lv_icmp_ne (tgt := 24) hx hb dX12_count_15 (by decide) (fun c_2 => ?_) (fun c_2 => ?_)
    · refine lv_iload_n hx hb dX12_count_24 rfl (lv_at hl 1 rfl) ?_
      refine lv_if_lt (tgt := 34) hx hb dX12_count_25 (by decide) (fun c_3 => ?_) (fun c_3 => ?_)
      · refine lv_ldc2 hx hb hown (hts (.constantLong RX12 262 (-1)) (List.mem_of_getElem? (i := 2) (by decide +kernel))) dX12_count_34 ?_
        refine W.widen (k := 0) (n := 0) (by decide +kernel) (by decide +kernel) ?_
        exact W.lret (v := (-1)) hx hb hr (fun t ht hW => ⟨⟨(-1), (), rfl, Or.inl ⟨c_1, c_2, c_3, rfl⟩, trivial⟩, hS.F ht⟩) hS.2.2 dX12_count_37
      · refine lv_iload_n hx hb dX12_count_28 rfl (lv_at hl 1 rfl) ?_
        refine lv_bipush (v := 14) hx hb dX12_count_29 (by decide) ?_
        refine lv_icmp_le (tgt := 38) hx hb dX12_count_31 (by decide) (fun c_4 => ?_) (fun c_4 => ?_)
        · refine lv_aload_n hx hb dX12_count_38 rfl (lv_at hl 0 rfl) ?_
          refine va_get (D := (dC, dI)) (ci := 13) (v := .ref c1) (C := RX12) (T := TX12) (N := 12) hx hb hts hi_X12_count_X12 hown hK hP 0 rfl rfl 6 (by decide) (hts (.fieldLink RX12 26 "TimeMachine" "timeline" "LTimeMachine$Timeline;") (List.mem_of_getElem? (i := 3) (by decide +kernel))) (fun _ h9 => h9) rfl dX12_count_39 ?_
          refine va_get (D := (dC, dI)) (ci := 12) (v := .int 0) (C := RX11) (T := TX11) (N := 16) hx hb hts hi_X12_count_X11 hown hK hP 1 rfl rfl 6 (by decide) (hts (.fieldLink RX12 131 "TimeMachine$Timeline" "booted" "Z") (List.mem_of_getElem? (i := 4) (by decide +kernel))) (fun _ h9 => h9) rfl dX12_count_42 ?_
          refine lv_if_ne (tgt := 61) hx hb dX12_count_45 (by decide) (fun h9 => absurd h9 (by decide)) (fun _ => ?_)
          refine lv_iload_n hx hb dX12_count_48 rfl (lv_at hl 1 rfl) ?_
          refine lv_iconst (v := 2) hx hb dX12_count_49 (by decide) ?_
          refine lv_icmp_ne (tgt := 59) hx hb dX12_count_50 (by decide) (fun c_5 => ?_) (fun c_5 => ?_)
          · refine lv_lconst (v := 0) hx hb dX12_count_59 (by decide) ?_
            refine W.widen (k := 0) (n := 0) (by decide +kernel) (by decide +kernel) ?_
            exact W.lret (v := 0) hx hb hr (fun t ht hW => ⟨⟨0, (), rfl, Or.inr (Or.inl ⟨c_1, c_2, c_3, c_4, c_5, rfl⟩), trivial⟩, hS.F ht⟩) hS.2.2 dX12_count_60
          · refine lv_ldc2 hx hb hown (hts (.constantLong RX12 262 (-1)) (List.mem_of_getElem? (i := 2) (by decide +kernel))) dX12_count_53 ?_
            refine lv_goto (tgt := 60) hx hb dX12_count_56 (by decide) ?_
            refine W.widen (k := 0) (n := 0) (by decide +kernel) (by decide +kernel) ?_
            exact W.lret (v := (-1)) hx hb hr (fun t ht hW => ⟨⟨(-1), (), rfl, Or.inr (Or.inr (Or.inl ⟨c_1, c_2, c_3, c_4, c_5, rfl⟩)), trivial⟩, hS.F ht⟩) hS.2.2 dX12_count_60
        · refine lv_ldc2 hx hb hown (hts (.constantLong RX12 262 (-1)) (List.mem_of_getElem? (i := 2) (by decide +kernel))) dX12_count_34 ?_
          refine W.widen (k := 0) (n := 0) (by decide +kernel) (by decide +kernel) ?_
          exact W.lret (v := (-1)) hx hb hr (fun t ht hW => ⟨⟨(-1), (), rfl, Or.inr (Or.inr (Or.inr (Or.inl ⟨c_1, c_2, c_3, c_4, rfl⟩))), trivial⟩, hS.F ht⟩) hS.2.2 dX12_count_37
    · refine lv_aload_n hx hb dX12_count_18 rfl (lv_at hl 0 rfl) ?_
      have hPc := hP.sub (ws' := [(c0, .inr (13, [.ref c5, .int 0, .int 0, .ref c6, .ref c7, .null, .ref c1, .ref c2, .null, .null, .int 0, .ref c8])), (c2, .inl (c3, 8, .inr (.inr (.inr (.inr (fun _ => none))))))]) [0, 2] rfl
      have hDc := hD.sub (ws' := [(c0, .inr (13, [.ref c5, .int 0, .int 0, .ref c6, .ref c7, .null, .ref c1, .ref c2, .null, .null, .int 0, .ref c8])), (c2, .inl (c3, 8, .inr (.inr (.inr (.inr (fun _ => none))))))]) [0, 2] (by decide) rfl
      have hKc := hK.sub (tys' := [(c3, .object RX2)]) [0] rfl
      have hFc := va_free (wc := [(c0, .inr (13, [.ref c5, .int 0, .int 0, .ref c6, .ref c7, .null, .ref c1, .ref c2, .null, .null, .int 0, .ref c8])), (c2, .inl (c3, 8, .inr (.inr (.inr (.inr (fun _ => none))))))]) hD hS hA [0, 2] rfl
      refine va_calli (va_runV (As := []) (rest := []) ⟨hx, hb, hml, hown, hts⟩ (k_X12_breaksThere l dC dI c0 c2 c3 c5 c6 c7 c1 c8 s.heap.size) (cwV 0 hts gX12_count_X12_breaksThere rfl rfl rfl (by decide +kernel) ⟨Nat.le_of_ble_eq_true rfl, Nat.le_of_ble_eq_true rfl⟩) ⟨fun a U g mk q => by obtain ⟨q0, q1, qP, qK, qD, qN⟩ := q; exact ⟨q0, q1, qP, va_K.moved (u := U) (U := U.calling g mk a) (Vm.Alike.refl U.vm) qK, qD, nv_same rfl rfl qN⟩, va_recv hKc hPc (ci := 13) (q0 := 0) rfl rfl, fun U hU hW => ⟨rfl, by rw [hU], by rw [hU]; exact hPc, va_K.moved hW.alike hKc, hDc.weaken (fun _ _ _ _ => trivial), nv_call hS hFc hU hW hN⟩⟩ rfl rfl hl.1 rfl (lv_room (Nat.le_of_ble_eq_true rfl)) dX12_count_19 ⟨by decide +kernel, by decide +kernel⟩) hS (fun q _ h => hFc q h) hFc (fun r1 u t H1 locs ht hvm hw hB hz1 hk1 hS => ?_)
      obtain ⟨hP1, hK1, hD1⟩ := hB
      rw [ht] at hP1
      have hK1 := va_K.moved hvm.symm hK1
      obtain rfl : r1 = 0 := hw
      obtain ⟨hP, hD⟩ := va_join (wr := [(c1, .inr (12, [.ref c9, .ref c10, .ref c11, .ref c12, .ref c13, .ref c14, .int 0, .ref c15, .ref c16, .int 0, .int 0, .int 0, .int 0, .int 0, .int 0, .int 0]))]) (w1 := [(c0, .inr (13, [.ref c5, .int 0, .int 0, .ref c6, .ref c7, .null, .ref c1, .ref c2, .null, .null, .int 0, .ref c8])), (c2, .inl (c3, 8, .inr (.inr (.inr (.inr (fun _ => none))))))]) hP hD [0, 2] [1] rfl rfl (by decide) (by decide) hk1 hFc hP1 hD1
      have hK := (hK.sub (tys' := []) [] rfl).app hK1
      generalize H1 = H at hP hS ⊢
      have hP : va_P (dC, dI) vwCl [(c1, .inr (12, [.ref c9, .ref c10, .ref c11, .ref c12, .ref c13, .ref c14, .int 0, .ref c15, .ref c16, .int 0, .int 0, .int 0, .int 0, .int 0, .int 0, .int 0])), (c0, .inr (13, [.ref c5, .int 0, .int 0, .ref c6, .ref c7, .null, .ref c1, .ref c2, .null, .null, .int 0, .ref c8])), (c2, .inl (c3, 8, .inr (.inr (.inr (.inr (fun _ => none))))))] H := hP
      have hD : va_D A [(c1, .inr (12, [.ref c9, .ref c10, .ref c11, .ref c12, .ref c13, .ref c14, .int 0, .ref c15, .ref c16, .int 0, .int 0, .int 0, .int 0, .int 0, .int 0, .int 0])), (c0, .inr (13, [.ref c5, .int 0, .int 0, .ref c6, .ref c7, .null, .ref c1, .ref c2, .null, .null, .int 0, .ref c8])), (c2, .inl (c3, 8, .inr (.inr (.inr (.inr (fun _ => none))))))] := hD
      have hK : va_K (dC, dI) vwCl [(c3, .object RX2)] s := hK
      refine W.widen (k := 0) (n := 0) (by decide +kernel) (by decide +kernel) ?_
      refine lv_i2l (v := 0) hx hb dX12_count_22 (by decide) ?_
      refine W.widen (k := 0) (n := 0) (by decide +kernel) (by decide +kernel) ?_
      exact W.lret (v := 0) hx hb hr (fun t ht hW => ⟨⟨0, (), rfl, Or.inr (Or.inr (Or.inr (Or.inr (Or.inl ⟨c_1, c_2, rfl⟩)))), trivial⟩, hS.F ht⟩) hS.2.2 dX12_count_23
  · refine lv_aload_n hx hb dX12_count_6 rfl (lv_at hl 0 rfl) ?_
    refine va_get (D := (dC, dI)) (ci := 13) (v := .int 0) (C := RX12) (T := TX12) (N := 12) hx hb hts hi_X12_count_X12 hown hK hP 0 rfl rfl 1 (by decide) (hts (.fieldLink RX12 43 "TimeMachine" "taped" "I") (List.mem_of_getElem? (i := 1) (by decide +kernel))) (fun _ h9 => h9) rfl dX12_count_7 ?_
    refine lv_i2l (v := 0) hx hb dX12_count_10 (by decide) ?_
    refine W.widen (k := 0) (n := 0) (by decide +kernel) (by decide +kernel) ?_
    exact W.lret (v := 0) hx hb hr (fun t ht hW => ⟨⟨0, (), rfl, Or.inr (Or.inr (Or.inr (Or.inr (Or.inr (Or.inl ⟨c_1, rfl⟩))))), trivial⟩, hS.F ht⟩) hS.2.2 dX12_count_11
theorem hi_X12_logByte_X12 : ∀ w ∈ u_ws RX12 TX12 12, w ∈ wsX12_logByte := by decide +kernel
set_option maxHeartbeats 40000000 in
set_option maxRecDepth 100000 in
theorem k_X12_logByte (l : Launch) (dC : Nat → ClassId) (dI : Nat → Nat → Nat) (c0 : Nat) (c1 : Int32) (c2 : Nat) (c3 : Nat) (c4 : Nat) (c5 : Nat) (c6 : Nat) (c7 : Nat) (sz : Nat) : Met l yX12_logByte wsX12_logByte ({ frames := 0, cells := 0, slots := 0, locals := 0 }) (va_Pc [.ref c0, .int c1] (fun U => U.heap.size = sz ∧ va_P (dC, dI) vwCl [(c0, .inr (13, [.ref c2, .int 0, .int 0, .ref c3, .ref c4, .null, .ref c5, .ref c6, .null, .null, .int 0, .ref c7]))] U.heap ∧ va_K (dC, dI) vwCl [] U ∧ va_D (fun _ => True) [(c0, .inr (13, [.ref c2, .int 0, .int 0, .ref c3, .ref c4, .null, .ref c5, .ref c6, .null, .null, .int 0, .ref c7]))] ∧ nv_E (va_A [(c0, .inr (13, [.ref c2, .int 0, .int 0, .ref c3, .ref c4, .null, .ref c5, .ref c6, .null, .null, .int 0, .ref c7]))] sz) U)) (va_Qi (fun r _ => r = (-1)) (fun (_ : Unit) t => va_P (dC, dI) vwCl [(c0, .inr (13, [.ref c2, .int 0, .int 0, .ref c3, .ref c4, .null, .ref c5, .ref c6, .null, .null, .int 0, .ref c7]))] t.heap ∧ va_K (dC, dI) vwCl [] t ∧ va_D (va_A [(c0, .inr (13, [.ref c2, .int 0, .int 0, .ref c3, .ref c4, .null, .ref c5, .ref c6, .null, .null, .int 0, .ref c7]))] sz) [(c0, .inr (13, [.ref c2, .int 0, .int 0, .ref c3, .ref c4, .null, .ref c5, .ref c6, .null, .null, .int 0, .ref c7]))]) (va_A [(c0, .inr (13, [.ref c2, .int 0, .int 0, .ref c3, .ref c4, .null, .ref c5, .ref c6, .null, .null, .int 0, .ref c7]))] sz)) 0 0 (va_A [(c0, .inr (13, [.ref c2, .int 0, .int 0, .ref c3, .ref c4, .null, .ref c5, .ref c6, .null, .null, .int 0, .ref c7]))] sz) := by
  refine Met.ofW (cc := cX12_logByte) (maxL := 2) (ret := (some .int)) (by decide) rfl ?_
  intro p e s m args below meth c s₁ B hml hv
  obtain ⟨rfl, hsz, hP, hK, hD0, hN⟩ := hv
  have hx := B.exec
  have hb := B.bytes
  have hr := B.returns
  have hts := atoms_spec (ws := wsX12_logByte) B.pre
  have hown : s.vm.findClass RX12 = some m.cls := findClass_of_methodNamed B.named
  have hlocks := B.notSynchronized
  subst hsz
  have hD := hD0.self (sz := s.heap.size)
  generalize hAe : va_A [(c0, .inr (13, [.ref c2, .int 0, .int 0, .ref c3, .ref c4, .null, .ref c5, .ref c6, .null, .null, .int 0, .ref c7]))] s.heap.size = A at hD hN ⊢
  have hA : ∀ q : Nat, s.heap.size ≤ q → A q := fun q h => by rw [← hAe]; exact Or.inr h
  have hS : va_S A s.heap s.heap [] := va_S.rf
  have hl := lv_entry ([.ref c0, .int c1]) (n := 2) (Nat.le_of_ble_eq_true rfl)
  rw [lg_entry_eq]
  generalize (lg_sl ([.ref c0, .int c1]) ++ List.replicate (2 - (lg_sl ([.ref c0, .int c1])).length) Slot.unset).toArray = ls at hl ⊢
  have hl : lv_has ls 2 [(0, .ref c0), (1, .int c1)] := hl
  refine lv_aload_n hx hb dX12_logByte_0 rfl (lv_at hl 0 rfl) ?_
  refine va_get (D := (dC, dI)) (ci := 13) (v := .null) (C := RX12) (T := TX12) (N := 12) hx hb hts hi_X12_logByte_X12 hown hK hP 0 rfl rfl 9 (by decide) (hts (.fieldLink RX12 270 "TimeMachine" "log" "[B") (List.mem_of_getElem? (i := 1) (by decide +kernel))) (fun _ h9 => h9) rfl dX12_logByte_1 ?_
  refine lv_ifnullN (tgt := 19) hx hb dX12_logByte_4 (by decide) ?_
  refine lv_iconst (v := (-1)) hx hb dX12_logByte_19 (by decide) ?_
  refine lv_goto (tgt := 33) hx hb dX12_logByte_20 (by decide) ?_
  have hP9 := hP.sub (ws' := [(c0, .inr (13, [.ref c2, .int 0, .int 0, .ref c3, .ref c4, .null, .ref c5, .ref c6, .null, .null, .int 0, .ref c7]))]) [0] rfl
  have hD9 := hD.sub (ws' := [(c0, .inr (13, [.ref c2, .int 0, .int 0, .ref c3, .ref c4, .null, .ref c5, .ref c6, .null, .null, .int 0, .ref c7]))]) [0] (by decide) rfl
  have hK9 := hK.sub (tys' := []) [] rfl
  refine W.widen (k := 0) (n := 0) (by decide +kernel) (by decide +kernel) ?_
  exact W.iret (v := (-1)) hx hb hr (fun t ht hW => ⟨⟨(-1), (), rfl, rfl, by rw [ht]; exact hP9, va_K.moved hW.alike hK9, hD9⟩, hS.F ht⟩) hS.2.2 dX12_logByte_33
theorem hi_X3_told_X3 : ∀ w ∈ u_ws RX3 TX3 11, w ∈ wsX3_told := by decide +kernel
