set_option maxHeartbeats 40000000 in
set_option maxRecDepth 100000 in
theorem k_X19_thrown_v1 (l : Launch) (hlt : l.stackTraces = false) (dC : Nat → ClassId) (dI : Nat → Nat → Nat) (c0 : Nat) (c1 : Nat) (c2 : Nat) (c3 : Nat) (c4 : Nat) (c5 : Nat) (c6 : Nat) (c7 : Nat) (c8 : Nat) (c9 : Nat) (c10 : Nat) (c11 : Nat) (c12 : Nat) (c13 : Nat) (c14 : Nat) (c15 : Nat) (c16 : Nat) (c17 : Nat) (c18 : Nat) (c19 : Nat) (c20 : Nat) (c21 : Nat) (c22 : Nat) (c23 : Nat) (sz : Nat) : Met l yX19_thrown ow_k_X19_thrown_v1 ({ frames := 0, cells := 0, slots := 0, locals := 0 }) (va_Pc [.ref c0] (fun U => U.heap.size = sz ∧ va_P (dC, dI) vwCl [(c0, .inr (20, [.int 0, .ref c1, .int 0, .int 0, .ref c2, .ref c3, .ref c4, .ref c5, .ref c6, .ref c7, .ref c8, .ref c9, .ref c10, .ref c11, .ref c12, .ref c13, .ref c14, .int 0, .int 0, .int 0, .int 0, .int 0, .int 0, .int 0, .int 0, .int 0, .ref c15, .ref c16, .ref c17, .ref c18, .ref c19, .ref c20, .ref c21, .ref c22, .ref c23, .int 0]))] U.heap ∧ va_K (dC, dI) vwCl [] U ∧ va_D (fun _ => True) [(c0, .inr (20, [.int 0, .ref c1, .int 0, .int 0, .ref c2, .ref c3, .ref c4, .ref c5, .ref c6, .ref c7, .ref c8, .ref c9, .ref c10, .ref c11, .ref c12, .ref c13, .ref c14, .int 0, .int 0, .int 0, .int 0, .int 0, .int 0, .int 0, .int 0, .int 0, .ref c15, .ref c16, .ref c17, .ref c18, .ref c19, .ref c20, .ref c21, .ref c22, .ref c23, .int 0]))] ∧ nv_E (va_A [(c0, .inr (20, [.int 0, .ref c1, .int 0, .int 0, .ref c2, .ref c3, .ref c4, .ref c5, .ref c6, .ref c7, .ref c8, .ref c9, .ref c10, .ref c11, .ref c12, .ref c13, .ref c14, .int 0, .int 0, .int 0, .int 0, .int 0, .int 0, .int 0, .int 0, .int 0, .ref c15, .ref c16, .ref c17, .ref c18, .ref c19, .ref c20, .ref c21, .ref c22, .ref c23, .int 0]))] sz) U)) (va_Qi (fun r _ => r = 0) (fun (_ : Unit) t => va_P (dC, dI) vwCl [(c0, .inr (20, [.int 0, .ref c1, .int 0, .int 0, .ref c2, .ref c3, .ref c4, .ref c5, .ref c6, .ref c7, .ref c8, .ref c9, .ref c10, .ref c11, .ref c12, .ref c13, .ref c14, .int 0, .int 0, .int 0, .int 0, .int 0, .int 0, .int 0, .int 0, .int 0, .ref c15, .ref c16, .ref c17, .ref c18, .ref c19, .ref c20, .ref c21, .ref c22, .ref c23, .int 0]))] t.heap ∧ va_K (dC, dI) vwCl [] t ∧ va_D (va_A [(c0, .inr (20, [.int 0, .ref c1, .int 0, .int 0, .ref c2, .ref c3, .ref c4, .ref c5, .ref c6, .ref c7, .ref c8, .ref c9, .ref c10, .ref c11, .ref c12, .ref c13, .ref c14, .int 0, .int 0, .int 0, .int 0, .int 0, .int 0, .int 0, .int 0, .int 0, .ref c15, .ref c16, .ref c17, .ref c18, .ref c19, .ref c20, .ref c21, .ref c22, .ref c23, .int 0]))] sz) [(c0, .inr (20, [.int 0, .ref c1, .int 0, .int 0, .ref c2, .ref c3, .ref c4, .ref c5, .ref c6, .ref c7, .ref c8, .ref c9, .ref c10, .ref c11, .ref c12, .ref c13, .ref c14, .int 0, .int 0, .int 0, .int 0, .int 0, .int 0, .int 0, .int 0, .int 0, .ref c15, .ref c16, .ref c17, .ref c18, .ref c19, .ref c20, .ref c21, .ref c22, .ref c23, .int 0]))]) (va_A [(c0, .inr (20, [.int 0, .ref c1, .int 0, .int 0, .ref c2, .ref c3, .ref c4, .ref c5, .ref c6, .ref c7, .ref c8, .ref c9, .ref c10, .ref c11, .ref c12, .ref c13, .ref c14, .int 0, .int 0, .int 0, .int 0, .int 0, .int 0, .int 0, .int 0, .int 0, .ref c15, .ref c16, .ref c17, .ref c18, .ref c19, .ref c20, .ref c21, .ref c22, .ref c23, .int 0]))] sz)) 0 0 (va_A [(c0, .inr (20, [.int 0, .ref c1, .int 0, .int 0, .ref c2, .ref c3, .ref c4, .ref c5, .ref c6, .ref c7, .ref c8, .ref c9, .ref c10, .ref c11, .ref c12, .ref c13, .ref c14, .int 0, .int 0, .int 0, .int 0, .int 0, .int 0, .int 0, .int 0, .int 0, .ref c15, .ref c16, .ref c17, .ref c18, .ref c19, .ref c20, .ref c21, .ref c22, .ref c23, .int 0]))] sz) := by
  refine Met.ofW (cc := cX19_thrown) (maxL := 1) (ret := (some .int)) (by decide) rfl ?_
  intro p e s m args below meth c s₁ B hml hv
  obtain ⟨rfl, hsz, hP, hK, hD0, hN⟩ := hv
  have hx := B.exec
  have hb := B.bytes
  have hr := B.returns
  have hts := atoms_spec (ws := ow_k_X19_thrown_v1) B.pre
  have hown : s.vm.findClass RX19 = some m.cls := findClass_of_methodNamed B.named
  have hlocks := B.notSynchronized
  subst hsz
  have hD := hD0.self (sz := s.heap.size)
  generalize hAe : va_A [(c0, .inr (20, [.int 0, .ref c1, .int 0, .int 0, .ref c2, .ref c3, .ref c4, .ref c5, .ref c6, .ref c7, .ref c8, .ref c9, .ref c10, .ref c11, .ref c12, .ref c13, .ref c14, .int 0, .int 0, .int 0, .int 0, .int 0, .int 0, .int 0, .int 0, .int 0, .ref c15, .ref c16, .ref c17, .ref c18, .ref c19, .ref c20, .ref c21, .ref c22, .ref c23, .int 0]))] s.heap.size = A at hD hN ⊢
  have hA : ∀ q : Nat, s.heap.size ≤ q → A q := fun q h => by rw [← hAe]; exact Or.inr h
  have hS : va_S A s.heap s.heap [] := va_S.rf
  have hl := lv_entry ([.ref c0]) (n := 1) (Nat.le_of_ble_eq_true rfl)
  rw [lg_entry_eq]
  generalize (lg_sl ([.ref c0]) ++ List.replicate (1 - (lg_sl ([.ref c0])).length) Slot.unset).toArray = ls at hl ⊢
  have hl : lv_has ls 1 [(0, .ref c0)] := hl
  refine lv_aload_n hx hb dX19_thrown_0 rfl (lv_at hl 0 rfl) ?_
  refine va_get (D := (dC, dI)) (ci := 20) (v := .int 0) (C := RX19) (T := TX19) (N := 36) hx hb hts hi_k_X19_thrown_v1_X19 hown hK hP 0 rfl rfl 0 (by decide) (hts (.fieldLink RX19 113 "TimeMachineModel" "code" "I") (List.mem_of_getElem? (i := 1) rfl)) (fun _ h9 => h9) rfl dX19_thrown_1 ?_
  have hP9 := hP.sub (ws' := [(c0, .inr (20, [.int 0, .ref c1, .int 0, .int 0, .ref c2, .ref c3, .ref c4, .ref c5, .ref c6, .ref c7, .ref c8, .ref c9, .ref c10, .ref c11, .ref c12, .ref c13, .ref c14, .int 0, .int 0, .int 0, .int 0, .int 0, .int 0, .int 0, .int 0, .int 0, .ref c15, .ref c16, .ref c17, .ref c18, .ref c19, .ref c20, .ref c21, .ref c22, .ref c23, .int 0]))]) [0] rfl
  have hD9 := hD.sub (ws' := [(c0, .inr (20, [.int 0, .ref c1, .int 0, .int 0, .ref c2, .ref c3, .ref c4, .ref c5, .ref c6, .ref c7, .ref c8, .ref c9, .ref c10, .ref c11, .ref c12, .ref c13, .ref c14, .int 0, .int 0, .int 0, .int 0, .int 0, .int 0, .int 0, .int 0, .int 0, .ref c15, .ref c16, .ref c17, .ref c18, .ref c19, .ref c20, .ref c21, .ref c22, .ref c23, .int 0]))]) [0] (by decide) rfl
  have hK9 := hK.sub (tys' := []) [] rfl
  refine W.widen (k := 0) (n := 0) (by decide +kernel) (by decide +kernel) ?_
  exact W.iret (v := 0) hx hb hr (fun t ht hW => ⟨⟨0, (), rfl, rfl, by rw [ht]; exact hP9, va_K.moved hW.alike hK9, hD9⟩, hS.F ht⟩) hS.2.2 dX19_thrown_4
def ow_k_X12_programOf : List Cond := .code yX12_programOf cX12_programOf 2 (some (.object "TimeMachine$Program")) :: ([.fieldLink RX12 16 "TimeMachine" "programs" "[LTimeMachine$Program;"] ++ (u_ws RX12 TX12 12 ++ []))
theorem gd_k_X12_programOf : ∀ w ∈ ow_k_X12_programOf, (w.onTables && w.keeps) = true ∨ ∃ ty, w = Cond.arrayClass ty := List.forall_mem_cons.mpr ⟨good_of_word rfl, List.forall_mem_append.mpr ⟨fun w h => good_of_word (List.all_eq_true.mp (by decide +kernel) w h), List.forall_mem_append.mpr ⟨gu_X12, fun _ h => nomatch h⟩⟩⟩
theorem hi_k_X12_programOf_X12 : ∀ w ∈ u_ws RX12 TX12 12, w ∈ ow_k_X12_programOf := fun w h => List.mem_cons_of_mem _ (List.mem_append_right _ (List.mem_append_left _ h))
set_option maxHeartbeats 40000000 in
set_option maxRecDepth 100000 in
theorem k_X12_programOf (l : Launch) (hlt : l.stackTraces = false) (dC : Nat → ClassId) (dI : Nat → Nat → Nat) (c0 : Nat) (c1 : Nat) (c2 : ClassId) (c3 : Int32) (c4 : Nat) (c5 : Nat) (c6 : Nat) (c7 : Nat) (c8 : Nat) (c9 : Nat) (c10 : Nat) (c11 : Nat) (sz : Nat) : Met l yX12_programOf ow_k_X12_programOf ({ frames := 0, cells := 0, slots := 0, locals := 0 }) (va_Pc [.ref c0, .int c3] (fun U => U.heap.size = sz ∧ va_P (dC, dI) vwCl [(c0, .inr (13, [.ref c4, .int 0, .int 0, .ref c1, .ref c5, .ref c6, .ref c7, .ref c8, .ref c9, .ref c10, .int 0, .ref c11])), (c1, .inl (c2, 4, .inr (.inr (.inr (.inr (fun _ => none))))))] U.heap ∧ va_K (dC, dI) vwCl [(c2, .object RX8)] U ∧ va_D (fun _ => True) [(c0, .inr (13, [.ref c4, .int 0, .int 0, .ref c1, .ref c5, .ref c6, .ref c7, .ref c8, .ref c9, .ref c10, .int 0, .ref c11])), (c1, .inl (c2, 4, .inr (.inr (.inr (.inr (fun _ => none))))))] ∧ nv_E (va_A [(c0, .inr (13, [.ref c4, .int 0, .int 0, .ref c1, .ref c5, .ref c6, .ref c7, .ref c8, .ref c9, .ref c10, .int 0, .ref c11])), (c1, .inl (c2, 4, .inr (.inr (.inr (.inr (fun _ => none))))))] sz) U)) (va_Qq (fun r _ => ((c3 < 0) ∧ r = none) ∨ ((¬ c3 < 0) ∧ (c3 < 4) ∧ r = none) ∨ ((¬ c3 < 0) ∧ (¬ c3 < 4) ∧ r = none) ∨ False) (fun (_ : Unit) t => va_P (dC, dI) vwCl [(c0, .inr (13, [.ref c4, .int 0, .int 0, .ref c1, .ref c5, .ref c6, .ref c7, .ref c8, .ref c9, .ref c10, .int 0, .ref c11])), (c1, .inl (c2, 4, .inr (.inr (.inr (.inr (fun _ => none))))))] t.heap ∧ va_K (dC, dI) vwCl [(c2, .object RX8)] t ∧ va_D (va_A [(c0, .inr (13, [.ref c4, .int 0, .int 0, .ref c1, .ref c5, .ref c6, .ref c7, .ref c8, .ref c9, .ref c10, .int 0, .ref c11])), (c1, .inl (c2, 4, .inr (.inr (.inr (.inr (fun _ => none))))))] sz) [(c0, .inr (13, [.ref c4, .int 0, .int 0, .ref c1, .ref c5, .ref c6, .ref c7, .ref c8, .ref c9, .ref c10, .int 0, .ref c11])), (c1, .inl (c2, 4, .inr (.inr (.inr (.inr (fun _ => none))))))]) (va_A [(c0, .inr (13, [.ref c4, .int 0, .int 0, .ref c1, .ref c5, .ref c6, .ref c7, .ref c8, .ref c9, .ref c10, .int 0, .ref c11])), (c1, .inl (c2, 4, .inr (.inr (.inr (.inr (fun _ => none))))))] sz)) 0 0 (va_A [(c0, .inr (13, [.ref c4, .int 0, .int 0, .ref c1, .ref c5, .ref c6, .ref c7, .ref c8, .ref c9, .ref c10, .int 0, .ref c11])), (c1, .inl (c2, 4, .inr (.inr (.inr (.inr (fun _ => none))))))] sz) := by
  refine Met.ofW (cc := cX12_programOf) (maxL := 2) (ret := (some (.object "TimeMachine$Program"))) (by decide) rfl ?_
  intro p e s m args below meth c s₁ B hml hv
  obtain ⟨rfl, hsz, hP, hK, hD0, hN⟩ := hv
  have hx := B.exec
  have hb := B.bytes
  have hr := B.returns
  have hts := atoms_spec (ws := ow_k_X12_programOf) B.pre
  have hown : s.vm.findClass RX12 = some m.cls := findClass_of_methodNamed B.named
  have hlocks := B.notSynchronized
  subst hsz
  have hD := hD0.self (sz := s.heap.size)
  generalize hAe : va_A [(c0, .inr (13, [.ref c4, .int 0, .int 0, .ref c1, .ref c5, .ref c6, .ref c7, .ref c8, .ref c9, .ref c10, .int 0, .ref c11])), (c1, .inl (c2, 4, .inr (.inr (.inr (.inr (fun _ => none))))))] s.heap.size = A at hD hN ⊢
  have hA : ∀ q : Nat, s.heap.size ≤ q → A q := fun q h => by rw [← hAe]; exact Or.inr h
  have hS : va_S A s.heap s.heap [] := va_S.rf
  have hl := lv_entry ([.ref c0, .int c3]) (n := 2) (Nat.le_of_ble_eq_true rfl)
  rw [lg_entry_eq]
  generalize (lg_sl ([.ref c0, .int c3]) ++ List.replicate (2 - (lg_sl ([.ref c0, .int c3])).length) Slot.unset).toArray = ls at hl ⊢
  have hl : lv_has ls 2 [(0, .ref c0), (1, .int c3)] := hl
  refine lv_iload_n hx hb dX12_programOf_0 rfl (lv_at hl 1 rfl) ?_
  refine lv_if_lt (tgt := 9) hx hb dX12_programOf_1 (by decide) (fun c_1 => ?_) (fun c_1 => ?_)
  · refine lv_null hx hb dX12_programOf_9 ?_
    refine lv_goto (tgt := 19) hx hb dX12_programOf_10 (by decide) ?_
    refine W.widen (k := 0) (n := 0) (by decide +kernel) (by decide +kernel) ?_
    exact W.aret (v := .null) hx hb hr (by first | exact Or.inl ⟨_, rfl⟩ | exact Or.inr ⟨_, rfl⟩) (by first | exact Or.inl rfl | exact Or.inr ⟨_, rfl⟩) (fun t ht hW => ⟨⟨none, (), rfl, Or.inl ⟨c_1, rfl⟩, by rw [ht]; exact hP, va_K.moved hW.alike hK, hD⟩, hS.F ht⟩) hS.2.2 dX12_programOf_19
  · refine lv_iload_n hx hb dX12_programOf_4 rfl (lv_at hl 1 rfl) ?_
    refine lv_iconst (v := 4) hx hb dX12_programOf_5 (by decide) ?_
    refine lv_icmp_lt (tgt := 13) hx hb dX12_programOf_6 (by decide) (fun c_2 => ?_) (fun c_2 => ?_)
    · refine lv_aload_n hx hb dX12_programOf_13 rfl (lv_at hl 0 rfl) ?_
      refine va_get (D := (dC, dI)) (ci := 13) (v := .ref c1) (C := RX12) (T := TX12) (N := 12) hx hb hts hi_k_X12_programOf_X12 hown hK hP 0 rfl rfl 3 (by decide) (hts (.fieldLink RX12 16 "TimeMachine" "programs" "[LTimeMachine$Program;") (List.mem_of_getElem? (i := 1) rfl)) (fun _ h9 => h9) rfl dX12_programOf_14 ?_
      refine lv_iload_n hx hb dX12_programOf_17 rfl (lv_at hl 1 rfl) ?_
      refine va_aldq (i := c3) hx hb hK hP 1 0 rfl rfl (nv_in1 (k := 4) c_1 c_2 (by decide) (by decide)) dX12_programOf_18 ?_
      refine W.eq (g2 := F0 m 19 ls [.null]) rfl ?_
      refine W.widen (k := 0) (n := 0) (by decide +kernel) (by decide +kernel) ?_
      exact W.aret (v := .null) hx hb hr (by first | exact Or.inl ⟨_, rfl⟩ | exact Or.inr ⟨_, rfl⟩) (by first | exact Or.inl rfl | exact Or.inr ⟨_, rfl⟩) (fun t ht hW => ⟨⟨none, (), rfl, Or.inr (Or.inl ⟨c_1, c_2, rfl⟩), by rw [ht]; exact hP, va_K.moved hW.alike hK, hD⟩, hS.F ht⟩) hS.2.2 dX12_programOf_19
    · refine lv_null hx hb dX12_programOf_9 ?_
      refine lv_goto (tgt := 19) hx hb dX12_programOf_10 (by decide) ?_
      refine W.widen (k := 0) (n := 0) (by decide +kernel) (by decide +kernel) ?_
      exact W.aret (v := .null) hx hb hr (by first | exact Or.inl ⟨_, rfl⟩ | exact Or.inr ⟨_, rfl⟩) (by first | exact Or.inl rfl | exact Or.inr ⟨_, rfl⟩) (fun t ht hW => ⟨⟨none, (), rfl, Or.inr (Or.inr (Or.inl ⟨c_1, c_2, rfl⟩)), by rw [ht]; exact hP, va_K.moved hW.alike hK, hD⟩, hS.F ht⟩) hS.2.2 dX12_programOf_19
def ow_k_X12_program : List Cond := .code yX12_program cX12_program 4 (some .int) :: ([.methodLink RX12 85 yX12_programOf, .instanceMethod yX12_programOf, .selects RX12 yX12_programOf yX12_programOf, .initialized RX12] ++ (ow_k_X12_programOf ++ []))
theorem gd_k_X12_program : ∀ w ∈ ow_k_X12_program, (w.onTables && w.keeps) = true ∨ ∃ ty, w = Cond.arrayClass ty := List.forall_mem_cons.mpr ⟨good_of_word rfl, List.forall_mem_append.mpr ⟨fun w h => good_of_word (List.all_eq_true.mp (by decide +kernel) w h), List.forall_mem_append.mpr ⟨gd_k_X12_programOf, fun _ h => nomatch h⟩⟩⟩
theorem gi_k_X12_program_0 : GoodIn ow_k_X12_program (wsV RX12 85 RX12 yX12_programOf ow_k_X12_programOf) := goodIn_app (goodIn_of _ (by decide +kernel)) (fun w h => ⟨List.mem_cons_of_mem _ (List.mem_append_right _ (List.mem_append_left _ h)), gd_k_X12_programOf w h⟩)
set_option maxHeartbeats 40000000 in
set_option maxRecDepth 100000 in
theorem k_X12_program (l : Launch) (hlt : l.stackTraces = false) (dC : Nat → ClassId) (dI : Nat → Nat → Nat) (c0 : Nat) (c1 : Nat) (c2 : ClassId) (c3 : Int32) (c4 : Int32) (c5 : Nat) (c6 : Nat) (c7 : Nat) (c8 : Nat) (c9 : Nat) (c10 : Nat) (c11 : Nat) (c12 : Nat) (sz : Nat) : Met l yX12_program ow_k_X12_program ({ frames := 1, cells := 0, slots := 0, locals := 21 }) (va_Pc [.ref c0, .int c3, .int c4] (fun U => U.heap.size = sz ∧ va_P (dC, dI) vwCl [(c0, .inr (13, [.ref c5, .int 0, .int 0, .ref c1, .ref c6, .ref c7, .ref c8, .ref c9, .ref c10, .ref c11, .int 0, .ref c12])), (c1, .inl (c2, 4, .inr (.inr (.inr (.inr (fun _ => none))))))] U.heap ∧ va_K (dC, dI) vwCl [(c2, .object RX8)] U ∧ va_D (fun _ => True) [(c0, .inr (13, [.ref c5, .int 0, .int 0, .ref c1, .ref c6, .ref c7, .ref c8, .ref c9, .ref c10, .ref c11, .int 0, .ref c12])), (c1, .inl (c2, 4, .inr (.inr (.inr (.inr (fun _ => none))))))] ∧ nv_E (va_A [(c0, .inr (13, [.ref c5, .int 0, .int 0, .ref c1, .ref c6, .ref c7, .ref c8, .ref c9, .ref c10, .ref c11, .int 0, .ref c12])), (c1, .inl (c2, 4, .inr (.inr (.inr (.inr (fun _ => none))))))] sz) U)) (va_Qi (fun r _ => r = (-1)) (fun (_ : Unit) t => va_P (dC, dI) vwCl [(c0, .inr (13, [.ref c5, .int 0, .int 0, .ref c1, .ref c6, .ref c7, .ref c8, .ref c9, .ref c10, .ref c11, .int 0, .ref c12])), (c1, .inl (c2, 4, .inr (.inr (.inr (.inr (fun _ => none))))))] t.heap ∧ va_K (dC, dI) vwCl [(c2, .object RX8)] t ∧ va_D (va_A [(c0, .inr (13, [.ref c5, .int 0, .int 0, .ref c1, .ref c6, .ref c7, .ref c8, .ref c9, .ref c10, .ref c11, .int 0, .ref c12])), (c1, .inl (c2, 4, .inr (.inr (.inr (.inr (fun _ => none))))))] sz) [(c0, .inr (13, [.ref c5, .int 0, .int 0, .ref c1, .ref c6, .ref c7, .ref c8, .ref c9, .ref c10, .ref c11, .int 0, .ref c12])), (c1, .inl (c2, 4, .inr (.inr (.inr (.inr (fun _ => none))))))]) (va_A [(c0, .inr (13, [.ref c5, .int 0, .int 0, .ref c1, .ref c6, .ref c7, .ref c8, .ref c9, .ref c10, .ref c11, .int 0, .ref c12])), (c1, .inl (c2, 4, .inr (.inr (.inr (.inr (fun _ => none))))))] sz)) 0 0 (va_A [(c0, .inr (13, [.ref c5, .int 0, .int 0, .ref c1, .ref c6, .ref c7, .ref c8, .ref c9, .ref c10, .ref c11, .int 0, .ref c12])), (c1, .inl (c2, 4, .inr (.inr (.inr (.inr (fun _ => none))))))] sz) := by
  refine Met.ofW (cc := cX12_program) (maxL := 4) (ret := (some .int)) (by decide) rfl ?_
  intro p e s m args below meth c s₁ B hml hv
  obtain ⟨rfl, hsz, hP, hK, hD0, hN⟩ := hv
  have hx := B.exec
  have hb := B.bytes
  have hr := B.returns
  have hts := atoms_spec (ws := ow_k_X12_program) B.pre
  have hown : s.vm.findClass RX12 = some m.cls := findClass_of_methodNamed B.named
  have hlocks := B.notSynchronized
  subst hsz
  have hD := hD0.self (sz := s.heap.size)
  generalize hAe : va_A [(c0, .inr (13, [.ref c5, .int 0, .int 0, .ref c1, .ref c6, .ref c7, .ref c8, .ref c9, .ref c10, .ref c11, .int 0, .ref c12])), (c1, .inl (c2, 4, .inr (.inr (.inr (.inr (fun _ => none))))))] s.heap.size = A at hD hN ⊢
  have hA : ∀ q : Nat, s.heap.size ≤ q → A q := fun q h => by rw [← hAe]; exact Or.inr h
  have hS : va_S A s.heap s.heap [] := va_S.rf
  have hl := lv_entry ([.ref c0, .int c3, .int c4]) (n := 4) (Nat.le_of_ble_eq_true rfl)
  rw [lg_entry_eq]
  generalize (lg_sl ([.ref c0, .int c3, .int c4]) ++ List.replicate (4 - (lg_sl ([.ref c0, .int c3, .int c4])).length) Slot.unset).toArray = ls at hl ⊢
  have hl : lv_has ls 4 [(0, .ref c0), (1, .int c3), (2, .int c4)] := hl
  refine lv_aload_n hx hb dX12_program_0 rfl (lv_at hl 0 rfl) ?_
  refine lv_iload_n hx hb dX12_program_1 rfl (lv_at hl 1 rfl) ?_
  have hPc := hP.sub (ws' := [(c0, .inr (13, [.ref c5, .int 0, .int 0, .ref c1, .ref c6, .ref c7, .ref c8, .ref c9, .ref c10, .ref c11, .int 0, .ref c12])), (c1, .inl (c2, 4, .inr (.inr (.inr (.inr (fun _ => none))))))]) [0, 1] rfl
  have hDc := hD.sub (ws' := [(c0, .inr (13, [.ref c5, .int 0, .int 0, .ref c1, .ref c6, .ref c7, .ref c8, .ref c9, .ref c10, .ref c11, .int 0, .ref c12])), (c1, .inl (c2, 4, .inr (.inr (.inr (.inr (fun _ => none))))))]) [0, 1] (by decide) rfl
  have hKc := hK.sub (tys' := [(c2, .object RX8)]) [0] rfl
  have hFc := va_free (wc := [(c0, .inr (13, [.ref c5, .int 0, .int 0, .ref c1, .ref c6, .ref c7, .ref c8, .ref c9, .ref c10, .ref c11, .int 0, .ref c12])), (c1, .inl (c2, 4, .inr (.inr (.inr (.inr (fun _ => none))))))]) hD hS hA [0, 1] rfl
  refine va_callq (va_runV (As := [.int c3]) (rest := []) ⟨hx, hb, hml, hown, hts⟩ (k_X12_programOf l hlt dC dI c0 c1 c2 c3 c5 c6 c7 c8 c9 c10 c11 c12  s.heap.size) (cwV 1 hts gi_k_X12_program_0 rfl rfl rfl (by decide +kernel) ⟨Nat.le_of_ble_eq_true rfl, Nat.le_of_ble_eq_true rfl⟩) ⟨fun a U g mk q => by obtain ⟨q0, q1, qP, qK, qD, qN⟩ := q; exact ⟨q0, q1, qP, va_K.moved (u := U) (U := U.calling g mk a) (Vm.Alike.refl U.vm) qK, qD, nv_same rfl rfl qN⟩, va_recv hKc hPc (ci := 13) (q0 := 0) rfl rfl, fun U hU hW => ⟨rfl, by rw [hU], by rw [hU]; exact hPc, va_K.moved hW.alike hKc, hDc.weaken (fun _ _ _ _ => trivial), nv_call hS hFc hU hW hN⟩⟩ rfl rfl hl.1 rfl (lv_room (Nat.le_of_ble_eq_true rfl)) dX12_program_2 ⟨by decide +kernel, by decide +kernel⟩) hS (fun q _ h => hFc q h) hFc (fun r1 u t H1 locs ht hvm hw hB hz1 hk1 hS => ?_)
  obtain ⟨hP1, hK1, hD1⟩ := hB
  rw [ht] at hP1
  have hK1 := va_K.moved hvm.symm hK1
  obtain rfl : r1 = none := by rcases hw with ⟨_, h9⟩ | ⟨_, _, h9⟩ | ⟨_, _, h9⟩ | h9 <;> first | exact h9 | exact h9.elim
  obtain ⟨hP, hD⟩ := va_join (wr := []) (w1 := [(c0, .inr (13, [.ref c5, .int 0, .int 0, .ref c1, .ref c6, .ref c7, .ref c8, .ref c9, .ref c10, .ref c11, .int 0, .ref c12])), (c1, .inl (c2, 4, .inr (.inr (.inr (.inr (fun _ => none))))))]) hP hD [0, 1] [] rfl rfl (by decide) (by decide) hk1 hFc hP1 hD1
  have hK := (hK.sub (tys' := []) [] rfl).app hK1
  generalize H1 = H at hP hS ⊢
  have hP : va_P (dC, dI) vwCl [(c0, .inr (13, [.ref c5, .int 0, .int 0, .ref c1, .ref c6, .ref c7, .ref c8, .ref c9, .ref c10, .ref c11, .int 0, .ref c12])), (c1, .inl (c2, 4, .inr (.inr (.inr (.inr (fun _ => none))))))] H := hP
  have hD : va_D A [(c0, .inr (13, [.ref c5, .int 0, .int 0, .ref c1, .ref c6, .ref c7, .ref c8, .ref c9, .ref c10, .ref c11, .int 0, .ref c12])), (c1, .inl (c2, 4, .inr (.inr (.inr (.inr (fun _ => none))))))] := hD
  have hK : va_K (dC, dI) vwCl [(c2, .object RX8)] s := hK
  refine W.widen (k := 0) (n := 0) (by decide +kernel) (by decide +kernel) ?_
  refine lv_astore_nN (lv' := [(3, .null), (0, .ref c0), (1, .int c3), (2, .int c4)]) hx hb dX12_program_5 rfl hl (by decide) rfl (fun ls hl => ?_)
  refine lv_aload_nN hx hb dX12_program_6 rfl (lv_at hl 0 rfl) ?_
  refine lv_ifnonnullN hx hb dX12_program_7 ?_
  refine lv_iconst (v := (-1)) hx hb dX12_program_10 (by decide) ?_
  have hP9 := hP.sub (ws' := [(c0, .inr (13, [.ref c5, .int 0, .int 0, .ref c1, .ref c6, .ref c7, .ref c8, .ref c9, .ref c10, .ref c11, .int 0, .ref c12])), (c1, .inl (c2, 4, .inr (.inr (.inr (.inr (fun _ => none))))))]) [0, 1] rfl
  have hD9 := hD.sub (ws' := [(c0, .inr (13, [.ref c5, .int 0, .int 0, .ref c1, .ref c6, .ref c7, .ref c8, .ref c9, .ref c10, .ref c11, .int 0, .ref c12])), (c1, .inl (c2, 4, .inr (.inr (.inr (.inr (fun _ => none))))))]) [0, 1] (by decide) rfl
  have hK9 := hK.sub (tys' := [(c2, .object RX8)]) [0] rfl
  refine W.widen (k := 0) (n := 0) (by decide +kernel) (by decide +kernel) ?_
  exact W.iret (v := (-1)) hx hb hr (fun t ht hW => ⟨⟨(-1), (), rfl, rfl, by rw [ht]; exact hP9, va_K.moved hW.alike hK9, hD9⟩, hS.F ht⟩) hS.2.2 dX12_program_11
def ow_k_X19_isProgram : List Cond := .code yX19_isProgram cX19_isProgram 2 (some .boolean) :: ([.constantLong RX19 134 (3), .methodLink RX19 126 yX19_in, .static yX19_in, .initialized RX19, .fieldLink RX19 14 "TimeMachineModel" "isProgram" "[Z"] ++ (u_ws RX19 TX19 36 ++ (ow_k_X19_in ++ [])))
theorem gd_k_X19_isProgram : ∀ w ∈ ow_k_X19_isProgram, (w.onTables && w.keeps) = true ∨ ∃ ty, w = Cond.arrayClass ty := List.forall_mem_cons.mpr ⟨good_of_word rfl, List.forall_mem_append.mpr ⟨fun w h => good_of_word (List.all_eq_true.mp (by decide +kernel) w h), List.forall_mem_append.mpr ⟨gu_X19, List.forall_mem_append.mpr ⟨gd_k_X19_in, fun _ h => nomatch h⟩⟩⟩⟩
theorem hi_k_X19_isProgram_X19 : ∀ w ∈ u_ws RX19 TX19 36, w ∈ ow_k_X19_isProgram := fun w h => List.mem_cons_of_mem _ (List.mem_append_right _ (List.mem_append_left _ h))
theorem gi_k_X19_isProgram_0 : GoodIn ow_k_X19_isProgram (wsS RX19 126 yX19_in ow_k_X19_in) := goodIn_app (goodIn_of _ (by decide +kernel)) (fun w h => ⟨List.mem_cons_of_mem _ (List.mem_append_right _ (List.mem_append_right _ (List.mem_append_left _ h))), gd_k_X19_in w h⟩)
set_option maxHeartbeats 40000000 in
set_option maxRecDepth 100000 in
theorem k_X19_isProgram (l : Launch) (hlt : l.stackTraces = false) (dC : Nat → ClassId) (dI : Nat → Nat → Nat) (c0 : Nat) (c1 : Nat) (c2 : ClassId) (c3 : Int32) (c4 : Nat) (c5 : Nat) (c6 : Nat) (c7 : Nat) (c8 : Nat) (c9 : Nat) (c10 : Nat) (c11 : Nat) (c12 : Nat) (c13 : Nat) (c14 : Nat) (c15 : Nat) (c16 : Nat) (c17 : Nat) (c18 : Nat) (c19 : Nat) (c20 : Nat) (c21 : Nat) (c22 : Nat) (c23 : Nat) (c24 : Nat) (c25 : Nat) (sz : Nat) : Met l yX19_isProgram ow_k_X19_isProgram ({ frames := 1, cells := 0, slots := 0, locals := 25 }) (va_Pc [.ref c0, .int c3] (fun U => U.heap.size = sz ∧ va_P (dC, dI) vwCl [(c0, .inr (20, [.int 0, .ref c4, .int 0, .int 0, .ref c1, .ref c5, .ref c6, .ref c7, .ref c8, .ref c9, .ref c10, .ref c11, .ref c12, .ref c13, .ref c14, .ref c15, .ref c16, .int 0, .int 0, .int 0, .int 0, .int 0, .int 0, .int 0, .int 0, .int 0, .ref c17, .ref c18, .ref c19, .ref c20, .ref c21, .ref c22, .ref c23, .ref c24, .ref c25, .int 0])), (c1, .inl (c2, 4, .inl (fun _ => 0)))] U.heap ∧ va_K (dC, dI) vwCl [(c2, .boolean)] U ∧ va_D (fun _ => True) [(c0, .inr (20, [.int 0, .ref c4, .int 0, .int 0, .ref c1, .ref c5, .ref c6, .ref c7, .ref c8, .ref c9, .ref c10, .ref c11, .ref c12, .ref c13, .ref c14, .ref c15, .ref c16, .int 0, .int 0, .int 0, .int 0, .int 0, .int 0, .int 0, .int 0, .int 0, .ref c17, .ref c18, .ref c19, .ref c20, .ref c21, .ref c22, .ref c23, .ref c24, .ref c25, .int 0])), (c1, .inl (c2, 4, .inl (fun _ => 0)))] ∧ nv_E (va_A [(c0, .inr (20, [.int 0, .ref c4, .int 0, .int 0, .ref c1, .ref c5, .ref c6, .ref c7, .ref c8, .ref c9, .ref c10, .ref c11, .ref c12, .ref c13, .ref c14, .ref c15, .ref c16, .int 0, .int 0, .int 0, .int 0, .int 0, .int 0, .int 0, .int 0, .int 0, .ref c17, .ref c18, .ref c19, .ref c20, .ref c21, .ref c22, .ref c23, .ref c24, .ref c25, .int 0])), (c1, .inl (c2, 4, .inl (fun _ => 0)))] sz) U)) (va_Qi (fun r _ => ((c3 < 0) ∧ r = 0) ∨ ((¬ c3 < 0) ∧ (3 < c3) ∧ r = 0) ∨ ((¬ c3 < 0) ∧ (¬ 3 < c3) ∧ r = 0) ∨ False) (fun (_ : Unit) t => va_P (dC, dI) vwCl [(c0, .inr (20, [.int 0, .ref c4, .int 0, .int 0, .ref c1, .ref c5, .ref c6, .ref c7, .ref c8, .ref c9, .ref c10, .ref c11, .ref c12, .ref c13, .ref c14, .ref c15, .ref c16, .int 0, .int 0, .int 0, .int 0, .int 0, .int 0, .int 0, .int 0, .int 0, .ref c17, .ref c18, .ref c19, .ref c20, .ref c21, .ref c22, .ref c23, .ref c24, .ref c25, .int 0])), (c1, .inl (c2, 4, .inl (fun _ => 0)))] t.heap ∧ va_K (dC, dI) vwCl [(c2, .boolean)] t ∧ va_D (va_A [(c0, .inr (20, [.int 0, .ref c4, .int 0, .int 0, .ref c1, .ref c5, .ref c6, .ref c7, .ref c8, .ref c9, .ref c10, .ref c11, .ref c12, .ref c13, .ref c14, .ref c15, .ref c16, .int 0, .int 0, .int 0, .int 0, .int 0, .int 0, .int 0, .int 0, .int 0, .ref c17, .ref c18, .ref c19, .ref c20, .ref c21, .ref c22, .ref c23, .ref c24, .ref c25, .int 0])), (c1, .inl (c2, 4, .inl (fun _ => 0)))] sz) [(c0, .inr (20, [.int 0, .ref c4, .int 0, .int 0, .ref c1, .ref c5, .ref c6, .ref c7, .ref c8, .ref c9, .ref c10, .ref c11, .ref c12, .ref c13, .ref c14, .ref c15, .ref c16, .int 0, .int 0, .int 0, .int 0, .int 0, .int 0, .int 0, .int 0, .int 0, .ref c17, .ref c18, .ref c19, .ref c20, .ref c21, .ref c22, .ref c23, .ref c24, .ref c25, .int 0])), (c1, .inl (c2, 4, .inl (fun _ => 0)))]) (va_A [(c0, .inr (20, [.int 0, .ref c4, .int 0, .int 0, .ref c1, .ref c5, .ref c6, .ref c7, .ref c8, .ref c9, .ref c10, .ref c11, .ref c12, .ref c13, .ref c14, .ref c15, .ref c16, .int 0, .int 0, .int 0, .int 0, .int 0, .int 0, .int 0, .int 0, .int 0, .ref c17, .ref c18, .ref c19, .ref c20, .ref c21, .ref c22, .ref c23, .ref c24, .ref c25, .int 0])), (c1, .inl (c2, 4, .inl (fun _ => 0)))] sz)) 0 0 (va_A [(c0, .inr (20, [.int 0, .ref c4, .int 0, .int 0, .ref c1, .ref c5, .ref c6, .ref c7, .ref c8, .ref c9, .ref c10, .ref c11, .ref c12, .ref c13, .ref c14, .ref c15, .ref c16, .int 0, .int 0, .int 0, .int 0, .int 0, .int 0, .int 0, .int 0, .int 0, .ref c17, .ref c18, .ref c19, .ref c20, .ref c21, .ref c22, .ref c23, .ref c24, .ref c25, .int 0])), (c1, .inl (c2, 4, .inl (fun _ => 0)))] sz) := by
  refine Met.ofW (cc := cX19_isProgram) (maxL := 2) (ret := (some .boolean)) (by decide) rfl ?_
  intro p e s m args below meth c s₁ B hml hv
  obtain ⟨rfl, hsz, hP, hK, hD0, hN⟩ := hv
  have hx := B.exec
  have hb := B.bytes
  have hr := B.returns
  have hts := atoms_spec (ws := ow_k_X19_isProgram) B.pre
  have hown : s.vm.findClass RX19 = some m.cls := findClass_of_methodNamed B.named
  have hlocks := B.notSynchronized
  subst hsz
  have hD := hD0.self (sz := s.heap.size)
  generalize hAe : va_A [(c0, .inr (20, [.int 0, .ref c4, .int 0, .int 0, .ref c1, .ref c5, .ref c6, .ref c7, .ref c8, .ref c9, .ref c10, .ref c11, .ref c12, .ref c13, .ref c14, .ref c15, .ref c16, .int 0, .int 0, .int 0, .int 0, .int 0, .int 0, .int 0, .int 0, .int 0, .ref c17, .ref c18, .ref c19, .ref c20, .ref c21, .ref c22, .ref c23, .ref c24, .ref c25, .int 0])), (c1, .inl (c2, 4, .inl (fun _ => 0)))] s.heap.size = A at hD hN ⊢
  have hA : ∀ q : Nat, s.heap.size ≤ q → A q := fun q h => by rw [← hAe]; exact Or.inr h
  have hS : va_S A s.heap s.heap [] := va_S.rf
  have hl := lv_entry ([.ref c0, .int c3]) (n := 2) (Nat.le_of_ble_eq_true rfl)
  rw [lg_entry_eq]
  generalize (lg_sl ([.ref c0, .int c3]) ++ List.replicate (2 - (lg_sl ([.ref c0, .int c3])).length) Slot.unset).toArray = ls at hl ⊢
  have hl : lv_has ls 2 [(0, .ref c0), (1, .int c3)] := hl
  refine lv_iload_n hx hb dX19_isProgram_0 rfl (lv_at hl 1 rfl) ?_
  refine lv_i2l hx hb dX19_isProgram_1 rfl ?_
  refine lv_lconst (v := 0) hx hb dX19_isProgram_2 (by decide) ?_
  refine lv_ldc2 hx hb hown (hts (.constantLong RX19 134 (3)) (List.mem_of_getElem? (i := 1) rfl)) dX19_isProgram_3 ?_
  have hPc := hP.sub (ws' := []) [] rfl
  have hDc := hD.sub (ws' := []) [] (by decide) rfl
  have hKc := hK.sub (tys' := []) [] rfl
  have hFc := va_free (wc := []) hD hS hA [] rfl
  refine va_calli (va_runS (As := [.long (c3.toInt64), .long 0, .long 3]) (rest := []) ⟨hx, hb, hml, hown, hts⟩ (k_X19_in l hlt dC dI c3  s.heap.size) (cwS 3 hts gi_k_X19_isProgram_0 rfl rfl rfl (by decide +kernel) ⟨Nat.le_of_ble_eq_true rfl, Nat.le_of_ble_eq_true rfl⟩) ⟨fun a U g mk q => by obtain ⟨q0, q1, qP, qK, qD, qN⟩ := q; exact ⟨q0, q1, qP, va_K.moved (u := U) (U := U.calling g mk a) (Vm.Alike.refl U.vm) qK, qD, nv_same rfl rfl qN⟩, fun U hU hW => ⟨rfl, by rw [hU], by rw [hU]; exact hPc, va_K.moved hW.alike hKc, hDc.weaken (fun _ _ _ _ => trivial), nv_call hS hFc hU hW hN⟩⟩ rfl rfl hl.1 rfl (lv_room (Nat.le_of_ble_eq_true rfl)) dX19_isProgram_6 ⟨by decide +kernel, by decide +kernel⟩) hS (fun q _ h => hFc q h) hFc (fun r1 u t H1 locs ht hvm hw hB hz1 hk1 hS => ?_)
  obtain ⟨hP1, hK1, hD1⟩ := hB
  rw [ht] at hP1
  have hK1 := va_K.moved hvm.symm hK1
  obtain ⟨hP, hD⟩ := va_join (wr := [(c0, .inr (20, [.int 0, .ref c4, .int 0, .int 0, .ref c1, .ref c5, .ref c6, .ref c7, .ref c8, .ref c9, .ref c10, .ref c11, .ref c12, .ref c13, .ref c14, .ref c15, .ref c16, .int 0, .int 0, .int 0, .int 0, .int 0, .int 0, .int 0, .int 0, .int 0, .ref c17, .ref c18, .ref c19, .ref c20, .ref c21, .ref c22, .ref c23, .ref c24, .ref c25, .int 0])), (c1, .inl (c2, 4, .inl (fun _ => 0)))]) (w1 := []) hP hD [] [0, 1] rfl rfl (by decide) (by decide) hk1 hFc hP1 hD1
  have hK := (hK.sub (tys' := [(c2, .boolean)]) [0] rfl).app hK1
  generalize H1 = H at hP hS ⊢
  have hP : va_P (dC, dI) vwCl [(c0, .inr (20, [.int 0, .ref c4, .int 0, .int 0, .ref c1, .ref c5, .ref c6, .ref c7, .ref c8, .ref c9, .ref c10, .ref c11, .ref c12, .ref c13, .ref c14, .ref c15, .ref c16, .int 0, .int 0, .int 0, .int 0, .int 0, .int 0, .int 0, .int 0, .int 0, .ref c17, .ref c18, .ref c19, .ref c20, .ref c21, .ref c22, .ref c23, .ref c24, .ref c25, .int 0])), (c1, .inl (c2, 4, .inl (fun _ => 0)))] H := hP
  have hD : va_D A [(c0, .inr (20, [.int 0, .ref c4, .int 0, .int 0, .ref c1, .ref c5, .ref c6, .ref c7, .ref c8, .ref c9, .ref c10, .ref c11, .ref c12, .ref c13, .ref c14, .ref c15, .ref c16, .int 0, .int 0, .int 0, .int 0, .int 0, .int 0, .int 0, .int 0, .int 0, .ref c17, .ref c18, .ref c19, .ref c20, .ref c21, .ref c22, .ref c23, .ref c24, .ref c25, .int 0])), (c1, .inl (c2, 4, .inl (fun _ => 0)))] := hD
  have hK : va_K (dC, dI) vwCl [(c2, .boolean)] s := hK
  refine W.widen (k := 0) (n := 0) (by decide +kernel) (by decide +kernel) ?_
  rcases hw with ⟨c_1_0, h9⟩ | ⟨c_1_0, c_1_1, h9⟩ | ⟨c_1_0, c_1_1, h9⟩ | h9
  · subst h9
    refine lv_if_eq (tgt := 25) hx hb dX19_isProgram_9 (by decide) (fun _ => ?_) (fun h9 => absurd (by decide) h9)
    refine lv_iconst (v := 0) hx hb dX19_isProgram_25 (by decide) ?_
    refine W.widen (k := 0) (n := 0) (by decide +kernel) (by decide +kernel) ?_
    exact W.zret (v := 0) hx hb hr (by first | rfl | decide) (fun t ht hW => ⟨⟨0, (), rfl, Or.inl ⟨c_1_0, rfl⟩, by rw [ht]; exact hP, va_K.moved hW.alike hK, hD⟩, hS.F ht⟩) hS.2.2 dX19_isProgram_26
  · subst h9
    refine lv_if_eq (tgt := 25) hx hb dX19_isProgram_9 (by decide) (fun _ => ?_) (fun h9 => absurd (by decide) h9)
    refine lv_iconst (v := 0) hx hb dX19_isProgram_25 (by decide) ?_
    refine W.widen (k := 0) (n := 0) (by decide +kernel) (by decide +kernel) ?_
    exact W.zret (v := 0) hx hb hr (by first | rfl | decide) (fun t ht hW => ⟨⟨0, (), rfl, Or.inr (Or.inl ⟨c_1_0, c_1_1, rfl⟩), by rw [ht]; exact hP, va_K.moved hW.alike hK, hD⟩, hS.F ht⟩) hS.2.2 dX19_isProgram_26
  · subst h9
    refine lv_if_eq (tgt := 25) hx hb dX19_isProgram_9 (by decide) (fun h9 => absurd h9 (by decide)) (fun _ => ?_)
    refine lv_aload_n hx hb dX19_isProgram_12 rfl (lv_at hl 0 rfl) ?_
    refine va_get (D := (dC, dI)) (ci := 20) (v := .ref c1) (C := RX19) (T := TX19) (N := 36) hx hb hts hi_k_X19_isProgram_X19 hown hK hP 0 rfl rfl 4 (by decide) (hts (.fieldLink RX19 14 "TimeMachineModel" "isProgram" "[Z") (List.mem_of_getElem? (i := 5) rfl)) (fun _ h9 => h9) rfl dX19_isProgram_13 ?_
    refine lv_iload_n hx hb dX19_isProgram_16 rfl (lv_at hl 1 rfl) ?_
    refine va_zald (i := c3) hx hb hK hP 1 0 rfl rfl (nv_in3 (k := 3) c_1_0 c_1_1 (by decide) (by decide)) dX19_isProgram_17 ?_
    refine lv_topi (fun z2 ez2 => ?_)
    obtain rfl : z2 = 0 := ez2.trans (by decide)
    refine lv_if_eq (tgt := 25) hx hb dX19_isProgram_18 (by decide) (fun _ => ?_) (fun h9 => absurd (by decide) h9)
    refine lv_iconst (v := 0) hx hb dX19_isProgram_25 (by decide) ?_
    refine W.widen (k := 0) (n := 0) (by decide +kernel) (by decide +kernel) ?_
    exact W.zret (v := 0) hx hb hr (by first | rfl | decide) (fun t ht hW => ⟨⟨0, (), rfl, Or.inr (Or.inr (Or.inl ⟨c_1_0, c_1_1, rfl⟩)), by rw [ht]; exact hP, va_K.moved hW.alike hK, hD⟩, hS.F ht⟩) hS.2.2 dX19_isProgram_26
  · exact h9.elim
def ow_k_X19_program : List Cond := .code yX19_program cX19_program 3 (some .int) :: ([.fieldLink RX19 113 "TimeMachineModel" "code" "I", .methodLink RX19 172 yX19_isProgram, .instanceMethod yX19_isProgram, .selects RX19 yX19_isProgram yX19_isProgram, .initialized RX19] ++ (u_ws RX19 TX19 36 ++ (ow_k_X19_isProgram ++ [])))
theorem gd_k_X19_program : ∀ w ∈ ow_k_X19_program, (w.onTables && w.keeps) = true ∨ ∃ ty, w = Cond.arrayClass ty := List.forall_mem_cons.mpr ⟨good_of_word rfl, List.forall_mem_append.mpr ⟨fun w h => good_of_word (List.all_eq_true.mp (by decide +kernel) w h), List.forall_mem_append.mpr ⟨gu_X19, List.forall_mem_append.mpr ⟨gd_k_X19_isProgram, fun _ h => nomatch h⟩⟩⟩⟩
theorem hi_k_X19_program_X19 : ∀ w ∈ u_ws RX19 TX19 36, w ∈ ow_k_X19_program := fun w h => List.mem_cons_of_mem _ (List.mem_append_right _ (List.mem_append_left _ h))
theorem gi_k_X19_program_0 : GoodIn ow_k_X19_program (wsV RX19 172 RX19 yX19_isProgram ow_k_X19_isProgram) := goodIn_app (goodIn_of _ (by decide +kernel)) (fun w h => ⟨List.mem_cons_of_mem _ (List.mem_append_right _ (List.mem_append_right _ (List.mem_append_left _ h))), gd_k_X19_isProgram w h⟩)
set_option maxHeartbeats 40000000 in
set_option maxRecDepth 100000 in
theorem k_X19_program (l : Launch) (hlt : l.stackTraces = false) (dC : Nat → ClassId) (dI : Nat → Nat → Nat) (c0 : Nat) (c1 : Nat) (c2 : ClassId) (c3 : Int32) (c4 : Int32) (c5 : Nat) (c6 : Nat) (c7 : Nat) (c8 : Nat) (c9 : Nat) (c10 : Nat) (c11 : Nat) (c12 : Nat) (c13 : Nat) (c14 : Nat) (c15 : Nat) (c16 : Nat) (c17 : Nat) (c18 : Nat) (c19 : Nat) (c20 : Nat) (c21 : Nat) (c22 : Nat) (c23 : Nat) (c24 : Nat) (c25 : Nat) (c26 : Nat) (sz : Nat) : Met l yX19_program ow_k_X19_program ({ frames := 2, cells := 0, slots := 0, locals := 46 }) (va_Pc [.ref c0, .int c3, .int c4] (fun U => U.heap.size = sz ∧ va_P (dC, dI) vwCl [(c0, .inr (20, [.int 0, .ref c5, .int 0, .int 0, .ref c1, .ref c6, .ref c7, .ref c8, .ref c9, .ref c10, .ref c11, .ref c12, .ref c13, .ref c14, .ref c15, .ref c16, .ref c17, .int 0, .int 0, .int 0, .int 0, .int 0, .int 0, .int 0, .int 0, .int 0, .ref c18, .ref c19, .ref c20, .ref c21, .ref c22, .ref c23, .ref c24, .ref c25, .ref c26, .int 0])), (c1, .inl (c2, 4, .inl (fun _ => 0)))] U.heap ∧ va_K (dC, dI) vwCl [(c2, .boolean)] U ∧ va_D (fun _ => True) [(c0, .inr (20, [.int 0, .ref c5, .int 0, .int 0, .ref c1, .ref c6, .ref c7, .ref c8, .ref c9, .ref c10, .ref c11, .ref c12, .ref c13, .ref c14, .ref c15, .ref c16, .ref c17, .int 0, .int 0, .int 0, .int 0, .int 0, .int 0, .int 0, .int 0, .int 0, .ref c18, .ref c19, .ref c20, .ref c21, .ref c22, .ref c23, .ref c24, .ref c25, .ref c26, .int 0])), (c1, .inl (c2, 4, .inl (fun _ => 0)))] ∧ nv_E (va_A [(c0, .inr (20, [.int 0, .ref c5, .int 0, .int 0, .ref c1, .ref c6, .ref c7, .ref c8, .ref c9, .ref c10, .ref c11, .ref c12, .ref c13, .ref c14, .ref c15, .ref c16, .ref c17, .int 0, .int 0, .int 0, .int 0, .int 0, .int 0, .int 0, .int 0, .int 0, .ref c18, .ref c19, .ref c20, .ref c21, .ref c22, .ref c23, .ref c24, .ref c25, .ref c26, .int 0])), (c1, .inl (c2, 4, .inl (fun _ => 0)))] sz) U)) (va_Qi (fun r _ => r = (-1)) (fun (_ : Unit) t => va_P (dC, dI) vwCl [(c0, .inr (20, [.int 0, .ref c5, .int 0, .int 0, .ref c1, .ref c6, .ref c7, .ref c8, .ref c9, .ref c10, .ref c11, .ref c12, .ref c13, .ref c14, .ref c15, .ref c16, .ref c17, .int 0, .int 0, .int 0, .int 0, .int 0, .int 0, .int 0, .int 0, .int 0, .ref c18, .ref c19, .ref c20, .ref c21, .ref c22, .ref c23, .ref c24, .ref c25, .ref c26, .int 0])), (c1, .inl (c2, 4, .inl (fun _ => 0)))] t.heap ∧ va_K (dC, dI) vwCl [(c2, .boolean)] t ∧ va_D (va_A [(c0, .inr (20, [.int 0, .ref c5, .int 0, .int 0, .ref c1, .ref c6, .ref c7, .ref c8, .ref c9, .ref c10, .ref c11, .ref c12, .ref c13, .ref c14, .ref c15, .ref c16, .ref c17, .int 0, .int 0, .int 0, .int 0, .int 0, .int 0, .int 0, .int 0, .int 0, .ref c18, .ref c19, .ref c20, .ref c21, .ref c22, .ref c23, .ref c24, .ref c25, .ref c26, .int 0])), (c1, .inl (c2, 4, .inl (fun _ => 0)))] sz) [(c0, .inr (20, [.int 0, .ref c5, .int 0, .int 0, .ref c1, .ref c6, .ref c7, .ref c8, .ref c9, .ref c10, .ref c11, .ref c12, .ref c13, .ref c14, .ref c15, .ref c16, .ref c17, .int 0, .int 0, .int 0, .int 0, .int 0, .int 0, .int 0, .int 0, .int 0, .ref c18, .ref c19, .ref c20, .ref c21, .ref c22, .ref c23, .ref c24, .ref c25, .ref c26, .int 0])), (c1, .inl (c2, 4, .inl (fun _ => 0)))]) (va_A [(c0, .inr (20, [.int 0, .ref c5, .int 0, .int 0, .ref c1, .ref c6, .ref c7, .ref c8, .ref c9, .ref c10, .ref c11, .ref c12, .ref c13, .ref c14, .ref c15, .ref c16, .ref c17, .int 0, .int 0, .int 0, .int 0, .int 0, .int 0, .int 0, .int 0, .int 0, .ref c18, .ref c19, .ref c20, .ref c21, .ref c22, .ref c23, .ref c24, .ref c25, .ref c26, .int 0])), (c1, .inl (c2, 4, .inl (fun _ => 0)))] sz)) 0 0 (va_A [(c0, .inr (20, [.int 0, .ref c5, .int 0, .int 0, .ref c1, .ref c6, .ref c7, .ref c8, .ref c9, .ref c10, .ref c11, .ref c12, .ref c13, .ref c14, .ref c15, .ref c16, .ref c17, .int 0, .int 0, .int 0, .int 0, .int 0, .int 0, .int 0, .int 0, .int 0, .ref c18, .ref c19, .ref c20, .ref c21, .ref c22, .ref c23, .ref c24, .ref c25, .ref c26, .int 0])), (c1, .inl (c2, 4, .inl (fun _ => 0)))] sz) := by
  refine Met.ofW (cc := cX19_program) (maxL := 3) (ret := (some .int)) (by decide) rfl ?_
  intro p e s m args below meth c s₁ B hml hv
  obtain ⟨rfl, hsz, hP, hK, hD0, hN⟩ := hv
  have hx := B.exec
  have hb := B.bytes
  have hr := B.returns
  have hts := atoms_spec (ws := ow_k_X19_program) B.pre
  have hown : s.vm.findClass RX19 = some m.cls := findClass_of_methodNamed B.named
  have hlocks := B.notSynchronized
  subst hsz
  have hD := hD0.self (sz := s.heap.size)
  generalize hAe : va_A [(c0, .inr (20, [.int 0, .ref c5, .int 0, .int 0, .ref c1, .ref c6, .ref c7, .ref c8, .ref c9, .ref c10, .ref c11, .ref c12, .ref c13, .ref c14, .ref c15, .ref c16, .ref c17, .int 0, .int 0, .int 0, .int 0, .int 0, .int 0, .int 0, .int 0, .int 0, .ref c18, .ref c19, .ref c20, .ref c21, .ref c22, .ref c23, .ref c24, .ref c25, .ref c26, .int 0])), (c1, .inl (c2, 4, .inl (fun _ => 0)))] s.heap.size = A at hD hN ⊢
  have hA : ∀ q : Nat, s.heap.size ≤ q → A q := fun q h => by rw [← hAe]; exact Or.inr h
  have hS : va_S A s.heap s.heap [] := va_S.rf
  have hl := lv_entry ([.ref c0, .int c3, .int c4]) (n := 3) (Nat.le_of_ble_eq_true rfl)
  rw [lg_entry_eq]
  generalize (lg_sl ([.ref c0, .int c3, .int c4]) ++ List.replicate (3 - (lg_sl ([.ref c0, .int c3, .int c4])).length) Slot.unset).toArray = ls at hl ⊢
  have hl : lv_has ls 3 [(0, .ref c0), (1, .int c3), (2, .int c4)] := hl
  refine lv_aload_n hx hb dX19_program_0 rfl (lv_at hl 0 rfl) ?_
  refine lv_iconst (v := 0) hx hb dX19_program_1 (by decide) ?_
  refine va_put (D := (dC, dI)) (ci := 20) (v := .int 0) (ty := .int) (C := RX19) (T := TX19) (N := 36) hx hb hts hi_k_X19_program_X19 tyX19 tyX19_ok nmX19 hown hK hP hD hS 0 rfl rfl 0 (by decide) (hts (.fieldLink RX19 113 "TimeMachineModel" "code" "I") (List.mem_of_getElem? (i := 1) rfl)) (fun _ h9 => h9) rfl (by decide +kernel) rfl rfl (Nat.le_of_ble_eq_true rfl) dX19_program_2 (fun H locs hP hD hS => ?_)
  have hP : va_P (dC, dI) vwCl [(c0, .inr (20, [.int 0, .ref c5, .int 0, .int 0, .ref c1, .ref c6, .ref c7, .ref c8, .ref c9, .ref c10, .ref c11, .ref c12, .ref c13, .ref c14, .ref c15, .ref c16, .ref c17, .int 0, .int 0, .int 0, .int 0, .int 0, .int 0, .int 0, .int 0, .int 0, .ref c18, .ref c19, .ref c20, .ref c21, .ref c22, .ref c23, .ref c24, .ref c25, .ref c26, .int 0])), (c1, .inl (c2, 4, .inl (fun _ => 0)))] H := hP
  have hD : va_D A [(c0, .inr (20, [.int 0, .ref c5, .int 0, .int 0, .ref c1, .ref c6, .ref c7, .ref c8, .ref c9, .ref c10, .ref c11, .ref c12, .ref c13, .ref c14, .ref c15, .ref c16, .ref c17, .int 0, .int 0, .int 0, .int 0, .int 0, .int 0, .int 0, .int 0, .int 0, .ref c18, .ref c19, .ref c20, .ref c21, .ref c22, .ref c23, .ref c24, .ref c25, .ref c26, .int 0])), (c1, .inl (c2, 4, .inl (fun _ => 0)))] := hD
  refine lv_aload_n hx hb dX19_program_5 rfl (lv_at hl 0 rfl) ?_
  refine lv_iload_n hx hb dX19_program_6 rfl (lv_at hl 1 rfl) ?_
  have hPc := hP.sub (ws' := [(c0, .inr (20, [.int 0, .ref c5, .int 0, .int 0, .ref c1, .ref c6, .ref c7, .ref c8, .ref c9, .ref c10, .ref c11, .ref c12, .ref c13, .ref c14, .ref c15, .ref c16, .ref c17, .int 0, .int 0, .int 0, .int 0, .int 0, .int 0, .int 0, .int 0, .int 0, .ref c18, .ref c19, .ref c20, .ref c21, .ref c22, .ref c23, .ref c24, .ref c25, .ref c26, .int 0])), (c1, .inl (c2, 4, .inl (fun _ => 0)))]) [0, 1] rfl
  have hDc := hD.sub (ws' := [(c0, .inr (20, [.int 0, .ref c5, .int 0, .int 0, .ref c1, .ref c6, .ref c7, .ref c8, .ref c9, .ref c10, .ref c11, .ref c12, .ref c13, .ref c14, .ref c15, .ref c16, .ref c17, .int 0, .int 0, .int 0, .int 0, .int 0, .int 0, .int 0, .int 0, .int 0, .ref c18, .ref c19, .ref c20, .ref c21, .ref c22, .ref c23, .ref c24, .ref c25, .ref c26, .int 0])), (c1, .inl (c2, 4, .inl (fun _ => 0)))]) [0, 1] (by decide) rfl
  have hKc := hK.sub (tys' := [(c2, .boolean)]) [0] rfl
  have hFc := va_free (wc := [(c0, .inr (20, [.int 0, .ref c5, .int 0, .int 0, .ref c1, .ref c6, .ref c7, .ref c8, .ref c9, .ref c10, .ref c11, .ref c12, .ref c13, .ref c14, .ref c15, .ref c16, .ref c17, .int 0, .int 0, .int 0, .int 0, .int 0, .int 0, .int 0, .int 0, .int 0, .ref c18, .ref c19, .ref c20, .ref c21, .ref c22, .ref c23, .ref c24, .ref c25, .ref c26, .int 0])), (c1, .inl (c2, 4, .inl (fun _ => 0)))]) hD hS hA [0, 1] rfl
  refine va_calli (va_runV (As := [.int c3]) (rest := []) ⟨hx, hb, hml, hown, hts⟩ (k_X19_isProgram l hlt dC dI c0 c1 c2 c3 c5 c6 c7 c8 c9 c10 c11 c12 c13 c14 c15 c16 c17 c18 c19 c20 c21 c22 c23 c24 c25 c26  H.size) (cwV 1 hts gi_k_X19_program_0 rfl rfl rfl (by decide +kernel) ⟨Nat.le_of_ble_eq_true rfl, Nat.le_of_ble_eq_true rfl⟩) ⟨fun a U g mk q => by obtain ⟨q0, q1, qP, qK, qD, qN⟩ := q; exact ⟨q0, q1, qP, va_K.moved (u := U) (U := U.calling g mk a) (Vm.Alike.refl U.vm) qK, qD, nv_same rfl rfl qN⟩, va_recv hKc hPc (ci := 20) (q0 := 0) rfl rfl, fun U hU hW => ⟨rfl, by rw [hU], by rw [hU]; exact hPc, va_K.moved hW.alike hKc, hDc.weaken (fun _ _ _ _ => trivial), nv_call hS hFc hU hW hN⟩⟩ rfl rfl hl.1 rfl (lv_room (Nat.le_of_ble_eq_true rfl)) dX19_program_7 ⟨by decide +kernel, by decide +kernel⟩) hS (fun q _ h => hFc q h) hFc (fun r1 u t H1 locs ht hvm hw hB hz1 hk1 hS => ?_)
  obtain ⟨hP1, hK1, hD1⟩ := hB
  rw [ht] at hP1
  have hK1 := va_K.moved hvm.symm hK1
  obtain rfl : r1 = 0 := by rcases hw with ⟨_, h9⟩ | ⟨_, _, h9⟩ | ⟨_, _, h9⟩ | h9 <;> first | exact h9 | exact h9.elim
  obtain ⟨hP, hD⟩ := va_join (wr := []) (w1 := [(c0, .inr (20, [.int 0, .ref c5, .int 0, .int 0, .ref c1, .ref c6, .ref c7, .ref c8, .ref c9, .ref c10, .ref c11, .ref c12, .ref c13, .ref c14, .ref c15, .ref c16, .ref c17, .int 0, .int 0, .int 0, .int 0, .int 0, .int 0, .int 0, .int 0, .int 0, .ref c18, .ref c19, .ref c20, .ref c21, .ref c22, .ref c23, .ref c24, .ref c25, .ref c26, .int 0])), (c1, .inl (c2, 4, .inl (fun _ => 0)))]) hP hD [0, 1] [] rfl rfl (by decide) (by decide) hk1 hFc hP1 hD1
  have hK := (hK.sub (tys' := []) [] rfl).app hK1
  generalize H1 = H at hP hS ⊢
  have hP : va_P (dC, dI) vwCl [(c0, .inr (20, [.int 0, .ref c5, .int 0, .int 0, .ref c1, .ref c6, .ref c7, .ref c8, .ref c9, .ref c10, .ref c11, .ref c12, .ref c13, .ref c14, .ref c15, .ref c16, .ref c17, .int 0, .int 0, .int 0, .int 0, .int 0, .int 0, .int 0, .int 0, .int 0, .ref c18, .ref c19, .ref c20, .ref c21, .ref c22, .ref c23, .ref c24, .ref c25, .ref c26, .int 0])), (c1, .inl (c2, 4, .inl (fun _ => 0)))] H := hP
  have hD : va_D A [(c0, .inr (20, [.int 0, .ref c5, .int 0, .int 0, .ref c1, .ref c6, .ref c7, .ref c8, .ref c9, .ref c10, .ref c11, .ref c12, .ref c13, .ref c14, .ref c15, .ref c16, .ref c17, .int 0, .int 0, .int 0, .int 0, .int 0, .int 0, .int 0, .int 0, .int 0, .ref c18, .ref c19, .ref c20, .ref c21, .ref c22, .ref c23, .ref c24, .ref c25, .ref c26, .int 0])), (c1, .inl (c2, 4, .inl (fun _ => 0)))] := hD
  have hK : va_K (dC, dI) vwCl [(c2, .boolean)] s := hK
  refine W.widen (k := 0) (n := 0) (by decide +kernel) (by decide +kernel) ?_
  refine lv_if_ne (tgt := 15) hx hb dX19_program_10 (by decide) (fun h9 => absurd h9 (by decide)) (fun _ => ?_)
  refine lv_iconst (v := (-1)) hx hb dX19_program_13 (by decide) ?_
  have hP9 := hP.sub (ws' := [(c0, .inr (20, [.int 0, .ref c5, .int 0, .int 0, .ref c1, .ref c6, .ref c7, .ref c8, .ref c9, .ref c10, .ref c11, .ref c12, .ref c13, .ref c14, .ref c15, .ref c16, .ref c17, .int 0, .int 0, .int 0, .int 0, .int 0, .int 0, .int 0, .int 0, .int 0, .ref c18, .ref c19, .ref c20, .ref c21, .ref c22, .ref c23, .ref c24, .ref c25, .ref c26, .int 0])), (c1, .inl (c2, 4, .inl (fun _ => 0)))]) [0, 1] rfl
  have hD9 := hD.sub (ws' := [(c0, .inr (20, [.int 0, .ref c5, .int 0, .int 0, .ref c1, .ref c6, .ref c7, .ref c8, .ref c9, .ref c10, .ref c11, .ref c12, .ref c13, .ref c14, .ref c15, .ref c16, .ref c17, .int 0, .int 0, .int 0, .int 0, .int 0, .int 0, .int 0, .int 0, .int 0, .ref c18, .ref c19, .ref c20, .ref c21, .ref c22, .ref c23, .ref c24, .ref c25, .ref c26, .int 0])), (c1, .inl (c2, 4, .inl (fun _ => 0)))]) [0, 1] (by decide) rfl
  have hK9 := hK.sub (tys' := [(c2, .boolean)]) [0] rfl
  refine W.widen (k := 0) (n := 0) (by decide +kernel) (by decide +kernel) ?_
  exact W.iret (v := (-1)) hx hb hr (fun t ht hW => ⟨⟨(-1), (), rfl, rfl, by rw [ht]; exact hP9, va_K.moved hW.alike hK9, hD9⟩, hS.F ht⟩) hS.2.2 dX19_program_14
def ow_k_X12_image : List Cond := .code yX12_image cX12_image 4 (some .int) :: ([.methodLink RX12 85 yX12_programOf, .instanceMethod yX12_programOf, .selects RX12 yX12_programOf yX12_programOf, .initialized RX12] ++ (ow_k_X12_programOf ++ []))
theorem gd_k_X12_image : ∀ w ∈ ow_k_X12_image, (w.onTables && w.keeps) = true ∨ ∃ ty, w = Cond.arrayClass ty := List.forall_mem_cons.mpr ⟨good_of_word rfl, List.forall_mem_append.mpr ⟨fun w h => good_of_word (List.all_eq_true.mp (by decide +kernel) w h), List.forall_mem_append.mpr ⟨gd_k_X12_programOf, fun _ h => nomatch h⟩⟩⟩
theorem gi_k_X12_image_0 : GoodIn ow_k_X12_image (wsV RX12 85 RX12 yX12_programOf ow_k_X12_programOf) := goodIn_app (goodIn_of _ (by decide +kernel)) (fun w h => ⟨List.mem_cons_of_mem _ (List.mem_append_right _ (List.mem_append_left _ h)), gd_k_X12_programOf w h⟩)
set_option maxHeartbeats 40000000 in
set_option maxRecDepth 100000 in
theorem k_X12_image (l : Launch) (hlt : l.stackTraces = false) (dC : Nat → ClassId) (dI : Nat → Nat → Nat) (c0 : Nat) (c1 : Nat) (c2 : ClassId) (c3 : Int32) (c4 : Int32) (c5 : Nat) (c6 : Nat) (c7 : Nat) (c8 : Nat) (c9 : Nat) (c10 : Nat) (c11 : Nat) (c12 : Nat) (sz : Nat) : Met l yX12_image ow_k_X12_image ({ frames := 1, cells := 0, slots := 0, locals := 21 }) (va_Pc [.ref c0, .int c3, .int c4] (fun U => U.heap.size = sz ∧ va_P (dC, dI) vwCl [(c0, .inr (13, [.ref c5, .int 0, .int 0, .ref c1, .ref c6, .ref c7, .ref c8, .ref c9, .ref c10, .ref c11, .int 0, .ref c12])), (c1, .inl (c2, 4, .inr (.inr (.inr (.inr (fun _ => none))))))] U.heap ∧ va_K (dC, dI) vwCl [(c2, .object RX8)] U ∧ va_D (fun _ => True) [(c0, .inr (13, [.ref c5, .int 0, .int 0, .ref c1, .ref c6, .ref c7, .ref c8, .ref c9, .ref c10, .ref c11, .int 0, .ref c12])), (c1, .inl (c2, 4, .inr (.inr (.inr (.inr (fun _ => none))))))] ∧ nv_E (va_A [(c0, .inr (13, [.ref c5, .int 0, .int 0, .ref c1, .ref c6, .ref c7, .ref c8, .ref c9, .ref c10, .ref c11, .int 0, .ref c12])), (c1, .inl (c2, 4, .inr (.inr (.inr (.inr (fun _ => none))))))] sz) U)) (va_Qi (fun r _ => r = (-1)) (fun (_ : Unit) t => va_P (dC, dI) vwCl [(c0, .inr (13, [.ref c5, .int 0, .int 0, .ref c1, .ref c6, .ref c7, .ref c8, .ref c9, .ref c10, .ref c11, .int 0, .ref c12])), (c1, .inl (c2, 4, .inr (.inr (.inr (.inr (fun _ => none))))))] t.heap ∧ va_K (dC, dI) vwCl [(c2, .object RX8)] t ∧ va_D (va_A [(c0, .inr (13, [.ref c5, .int 0, .int 0, .ref c1, .ref c6, .ref c7, .ref c8, .ref c9, .ref c10, .ref c11, .int 0, .ref c12])), (c1, .inl (c2, 4, .inr (.inr (.inr (.inr (fun _ => none))))))] sz) [(c0, .inr (13, [.ref c5, .int 0, .int 0, .ref c1, .ref c6, .ref c7, .ref c8, .ref c9, .ref c10, .ref c11, .int 0, .ref c12])), (c1, .inl (c2, 4, .inr (.inr (.inr (.inr (fun _ => none))))))]) (va_A [(c0, .inr (13, [.ref c5, .int 0, .int 0, .ref c1, .ref c6, .ref c7, .ref c8, .ref c9, .ref c10, .ref c11, .int 0, .ref c12])), (c1, .inl (c2, 4, .inr (.inr (.inr (.inr (fun _ => none))))))] sz)) 0 0 (va_A [(c0, .inr (13, [.ref c5, .int 0, .int 0, .ref c1, .ref c6, .ref c7, .ref c8, .ref c9, .ref c10, .ref c11, .int 0, .ref c12])), (c1, .inl (c2, 4, .inr (.inr (.inr (.inr (fun _ => none))))))] sz) := by
  refine Met.ofW (cc := cX12_image) (maxL := 4) (ret := (some .int)) (by decide) rfl ?_
  intro p e s m args below meth c s₁ B hml hv
  obtain ⟨rfl, hsz, hP, hK, hD0, hN⟩ := hv
  have hx := B.exec
  have hb := B.bytes
  have hr := B.returns
  have hts := atoms_spec (ws := ow_k_X12_image) B.pre
  have hown : s.vm.findClass RX12 = some m.cls := findClass_of_methodNamed B.named
  have hlocks := B.notSynchronized
  subst hsz
  have hD := hD0.self (sz := s.heap.size)
  generalize hAe : va_A [(c0, .inr (13, [.ref c5, .int 0, .int 0, .ref c1, .ref c6, .ref c7, .ref c8, .ref c9, .ref c10, .ref c11, .int 0, .ref c12])), (c1, .inl (c2, 4, .inr (.inr (.inr (.inr (fun _ => none))))))] s.heap.size = A at hD hN ⊢
  have hA : ∀ q : Nat, s.heap.size ≤ q → A q := fun q h => by rw [← hAe]; exact Or.inr h
  have hS : va_S A s.heap s.heap [] := va_S.rf
  have hl := lv_entry ([.ref c0, .int c3, .int c4]) (n := 4) (Nat.le_of_ble_eq_true rfl)
  rw [lg_entry_eq]
  generalize (lg_sl ([.ref c0, .int c3, .int c4]) ++ List.replicate (4 - (lg_sl ([.ref c0, .int c3, .int c4])).length) Slot.unset).toArray = ls at hl ⊢
  have hl : lv_has ls 4 [(0, .ref c0), (1, .int c3), (2, .int c4)] := hl
  refine lv_aload_n hx hb dX12_image_0 rfl (lv_at hl 0 rfl) ?_
  refine lv_iload_n hx hb dX12_image_1 rfl (lv_at hl 1 rfl) ?_
  have hPc := hP.sub (ws' := [(c0, .inr (13, [.ref c5, .int 0, .int 0, .ref c1, .ref c6, .ref c7, .ref c8, .ref c9, .ref c10, .ref c11, .int 0, .ref c12])), (c1, .inl (c2, 4, .inr (.inr (.inr (.inr (fun _ => none))))))]) [0, 1] rfl
  have hDc := hD.sub (ws' := [(c0, .inr (13, [.ref c5, .int 0, .int 0, .ref c1, .ref c6, .ref c7, .ref c8, .ref c9, .ref c10, .ref c11, .int 0, .ref c12])), (c1, .inl (c2, 4, .inr (.inr (.inr (.inr (fun _ => none))))))]) [0, 1] (by decide) rfl
  have hKc := hK.sub (tys' := [(c2, .object RX8)]) [0] rfl
  have hFc := va_free (wc := [(c0, .inr (13, [.ref c5, .int 0, .int 0, .ref c1, .ref c6, .ref c7, .ref c8, .ref c9, .ref c10, .ref c11, .int 0, .ref c12])), (c1, .inl (c2, 4, .inr (.inr (.inr (.inr (fun _ => none))))))]) hD hS hA [0, 1] rfl
  refine va_callq (va_runV (As := [.int c3]) (rest := []) ⟨hx, hb, hml, hown, hts⟩ (k_X12_programOf l hlt dC dI c0 c1 c2 c3 c5 c6 c7 c8 c9 c10 c11 c12  s.heap.size) (cwV 1 hts gi_k_X12_image_0 rfl rfl rfl (by decide +kernel) ⟨Nat.le_of_ble_eq_true rfl, Nat.le_of_ble_eq_true rfl⟩) ⟨fun a U g mk q => by obtain ⟨q0, q1, qP, qK, qD, qN⟩ := q; exact ⟨q0, q1, qP, va_K.moved (u := U) (U := U.calling g mk a) (Vm.Alike.refl U.vm) qK, qD, nv_same rfl rfl qN⟩, va_recv hKc hPc (ci := 13) (q0 := 0) rfl rfl, fun U hU hW => ⟨rfl, by rw [hU], by rw [hU]; exact hPc, va_K.moved hW.alike hKc, hDc.weaken (fun _ _ _ _ => trivial), nv_call hS hFc hU hW hN⟩⟩ rfl rfl hl.1 rfl (lv_room (Nat.le_of_ble_eq_true rfl)) dX12_image_2 ⟨by decide +kernel, by decide +kernel⟩) hS (fun q _ h => hFc q h) hFc (fun r1 u t H1 locs ht hvm hw hB hz1 hk1 hS => ?_)
  obtain ⟨hP1, hK1, hD1⟩ := hB
  rw [ht] at hP1
  have hK1 := va_K.moved hvm.symm hK1
  obtain rfl : r1 = none := by rcases hw with ⟨_, h9⟩ | ⟨_, _, h9⟩ | ⟨_, _, h9⟩ | h9 <;> first | exact h9 | exact h9.elim
  obtain ⟨hP, hD⟩ := va_join (wr := []) (w1 := [(c0, .inr (13, [.ref c5, .int 0, .int 0, .ref c1, .ref c6, .ref c7, .ref c8, .ref c9, .ref c10, .ref c11, .int 0, .ref c12])), (c1, .inl (c2, 4, .inr (.inr (.inr (.inr (fun _ => none))))))]) hP hD [0, 1] [] rfl rfl (by decide) (by decide) hk1 hFc hP1 hD1
  have hK := (hK.sub (tys' := []) [] rfl).app hK1
  generalize H1 = H at hP hS ⊢
  have hP : va_P (dC, dI) vwCl [(c0, .inr (13, [.ref c5, .int 0, .int 0, .ref c1, .ref c6, .ref c7, .ref c8, .ref c9, .ref c10, .ref c11, .int 0, .ref c12])), (c1, .inl (c2, 4, .inr (.inr (.inr (.inr (fun _ => none))))))] H := hP
  have hD : va_D A [(c0, .inr (13, [.ref c5, .int 0, .int 0, .ref c1, .ref c6, .ref c7, .ref c8, .ref c9, .ref c10, .ref c11, .int 0, .ref c12])), (c1, .inl (c2, 4, .inr (.inr (.inr (.inr (fun _ => none))))))] := hD
  have hK : va_K (dC, dI) vwCl [(c2, .object RX8)] s := hK
  refine W.widen (k := 0) (n := 0) (by decide +kernel) (by decide +kernel) ?_
  refine lv_astore_nN (lv' := [(3, .null), (0, .ref c0), (1, .int c3), (2, .int c4)]) hx hb dX12_image_5 rfl hl (by decide) rfl (fun ls hl => ?_)
  refine lv_aload_nN hx hb dX12_image_6 rfl (lv_at hl 0 rfl) ?_
  refine lv_ifnullN (tgt := 22) hx hb dX12_image_7 (by decide) ?_
  refine lv_iconst (v := (-1)) hx hb dX12_image_22 (by decide) ?_
  refine lv_goto (tgt := 36) hx hb dX12_image_23 (by decide) ?_
  have hP9 := hP.sub (ws' := [(c0, .inr (13, [.ref c5, .int 0, .int 0, .ref c1, .ref c6, .ref c7, .ref c8, .ref c9, .ref c10, .ref c11, .int 0, .ref c12])), (c1, .inl (c2, 4, .inr (.inr (.inr (.inr (fun _ => none))))))]) [0, 1] rfl
  have hD9 := hD.sub (ws' := [(c0, .inr (13, [.ref c5, .int 0, .int 0, .ref c1, .ref c6, .ref c7, .ref c8, .ref c9, .ref c10, .ref c11, .int 0, .ref c12])), (c1, .inl (c2, 4, .inr (.inr (.inr (.inr (fun _ => none))))))]) [0, 1] (by decide) rfl
  have hK9 := hK.sub (tys' := [(c2, .object RX8)]) [0] rfl
  refine W.widen (k := 0) (n := 0) (by decide +kernel) (by decide +kernel) ?_
  exact W.iret (v := (-1)) hx hb hr (fun t ht hW => ⟨⟨(-1), (), rfl, rfl, by rw [ht]; exact hP9, va_K.moved hW.alike hK9, hD9⟩, hS.F ht⟩) hS.2.2 dX12_image_36
def ow_k_X19_hasByte : List Cond := .code yX19_hasByte cX19_hasByte 3 (some .boolean) :: ([.methodLink RX19 172 yX19_isProgram, .instanceMethod yX19_isProgram, .selects RX19 yX19_isProgram yX19_isProgram, .initialized RX19] ++ (ow_k_X19_isProgram ++ []))
theorem gd_k_X19_hasByte : ∀ w ∈ ow_k_X19_hasByte, (w.onTables && w.keeps) = true ∨ ∃ ty, w = Cond.arrayClass ty := List.forall_mem_cons.mpr ⟨good_of_word rfl, List.forall_mem_append.mpr ⟨fun w h => good_of_word (List.all_eq_true.mp (by decide +kernel) w h), List.forall_mem_append.mpr ⟨gd_k_X19_isProgram, fun _ h => nomatch h⟩⟩⟩
theorem gi_k_X19_hasByte_0 : GoodIn ow_k_X19_hasByte (wsV RX19 172 RX19 yX19_isProgram ow_k_X19_isProgram) := goodIn_app (goodIn_of _ (by decide +kernel)) (fun w h => ⟨List.mem_cons_of_mem _ (List.mem_append_right _ (List.mem_append_left _ h)), gd_k_X19_isProgram w h⟩)
set_option maxHeartbeats 40000000 in
set_option maxRecDepth 100000 in
theorem k_X19_hasByte (l : Launch) (hlt : l.stackTraces = false) (dC : Nat → ClassId) (dI : Nat → Nat → Nat) (c0 : Nat) (c1 : Nat) (c2 : ClassId) (c3 : Int32) (c4 : Int32) (c5 : Nat) (c6 : Nat) (c7 : Nat) (c8 : Nat) (c9 : Nat) (c10 : Nat) (c11 : Nat) (c12 : Nat) (c13 : Nat) (c14 : Nat) (c15 : Nat) (c16 : Nat) (c17 : Nat) (c18 : Nat) (c19 : Nat) (c20 : Nat) (c21 : Nat) (c22 : Nat) (c23 : Nat) (c24 : Nat) (c25 : Nat) (c26 : Nat) (sz : Nat) : Met l yX19_hasByte ow_k_X19_hasByte ({ frames := 2, cells := 0, slots := 0, locals := 46 }) (va_Pc [.ref c0, .int c3, .int c4] (fun U => U.heap.size = sz ∧ va_P (dC, dI) vwCl [(c0, .inr (20, [.int 0, .ref c5, .int 0, .int 0, .ref c1, .ref c6, .ref c7, .ref c8, .ref c9, .ref c10, .ref c11, .ref c12, .ref c13, .ref c14, .ref c15, .ref c16, .ref c17, .int 0, .int 0, .int 0, .int 0, .int 0, .int 0, .int 0, .int 0, .int 0, .ref c18, .ref c19, .ref c20, .ref c21, .ref c22, .ref c23, .ref c24, .ref c25, .ref c26, .int 0])), (c1, .inl (c2, 4, .inl (fun _ => 0)))] U.heap ∧ va_K (dC, dI) vwCl [(c2, .boolean)] U ∧ va_D (fun _ => True) [(c0, .inr (20, [.int 0, .ref c5, .int 0, .int 0, .ref c1, .ref c6, .ref c7, .ref c8, .ref c9, .ref c10, .ref c11, .ref c12, .ref c13, .ref c14, .ref c15, .ref c16, .ref c17, .int 0, .int 0, .int 0, .int 0, .int 0, .int 0, .int 0, .int 0, .int 0, .ref c18, .ref c19, .ref c20, .ref c21, .ref c22, .ref c23, .ref c24, .ref c25, .ref c26, .int 0])), (c1, .inl (c2, 4, .inl (fun _ => 0)))] ∧ nv_E (va_A [(c0, .inr (20, [.int 0, .ref c5, .int 0, .int 0, .ref c1, .ref c6, .ref c7, .ref c8, .ref c9, .ref c10, .ref c11, .ref c12, .ref c13, .ref c14, .ref c15, .ref c16, .ref c17, .int 0, .int 0, .int 0, .int 0, .int 0, .int 0, .int 0, .int 0, .int 0, .ref c18, .ref c19, .ref c20, .ref c21, .ref c22, .ref c23, .ref c24, .ref c25, .ref c26, .int 0])), (c1, .inl (c2, 4, .inl (fun _ => 0)))] sz) U)) (va_Qi (fun r _ => r = 0) (fun (_ : Unit) t => va_P (dC, dI) vwCl [(c0, .inr (20, [.int 0, .ref c5, .int 0, .int 0, .ref c1, .ref c6, .ref c7, .ref c8, .ref c9, .ref c10, .ref c11, .ref c12, .ref c13, .ref c14, .ref c15, .ref c16, .ref c17, .int 0, .int 0, .int 0, .int 0, .int 0, .int 0, .int 0, .int 0, .int 0, .ref c18, .ref c19, .ref c20, .ref c21, .ref c22, .ref c23, .ref c24, .ref c25, .ref c26, .int 0])), (c1, .inl (c2, 4, .inl (fun _ => 0)))] t.heap ∧ va_K (dC, dI) vwCl [(c2, .boolean)] t ∧ va_D (va_A [(c0, .inr (20, [.int 0, .ref c5, .int 0, .int 0, .ref c1, .ref c6, .ref c7, .ref c8, .ref c9, .ref c10, .ref c11, .ref c12, .ref c13, .ref c14, .ref c15, .ref c16, .ref c17, .int 0, .int 0, .int 0, .int 0, .int 0, .int 0, .int 0, .int 0, .int 0, .ref c18, .ref c19, .ref c20, .ref c21, .ref c22, .ref c23, .ref c24, .ref c25, .ref c26, .int 0])), (c1, .inl (c2, 4, .inl (fun _ => 0)))] sz) [(c0, .inr (20, [.int 0, .ref c5, .int 0, .int 0, .ref c1, .ref c6, .ref c7, .ref c8, .ref c9, .ref c10, .ref c11, .ref c12, .ref c13, .ref c14, .ref c15, .ref c16, .ref c17, .int 0, .int 0, .int 0, .int 0, .int 0, .int 0, .int 0, .int 0, .int 0, .ref c18, .ref c19, .ref c20, .ref c21, .ref c22, .ref c23, .ref c24, .ref c25, .ref c26, .int 0])), (c1, .inl (c2, 4, .inl (fun _ => 0)))]) (va_A [(c0, .inr (20, [.int 0, .ref c5, .int 0, .int 0, .ref c1, .ref c6, .ref c7, .ref c8, .ref c9, .ref c10, .ref c11, .ref c12, .ref c13, .ref c14, .ref c15, .ref c16, .ref c17, .int 0, .int 0, .int 0, .int 0, .int 0, .int 0, .int 0, .int 0, .int 0, .ref c18, .ref c19, .ref c20, .ref c21, .ref c22, .ref c23, .ref c24, .ref c25, .ref c26, .int 0])), (c1, .inl (c2, 4, .inl (fun _ => 0)))] sz)) 0 0 (va_A [(c0, .inr (20, [.int 0, .ref c5, .int 0, .int 0, .ref c1, .ref c6, .ref c7, .ref c8, .ref c9, .ref c10, .ref c11, .ref c12, .ref c13, .ref c14, .ref c15, .ref c16, .ref c17, .int 0, .int 0, .int 0, .int 0, .int 0, .int 0, .int 0, .int 0, .int 0, .ref c18, .ref c19, .ref c20, .ref c21, .ref c22, .ref c23, .ref c24, .ref c25, .ref c26, .int 0])), (c1, .inl (c2, 4, .inl (fun _ => 0)))] sz) := by
  refine Met.ofW (cc := cX19_hasByte) (maxL := 3) (ret := (some .boolean)) (by decide) rfl ?_
  intro p e s m args below meth c s₁ B hml hv
  obtain ⟨rfl, hsz, hP, hK, hD0, hN⟩ := hv
  have hx := B.exec
  have hb := B.bytes
  have hr := B.returns
  have hts := atoms_spec (ws := ow_k_X19_hasByte) B.pre
  have hown : s.vm.findClass RX19 = some m.cls := findClass_of_methodNamed B.named
  have hlocks := B.notSynchronized
  subst hsz
  have hD := hD0.self (sz := s.heap.size)
  generalize hAe : va_A [(c0, .inr (20, [.int 0, .ref c5, .int 0, .int 0, .ref c1, .ref c6, .ref c7, .ref c8, .ref c9, .ref c10, .ref c11, .ref c12, .ref c13, .ref c14, .ref c15, .ref c16, .ref c17, .int 0, .int 0, .int 0, .int 0, .int 0, .int 0, .int 0, .int 0, .int 0, .ref c18, .ref c19, .ref c20, .ref c21, .ref c22, .ref c23, .ref c24, .ref c25, .ref c26, .int 0])), (c1, .inl (c2, 4, .inl (fun _ => 0)))] s.heap.size = A at hD hN ⊢
  have hA : ∀ q : Nat, s.heap.size ≤ q → A q := fun q h => by rw [← hAe]; exact Or.inr h
  have hS : va_S A s.heap s.heap [] := va_S.rf
  have hl := lv_entry ([.ref c0, .int c3, .int c4]) (n := 3) (Nat.le_of_ble_eq_true rfl)
  rw [lg_entry_eq]
  generalize (lg_sl ([.ref c0, .int c3, .int c4]) ++ List.replicate (3 - (lg_sl ([.ref c0, .int c3, .int c4])).length) Slot.unset).toArray = ls at hl ⊢
  have hl : lv_has ls 3 [(0, .ref c0), (1, .int c3), (2, .int c4)] := hl
  refine lv_aload_n hx hb dX19_hasByte_0 rfl (lv_at hl 0 rfl) ?_
  refine lv_iload_n hx hb dX19_hasByte_1 rfl (lv_at hl 1 rfl) ?_
  have hPc := hP.sub (ws' := [(c0, .inr (20, [.int 0, .ref c5, .int 0, .int 0, .ref c1, .ref c6, .ref c7, .ref c8, .ref c9, .ref c10, .ref c11, .ref c12, .ref c13, .ref c14, .ref c15, .ref c16, .ref c17, .int 0, .int 0, .int 0, .int 0, .int 0, .int 0, .int 0, .int 0, .int 0, .ref c18, .ref c19, .ref c20, .ref c21, .ref c22, .ref c23, .ref c24, .ref c25, .ref c26, .int 0])), (c1, .inl (c2, 4, .inl (fun _ => 0)))]) [0, 1] rfl
  have hDc := hD.sub (ws' := [(c0, .inr (20, [.int 0, .ref c5, .int 0, .int 0, .ref c1, .ref c6, .ref c7, .ref c8, .ref c9, .ref c10, .ref c11, .ref c12, .ref c13, .ref c14, .ref c15, .ref c16, .ref c17, .int 0, .int 0, .int 0, .int 0, .int 0, .int 0, .int 0, .int 0, .int 0, .ref c18, .ref c19, .ref c20, .ref c21, .ref c22, .ref c23, .ref c24, .ref c25, .ref c26, .int 0])), (c1, .inl (c2, 4, .inl (fun _ => 0)))]) [0, 1] (by decide) rfl
  have hKc := hK.sub (tys' := [(c2, .boolean)]) [0] rfl
  have hFc := va_free (wc := [(c0, .inr (20, [.int 0, .ref c5, .int 0, .int 0, .ref c1, .ref c6, .ref c7, .ref c8, .ref c9, .ref c10, .ref c11, .ref c12, .ref c13, .ref c14, .ref c15, .ref c16, .ref c17, .int 0, .int 0, .int 0, .int 0, .int 0, .int 0, .int 0, .int 0, .int 0, .ref c18, .ref c19, .ref c20, .ref c21, .ref c22, .ref c23, .ref c24, .ref c25, .ref c26, .int 0])), (c1, .inl (c2, 4, .inl (fun _ => 0)))]) hD hS hA [0, 1] rfl
  refine va_calli (va_runV (As := [.int c3]) (rest := []) ⟨hx, hb, hml, hown, hts⟩ (k_X19_isProgram l hlt dC dI c0 c1 c2 c3 c5 c6 c7 c8 c9 c10 c11 c12 c13 c14 c15 c16 c17 c18 c19 c20 c21 c22 c23 c24 c25 c26  s.heap.size) (cwV 1 hts gi_k_X19_hasByte_0 rfl rfl rfl (by decide +kernel) ⟨Nat.le_of_ble_eq_true rfl, Nat.le_of_ble_eq_true rfl⟩) ⟨fun a U g mk q => by obtain ⟨q0, q1, qP, qK, qD, qN⟩ := q; exact ⟨q0, q1, qP, va_K.moved (u := U) (U := U.calling g mk a) (Vm.Alike.refl U.vm) qK, qD, nv_same rfl rfl qN⟩, va_recv hKc hPc (ci := 20) (q0 := 0) rfl rfl, fun U hU hW => ⟨rfl, by rw [hU], by rw [hU]; exact hPc, va_K.moved hW.alike hKc, hDc.weaken (fun _ _ _ _ => trivial), nv_call hS hFc hU hW hN⟩⟩ rfl rfl hl.1 rfl (lv_room (Nat.le_of_ble_eq_true rfl)) dX19_hasByte_2 ⟨by decide +kernel, by decide +kernel⟩) hS (fun q _ h => hFc q h) hFc (fun r1 u t H1 locs ht hvm hw hB hz1 hk1 hS => ?_)
  obtain ⟨hP1, hK1, hD1⟩ := hB
  rw [ht] at hP1
  have hK1 := va_K.moved hvm.symm hK1
  obtain rfl : r1 = 0 := by rcases hw with ⟨_, h9⟩ | ⟨_, _, h9⟩ | ⟨_, _, h9⟩ | h9 <;> first | exact h9 | exact h9.elim
  obtain ⟨hP, hD⟩ := va_join (wr := []) (w1 := [(c0, .inr (20, [.int 0, .ref c5, .int 0, .int 0, .ref c1, .ref c6, .ref c7, .ref c8, .ref c9, .ref c10, .ref c11, .ref c12, .ref c13, .ref c14, .ref c15, .ref c16, .ref c17, .int 0, .int 0, .int 0, .int 0, .int 0, .int 0, .int 0, .int 0, .int 0, .ref c18, .ref c19, .ref c20, .ref c21, .ref c22, .ref c23, .ref c24, .ref c25, .ref c26, .int 0])), (c1, .inl (c2, 4, .inl (fun _ => 0)))]) hP hD [0, 1] [] rfl rfl (by decide) (by decide) hk1 hFc hP1 hD1
  have hK := (hK.sub (tys' := []) [] rfl).app hK1
  generalize H1 = H at hP hS ⊢
  have hP : va_P (dC, dI) vwCl [(c0, .inr (20, [.int 0, .ref c5, .int 0, .int 0, .ref c1, .ref c6, .ref c7, .ref c8, .ref c9, .ref c10, .ref c11, .ref c12, .ref c13, .ref c14, .ref c15, .ref c16, .ref c17, .int 0, .int 0, .int 0, .int 0, .int 0, .int 0, .int 0, .int 0, .int 0, .ref c18, .ref c19, .ref c20, .ref c21, .ref c22, .ref c23, .ref c24, .ref c25, .ref c26, .int 0])), (c1, .inl (c2, 4, .inl (fun _ => 0)))] H := hP
  have hD : va_D A [(c0, .inr (20, [.int 0, .ref c5, .int 0, .int 0, .ref c1, .ref c6, .ref c7, .ref c8, .ref c9, .ref c10, .ref c11, .ref c12, .ref c13, .ref c14, .ref c15, .ref c16, .ref c17, .int 0, .int 0, .int 0, .int 0, .int 0, .int 0, .int 0, .int 0, .int 0, .ref c18, .ref c19, .ref c20, .ref c21, .ref c22, .ref c23, .ref c24, .ref c25, .ref c26, .int 0])), (c1, .inl (c2, 4, .inl (fun _ => 0)))] := hD
  have hK : va_K (dC, dI) vwCl [(c2, .boolean)] s := hK
  refine W.widen (k := 0) (n := 0) (by decide +kernel) (by decide +kernel) ?_
  refine lv_if_eq (tgt := 26) hx hb dX19_hasByte_5 (by decide) (fun _ => ?_) (fun h9 => absurd (by decide) h9)
  refine lv_iconst (v := 0) hx hb dX19_hasByte_26 (by decide) ?_
  have hP9 := hP.sub (ws' := [(c0, .inr (20, [.int 0, .ref c5, .int 0, .int 0, .ref c1, .ref c6, .ref c7, .ref c8, .ref c9, .ref c10, .ref c11, .ref c12, .ref c13, .ref c14, .ref c15, .ref c16, .ref c17, .int 0, .int 0, .int 0, .int 0, .int 0, .int 0, .int 0, .int 0, .int 0, .ref c18, .ref c19, .ref c20, .ref c21, .ref c22, .ref c23, .ref c24, .ref c25, .ref c26, .int 0])), (c1, .inl (c2, 4, .inl (fun _ => 0)))]) [0, 1] rfl
  have hD9 := hD.sub (ws' := [(c0, .inr (20, [.int 0, .ref c5, .int 0, .int 0, .ref c1, .ref c6, .ref c7, .ref c8, .ref c9, .ref c10, .ref c11, .ref c12, .ref c13, .ref c14, .ref c15, .ref c16, .ref c17, .int 0, .int 0, .int 0, .int 0, .int 0, .int 0, .int 0, .int 0, .int 0, .ref c18, .ref c19, .ref c20, .ref c21, .ref c22, .ref c23, .ref c24, .ref c25, .ref c26, .int 0])), (c1, .inl (c2, 4, .inl (fun _ => 0)))]) [0, 1] (by decide) rfl
  have hK9 := hK.sub (tys' := [(c2, .boolean)]) [0] rfl
  refine W.widen (k := 0) (n := 0) (by decide +kernel) (by decide +kernel) ?_
  exact W.zret (v := 0) hx hb hr (by decide) (fun t ht hW => ⟨⟨0, (), rfl, rfl, by rw [ht]; exact hP9, va_K.moved hW.alike hK9, hD9⟩, hS.F ht⟩) hS.2.2 dX19_hasByte_27
def ow_k_X19_image : List Cond := .code yX19_image cX19_image 3 (some .int) :: ([.fieldLink RX19 113 "TimeMachineModel" "code" "I", .methodLink RX19 175 yX19_hasByte, .instanceMethod yX19_hasByte, .selects RX19 yX19_hasByte yX19_hasByte, .initialized RX19] ++ (u_ws RX19 TX19 36 ++ (ow_k_X19_hasByte ++ [])))
theorem gd_k_X19_image : ∀ w ∈ ow_k_X19_image, (w.onTables && w.keeps) = true ∨ ∃ ty, w = Cond.arrayClass ty := List.forall_mem_cons.mpr ⟨good_of_word rfl, List.forall_mem_append.mpr ⟨fun w h => good_of_word (List.all_eq_true.mp (by decide +kernel) w h), List.forall_mem_append.mpr ⟨gu_X19, List.forall_mem_append.mpr ⟨gd_k_X19_hasByte, fun _ h => nomatch h⟩⟩⟩⟩
theorem hi_k_X19_image_X19 : ∀ w ∈ u_ws RX19 TX19 36, w ∈ ow_k_X19_image := fun w h => List.mem_cons_of_mem _ (List.mem_append_right _ (List.mem_append_left _ h))
theorem gi_k_X19_image_0 : GoodIn ow_k_X19_image (wsV RX19 175 RX19 yX19_hasByte ow_k_X19_hasByte) := goodIn_app (goodIn_of _ (by decide +kernel)) (fun w h => ⟨List.mem_cons_of_mem _ (List.mem_append_right _ (List.mem_append_right _ (List.mem_append_left _ h))), gd_k_X19_hasByte w h⟩)
set_option maxHeartbeats 40000000 in
set_option maxRecDepth 100000 in
theorem k_X19_image (l : Launch) (hlt : l.stackTraces = false) (dC : Nat → ClassId) (dI : Nat → Nat → Nat) (c0 : Nat) (c1 : Nat) (c2 : ClassId) (c3 : Int32) (c4 : Int32) (c5 : Nat) (c6 : Nat) (c7 : Nat) (c8 : Nat) (c9 : Nat) (c10 : Nat) (c11 : Nat) (c12 : Nat) (c13 : Nat) (c14 : Nat) (c15 : Nat) (c16 : Nat) (c17 : Nat) (c18 : Nat) (c19 : Nat) (c20 : Nat) (c21 : Nat) (c22 : Nat) (c23 : Nat) (c24 : Nat) (c25 : Nat) (c26 : Nat) (sz : Nat) : Met l yX19_image ow_k_X19_image ({ frames := 3, cells := 0, slots := 0, locals := 68 }) (va_Pc [.ref c0, .int c3, .int c4] (fun U => U.heap.size = sz ∧ va_P (dC, dI) vwCl [(c0, .inr (20, [.int 0, .ref c5, .int 0, .int 0, .ref c1, .ref c6, .ref c7, .ref c8, .ref c9, .ref c10, .ref c11, .ref c12, .ref c13, .ref c14, .ref c15, .ref c16, .ref c17, .int 0, .int 0, .int 0, .int 0, .int 0, .int 0, .int 0, .int 0, .int 0, .ref c18, .ref c19, .ref c20, .ref c21, .ref c22, .ref c23, .ref c24, .ref c25, .ref c26, .int 0])), (c1, .inl (c2, 4, .inl (fun _ => 0)))] U.heap ∧ va_K (dC, dI) vwCl [(c2, .boolean)] U ∧ va_D (fun _ => True) [(c0, .inr (20, [.int 0, .ref c5, .int 0, .int 0, .ref c1, .ref c6, .ref c7, .ref c8, .ref c9, .ref c10, .ref c11, .ref c12, .ref c13, .ref c14, .ref c15, .ref c16, .ref c17, .int 0, .int 0, .int 0, .int 0, .int 0, .int 0, .int 0, .int 0, .int 0, .ref c18, .ref c19, .ref c20, .ref c21, .ref c22, .ref c23, .ref c24, .ref c25, .ref c26, .int 0])), (c1, .inl (c2, 4, .inl (fun _ => 0)))] ∧ nv_E (va_A [(c0, .inr (20, [.int 0, .ref c5, .int 0, .int 0, .ref c1, .ref c6, .ref c7, .ref c8, .ref c9, .ref c10, .ref c11, .ref c12, .ref c13, .ref c14, .ref c15, .ref c16, .ref c17, .int 0, .int 0, .int 0, .int 0, .int 0, .int 0, .int 0, .int 0, .int 0, .ref c18, .ref c19, .ref c20, .ref c21, .ref c22, .ref c23, .ref c24, .ref c25, .ref c26, .int 0])), (c1, .inl (c2, 4, .inl (fun _ => 0)))] sz) U)) (va_Qi (fun r _ => r = (-1)) (fun (_ : Unit) t => va_P (dC, dI) vwCl [(c0, .inr (20, [.int 0, .ref c5, .int 0, .int 0, .ref c1, .ref c6, .ref c7, .ref c8, .ref c9, .ref c10, .ref c11, .ref c12, .ref c13, .ref c14, .ref c15, .ref c16, .ref c17, .int 0, .int 0, .int 0, .int 0, .int 0, .int 0, .int 0, .int 0, .int 0, .ref c18, .ref c19, .ref c20, .ref c21, .ref c22, .ref c23, .ref c24, .ref c25, .ref c26, .int 0])), (c1, .inl (c2, 4, .inl (fun _ => 0)))] t.heap ∧ va_K (dC, dI) vwCl [(c2, .boolean)] t ∧ va_D (va_A [(c0, .inr (20, [.int 0, .ref c5, .int 0, .int 0, .ref c1, .ref c6, .ref c7, .ref c8, .ref c9, .ref c10, .ref c11, .ref c12, .ref c13, .ref c14, .ref c15, .ref c16, .ref c17, .int 0, .int 0, .int 0, .int 0, .int 0, .int 0, .int 0, .int 0, .int 0, .ref c18, .ref c19, .ref c20, .ref c21, .ref c22, .ref c23, .ref c24, .ref c25, .ref c26, .int 0])), (c1, .inl (c2, 4, .inl (fun _ => 0)))] sz) [(c0, .inr (20, [.int 0, .ref c5, .int 0, .int 0, .ref c1, .ref c6, .ref c7, .ref c8, .ref c9, .ref c10, .ref c11, .ref c12, .ref c13, .ref c14, .ref c15, .ref c16, .ref c17, .int 0, .int 0, .int 0, .int 0, .int 0, .int 0, .int 0, .int 0, .int 0, .ref c18, .ref c19, .ref c20, .ref c21, .ref c22, .ref c23, .ref c24, .ref c25, .ref c26, .int 0])), (c1, .inl (c2, 4, .inl (fun _ => 0)))]) (va_A [(c0, .inr (20, [.int 0, .ref c5, .int 0, .int 0, .ref c1, .ref c6, .ref c7, .ref c8, .ref c9, .ref c10, .ref c11, .ref c12, .ref c13, .ref c14, .ref c15, .ref c16, .ref c17, .int 0, .int 0, .int 0, .int 0, .int 0, .int 0, .int 0, .int 0, .int 0, .ref c18, .ref c19, .ref c20, .ref c21, .ref c22, .ref c23, .ref c24, .ref c25, .ref c26, .int 0])), (c1, .inl (c2, 4, .inl (fun _ => 0)))] sz)) 0 0 (va_A [(c0, .inr (20, [.int 0, .ref c5, .int 0, .int 0, .ref c1, .ref c6, .ref c7, .ref c8, .ref c9, .ref c10, .ref c11, .ref c12, .ref c13, .ref c14, .ref c15, .ref c16, .ref c17, .int 0, .int 0, .int 0, .int 0, .int 0, .int 0, .int 0, .int 0, .int 0, .ref c18, .ref c19, .ref c20, .ref c21, .ref c22, .ref c23, .ref c24, .ref c25, .ref c26, .int 0])), (c1, .inl (c2, 4, .inl (fun _ => 0)))] sz) := by
  refine Met.ofW (cc := cX19_image) (maxL := 3) (ret := (some .int)) (by decide) rfl ?_
  intro p e s m args below meth c s₁ B hml hv
  obtain ⟨rfl, hsz, hP, hK, hD0, hN⟩ := hv
  have hx := B.exec
  have hb := B.bytes
  have hr := B.returns
  have hts := atoms_spec (ws := ow_k_X19_image) B.pre
  have hown : s.vm.findClass RX19 = some m.cls := findClass_of_methodNamed B.named
  have hlocks := B.notSynchronized
  subst hsz
  have hD := hD0.self (sz := s.heap.size)
  generalize hAe : va_A [(c0, .inr (20, [.int 0, .ref c5, .int 0, .int 0, .ref c1, .ref c6, .ref c7, .ref c8, .ref c9, .ref c10, .ref c11, .ref c12, .ref c13, .ref c14, .ref c15, .ref c16, .ref c17, .int 0, .int 0, .int 0, .int 0, .int 0, .int 0, .int 0, .int 0, .int 0, .ref c18, .ref c19, .ref c20, .ref c21, .ref c22, .ref c23, .ref c24, .ref c25, .ref c26, .int 0])), (c1, .inl (c2, 4, .inl (fun _ => 0)))] s.heap.size = A at hD hN ⊢
  have hA : ∀ q : Nat, s.heap.size ≤ q → A q := fun q h => by rw [← hAe]; exact Or.inr h
  have hS : va_S A s.heap s.heap [] := va_S.rf
  have hl := lv_entry ([.ref c0, .int c3, .int c4]) (n := 3) (Nat.le_of_ble_eq_true rfl)
  rw [lg_entry_eq]
  generalize (lg_sl ([.ref c0, .int c3, .int c4]) ++ List.replicate (3 - (lg_sl ([.ref c0, .int c3, .int c4])).length) Slot.unset).toArray = ls at hl ⊢
  have hl : lv_has ls 3 [(0, .ref c0), (1, .int c3), (2, .int c4)] := hl
  refine lv_aload_n hx hb dX19_image_0 rfl (lv_at hl 0 rfl) ?_
  refine lv_iconst (v := 0) hx hb dX19_image_1 (by decide) ?_
  refine va_put (D := (dC, dI)) (ci := 20) (v := .int 0) (ty := .int) (C := RX19) (T := TX19) (N := 36) hx hb hts hi_k_X19_image_X19 tyX19 tyX19_ok nmX19 hown hK hP hD hS 0 rfl rfl 0 (by decide) (hts (.fieldLink RX19 113 "TimeMachineModel" "code" "I") (List.mem_of_getElem? (i := 1) rfl)) (fun _ h9 => h9) rfl (by decide +kernel) rfl rfl (Nat.le_of_ble_eq_true rfl) dX19_image_2 (fun H locs hP hD hS => ?_)
  have hP : va_P (dC, dI) vwCl [(c0, .inr (20, [.int 0, .ref c5, .int 0, .int 0, .ref c1, .ref c6, .ref c7, .ref c8, .ref c9, .ref c10, .ref c11, .ref c12, .ref c13, .ref c14, .ref c15, .ref c16, .ref c17, .int 0, .int 0, .int 0, .int 0, .int 0, .int 0, .int 0, .int 0, .int 0, .ref c18, .ref c19, .ref c20, .ref c21, .ref c22, .ref c23, .ref c24, .ref c25, .ref c26, .int 0])), (c1, .inl (c2, 4, .inl (fun _ => 0)))] H := hP
  have hD : va_D A [(c0, .inr (20, [.int 0, .ref c5, .int 0, .int 0, .ref c1, .ref c6, .ref c7, .ref c8, .ref c9, .ref c10, .ref c11, .ref c12, .ref c13, .ref c14, .ref c15, .ref c16, .ref c17, .int 0, .int 0, .int 0, .int 0, .int 0, .int 0, .int 0, .int 0, .int 0, .ref c18, .ref c19, .ref c20, .ref c21, .ref c22, .ref c23, .ref c24, .ref c25, .ref c26, .int 0])), (c1, .inl (c2, 4, .inl (fun _ => 0)))] := hD
  refine lv_aload_n hx hb dX19_image_5 rfl (lv_at hl 0 rfl) ?_
  refine lv_iload_n hx hb dX19_image_6 rfl (lv_at hl 1 rfl) ?_
  refine lv_iload_n hx hb dX19_image_7 rfl (lv_at hl 2 rfl) ?_
  have hPc := hP.sub (ws' := [(c0, .inr (20, [.int 0, .ref c5, .int 0, .int 0, .ref c1, .ref c6, .ref c7, .ref c8, .ref c9, .ref c10, .ref c11, .ref c12, .ref c13, .ref c14, .ref c15, .ref c16, .ref c17, .int 0, .int 0, .int 0, .int 0, .int 0, .int 0, .int 0, .int 0, .int 0, .ref c18, .ref c19, .ref c20, .ref c21, .ref c22, .ref c23, .ref c24, .ref c25, .ref c26, .int 0])), (c1, .inl (c2, 4, .inl (fun _ => 0)))]) [0, 1] rfl
  have hDc := hD.sub (ws' := [(c0, .inr (20, [.int 0, .ref c5, .int 0, .int 0, .ref c1, .ref c6, .ref c7, .ref c8, .ref c9, .ref c10, .ref c11, .ref c12, .ref c13, .ref c14, .ref c15, .ref c16, .ref c17, .int 0, .int 0, .int 0, .int 0, .int 0, .int 0, .int 0, .int 0, .int 0, .ref c18, .ref c19, .ref c20, .ref c21, .ref c22, .ref c23, .ref c24, .ref c25, .ref c26, .int 0])), (c1, .inl (c2, 4, .inl (fun _ => 0)))]) [0, 1] (by decide) rfl
  have hKc := hK.sub (tys' := [(c2, .boolean)]) [0] rfl
  have hFc := va_free (wc := [(c0, .inr (20, [.int 0, .ref c5, .int 0, .int 0, .ref c1, .ref c6, .ref c7, .ref c8, .ref c9, .ref c10, .ref c11, .ref c12, .ref c13, .ref c14, .ref c15, .ref c16, .ref c17, .int 0, .int 0, .int 0, .int 0, .int 0, .int 0, .int 0, .int 0, .int 0, .ref c18, .ref c19, .ref c20, .ref c21, .ref c22, .ref c23, .ref c24, .ref c25, .ref c26, .int 0])), (c1, .inl (c2, 4, .inl (fun _ => 0)))]) hD hS hA [0, 1] rfl
  refine va_calli (va_runV (As := [.int c3, .int c4]) (rest := []) ⟨hx, hb, hml, hown, hts⟩ (k_X19_hasByte l hlt dC dI c0 c1 c2 c3 c4 c5 c6 c7 c8 c9 c10 c11 c12 c13 c14 c15 c16 c17 c18 c19 c20 c21 c22 c23 c24 c25 c26  H.size) (cwV 2 hts gi_k_X19_image_0 rfl rfl rfl (by decide +kernel) ⟨Nat.le_of_ble_eq_true rfl, Nat.le_of_ble_eq_true rfl⟩) ⟨fun a U g mk q => by obtain ⟨q0, q1, qP, qK, qD, qN⟩ := q; exact ⟨q0, q1, qP, va_K.moved (u := U) (U := U.calling g mk a) (Vm.Alike.refl U.vm) qK, qD, nv_same rfl rfl qN⟩, va_recv hKc hPc (ci := 20) (q0 := 0) rfl rfl, fun U hU hW => ⟨rfl, by rw [hU], by rw [hU]; exact hPc, va_K.moved hW.alike hKc, hDc.weaken (fun _ _ _ _ => trivial), nv_call hS hFc hU hW hN⟩⟩ rfl rfl hl.1 rfl (lv_room (Nat.le_of_ble_eq_true rfl)) dX19_image_8 ⟨by decide +kernel, by decide +kernel⟩) hS (fun q _ h => hFc q h) hFc (fun r1 u t H1 locs ht hvm hw hB hz1 hk1 hS => ?_)
  obtain ⟨hP1, hK1, hD1⟩ := hB
  rw [ht] at hP1
  have hK1 := va_K.moved hvm.symm hK1
  obtain rfl : r1 = 0 := hw
  obtain ⟨hP, hD⟩ := va_join (wr := []) (w1 := [(c0, .inr (20, [.int 0, .ref c5, .int 0, .int 0, .ref c1, .ref c6, .ref c7, .ref c8, .ref c9, .ref c10, .ref c11, .ref c12, .ref c13, .ref c14, .ref c15, .ref c16, .ref c17, .int 0, .int 0, .int 0, .int 0, .int 0, .int 0, .int 0, .int 0, .int 0, .ref c18, .ref c19, .ref c20, .ref c21, .ref c22, .ref c23, .ref c24, .ref c25, .ref c26, .int 0])), (c1, .inl (c2, 4, .inl (fun _ => 0)))]) hP hD [0, 1] [] rfl rfl (by decide) (by decide) hk1 hFc hP1 hD1
  have hK := (hK.sub (tys' := []) [] rfl).app hK1
  generalize H1 = H at hP hS ⊢
  have hP : va_P (dC, dI) vwCl [(c0, .inr (20, [.int 0, .ref c5, .int 0, .int 0, .ref c1, .ref c6, .ref c7, .ref c8, .ref c9, .ref c10, .ref c11, .ref c12, .ref c13, .ref c14, .ref c15, .ref c16, .ref c17, .int 0, .int 0, .int 0, .int 0, .int 0, .int 0, .int 0, .int 0, .int 0, .ref c18, .ref c19, .ref c20, .ref c21, .ref c22, .ref c23, .ref c24, .ref c25, .ref c26, .int 0])), (c1, .inl (c2, 4, .inl (fun _ => 0)))] H := hP
  have hD : va_D A [(c0, .inr (20, [.int 0, .ref c5, .int 0, .int 0, .ref c1, .ref c6, .ref c7, .ref c8, .ref c9, .ref c10, .ref c11, .ref c12, .ref c13, .ref c14, .ref c15, .ref c16, .ref c17, .int 0, .int 0, .int 0, .int 0, .int 0, .int 0, .int 0, .int 0, .int 0, .ref c18, .ref c19, .ref c20, .ref c21, .ref c22, .ref c23, .ref c24, .ref c25, .ref c26, .int 0])), (c1, .inl (c2, 4, .inl (fun _ => 0)))] := hD
  have hK : va_K (dC, dI) vwCl [(c2, .boolean)] s := hK
  refine W.widen (k := 0) (n := 0) (by decide +kernel) (by decide +kernel) ?_
  refine lv_if_eq (tgt := 32) hx hb dX19_image_11 (by decide) (fun _ => ?_) (fun h9 => absurd (by decide) h9)
  refine lv_iconst (v := (-1)) hx hb dX19_image_32 (by decide) ?_
  have hP9 := hP.sub (ws' := [(c0, .inr (20, [.int 0, .ref c5, .int 0, .int 0, .ref c1, .ref c6, .ref c7, .ref c8, .ref c9, .ref c10, .ref c11, .ref c12, .ref c13, .ref c14, .ref c15, .ref c16, .ref c17, .int 0, .int 0, .int 0, .int 0, .int 0, .int 0, .int 0, .int 0, .int 0, .ref c18, .ref c19, .ref c20, .ref c21, .ref c22, .ref c23, .ref c24, .ref c25, .ref c26, .int 0])), (c1, .inl (c2, 4, .inl (fun _ => 0)))]) [0, 1] rfl
  have hD9 := hD.sub (ws' := [(c0, .inr (20, [.int 0, .ref c5, .int 0, .int 0, .ref c1, .ref c6, .ref c7, .ref c8, .ref c9, .ref c10, .ref c11, .ref c12, .ref c13, .ref c14, .ref c15, .ref c16, .ref c17, .int 0, .int 0, .int 0, .int 0, .int 0, .int 0, .int 0, .int 0, .int 0, .ref c18, .ref c19, .ref c20, .ref c21, .ref c22, .ref c23, .ref c24, .ref c25, .ref c26, .int 0])), (c1, .inl (c2, 4, .inl (fun _ => 0)))]) [0, 1] (by decide) rfl
  have hK9 := hK.sub (tys' := [(c2, .boolean)]) [0] rfl
  refine W.widen (k := 0) (n := 0) (by decide +kernel) (by decide +kernel) ?_
  exact W.iret (v := (-1)) hx hb hr (fun t ht hW => ⟨⟨(-1), (), rfl, rfl, by rw [ht]; exact hP9, va_K.moved hW.alike hK9, hD9⟩, hS.F ht⟩) hS.2.2 dX19_image_33
def ow_k_X12_label : List Cond := .code yX12_label cX12_label 4 (some .int) :: ([.methodLink RX12 85 yX12_programOf, .instanceMethod yX12_programOf, .selects RX12 yX12_programOf yX12_programOf, .initialized RX12] ++ (ow_k_X12_programOf ++ []))
theorem gd_k_X12_label : ∀ w ∈ ow_k_X12_label, (w.onTables && w.keeps) = true ∨ ∃ ty, w = Cond.arrayClass ty := List.forall_mem_cons.mpr ⟨good_of_word rfl, List.forall_mem_append.mpr ⟨fun w h => good_of_word (List.all_eq_true.mp (by decide +kernel) w h), List.forall_mem_append.mpr ⟨gd_k_X12_programOf, fun _ h => nomatch h⟩⟩⟩
theorem gi_k_X12_label_0 : GoodIn ow_k_X12_label (wsV RX12 85 RX12 yX12_programOf ow_k_X12_programOf) := goodIn_app (goodIn_of _ (by decide +kernel)) (fun w h => ⟨List.mem_cons_of_mem _ (List.mem_append_right _ (List.mem_append_left _ h)), gd_k_X12_programOf w h⟩)
set_option maxHeartbeats 40000000 in
set_option maxRecDepth 100000 in
theorem k_X12_label (l : Launch) (hlt : l.stackTraces = false) (dC : Nat → ClassId) (dI : Nat → Nat → Nat) (c0 : Nat) (c1 : Nat) (c2 : ClassId) (c3 : Int32) (c4 : Int32) (c5 : Nat) (c6 : Nat) (c7 : Nat) (c8 : Nat) (c9 : Nat) (c10 : Nat) (c11 : Nat) (c12 : Nat) (sz : Nat) : Met l yX12_label ow_k_X12_label ({ frames := 1, cells := 0, slots := 0, locals := 21 }) (va_Pc [.ref c0, .int c3, .int c4] (fun U => U.heap.size = sz ∧ va_P (dC, dI) vwCl [(c0, .inr (13, [.ref c5, .int 0, .int 0, .ref c1, .ref c6, .ref c7, .ref c8, .ref c9, .ref c10, .ref c11, .int 0, .ref c12])), (c1, .inl (c2, 4, .inr (.inr (.inr (.inr (fun _ => none))))))] U.heap ∧ va_K (dC, dI) vwCl [(c2, .object RX8)] U ∧ va_D (fun _ => True) [(c0, .inr (13, [.ref c5, .int 0, .int 0, .ref c1, .ref c6, .ref c7, .ref c8, .ref c9, .ref c10, .ref c11, .int 0, .ref c12])), (c1, .inl (c2, 4, .inr (.inr (.inr (.inr (fun _ => none))))))] ∧ nv_E (va_A [(c0, .inr (13, [.ref c5, .int 0, .int 0, .ref c1, .ref c6, .ref c7, .ref c8, .ref c9, .ref c10, .ref c11, .int 0, .ref c12])), (c1, .inl (c2, 4, .inr (.inr (.inr (.inr (fun _ => none))))))] sz) U)) (va_Qi (fun r _ => r = (-1)) (fun (_ : Unit) t => va_P (dC, dI) vwCl [(c0, .inr (13, [.ref c5, .int 0, .int 0, .ref c1, .ref c6, .ref c7, .ref c8, .ref c9, .ref c10, .ref c11, .int 0, .ref c12])), (c1, .inl (c2, 4, .inr (.inr (.inr (.inr (fun _ => none))))))] t.heap ∧ va_K (dC, dI) vwCl [(c2, .object RX8)] t ∧ va_D (va_A [(c0, .inr (13, [.ref c5, .int 0, .int 0, .ref c1, .ref c6, .ref c7, .ref c8, .ref c9, .ref c10, .ref c11, .int 0, .ref c12])), (c1, .inl (c2, 4, .inr (.inr (.inr (.inr (fun _ => none))))))] sz) [(c0, .inr (13, [.ref c5, .int 0, .int 0, .ref c1, .ref c6, .ref c7, .ref c8, .ref c9, .ref c10, .ref c11, .int 0, .ref c12])), (c1, .inl (c2, 4, .inr (.inr (.inr (.inr (fun _ => none))))))]) (va_A [(c0, .inr (13, [.ref c5, .int 0, .int 0, .ref c1, .ref c6, .ref c7, .ref c8, .ref c9, .ref c10, .ref c11, .int 0, .ref c12])), (c1, .inl (c2, 4, .inr (.inr (.inr (.inr (fun _ => none))))))] sz)) 0 0 (va_A [(c0, .inr (13, [.ref c5, .int 0, .int 0, .ref c1, .ref c6, .ref c7, .ref c8, .ref c9, .ref c10, .ref c11, .int 0, .ref c12])), (c1, .inl (c2, 4, .inr (.inr (.inr (.inr (fun _ => none))))))] sz) := by
  refine Met.ofW (cc := cX12_label) (maxL := 4) (ret := (some .int)) (by decide) rfl ?_
  intro p e s m args below meth c s₁ B hml hv
  obtain ⟨rfl, hsz, hP, hK, hD0, hN⟩ := hv
  have hx := B.exec
  have hb := B.bytes
  have hr := B.returns
  have hts := atoms_spec (ws := ow_k_X12_label) B.pre
  have hown : s.vm.findClass RX12 = some m.cls := findClass_of_methodNamed B.named
  have hlocks := B.notSynchronized
  subst hsz
  have hD := hD0.self (sz := s.heap.size)
  generalize hAe : va_A [(c0, .inr (13, [.ref c5, .int 0, .int 0, .ref c1, .ref c6, .ref c7, .ref c8, .ref c9, .ref c10, .ref c11, .int 0, .ref c12])), (c1, .inl (c2, 4, .inr (.inr (.inr (.inr (fun _ => none))))))] s.heap.size = A at hD hN ⊢
  have hA : ∀ q : Nat, s.heap.size ≤ q → A q := fun q h => by rw [← hAe]; exact Or.inr h
  have hS : va_S A s.heap s.heap [] := va_S.rf
  have hl := lv_entry ([.ref c0, .int c3, .int c4]) (n := 4) (Nat.le_of_ble_eq_true rfl)
  rw [lg_entry_eq]
  generalize (lg_sl ([.ref c0, .int c3, .int c4]) ++ List.replicate (4 - (lg_sl ([.ref c0, .int c3, .int c4])).length) Slot.unset).toArray = ls at hl ⊢
  have hl : lv_has ls 4 [(0, .ref c0), (1, .int c3), (2, .int c4)] := hl
  refine lv_aload_n hx hb dX12_label_0 rfl (lv_at hl 0 rfl) ?_
  refine lv_iload_n hx hb dX12_label_1 rfl (lv_at hl 1 rfl) ?_
  have hPc := hP.sub (ws' := [(c0, .inr (13, [.ref c5, .int 0, .int 0, .ref c1, .ref c6, .ref c7, .ref c8, .ref c9, .ref c10, .ref c11, .int 0, .ref c12])), (c1, .inl (c2, 4, .inr (.inr (.inr (.inr (fun _ => none))))))]) [0, 1] rfl
  have hDc := hD.sub (ws' := [(c0, .inr (13, [.ref c5, .int 0, .int 0, .ref c1, .ref c6, .ref c7, .ref c8, .ref c9, .ref c10, .ref c11, .int 0, .ref c12])), (c1, .inl (c2, 4, .inr (.inr (.inr (.inr (fun _ => none))))))]) [0, 1] (by decide) rfl
  have hKc := hK.sub (tys' := [(c2, .object RX8)]) [0] rfl
  have hFc := va_free (wc := [(c0, .inr (13, [.ref c5, .int 0, .int 0, .ref c1, .ref c6, .ref c7, .ref c8, .ref c9, .ref c10, .ref c11, .int 0, .ref c12])), (c1, .inl (c2, 4, .inr (.inr (.inr (.inr (fun _ => none))))))]) hD hS hA [0, 1] rfl
  refine va_callq (va_runV (As := [.int c3]) (rest := []) ⟨hx, hb, hml, hown, hts⟩ (k_X12_programOf l hlt dC dI c0 c1 c2 c3 c5 c6 c7 c8 c9 c10 c11 c12  s.heap.size) (cwV 1 hts gi_k_X12_label_0 rfl rfl rfl (by decide +kernel) ⟨Nat.le_of_ble_eq_true rfl, Nat.le_of_ble_eq_true rfl⟩) ⟨fun a U g mk q => by obtain ⟨q0, q1, qP, qK, qD, qN⟩ := q; exact ⟨q0, q1, qP, va_K.moved (u := U) (U := U.calling g mk a) (Vm.Alike.refl U.vm) qK, qD, nv_same rfl rfl qN⟩, va_recv hKc hPc (ci := 13) (q0 := 0) rfl rfl, fun U hU hW => ⟨rfl, by rw [hU], by rw [hU]; exact hPc, va_K.moved hW.alike hKc, hDc.weaken (fun _ _ _ _ => trivial), nv_call hS hFc hU hW hN⟩⟩ rfl rfl hl.1 rfl (lv_room (Nat.le_of_ble_eq_true rfl)) dX12_label_2 ⟨by decide +kernel, by decide +kernel⟩) hS (fun q _ h => hFc q h) hFc (fun r1 u t H1 locs ht hvm hw hB hz1 hk1 hS => ?_)
  obtain ⟨hP1, hK1, hD1⟩ := hB
  rw [ht] at hP1
  have hK1 := va_K.moved hvm.symm hK1
  obtain rfl : r1 = none := by rcases hw with ⟨_, h9⟩ | ⟨_, _, h9⟩ | ⟨_, _, h9⟩ | h9 <;> first | exact h9 | exact h9.elim
  obtain ⟨hP, hD⟩ := va_join (wr := []) (w1 := [(c0, .inr (13, [.ref c5, .int 0, .int 0, .ref c1, .ref c6, .ref c7, .ref c8, .ref c9, .ref c10, .ref c11, .int 0, .ref c12])), (c1, .inl (c2, 4, .inr (.inr (.inr (.inr (fun _ => none))))))]) hP hD [0, 1] [] rfl rfl (by decide) (by decide) hk1 hFc hP1 hD1
  have hK := (hK.sub (tys' := []) [] rfl).app hK1
  generalize H1 = H at hP hS ⊢
  have hP : va_P (dC, dI) vwCl [(c0, .inr (13, [.ref c5, .int 0, .int 0, .ref c1, .ref c6, .ref c7, .ref c8, .ref c9, .ref c10, .ref c11, .int 0, .ref c12])), (c1, .inl (c2, 4, .inr (.inr (.inr (.inr (fun _ => none))))))] H := hP
  have hD : va_D A [(c0, .inr (13, [.ref c5, .int 0, .int 0, .ref c1, .ref c6, .ref c7, .ref c8, .ref c9, .ref c10, .ref c11, .int 0, .ref c12])), (c1, .inl (c2, 4, .inr (.inr (.inr (.inr (fun _ => none))))))] := hD
  have hK : va_K (dC, dI) vwCl [(c2, .object RX8)] s := hK
  refine W.widen (k := 0) (n := 0) (by decide +kernel) (by decide +kernel) ?_
  refine lv_astore_nN (lv' := [(3, .null), (0, .ref c0), (1, .int c3), (2, .int c4)]) hx hb dX12_label_5 rfl hl (by decide) rfl (fun ls hl => ?_)
  refine lv_aload_nN hx hb dX12_label_6 rfl (lv_at hl 0 rfl) ?_
  refine lv_ifnullN (tgt := 22) hx hb dX12_label_7 (by decide) ?_
  refine lv_iconst (v := (-1)) hx hb dX12_label_22 (by decide) ?_
  refine lv_goto (tgt := 32) hx hb dX12_label_23 (by decide) ?_
  have hP9 := hP.sub (ws' := [(c0, .inr (13, [.ref c5, .int 0, .int 0, .ref c1, .ref c6, .ref c7, .ref c8, .ref c9, .ref c10, .ref c11, .int 0, .ref c12])), (c1, .inl (c2, 4, .inr (.inr (.inr (.inr (fun _ => none))))))]) [0, 1] rfl
  have hD9 := hD.sub (ws' := [(c0, .inr (13, [.ref c5, .int 0, .int 0, .ref c1, .ref c6, .ref c7, .ref c8, .ref c9, .ref c10, .ref c11, .int 0, .ref c12])), (c1, .inl (c2, 4, .inr (.inr (.inr (.inr (fun _ => none))))))]) [0, 1] (by decide) rfl
  have hK9 := hK.sub (tys' := [(c2, .object RX8)]) [0] rfl
  refine W.widen (k := 0) (n := 0) (by decide +kernel) (by decide +kernel) ?_
  exact W.iret (v := (-1)) hx hb hr (fun t ht hW => ⟨⟨(-1), (), rfl, rfl, by rw [ht]; exact hP9, va_K.moved hW.alike hK9, hD9⟩, hS.F ht⟩) hS.2.2 dX12_label_32
def ow_k_X19_label : List Cond := .code yX19_label cX19_label 3 (some .int) :: ([.fieldLink RX19 113 "TimeMachineModel" "code" "I", .methodLink RX19 172 yX19_isProgram, .instanceMethod yX19_isProgram, .selects RX19 yX19_isProgram yX19_isProgram, .initialized RX19] ++ (u_ws RX19 TX19 36 ++ (ow_k_X19_isProgram ++ [])))
theorem gd_k_X19_label : ∀ w ∈ ow_k_X19_label, (w.onTables && w.keeps) = true ∨ ∃ ty, w = Cond.arrayClass ty := List.forall_mem_cons.mpr ⟨good_of_word rfl, List.forall_mem_append.mpr ⟨fun w h => good_of_word (List.all_eq_true.mp (by decide +kernel) w h), List.forall_mem_append.mpr ⟨gu_X19, List.forall_mem_append.mpr ⟨gd_k_X19_isProgram, fun _ h => nomatch h⟩⟩⟩⟩
theorem hi_k_X19_label_X19 : ∀ w ∈ u_ws RX19 TX19 36, w ∈ ow_k_X19_label := fun w h => List.mem_cons_of_mem _ (List.mem_append_right _ (List.mem_append_left _ h))
theorem gi_k_X19_label_0 : GoodIn ow_k_X19_label (wsV RX19 172 RX19 yX19_isProgram ow_k_X19_isProgram) := goodIn_app (goodIn_of _ (by decide +kernel)) (fun w h => ⟨List.mem_cons_of_mem _ (List.mem_append_right _ (List.mem_append_right _ (List.mem_append_left _ h))), gd_k_X19_isProgram w h⟩)
set_option maxHeartbeats 40000000 in
set_option maxRecDepth 100000 in
theorem k_X19_label (l : Launch) (hlt : l.stackTraces = false) (dC : Nat → ClassId) (dI : Nat → Nat → Nat) (c0 : Nat) (c1 : Nat) (c2 : ClassId) (c3 : Int32) (c4 : Int32) (c5 : Nat) (c6 : Nat) (c7 : Nat) (c8 : Nat) (c9 : Nat) (c10 : Nat) (c11 : Nat) (c12 : Nat) (c13 : Nat) (c14 : Nat) (c15 : Nat) (c16 : Nat) (c17 : Nat) (c18 : Nat) (c19 : Nat) (c20 : Nat) (c21 : Nat) (c22 : Nat) (c23 : Nat) (c24 : Nat) (c25 : Nat) (c26 : Nat) (sz : Nat) : Met l yX19_label ow_k_X19_label ({ frames := 2, cells := 0, slots := 0, locals := 46 }) (va_Pc [.ref c0, .int c3, .int c4] (fun U => U.heap.size = sz ∧ va_P (dC, dI) vwCl [(c0, .inr (20, [.int 0, .ref c5, .int 0, .int 0, .ref c1, .ref c6, .ref c7, .ref c8, .ref c9, .ref c10, .ref c11, .ref c12, .ref c13, .ref c14, .ref c15, .ref c16, .ref c17, .int 0, .int 0, .int 0, .int 0, .int 0, .int 0, .int 0, .int 0, .int 0, .ref c18, .ref c19, .ref c20, .ref c21, .ref c22, .ref c23, .ref c24, .ref c25, .ref c26, .int 0])), (c1, .inl (c2, 4, .inl (fun _ => 0)))] U.heap ∧ va_K (dC, dI) vwCl [(c2, .boolean)] U ∧ va_D (fun _ => True) [(c0, .inr (20, [.int 0, .ref c5, .int 0, .int 0, .ref c1, .ref c6, .ref c7, .ref c8, .ref c9, .ref c10, .ref c11, .ref c12, .ref c13, .ref c14, .ref c15, .ref c16, .ref c17, .int 0, .int 0, .int 0, .int 0, .int 0, .int 0, .int 0, .int 0, .int 0, .ref c18, .ref c19, .ref c20, .ref c21, .ref c22, .ref c23, .ref c24, .ref c25, .ref c26, .int 0])), (c1, .inl (c2, 4, .inl (fun _ => 0)))] ∧ nv_E (va_A [(c0, .inr (20, [.int 0, .ref c5, .int 0, .int 0, .ref c1, .ref c6, .ref c7, .ref c8, .ref c9, .ref c10, .ref c11, .ref c12, .ref c13, .ref c14, .ref c15, .ref c16, .ref c17, .int 0, .int 0, .int 0, .int 0, .int 0, .int 0, .int 0, .int 0, .int 0, .ref c18, .ref c19, .ref c20, .ref c21, .ref c22, .ref c23, .ref c24, .ref c25, .ref c26, .int 0])), (c1, .inl (c2, 4, .inl (fun _ => 0)))] sz) U)) (va_Qi (fun r _ => r = (-1)) (fun (_ : Unit) t => va_P (dC, dI) vwCl [(c0, .inr (20, [.int 0, .ref c5, .int 0, .int 0, .ref c1, .ref c6, .ref c7, .ref c8, .ref c9, .ref c10, .ref c11, .ref c12, .ref c13, .ref c14, .ref c15, .ref c16, .ref c17, .int 0, .int 0, .int 0, .int 0, .int 0, .int 0, .int 0, .int 0, .int 0, .ref c18, .ref c19, .ref c20, .ref c21, .ref c22, .ref c23, .ref c24, .ref c25, .ref c26, .int 0])), (c1, .inl (c2, 4, .inl (fun _ => 0)))] t.heap ∧ va_K (dC, dI) vwCl [(c2, .boolean)] t ∧ va_D (va_A [(c0, .inr (20, [.int 0, .ref c5, .int 0, .int 0, .ref c1, .ref c6, .ref c7, .ref c8, .ref c9, .ref c10, .ref c11, .ref c12, .ref c13, .ref c14, .ref c15, .ref c16, .ref c17, .int 0, .int 0, .int 0, .int 0, .int 0, .int 0, .int 0, .int 0, .int 0, .ref c18, .ref c19, .ref c20, .ref c21, .ref c22, .ref c23, .ref c24, .ref c25, .ref c26, .int 0])), (c1, .inl (c2, 4, .inl (fun _ => 0)))] sz) [(c0, .inr (20, [.int 0, .ref c5, .int 0, .int 0, .ref c1, .ref c6, .ref c7, .ref c8, .ref c9, .ref c10, .ref c11, .ref c12, .ref c13, .ref c14, .ref c15, .ref c16, .ref c17, .int 0, .int 0, .int 0, .int 0, .int 0, .int 0, .int 0, .int 0, .int 0, .ref c18, .ref c19, .ref c20, .ref c21, .ref c22, .ref c23, .ref c24, .ref c25, .ref c26, .int 0])), (c1, .inl (c2, 4, .inl (fun _ => 0)))]) (va_A [(c0, .inr (20, [.int 0, .ref c5, .int 0, .int 0, .ref c1, .ref c6, .ref c7, .ref c8, .ref c9, .ref c10, .ref c11, .ref c12, .ref c13, .ref c14, .ref c15, .ref c16, .ref c17, .int 0, .int 0, .int 0, .int 0, .int 0, .int 0, .int 0, .int 0, .int 0, .ref c18, .ref c19, .ref c20, .ref c21, .ref c22, .ref c23, .ref c24, .ref c25, .ref c26, .int 0])), (c1, .inl (c2, 4, .inl (fun _ => 0)))] sz)) 0 0 (va_A [(c0, .inr (20, [.int 0, .ref c5, .int 0, .int 0, .ref c1, .ref c6, .ref c7, .ref c8, .ref c9, .ref c10, .ref c11, .ref c12, .ref c13, .ref c14, .ref c15, .ref c16, .ref c17, .int 0, .int 0, .int 0, .int 0, .int 0, .int 0, .int 0, .int 0, .int 0, .ref c18, .ref c19, .ref c20, .ref c21, .ref c22, .ref c23, .ref c24, .ref c25, .ref c26, .int 0])), (c1, .inl (c2, 4, .inl (fun _ => 0)))] sz) := by
  refine Met.ofW (cc := cX19_label) (maxL := 3) (ret := (some .int)) (by decide) rfl ?_
  intro p e s m args below meth c s₁ B hml hv
  obtain ⟨rfl, hsz, hP, hK, hD0, hN⟩ := hv
  have hx := B.exec
  have hb := B.bytes
  have hr := B.returns
  have hts := atoms_spec (ws := ow_k_X19_label) B.pre
  have hown : s.vm.findClass RX19 = some m.cls := findClass_of_methodNamed B.named
  have hlocks := B.notSynchronized
  subst hsz
  have hD := hD0.self (sz := s.heap.size)
  generalize hAe : va_A [(c0, .inr (20, [.int 0, .ref c5, .int 0, .int 0, .ref c1, .ref c6, .ref c7, .ref c8, .ref c9, .ref c10, .ref c11, .ref c12, .ref c13, .ref c14, .ref c15, .ref c16, .ref c17, .int 0, .int 0, .int 0, .int 0, .int 0, .int 0, .int 0, .int 0, .int 0, .ref c18, .ref c19, .ref c20, .ref c21, .ref c22, .ref c23, .ref c24, .ref c25, .ref c26, .int 0])), (c1, .inl (c2, 4, .inl (fun _ => 0)))] s.heap.size = A at hD hN ⊢
  have hA : ∀ q : Nat, s.heap.size ≤ q → A q := fun q h => by rw [← hAe]; exact Or.inr h
  have hS : va_S A s.heap s.heap [] := va_S.rf
  have hl := lv_entry ([.ref c0, .int c3, .int c4]) (n := 3) (Nat.le_of_ble_eq_true rfl)
  rw [lg_entry_eq]
  generalize (lg_sl ([.ref c0, .int c3, .int c4]) ++ List.replicate (3 - (lg_sl ([.ref c0, .int c3, .int c4])).length) Slot.unset).toArray = ls at hl ⊢
  have hl : lv_has ls 3 [(0, .ref c0), (1, .int c3), (2, .int c4)] := hl
  refine lv_aload_n hx hb dX19_label_0 rfl (lv_at hl 0 rfl) ?_
  refine lv_iconst (v := 0) hx hb dX19_label_1 (by decide) ?_
  refine va_put (D := (dC, dI)) (ci := 20) (v := .int 0) (ty := .int) (C := RX19) (T := TX19) (N := 36) hx hb hts hi_k_X19_label_X19 tyX19 tyX19_ok nmX19 hown hK hP hD hS 0 rfl rfl 0 (by decide) (hts (.fieldLink RX19 113 "TimeMachineModel" "code" "I") (List.mem_of_getElem? (i := 1) rfl)) (fun _ h9 => h9) rfl (by decide +kernel) rfl rfl (Nat.le_of_ble_eq_true rfl) dX19_label_2 (fun H locs hP hD hS => ?_)
  have hP : va_P (dC, dI) vwCl [(c0, .inr (20, [.int 0, .ref c5, .int 0, .int 0, .ref c1, .ref c6, .ref c7, .ref c8, .ref c9, .ref c10, .ref c11, .ref c12, .ref c13, .ref c14, .ref c15, .ref c16, .ref c17, .int 0, .int 0, .int 0, .int 0, .int 0, .int 0, .int 0, .int 0, .int 0, .ref c18, .ref c19, .ref c20, .ref c21, .ref c22, .ref c23, .ref c24, .ref c25, .ref c26, .int 0])), (c1, .inl (c2, 4, .inl (fun _ => 0)))] H := hP
  have hD : va_D A [(c0, .inr (20, [.int 0, .ref c5, .int 0, .int 0, .ref c1, .ref c6, .ref c7, .ref c8, .ref c9, .ref c10, .ref c11, .ref c12, .ref c13, .ref c14, .ref c15, .ref c16, .ref c17, .int 0, .int 0, .int 0, .int 0, .int 0, .int 0, .int 0, .int 0, .int 0, .ref c18, .ref c19, .ref c20, .ref c21, .ref c22, .ref c23, .ref c24, .ref c25, .ref c26, .int 0])), (c1, .inl (c2, 4, .inl (fun _ => 0)))] := hD
  refine lv_aload_n hx hb dX19_label_5 rfl (lv_at hl 0 rfl) ?_
  refine lv_iload_n hx hb dX19_label_6 rfl (lv_at hl 1 rfl) ?_
  have hPc := hP.sub (ws' := [(c0, .inr (20, [.int 0, .ref c5, .int 0, .int 0, .ref c1, .ref c6, .ref c7, .ref c8, .ref c9, .ref c10, .ref c11, .ref c12, .ref c13, .ref c14, .ref c15, .ref c16, .ref c17, .int 0, .int 0, .int 0, .int 0, .int 0, .int 0, .int 0, .int 0, .int 0, .ref c18, .ref c19, .ref c20, .ref c21, .ref c22, .ref c23, .ref c24, .ref c25, .ref c26, .int 0])), (c1, .inl (c2, 4, .inl (fun _ => 0)))]) [0, 1] rfl
  have hDc := hD.sub (ws' := [(c0, .inr (20, [.int 0, .ref c5, .int 0, .int 0, .ref c1, .ref c6, .ref c7, .ref c8, .ref c9, .ref c10, .ref c11, .ref c12, .ref c13, .ref c14, .ref c15, .ref c16, .ref c17, .int 0, .int 0, .int 0, .int 0, .int 0, .int 0, .int 0, .int 0, .int 0, .ref c18, .ref c19, .ref c20, .ref c21, .ref c22, .ref c23, .ref c24, .ref c25, .ref c26, .int 0])), (c1, .inl (c2, 4, .inl (fun _ => 0)))]) [0, 1] (by decide) rfl
  have hKc := hK.sub (tys' := [(c2, .boolean)]) [0] rfl
  have hFc := va_free (wc := [(c0, .inr (20, [.int 0, .ref c5, .int 0, .int 0, .ref c1, .ref c6, .ref c7, .ref c8, .ref c9, .ref c10, .ref c11, .ref c12, .ref c13, .ref c14, .ref c15, .ref c16, .ref c17, .int 0, .int 0, .int 0, .int 0, .int 0, .int 0, .int 0, .int 0, .int 0, .ref c18, .ref c19, .ref c20, .ref c21, .ref c22, .ref c23, .ref c24, .ref c25, .ref c26, .int 0])), (c1, .inl (c2, 4, .inl (fun _ => 0)))]) hD hS hA [0, 1] rfl
  refine va_calli (va_runV (As := [.int c3]) (rest := []) ⟨hx, hb, hml, hown, hts⟩ (k_X19_isProgram l hlt dC dI c0 c1 c2 c3 c5 c6 c7 c8 c9 c10 c11 c12 c13 c14 c15 c16 c17 c18 c19 c20 c21 c22 c23 c24 c25 c26  H.size) (cwV 1 hts gi_k_X19_label_0 rfl rfl rfl (by decide +kernel) ⟨Nat.le_of_ble_eq_true rfl, Nat.le_of_ble_eq_true rfl⟩) ⟨fun a U g mk q => by obtain ⟨q0, q1, qP, qK, qD, qN⟩ := q; exact ⟨q0, q1, qP, va_K.moved (u := U) (U := U.calling g mk a) (Vm.Alike.refl U.vm) qK, qD, nv_same rfl rfl qN⟩, va_recv hKc hPc (ci := 20) (q0 := 0) rfl rfl, fun U hU hW => ⟨rfl, by rw [hU], by rw [hU]; exact hPc, va_K.moved hW.alike hKc, hDc.weaken (fun _ _ _ _ => trivial), nv_call hS hFc hU hW hN⟩⟩ rfl rfl hl.1 rfl (lv_room (Nat.le_of_ble_eq_true rfl)) dX19_label_7 ⟨by decide +kernel, by decide +kernel⟩) hS (fun q _ h => hFc q h) hFc (fun r1 u t H1 locs ht hvm hw hB hz1 hk1 hS => ?_)
  obtain ⟨hP1, hK1, hD1⟩ := hB
  rw [ht] at hP1
  have hK1 := va_K.moved hvm.symm hK1
  obtain rfl : r1 = 0 := by rcases hw with ⟨_, h9⟩ | ⟨_, _, h9⟩ | ⟨_, _, h9⟩ | h9 <;> first | exact h9 | exact h9.elim
  obtain ⟨hP, hD⟩ := va_join (wr := []) (w1 := [(c0, .inr (20, [.int 0, .ref c5, .int 0, .int 0, .ref c1, .ref c6, .ref c7, .ref c8, .ref c9, .ref c10, .ref c11, .ref c12, .ref c13, .ref c14, .ref c15, .ref c16, .ref c17, .int 0, .int 0, .int 0, .int 0, .int 0, .int 0, .int 0, .int 0, .int 0, .ref c18, .ref c19, .ref c20, .ref c21, .ref c22, .ref c23, .ref c24, .ref c25, .ref c26, .int 0])), (c1, .inl (c2, 4, .inl (fun _ => 0)))]) hP hD [0, 1] [] rfl rfl (by decide) (by decide) hk1 hFc hP1 hD1
  have hK := (hK.sub (tys' := []) [] rfl).app hK1
  generalize H1 = H at hP hS ⊢
  have hP : va_P (dC, dI) vwCl [(c0, .inr (20, [.int 0, .ref c5, .int 0, .int 0, .ref c1, .ref c6, .ref c7, .ref c8, .ref c9, .ref c10, .ref c11, .ref c12, .ref c13, .ref c14, .ref c15, .ref c16, .ref c17, .int 0, .int 0, .int 0, .int 0, .int 0, .int 0, .int 0, .int 0, .int 0, .ref c18, .ref c19, .ref c20, .ref c21, .ref c22, .ref c23, .ref c24, .ref c25, .ref c26, .int 0])), (c1, .inl (c2, 4, .inl (fun _ => 0)))] H := hP
  have hD : va_D A [(c0, .inr (20, [.int 0, .ref c5, .int 0, .int 0, .ref c1, .ref c6, .ref c7, .ref c8, .ref c9, .ref c10, .ref c11, .ref c12, .ref c13, .ref c14, .ref c15, .ref c16, .ref c17, .int 0, .int 0, .int 0, .int 0, .int 0, .int 0, .int 0, .int 0, .int 0, .ref c18, .ref c19, .ref c20, .ref c21, .ref c22, .ref c23, .ref c24, .ref c25, .ref c26, .int 0])), (c1, .inl (c2, 4, .inl (fun _ => 0)))] := hD
  have hK : va_K (dC, dI) vwCl [(c2, .boolean)] s := hK
  refine W.widen (k := 0) (n := 0) (by decide +kernel) (by decide +kernel) ?_
  refine lv_if_eq (tgt := 39) hx hb dX19_label_10 (by decide) (fun _ => ?_) (fun h9 => absurd (by decide) h9)
  refine lv_iconst (v := (-1)) hx hb dX19_label_39 (by decide) ?_
  have hP9 := hP.sub (ws' := [(c0, .inr (20, [.int 0, .ref c5, .int 0, .int 0, .ref c1, .ref c6, .ref c7, .ref c8, .ref c9, .ref c10, .ref c11, .ref c12, .ref c13, .ref c14, .ref c15, .ref c16, .ref c17, .int 0, .int 0, .int 0, .int 0, .int 0, .int 0, .int 0, .int 0, .int 0, .ref c18, .ref c19, .ref c20, .ref c21, .ref c22, .ref c23, .ref c24, .ref c25, .ref c26, .int 0])), (c1, .inl (c2, 4, .inl (fun _ => 0)))]) [0, 1] rfl
  have hD9 := hD.sub (ws' := [(c0, .inr (20, [.int 0, .ref c5, .int 0, .int 0, .ref c1, .ref c6, .ref c7, .ref c8, .ref c9, .ref c10, .ref c11, .ref c12, .ref c13, .ref c14, .ref c15, .ref c16, .ref c17, .int 0, .int 0, .int 0, .int 0, .int 0, .int 0, .int 0, .int 0, .int 0, .ref c18, .ref c19, .ref c20, .ref c21, .ref c22, .ref c23, .ref c24, .ref c25, .ref c26, .int 0])), (c1, .inl (c2, 4, .inl (fun _ => 0)))]) [0, 1] (by decide) rfl
  have hK9 := hK.sub (tys' := [(c2, .boolean)]) [0] rfl
  refine W.widen (k := 0) (n := 0) (by decide +kernel) (by decide +kernel) ?_
  exact W.iret (v := (-1)) hx hb hr (fun t ht hW => ⟨⟨(-1), (), rfl, rfl, by rw [ht]; exact hP9, va_K.moved hW.alike hK9, hD9⟩, hS.F ht⟩) hS.2.2 dX19_label_40
def ow_k_X12_before : List Cond := .code yX12_before cX12_before 4 (some .int) :: ([.methodLink RX12 85 yX12_programOf, .instanceMethod yX12_programOf, .selects RX12 yX12_programOf yX12_programOf, .initialized RX12] ++ (ow_k_X12_programOf ++ []))
theorem gd_k_X12_before : ∀ w ∈ ow_k_X12_before, (w.onTables && w.keeps) = true ∨ ∃ ty, w = Cond.arrayClass ty := List.forall_mem_cons.mpr ⟨good_of_word rfl, List.forall_mem_append.mpr ⟨fun w h => good_of_word (List.all_eq_true.mp (by decide +kernel) w h), List.forall_mem_append.mpr ⟨gd_k_X12_programOf, fun _ h => nomatch h⟩⟩⟩
theorem gi_k_X12_before_0 : GoodIn ow_k_X12_before (wsV RX12 85 RX12 yX12_programOf ow_k_X12_programOf) := goodIn_app (goodIn_of _ (by decide +kernel)) (fun w h => ⟨List.mem_cons_of_mem _ (List.mem_append_right _ (List.mem_append_left _ h)), gd_k_X12_programOf w h⟩)
set_option maxHeartbeats 40000000 in
set_option maxRecDepth 100000 in
theorem k_X12_before (l : Launch) (hlt : l.stackTraces = false) (dC : Nat → ClassId) (dI : Nat → Nat → Nat) (c0 : Nat) (c1 : Nat) (c2 : ClassId) (c3 : Int32) (c4 : Int32) (c5 : Nat) (c6 : Nat) (c7 : Nat) (c8 : Nat) (c9 : Nat) (c10 : Nat) (c11 : Nat) (c12 : Nat) (sz : Nat) : Met l yX12_before ow_k_X12_before ({ frames := 1, cells := 0, slots := 0, locals := 21 }) (va_Pc [.ref c0, .int c3, .int c4] (fun U => U.heap.size = sz ∧ va_P (dC, dI) vwCl [(c0, .inr (13, [.ref c5, .int 0, .int 0, .ref c1, .ref c6, .ref c7, .ref c8, .ref c9, .ref c10, .ref c11, .int 0, .ref c12])), (c1, .inl (c2, 4, .inr (.inr (.inr (.inr (fun _ => none))))))] U.heap ∧ va_K (dC, dI) vwCl [(c2, .object RX8)] U ∧ va_D (fun _ => True) [(c0, .inr (13, [.ref c5, .int 0, .int 0, .ref c1, .ref c6, .ref c7, .ref c8, .ref c9, .ref c10, .ref c11, .int 0, .ref c12])), (c1, .inl (c2, 4, .inr (.inr (.inr (.inr (fun _ => none))))))] ∧ nv_E (va_A [(c0, .inr (13, [.ref c5, .int 0, .int 0, .ref c1, .ref c6, .ref c7, .ref c8, .ref c9, .ref c10, .ref c11, .int 0, .ref c12])), (c1, .inl (c2, 4, .inr (.inr (.inr (.inr (fun _ => none))))))] sz) U)) (va_Qi (fun r _ => r = (-1)) (fun (_ : Unit) t => va_P (dC, dI) vwCl [(c0, .inr (13, [.ref c5, .int 0, .int 0, .ref c1, .ref c6, .ref c7, .ref c8, .ref c9, .ref c10, .ref c11, .int 0, .ref c12])), (c1, .inl (c2, 4, .inr (.inr (.inr (.inr (fun _ => none))))))] t.heap ∧ va_K (dC, dI) vwCl [(c2, .object RX8)] t ∧ va_D (va_A [(c0, .inr (13, [.ref c5, .int 0, .int 0, .ref c1, .ref c6, .ref c7, .ref c8, .ref c9, .ref c10, .ref c11, .int 0, .ref c12])), (c1, .inl (c2, 4, .inr (.inr (.inr (.inr (fun _ => none))))))] sz) [(c0, .inr (13, [.ref c5, .int 0, .int 0, .ref c1, .ref c6, .ref c7, .ref c8, .ref c9, .ref c10, .ref c11, .int 0, .ref c12])), (c1, .inl (c2, 4, .inr (.inr (.inr (.inr (fun _ => none))))))]) (va_A [(c0, .inr (13, [.ref c5, .int 0, .int 0, .ref c1, .ref c6, .ref c7, .ref c8, .ref c9, .ref c10, .ref c11, .int 0, .ref c12])), (c1, .inl (c2, 4, .inr (.inr (.inr (.inr (fun _ => none))))))] sz)) 0 0 (va_A [(c0, .inr (13, [.ref c5, .int 0, .int 0, .ref c1, .ref c6, .ref c7, .ref c8, .ref c9, .ref c10, .ref c11, .int 0, .ref c12])), (c1, .inl (c2, 4, .inr (.inr (.inr (.inr (fun _ => none))))))] sz) := by
  refine Met.ofW (cc := cX12_before) (maxL := 4) (ret := (some .int)) (by decide) rfl ?_
  intro p e s m args below meth c s₁ B hml hv
  obtain ⟨rfl, hsz, hP, hK, hD0, hN⟩ := hv
  have hx := B.exec
  have hb := B.bytes
  have hr := B.returns
  have hts := atoms_spec (ws := ow_k_X12_before) B.pre
  have hown : s.vm.findClass RX12 = some m.cls := findClass_of_methodNamed B.named
  have hlocks := B.notSynchronized
  subst hsz
  have hD := hD0.self (sz := s.heap.size)
  generalize hAe : va_A [(c0, .inr (13, [.ref c5, .int 0, .int 0, .ref c1, .ref c6, .ref c7, .ref c8, .ref c9, .ref c10, .ref c11, .int 0, .ref c12])), (c1, .inl (c2, 4, .inr (.inr (.inr (.inr (fun _ => none))))))] s.heap.size = A at hD hN ⊢
  have hA : ∀ q : Nat, s.heap.size ≤ q → A q := fun q h => by rw [← hAe]; exact Or.inr h
  have hS : va_S A s.heap s.heap [] := va_S.rf
  have hl := lv_entry ([.ref c0, .int c3, .int c4]) (n := 4) (Nat.le_of_ble_eq_true rfl)
  rw [lg_entry_eq]
  generalize (lg_sl ([.ref c0, .int c3, .int c4]) ++ List.replicate (4 - (lg_sl ([.ref c0, .int c3, .int c4])).length) Slot.unset).toArray = ls at hl ⊢
  have hl : lv_has ls 4 [(0, .ref c0), (1, .int c3), (2, .int c4)] := hl
  refine lv_aload_n hx hb dX12_before_0 rfl (lv_at hl 0 rfl) ?_
  refine lv_iload_n hx hb dX12_before_1 rfl (lv_at hl 1 rfl) ?_
  have hPc := hP.sub (ws' := [(c0, .inr (13, [.ref c5, .int 0, .int 0, .ref c1, .ref c6, .ref c7, .ref c8, .ref c9, .ref c10, .ref c11, .int 0, .ref c12])), (c1, .inl (c2, 4, .inr (.inr (.inr (.inr (fun _ => none))))))]) [0, 1] rfl
  have hDc := hD.sub (ws' := [(c0, .inr (13, [.ref c5, .int 0, .int 0, .ref c1, .ref c6, .ref c7, .ref c8, .ref c9, .ref c10, .ref c11, .int 0, .ref c12])), (c1, .inl (c2, 4, .inr (.inr (.inr (.inr (fun _ => none))))))]) [0, 1] (by decide) rfl
  have hKc := hK.sub (tys' := [(c2, .object RX8)]) [0] rfl
  have hFc := va_free (wc := [(c0, .inr (13, [.ref c5, .int 0, .int 0, .ref c1, .ref c6, .ref c7, .ref c8, .ref c9, .ref c10, .ref c11, .int 0, .ref c12])), (c1, .inl (c2, 4, .inr (.inr (.inr (.inr (fun _ => none))))))]) hD hS hA [0, 1] rfl
  refine va_callq (va_runV (As := [.int c3]) (rest := []) ⟨hx, hb, hml, hown, hts⟩ (k_X12_programOf l hlt dC dI c0 c1 c2 c3 c5 c6 c7 c8 c9 c10 c11 c12  s.heap.size) (cwV 1 hts gi_k_X12_before_0 rfl rfl rfl (by decide +kernel) ⟨Nat.le_of_ble_eq_true rfl, Nat.le_of_ble_eq_true rfl⟩) ⟨fun a U g mk q => by obtain ⟨q0, q1, qP, qK, qD, qN⟩ := q; exact ⟨q0, q1, qP, va_K.moved (u := U) (U := U.calling g mk a) (Vm.Alike.refl U.vm) qK, qD, nv_same rfl rfl qN⟩, va_recv hKc hPc (ci := 13) (q0 := 0) rfl rfl, fun U hU hW => ⟨rfl, by rw [hU], by rw [hU]; exact hPc, va_K.moved hW.alike hKc, hDc.weaken (fun _ _ _ _ => trivial), nv_call hS hFc hU hW hN⟩⟩ rfl rfl hl.1 rfl (lv_room (Nat.le_of_ble_eq_true rfl)) dX12_before_2 ⟨by decide +kernel, by decide +kernel⟩) hS (fun q _ h => hFc q h) hFc (fun r1 u t H1 locs ht hvm hw hB hz1 hk1 hS => ?_)
  obtain ⟨hP1, hK1, hD1⟩ := hB
  rw [ht] at hP1
  have hK1 := va_K.moved hvm.symm hK1
  obtain rfl : r1 = none := by rcases hw with ⟨_, h9⟩ | ⟨_, _, h9⟩ | ⟨_, _, h9⟩ | h9 <;> first | exact h9 | exact h9.elim
  obtain ⟨hP, hD⟩ := va_join (wr := []) (w1 := [(c0, .inr (13, [.ref c5, .int 0, .int 0, .ref c1, .ref c6, .ref c7, .ref c8, .ref c9, .ref c10, .ref c11, .int 0, .ref c12])), (c1, .inl (c2, 4, .inr (.inr (.inr (.inr (fun _ => none))))))]) hP hD [0, 1] [] rfl rfl (by decide) (by decide) hk1 hFc hP1 hD1
  have hK := (hK.sub (tys' := []) [] rfl).app hK1
  generalize H1 = H at hP hS ⊢
  have hP : va_P (dC, dI) vwCl [(c0, .inr (13, [.ref c5, .int 0, .int 0, .ref c1, .ref c6, .ref c7, .ref c8, .ref c9, .ref c10, .ref c11, .int 0, .ref c12])), (c1, .inl (c2, 4, .inr (.inr (.inr (.inr (fun _ => none))))))] H := hP
  have hD : va_D A [(c0, .inr (13, [.ref c5, .int 0, .int 0, .ref c1, .ref c6, .ref c7, .ref c8, .ref c9, .ref c10, .ref c11, .int 0, .ref c12])), (c1, .inl (c2, 4, .inr (.inr (.inr (.inr (fun _ => none))))))] := hD
  have hK : va_K (dC, dI) vwCl [(c2, .object RX8)] s := hK
  refine W.widen (k := 0) (n := 0) (by decide +kernel) (by decide +kernel) ?_
  refine lv_astore_nN (lv' := [(3, .null), (0, .ref c0), (1, .int c3), (2, .int c4)]) hx hb dX12_before_5 rfl hl (by decide) rfl (fun ls hl => ?_)
  refine lv_aload_nN hx hb dX12_before_6 rfl (lv_at hl 0 rfl) ?_
  refine lv_ifnonnullN hx hb dX12_before_7 ?_
  refine lv_iconst (v := (-1)) hx hb dX12_before_10 (by decide) ?_
  refine lv_goto (tgt := 19) hx hb dX12_before_11 (by decide) ?_
  have hP9 := hP.sub (ws' := [(c0, .inr (13, [.ref c5, .int 0, .int 0, .ref c1, .ref c6, .ref c7, .ref c8, .ref c9, .ref c10, .ref c11, .int 0, .ref c12])), (c1, .inl (c2, 4, .inr (.inr (.inr (.inr (fun _ => none))))))]) [0, 1] rfl
  have hD9 := hD.sub (ws' := [(c0, .inr (13, [.ref c5, .int 0, .int 0, .ref c1, .ref c6, .ref c7, .ref c8, .ref c9, .ref c10, .ref c11, .int 0, .ref c12])), (c1, .inl (c2, 4, .inr (.inr (.inr (.inr (fun _ => none))))))]) [0, 1] (by decide) rfl
  have hK9 := hK.sub (tys' := [(c2, .object RX8)]) [0] rfl
  refine W.widen (k := 0) (n := 0) (by decide +kernel) (by decide +kernel) ?_
  exact W.iret (v := (-1)) hx hb hr (fun t ht hW => ⟨⟨(-1), (), rfl, rfl, by rw [ht]; exact hP9, va_K.moved hW.alike hK9, hD9⟩, hS.F ht⟩) hS.2.2 dX12_before_19
def ow_k_X19_before : List Cond := .code yX19_before cX19_before 5 (some .int) :: ([.fieldLink RX19 113 "TimeMachineModel" "code" "I", .methodLink RX19 172 yX19_isProgram, .instanceMethod yX19_isProgram, .selects RX19 yX19_isProgram yX19_isProgram, .initialized RX19] ++ (u_ws RX19 TX19 36 ++ (ow_k_X19_isProgram ++ [])))
theorem gd_k_X19_before : ∀ w ∈ ow_k_X19_before, (w.onTables && w.keeps) = true ∨ ∃ ty, w = Cond.arrayClass ty := List.forall_mem_cons.mpr ⟨good_of_word rfl, List.forall_mem_append.mpr ⟨fun w h => good_of_word (List.all_eq_true.mp (by decide +kernel) w h), List.forall_mem_append.mpr ⟨gu_X19, List.forall_mem_append.mpr ⟨gd_k_X19_isProgram, fun _ h => nomatch h⟩⟩⟩⟩
theorem hi_k_X19_before_X19 : ∀ w ∈ u_ws RX19 TX19 36, w ∈ ow_k_X19_before := fun w h => List.mem_cons_of_mem _ (List.mem_append_right _ (List.mem_append_left _ h))
theorem gi_k_X19_before_0 : GoodIn ow_k_X19_before (wsV RX19 172 RX19 yX19_isProgram ow_k_X19_isProgram) := goodIn_app (goodIn_of _ (by decide +kernel)) (fun w h => ⟨List.mem_cons_of_mem _ (List.mem_append_right _ (List.mem_append_right _ (List.mem_append_left _ h))), gd_k_X19_isProgram w h⟩)
set_option maxHeartbeats 40000000 in
set_option maxRecDepth 100000 in
theorem k_X19_before (l : Launch) (hlt : l.stackTraces = false) (dC : Nat → ClassId) (dI : Nat → Nat → Nat) (c0 : Nat) (c1 : Nat) (c2 : ClassId) (c3 : Int32) (c4 : Int32) (c5 : Nat) (c6 : Nat) (c7 : Nat) (c8 : Nat) (c9 : Nat) (c10 : Nat) (c11 : Nat) (c12 : Nat) (c13 : Nat) (c14 : Nat) (c15 : Nat) (c16 : Nat) (c17 : Nat) (c18 : Nat) (c19 : Nat) (c20 : Nat) (c21 : Nat) (c22 : Nat) (c23 : Nat) (c24 : Nat) (c25 : Nat) (c26 : Nat) (sz : Nat) : Met l yX19_before ow_k_X19_before ({ frames := 2, cells := 0, slots := 0, locals := 46 }) (va_Pc [.ref c0, .int c3, .int c4] (fun U => U.heap.size = sz ∧ va_P (dC, dI) vwCl [(c0, .inr (20, [.int 0, .ref c5, .int 0, .int 0, .ref c1, .ref c6, .ref c7, .ref c8, .ref c9, .ref c10, .ref c11, .ref c12, .ref c13, .ref c14, .ref c15, .ref c16, .ref c17, .int 0, .int 0, .int 0, .int 0, .int 0, .int 0, .int 0, .int 0, .int 0, .ref c18, .ref c19, .ref c20, .ref c21, .ref c22, .ref c23, .ref c24, .ref c25, .ref c26, .int 0])), (c1, .inl (c2, 4, .inl (fun _ => 0)))] U.heap ∧ va_K (dC, dI) vwCl [(c2, .boolean)] U ∧ va_D (fun _ => True) [(c0, .inr (20, [.int 0, .ref c5, .int 0, .int 0, .ref c1, .ref c6, .ref c7, .ref c8, .ref c9, .ref c10, .ref c11, .ref c12, .ref c13, .ref c14, .ref c15, .ref c16, .ref c17, .int 0, .int 0, .int 0, .int 0, .int 0, .int 0, .int 0, .int 0, .int 0, .ref c18, .ref c19, .ref c20, .ref c21, .ref c22, .ref c23, .ref c24, .ref c25, .ref c26, .int 0])), (c1, .inl (c2, 4, .inl (fun _ => 0)))] ∧ nv_E (va_A [(c0, .inr (20, [.int 0, .ref c5, .int 0, .int 0, .ref c1, .ref c6, .ref c7, .ref c8, .ref c9, .ref c10, .ref c11, .ref c12, .ref c13, .ref c14, .ref c15, .ref c16, .ref c17, .int 0, .int 0, .int 0, .int 0, .int 0, .int 0, .int 0, .int 0, .int 0, .ref c18, .ref c19, .ref c20, .ref c21, .ref c22, .ref c23, .ref c24, .ref c25, .ref c26, .int 0])), (c1, .inl (c2, 4, .inl (fun _ => 0)))] sz) U)) (va_Qi (fun r _ => r = (-1)) (fun (_ : Unit) t => va_P (dC, dI) vwCl [(c0, .inr (20, [.int 0, .ref c5, .int 0, .int 0, .ref c1, .ref c6, .ref c7, .ref c8, .ref c9, .ref c10, .ref c11, .ref c12, .ref c13, .ref c14, .ref c15, .ref c16, .ref c17, .int 0, .int 0, .int 0, .int 0, .int 0, .int 0, .int 0, .int 0, .int 0, .ref c18, .ref c19, .ref c20, .ref c21, .ref c22, .ref c23, .ref c24, .ref c25, .ref c26, .int 0])), (c1, .inl (c2, 4, .inl (fun _ => 0)))] t.heap ∧ va_K (dC, dI) vwCl [(c2, .boolean)] t ∧ va_D (va_A [(c0, .inr (20, [.int 0, .ref c5, .int 0, .int 0, .ref c1, .ref c6, .ref c7, .ref c8, .ref c9, .ref c10, .ref c11, .ref c12, .ref c13, .ref c14, .ref c15, .ref c16, .ref c17, .int 0, .int 0, .int 0, .int 0, .int 0, .int 0, .int 0, .int 0, .int 0, .ref c18, .ref c19, .ref c20, .ref c21, .ref c22, .ref c23, .ref c24, .ref c25, .ref c26, .int 0])), (c1, .inl (c2, 4, .inl (fun _ => 0)))] sz) [(c0, .inr (20, [.int 0, .ref c5, .int 0, .int 0, .ref c1, .ref c6, .ref c7, .ref c8, .ref c9, .ref c10, .ref c11, .ref c12, .ref c13, .ref c14, .ref c15, .ref c16, .ref c17, .int 0, .int 0, .int 0, .int 0, .int 0, .int 0, .int 0, .int 0, .int 0, .ref c18, .ref c19, .ref c20, .ref c21, .ref c22, .ref c23, .ref c24, .ref c25, .ref c26, .int 0])), (c1, .inl (c2, 4, .inl (fun _ => 0)))]) (va_A [(c0, .inr (20, [.int 0, .ref c5, .int 0, .int 0, .ref c1, .ref c6, .ref c7, .ref c8, .ref c9, .ref c10, .ref c11, .ref c12, .ref c13, .ref c14, .ref c15, .ref c16, .ref c17, .int 0, .int 0, .int 0, .int 0, .int 0, .int 0, .int 0, .int 0, .int 0, .ref c18, .ref c19, .ref c20, .ref c21, .ref c22, .ref c23, .ref c24, .ref c25, .ref c26, .int 0])), (c1, .inl (c2, 4, .inl (fun _ => 0)))] sz)) 0 0 (va_A [(c0, .inr (20, [.int 0, .ref c5, .int 0, .int 0, .ref c1, .ref c6, .ref c7, .ref c8, .ref c9, .ref c10, .ref c11, .ref c12, .ref c13, .ref c14, .ref c15, .ref c16, .ref c17, .int 0, .int 0, .int 0, .int 0, .int 0, .int 0, .int 0, .int 0, .int 0, .ref c18, .ref c19, .ref c20, .ref c21, .ref c22, .ref c23, .ref c24, .ref c25, .ref c26, .int 0])), (c1, .inl (c2, 4, .inl (fun _ => 0)))] sz) := by
  refine Met.ofW (cc := cX19_before) (maxL := 5) (ret := (some .int)) (by decide) rfl ?_
  intro p e s m args below meth c s₁ B hml hv
  obtain ⟨rfl, hsz, hP, hK, hD0, hN⟩ := hv
  have hx := B.exec
  have hb := B.bytes
  have hr := B.returns
  have hts := atoms_spec (ws := ow_k_X19_before) B.pre
  have hown : s.vm.findClass RX19 = some m.cls := findClass_of_methodNamed B.named
  have hlocks := B.notSynchronized
  subst hsz
  have hD := hD0.self (sz := s.heap.size)
  generalize hAe : va_A [(c0, .inr (20, [.int 0, .ref c5, .int 0, .int 0, .ref c1, .ref c6, .ref c7, .ref c8, .ref c9, .ref c10, .ref c11, .ref c12, .ref c13, .ref c14, .ref c15, .ref c16, .ref c17, .int 0, .int 0, .int 0, .int 0, .int 0, .int 0, .int 0, .int 0, .int 0, .ref c18, .ref c19, .ref c20, .ref c21, .ref c22, .ref c23, .ref c24, .ref c25, .ref c26, .int 0])), (c1, .inl (c2, 4, .inl (fun _ => 0)))] s.heap.size = A at hD hN ⊢
  have hA : ∀ q : Nat, s.heap.size ≤ q → A q := fun q h => by rw [← hAe]; exact Or.inr h
  have hS : va_S A s.heap s.heap [] := va_S.rf
  have hl := lv_entry ([.ref c0, .int c3, .int c4]) (n := 5) (Nat.le_of_ble_eq_true rfl)
  rw [lg_entry_eq]
  generalize (lg_sl ([.ref c0, .int c3, .int c4]) ++ List.replicate (5 - (lg_sl ([.ref c0, .int c3, .int c4])).length) Slot.unset).toArray = ls at hl ⊢
  have hl : lv_has ls 5 [(0, .ref c0), (1, .int c3), (2, .int c4)] := hl
  refine lv_aload_n hx hb dX19_before_0 rfl (lv_at hl 0 rfl) ?_
  refine lv_iconst (v := 0) hx hb dX19_before_1 (by decide) ?_
  refine va_put (D := (dC, dI)) (ci := 20) (v := .int 0) (ty := .int) (C := RX19) (T := TX19) (N := 36) hx hb hts hi_k_X19_before_X19 tyX19 tyX19_ok nmX19 hown hK hP hD hS 0 rfl rfl 0 (by decide) (hts (.fieldLink RX19 113 "TimeMachineModel" "code" "I") (List.mem_of_getElem? (i := 1) rfl)) (fun _ h9 => h9) rfl (by decide +kernel) rfl rfl (Nat.le_of_ble_eq_true rfl) dX19_before_2 (fun H locs hP hD hS => ?_)
  have hP : va_P (dC, dI) vwCl [(c0, .inr (20, [.int 0, .ref c5, .int 0, .int 0, .ref c1, .ref c6, .ref c7, .ref c8, .ref c9, .ref c10, .ref c11, .ref c12, .ref c13, .ref c14, .ref c15, .ref c16, .ref c17, .int 0, .int 0, .int 0, .int 0, .int 0, .int 0, .int 0, .int 0, .int 0, .ref c18, .ref c19, .ref c20, .ref c21, .ref c22, .ref c23, .ref c24, .ref c25, .ref c26, .int 0])), (c1, .inl (c2, 4, .inl (fun _ => 0)))] H := hP
  have hD : va_D A [(c0, .inr (20, [.int 0, .ref c5, .int 0, .int 0, .ref c1, .ref c6, .ref c7, .ref c8, .ref c9, .ref c10, .ref c11, .ref c12, .ref c13, .ref c14, .ref c15, .ref c16, .ref c17, .int 0, .int 0, .int 0, .int 0, .int 0, .int 0, .int 0, .int 0, .int 0, .ref c18, .ref c19, .ref c20, .ref c21, .ref c22, .ref c23, .ref c24, .ref c25, .ref c26, .int 0])), (c1, .inl (c2, 4, .inl (fun _ => 0)))] := hD
  refine lv_iconst (v := (-1)) hx hb dX19_before_5 (by decide) ?_
  refine lv_istore_n (lv' := [(3, .int (-1)), (0, .ref c0), (1, .int c3), (2, .int c4)]) hx hb dX19_before_6 rfl hl (by decide) rfl (fun ls hl => ?_)
  refine lv_iconst (v := 0) hx hb dX19_before_7 (by decide) ?_
  refine lv_istore (lv' := [(4, .int 0), (3, .int (-1)), (0, .ref c0), (1, .int c3), (2, .int c4)]) hx hb dX19_before_8 hl (by decide) rfl (fun ls hl => ?_)
  refine lv_aload_n hx hb dX19_before_10 rfl (lv_at hl 2 rfl) ?_
  refine lv_iload_n hx hb dX19_before_11 rfl (lv_at hl 3 rfl) ?_
  have hPc := hP.sub (ws' := [(c0, .inr (20, [.int 0, .ref c5, .int 0, .int 0, .ref c1, .ref c6, .ref c7, .ref c8, .ref c9, .ref c10, .ref c11, .ref c12, .ref c13, .ref c14, .ref c15, .ref c16, .ref c17, .int 0, .int 0, .int 0, .int 0, .int 0, .int 0, .int 0, .int 0, .int 0, .ref c18, .ref c19, .ref c20, .ref c21, .ref c22, .ref c23, .ref c24, .ref c25, .ref c26, .int 0])), (c1, .inl (c2, 4, .inl (fun _ => 0)))]) [0, 1] rfl
  have hDc := hD.sub (ws' := [(c0, .inr (20, [.int 0, .ref c5, .int 0, .int 0, .ref c1, .ref c6, .ref c7, .ref c8, .ref c9, .ref c10, .ref c11, .ref c12, .ref c13, .ref c14, .ref c15, .ref c16, .ref c17, .int 0, .int 0, .int 0, .int 0, .int 0, .int 0, .int 0, .int 0, .int 0, .ref c18, .ref c19, .ref c20, .ref c21, .ref c22, .ref c23, .ref c24, .ref c25, .ref c26, .int 0])), (c1, .inl (c2, 4, .inl (fun _ => 0)))]) [0, 1] (by decide) rfl
  have hKc := hK.sub (tys' := [(c2, .boolean)]) [0] rfl
  have hFc := va_free (wc := [(c0, .inr (20, [.int 0, .ref c5, .int 0, .int 0, .ref c1, .ref c6, .ref c7, .ref c8, .ref c9, .ref c10, .ref c11, .ref c12, .ref c13, .ref c14, .ref c15, .ref c16, .ref c17, .int 0, .int 0, .int 0, .int 0, .int 0, .int 0, .int 0, .int 0, .int 0, .ref c18, .ref c19, .ref c20, .ref c21, .ref c22, .ref c23, .ref c24, .ref c25, .ref c26, .int 0])), (c1, .inl (c2, 4, .inl (fun _ => 0)))]) hD hS hA [0, 1] rfl
  refine va_calli (va_runV (As := [.int c3]) (rest := []) ⟨hx, hb, hml, hown, hts⟩ (k_X19_isProgram l hlt dC dI c0 c1 c2 c3 c5 c6 c7 c8 c9 c10 c11 c12 c13 c14 c15 c16 c17 c18 c19 c20 c21 c22 c23 c24 c25 c26  H.size) (cwV 1 hts gi_k_X19_before_0 rfl rfl rfl (by decide +kernel) ⟨Nat.le_of_ble_eq_true rfl, Nat.le_of_ble_eq_true rfl⟩) ⟨fun a U g mk q => by obtain ⟨q0, q1, qP, qK, qD, qN⟩ := q; exact ⟨q0, q1, qP, va_K.moved (u := U) (U := U.calling g mk a) (Vm.Alike.refl U.vm) qK, qD, nv_same rfl rfl qN⟩, va_recv hKc hPc (ci := 20) (q0 := 0) rfl rfl, fun U hU hW => ⟨rfl, by rw [hU], by rw [hU]; exact hPc, va_K.moved hW.alike hKc, hDc.weaken (fun _ _ _ _ => trivial), nv_call hS hFc hU hW hN⟩⟩ rfl rfl hl.1 rfl (lv_room (Nat.le_of_ble_eq_true rfl)) dX19_before_12 ⟨by decide +kernel, by decide +kernel⟩) hS (fun q _ h => hFc q h) hFc (fun r1 u t H1 locs ht hvm hw hB hz1 hk1 hS => ?_)
  obtain ⟨hP1, hK1, hD1⟩ := hB
  rw [ht] at hP1
  have hK1 := va_K.moved hvm.symm hK1
  obtain rfl : r1 = 0 := by rcases hw with ⟨_, h9⟩ | ⟨_, _, h9⟩ | ⟨_, _, h9⟩ | h9 <;> first | exact h9 | exact h9.elim
  obtain ⟨hP, hD⟩ := va_join (wr := []) (w1 := [(c0, .inr (20, [.int 0, .ref c5, .int 0, .int 0, .ref c1, .ref c6, .ref c7, .ref c8, .ref c9, .ref c10, .ref c11, .ref c12, .ref c13, .ref c14, .ref c15, .ref c16, .ref c17, .int 0, .int 0, .int 0, .int 0, .int 0, .int 0, .int 0, .int 0, .int 0, .ref c18, .ref c19, .ref c20, .ref c21, .ref c22, .ref c23, .ref c24, .ref c25, .ref c26, .int 0])), (c1, .inl (c2, 4, .inl (fun _ => 0)))]) hP hD [0, 1] [] rfl rfl (by decide) (by decide) hk1 hFc hP1 hD1
  have hK := (hK.sub (tys' := []) [] rfl).app hK1
  generalize H1 = H at hP hS ⊢
  have hP : va_P (dC, dI) vwCl [(c0, .inr (20, [.int 0, .ref c5, .int 0, .int 0, .ref c1, .ref c6, .ref c7, .ref c8, .ref c9, .ref c10, .ref c11, .ref c12, .ref c13, .ref c14, .ref c15, .ref c16, .ref c17, .int 0, .int 0, .int 0, .int 0, .int 0, .int 0, .int 0, .int 0, .int 0, .ref c18, .ref c19, .ref c20, .ref c21, .ref c22, .ref c23, .ref c24, .ref c25, .ref c26, .int 0])), (c1, .inl (c2, 4, .inl (fun _ => 0)))] H := hP
  have hD : va_D A [(c0, .inr (20, [.int 0, .ref c5, .int 0, .int 0, .ref c1, .ref c6, .ref c7, .ref c8, .ref c9, .ref c10, .ref c11, .ref c12, .ref c13, .ref c14, .ref c15, .ref c16, .ref c17, .int 0, .int 0, .int 0, .int 0, .int 0, .int 0, .int 0, .int 0, .int 0, .ref c18, .ref c19, .ref c20, .ref c21, .ref c22, .ref c23, .ref c24, .ref c25, .ref c26, .int 0])), (c1, .inl (c2, 4, .inl (fun _ => 0)))] := hD
  have hK : va_K (dC, dI) vwCl [(c2, .boolean)] s := hK
  refine W.widen (k := 0) (n := 0) (by decide +kernel) (by decide +kernel) ?_
  refine lv_if_eq (tgt := 81) hx hb dX19_before_15 (by decide) (fun _ => ?_) (fun h9 => absurd (by decide) h9)
  refine lv_iload_n hx hb dX19_before_81 rfl (lv_at hl 1 rfl) ?_
  have hP9 := hP.sub (ws' := [(c0, .inr (20, [.int 0, .ref c5, .int 0, .int 0, .ref c1, .ref c6, .ref c7, .ref c8, .ref c9, .ref c10, .ref c11, .ref c12, .ref c13, .ref c14, .ref c15, .ref c16, .ref c17, .int 0, .int 0, .int 0, .int 0, .int 0, .int 0, .int 0, .int 0, .int 0, .ref c18, .ref c19, .ref c20, .ref c21, .ref c22, .ref c23, .ref c24, .ref c25, .ref c26, .int 0])), (c1, .inl (c2, 4, .inl (fun _ => 0)))]) [0, 1] rfl
  have hD9 := hD.sub (ws' := [(c0, .inr (20, [.int 0, .ref c5, .int 0, .int 0, .ref c1, .ref c6, .ref c7, .ref c8, .ref c9, .ref c10, .ref c11, .ref c12, .ref c13, .ref c14, .ref c15, .ref c16, .ref c17, .int 0, .int 0, .int 0, .int 0, .int 0, .int 0, .int 0, .int 0, .int 0, .ref c18, .ref c19, .ref c20, .ref c21, .ref c22, .ref c23, .ref c24, .ref c25, .ref c26, .int 0])), (c1, .inl (c2, 4, .inl (fun _ => 0)))]) [0, 1] (by decide) rfl
  have hK9 := hK.sub (tys' := [(c2, .boolean)]) [0] rfl
  refine W.widen (k := 0) (n := 0) (by decide +kernel) (by decide +kernel) ?_
  exact W.iret (v := (-1)) hx hb hr (fun t ht hW => ⟨⟨(-1), (), rfl, rfl, by rw [ht]; exact hP9, va_K.moved hW.alike hK9, hD9⟩, hS.F ht⟩) hS.2.2 dX19_before_82
def ow_k_X12_line : List Cond := .code yX12_line cX12_line 4 (some .int) :: ([.methodLink RX12 85 yX12_programOf, .instanceMethod yX12_programOf, .selects RX12 yX12_programOf yX12_programOf, .initialized RX12] ++ (ow_k_X12_programOf ++ []))
theorem gd_k_X12_line : ∀ w ∈ ow_k_X12_line, (w.onTables && w.keeps) = true ∨ ∃ ty, w = Cond.arrayClass ty := List.forall_mem_cons.mpr ⟨good_of_word rfl, List.forall_mem_append.mpr ⟨fun w h => good_of_word (List.all_eq_true.mp (by decide +kernel) w h), List.forall_mem_append.mpr ⟨gd_k_X12_programOf, fun _ h => nomatch h⟩⟩⟩
theorem gi_k_X12_line_0 : GoodIn ow_k_X12_line (wsV RX12 85 RX12 yX12_programOf ow_k_X12_programOf) := goodIn_app (goodIn_of _ (by decide +kernel)) (fun w h => ⟨List.mem_cons_of_mem _ (List.mem_append_right _ (List.mem_append_left _ h)), gd_k_X12_programOf w h⟩)
set_option maxHeartbeats 40000000 in
set_option maxRecDepth 100000 in
theorem k_X12_line (l : Launch) (hlt : l.stackTraces = false) (dC : Nat → ClassId) (dI : Nat → Nat → Nat) (c0 : Nat) (c1 : Nat) (c2 : ClassId) (c3 : Int32) (c4 : Int32) (c5 : Nat) (c6 : Nat) (c7 : Nat) (c8 : Nat) (c9 : Nat) (c10 : Nat) (c11 : Nat) (c12 : Nat) (sz : Nat) : Met l yX12_line ow_k_X12_line ({ frames := 1, cells := 0, slots := 0, locals := 21 }) (va_Pc [.ref c0, .int c3, .int c4] (fun U => U.heap.size = sz ∧ va_P (dC, dI) vwCl [(c0, .inr (13, [.ref c5, .int 0, .int 0, .ref c1, .ref c6, .ref c7, .ref c8, .ref c9, .ref c10, .ref c11, .int 0, .ref c12])), (c1, .inl (c2, 4, .inr (.inr (.inr (.inr (fun _ => none))))))] U.heap ∧ va_K (dC, dI) vwCl [(c2, .object RX8)] U ∧ va_D (fun _ => True) [(c0, .inr (13, [.ref c5, .int 0, .int 0, .ref c1, .ref c6, .ref c7, .ref c8, .ref c9, .ref c10, .ref c11, .int 0, .ref c12])), (c1, .inl (c2, 4, .inr (.inr (.inr (.inr (fun _ => none))))))] ∧ nv_E (va_A [(c0, .inr (13, [.ref c5, .int 0, .int 0, .ref c1, .ref c6, .ref c7, .ref c8, .ref c9, .ref c10, .ref c11, .int 0, .ref c12])), (c1, .inl (c2, 4, .inr (.inr (.inr (.inr (fun _ => none))))))] sz) U)) (va_Qi (fun r _ => r = 0) (fun (_ : Unit) t => va_P (dC, dI) vwCl [(c0, .inr (13, [.ref c5, .int 0, .int 0, .ref c1, .ref c6, .ref c7, .ref c8, .ref c9, .ref c10, .ref c11, .int 0, .ref c12])), (c1, .inl (c2, 4, .inr (.inr (.inr (.inr (fun _ => none))))))] t.heap ∧ va_K (dC, dI) vwCl [(c2, .object RX8)] t ∧ va_D (va_A [(c0, .inr (13, [.ref c5, .int 0, .int 0, .ref c1, .ref c6, .ref c7, .ref c8, .ref c9, .ref c10, .ref c11, .int 0, .ref c12])), (c1, .inl (c2, 4, .inr (.inr (.inr (.inr (fun _ => none))))))] sz) [(c0, .inr (13, [.ref c5, .int 0, .int 0, .ref c1, .ref c6, .ref c7, .ref c8, .ref c9, .ref c10, .ref c11, .int 0, .ref c12])), (c1, .inl (c2, 4, .inr (.inr (.inr (.inr (fun _ => none))))))]) (va_A [(c0, .inr (13, [.ref c5, .int 0, .int 0, .ref c1, .ref c6, .ref c7, .ref c8, .ref c9, .ref c10, .ref c11, .int 0, .ref c12])), (c1, .inl (c2, 4, .inr (.inr (.inr (.inr (fun _ => none))))))] sz)) 0 0 (va_A [(c0, .inr (13, [.ref c5, .int 0, .int 0, .ref c1, .ref c6, .ref c7, .ref c8, .ref c9, .ref c10, .ref c11, .int 0, .ref c12])), (c1, .inl (c2, 4, .inr (.inr (.inr (.inr (fun _ => none))))))] sz) := by
  refine Met.ofW (cc := cX12_line) (maxL := 4) (ret := (some .int)) (by decide) rfl ?_
  intro p e s m args below meth c s₁ B hml hv
  obtain ⟨rfl, hsz, hP, hK, hD0, hN⟩ := hv
  have hx := B.exec
  have hb := B.bytes
  have hr := B.returns
  have hts := atoms_spec (ws := ow_k_X12_line) B.pre
  have hown : s.vm.findClass RX12 = some m.cls := findClass_of_methodNamed B.named
  have hlocks := B.notSynchronized
  subst hsz
  have hD := hD0.self (sz := s.heap.size)
  generalize hAe : va_A [(c0, .inr (13, [.ref c5, .int 0, .int 0, .ref c1, .ref c6, .ref c7, .ref c8, .ref c9, .ref c10, .ref c11, .int 0, .ref c12])), (c1, .inl (c2, 4, .inr (.inr (.inr (.inr (fun _ => none))))))] s.heap.size = A at hD hN ⊢
  have hA : ∀ q : Nat, s.heap.size ≤ q → A q := fun q h => by rw [← hAe]; exact Or.inr h
  have hS : va_S A s.heap s.heap [] := va_S.rf
  have hl := lv_entry ([.ref c0, .int c3, .int c4]) (n := 4) (Nat.le_of_ble_eq_true rfl)
  rw [lg_entry_eq]
  generalize (lg_sl ([.ref c0, .int c3, .int c4]) ++ List.replicate (4 - (lg_sl ([.ref c0, .int c3, .int c4])).length) Slot.unset).toArray = ls at hl ⊢
  have hl : lv_has ls 4 [(0, .ref c0), (1, .int c3), (2, .int c4)] := hl
  refine lv_aload_n hx hb dX12_line_0 rfl (lv_at hl 0 rfl) ?_
  refine lv_iload_n hx hb dX12_line_1 rfl (lv_at hl 1 rfl) ?_
  have hPc := hP.sub (ws' := [(c0, .inr (13, [.ref c5, .int 0, .int 0, .ref c1, .ref c6, .ref c7, .ref c8, .ref c9, .ref c10, .ref c11, .int 0, .ref c12])), (c1, .inl (c2, 4, .inr (.inr (.inr (.inr (fun _ => none))))))]) [0, 1] rfl
  have hDc := hD.sub (ws' := [(c0, .inr (13, [.ref c5, .int 0, .int 0, .ref c1, .ref c6, .ref c7, .ref c8, .ref c9, .ref c10, .ref c11, .int 0, .ref c12])), (c1, .inl (c2, 4, .inr (.inr (.inr (.inr (fun _ => none))))))]) [0, 1] (by decide) rfl
  have hKc := hK.sub (tys' := [(c2, .object RX8)]) [0] rfl
  have hFc := va_free (wc := [(c0, .inr (13, [.ref c5, .int 0, .int 0, .ref c1, .ref c6, .ref c7, .ref c8, .ref c9, .ref c10, .ref c11, .int 0, .ref c12])), (c1, .inl (c2, 4, .inr (.inr (.inr (.inr (fun _ => none))))))]) hD hS hA [0, 1] rfl
  refine va_callq (va_runV (As := [.int c3]) (rest := []) ⟨hx, hb, hml, hown, hts⟩ (k_X12_programOf l hlt dC dI c0 c1 c2 c3 c5 c6 c7 c8 c9 c10 c11 c12  s.heap.size) (cwV 1 hts gi_k_X12_line_0 rfl rfl rfl (by decide +kernel) ⟨Nat.le_of_ble_eq_true rfl, Nat.le_of_ble_eq_true rfl⟩) ⟨fun a U g mk q => by obtain ⟨q0, q1, qP, qK, qD, qN⟩ := q; exact ⟨q0, q1, qP, va_K.moved (u := U) (U := U.calling g mk a) (Vm.Alike.refl U.vm) qK, qD, nv_same rfl rfl qN⟩, va_recv hKc hPc (ci := 13) (q0 := 0) rfl rfl, fun U hU hW => ⟨rfl, by rw [hU], by rw [hU]; exact hPc, va_K.moved hW.alike hKc, hDc.weaken (fun _ _ _ _ => trivial), nv_call hS hFc hU hW hN⟩⟩ rfl rfl hl.1 rfl (lv_room (Nat.le_of_ble_eq_true rfl)) dX12_line_2 ⟨by decide +kernel, by decide +kernel⟩) hS (fun q _ h => hFc q h) hFc (fun r1 u t H1 locs ht hvm hw hB hz1 hk1 hS => ?_)
  obtain ⟨hP1, hK1, hD1⟩ := hB
  rw [ht] at hP1
  have hK1 := va_K.moved hvm.symm hK1
  obtain rfl : r1 = none := by rcases hw with ⟨_, h9⟩ | ⟨_, _, h9⟩ | ⟨_, _, h9⟩ | h9 <;> first | exact h9 | exact h9.elim
  obtain ⟨hP, hD⟩ := va_join (wr := []) (w1 := [(c0, .inr (13, [.ref c5, .int 0, .int 0, .ref c1, .ref c6, .ref c7, .ref c8, .ref c9, .ref c10, .ref c11, .int 0, .ref c12])), (c1, .inl (c2, 4, .inr (.inr (.inr (.inr (fun _ => none))))))]) hP hD [0, 1] [] rfl rfl (by decide) (by decide) hk1 hFc hP1 hD1
  have hK := (hK.sub (tys' := []) [] rfl).app hK1
  generalize H1 = H at hP hS ⊢
  have hP : va_P (dC, dI) vwCl [(c0, .inr (13, [.ref c5, .int 0, .int 0, .ref c1, .ref c6, .ref c7, .ref c8, .ref c9, .ref c10, .ref c11, .int 0, .ref c12])), (c1, .inl (c2, 4, .inr (.inr (.inr (.inr (fun _ => none))))))] H := hP
  have hD : va_D A [(c0, .inr (13, [.ref c5, .int 0, .int 0, .ref c1, .ref c6, .ref c7, .ref c8, .ref c9, .ref c10, .ref c11, .int 0, .ref c12])), (c1, .inl (c2, 4, .inr (.inr (.inr (.inr (fun _ => none))))))] := hD
  have hK : va_K (dC, dI) vwCl [(c2, .object RX8)] s := hK
  refine W.widen (k := 0) (n := 0) (by decide +kernel) (by decide +kernel) ?_
  refine lv_astore_nN (lv' := [(3, .null), (0, .ref c0), (1, .int c3), (2, .int c4)]) hx hb dX12_line_5 rfl hl (by decide) rfl (fun ls hl => ?_)
  refine lv_aload_nN hx hb dX12_line_6 rfl (lv_at hl 0 rfl) ?_
  refine lv_ifnonnullN hx hb dX12_line_7 ?_
  refine lv_iconst (v := 0) hx hb dX12_line_10 (by decide) ?_
  refine lv_goto (tgt := 19) hx hb dX12_line_11 (by decide) ?_
  have hP9 := hP.sub (ws' := [(c0, .inr (13, [.ref c5, .int 0, .int 0, .ref c1, .ref c6, .ref c7, .ref c8, .ref c9, .ref c10, .ref c11, .int 0, .ref c12])), (c1, .inl (c2, 4, .inr (.inr (.inr (.inr (fun _ => none))))))]) [0, 1] rfl
  have hD9 := hD.sub (ws' := [(c0, .inr (13, [.ref c5, .int 0, .int 0, .ref c1, .ref c6, .ref c7, .ref c8, .ref c9, .ref c10, .ref c11, .int 0, .ref c12])), (c1, .inl (c2, 4, .inr (.inr (.inr (.inr (fun _ => none))))))]) [0, 1] (by decide) rfl
  have hK9 := hK.sub (tys' := [(c2, .object RX8)]) [0] rfl
  refine W.widen (k := 0) (n := 0) (by decide +kernel) (by decide +kernel) ?_
  exact W.iret (v := 0) hx hb hr (fun t ht hW => ⟨⟨0, (), rfl, rfl, by rw [ht]; exact hP9, va_K.moved hW.alike hK9, hD9⟩, hS.F ht⟩) hS.2.2 dX12_line_19
def ow_k_X19_line : List Cond := .code yX19_line cX19_line 3 (some .int) :: ([.fieldLink RX19 113 "TimeMachineModel" "code" "I", .methodLink RX19 175 yX19_hasByte, .instanceMethod yX19_hasByte, .selects RX19 yX19_hasByte yX19_hasByte, .initialized RX19] ++ (u_ws RX19 TX19 36 ++ (ow_k_X19_hasByte ++ [])))
theorem gd_k_X19_line : ∀ w ∈ ow_k_X19_line, (w.onTables && w.keeps) = true ∨ ∃ ty, w = Cond.arrayClass ty := List.forall_mem_cons.mpr ⟨good_of_word rfl, List.forall_mem_append.mpr ⟨fun w h => good_of_word (List.all_eq_true.mp (by decide +kernel) w h), List.forall_mem_append.mpr ⟨gu_X19, List.forall_mem_append.mpr ⟨gd_k_X19_hasByte, fun _ h => nomatch h⟩⟩⟩⟩
theorem hi_k_X19_line_X19 : ∀ w ∈ u_ws RX19 TX19 36, w ∈ ow_k_X19_line := fun w h => List.mem_cons_of_mem _ (List.mem_append_right _ (List.mem_append_left _ h))
theorem gi_k_X19_line_0 : GoodIn ow_k_X19_line (wsV RX19 175 RX19 yX19_hasByte ow_k_X19_hasByte) := goodIn_app (goodIn_of _ (by decide +kernel)) (fun w h => ⟨List.mem_cons_of_mem _ (List.mem_append_right _ (List.mem_append_right _ (List.mem_append_left _ h))), gd_k_X19_hasByte w h⟩)
set_option maxHeartbeats 40000000 in
set_option maxRecDepth 100000 in
theorem k_X19_line (l : Launch) (hlt : l.stackTraces = false) (dC : Nat → ClassId) (dI : Nat → Nat → Nat) (c0 : Nat) (c1 : Nat) (c2 : ClassId) (c3 : Int32) (c4 : Int32) (c5 : Nat) (c6 : Nat) (c7 : Nat) (c8 : Nat) (c9 : Nat) (c10 : Nat) (c11 : Nat) (c12 : Nat) (c13 : Nat) (c14 : Nat) (c15 : Nat) (c16 : Nat) (c17 : Nat) (c18 : Nat) (c19 : Nat) (c20 : Nat) (c21 : Nat) (c22 : Nat) (c23 : Nat) (c24 : Nat) (c25 : Nat) (c26 : Nat) (sz : Nat) : Met l yX19_line ow_k_X19_line ({ frames := 3, cells := 0, slots := 0, locals := 68 }) (va_Pc [.ref c0, .int c3, .int c4] (fun U => U.heap.size = sz ∧ va_P (dC, dI) vwCl [(c0, .inr (20, [.int 0, .ref c5, .int 0, .int 0, .ref c1, .ref c6, .ref c7, .ref c8, .ref c9, .ref c10, .ref c11, .ref c12, .ref c13, .ref c14, .ref c15, .ref c16, .ref c17, .int 0, .int 0, .int 0, .int 0, .int 0, .int 0, .int 0, .int 0, .int 0, .ref c18, .ref c19, .ref c20, .ref c21, .ref c22, .ref c23, .ref c24, .ref c25, .ref c26, .int 0])), (c1, .inl (c2, 4, .inl (fun _ => 0)))] U.heap ∧ va_K (dC, dI) vwCl [(c2, .boolean)] U ∧ va_D (fun _ => True) [(c0, .inr (20, [.int 0, .ref c5, .int 0, .int 0, .ref c1, .ref c6, .ref c7, .ref c8, .ref c9, .ref c10, .ref c11, .ref c12, .ref c13, .ref c14, .ref c15, .ref c16, .ref c17, .int 0, .int 0, .int 0, .int 0, .int 0, .int 0, .int 0, .int 0, .int 0, .ref c18, .ref c19, .ref c20, .ref c21, .ref c22, .ref c23, .ref c24, .ref c25, .ref c26, .int 0])), (c1, .inl (c2, 4, .inl (fun _ => 0)))] ∧ nv_E (va_A [(c0, .inr (20, [.int 0, .ref c5, .int 0, .int 0, .ref c1, .ref c6, .ref c7, .ref c8, .ref c9, .ref c10, .ref c11, .ref c12, .ref c13, .ref c14, .ref c15, .ref c16, .ref c17, .int 0, .int 0, .int 0, .int 0, .int 0, .int 0, .int 0, .int 0, .int 0, .ref c18, .ref c19, .ref c20, .ref c21, .ref c22, .ref c23, .ref c24, .ref c25, .ref c26, .int 0])), (c1, .inl (c2, 4, .inl (fun _ => 0)))] sz) U)) (va_Qi (fun r _ => r = 0) (fun (_ : Unit) t => va_P (dC, dI) vwCl [(c0, .inr (20, [.int 0, .ref c5, .int 0, .int 0, .ref c1, .ref c6, .ref c7, .ref c8, .ref c9, .ref c10, .ref c11, .ref c12, .ref c13, .ref c14, .ref c15, .ref c16, .ref c17, .int 0, .int 0, .int 0, .int 0, .int 0, .int 0, .int 0, .int 0, .int 0, .ref c18, .ref c19, .ref c20, .ref c21, .ref c22, .ref c23, .ref c24, .ref c25, .ref c26, .int 0])), (c1, .inl (c2, 4, .inl (fun _ => 0)))] t.heap ∧ va_K (dC, dI) vwCl [(c2, .boolean)] t ∧ va_D (va_A [(c0, .inr (20, [.int 0, .ref c5, .int 0, .int 0, .ref c1, .ref c6, .ref c7, .ref c8, .ref c9, .ref c10, .ref c11, .ref c12, .ref c13, .ref c14, .ref c15, .ref c16, .ref c17, .int 0, .int 0, .int 0, .int 0, .int 0, .int 0, .int 0, .int 0, .int 0, .ref c18, .ref c19, .ref c20, .ref c21, .ref c22, .ref c23, .ref c24, .ref c25, .ref c26, .int 0])), (c1, .inl (c2, 4, .inl (fun _ => 0)))] sz) [(c0, .inr (20, [.int 0, .ref c5, .int 0, .int 0, .ref c1, .ref c6, .ref c7, .ref c8, .ref c9, .ref c10, .ref c11, .ref c12, .ref c13, .ref c14, .ref c15, .ref c16, .ref c17, .int 0, .int 0, .int 0, .int 0, .int 0, .int 0, .int 0, .int 0, .int 0, .ref c18, .ref c19, .ref c20, .ref c21, .ref c22, .ref c23, .ref c24, .ref c25, .ref c26, .int 0])), (c1, .inl (c2, 4, .inl (fun _ => 0)))]) (va_A [(c0, .inr (20, [.int 0, .ref c5, .int 0, .int 0, .ref c1, .ref c6, .ref c7, .ref c8, .ref c9, .ref c10, .ref c11, .ref c12, .ref c13, .ref c14, .ref c15, .ref c16, .ref c17, .int 0, .int 0, .int 0, .int 0, .int 0, .int 0, .int 0, .int 0, .int 0, .ref c18, .ref c19, .ref c20, .ref c21, .ref c22, .ref c23, .ref c24, .ref c25, .ref c26, .int 0])), (c1, .inl (c2, 4, .inl (fun _ => 0)))] sz)) 0 0 (va_A [(c0, .inr (20, [.int 0, .ref c5, .int 0, .int 0, .ref c1, .ref c6, .ref c7, .ref c8, .ref c9, .ref c10, .ref c11, .ref c12, .ref c13, .ref c14, .ref c15, .ref c16, .ref c17, .int 0, .int 0, .int 0, .int 0, .int 0, .int 0, .int 0, .int 0, .int 0, .ref c18, .ref c19, .ref c20, .ref c21, .ref c22, .ref c23, .ref c24, .ref c25, .ref c26, .int 0])), (c1, .inl (c2, 4, .inl (fun _ => 0)))] sz) := by
  refine Met.ofW (cc := cX19_line) (maxL := 3) (ret := (some .int)) (by decide) rfl ?_
  intro p e s m args below meth c s₁ B hml hv
  obtain ⟨rfl, hsz, hP, hK, hD0, hN⟩ := hv
  have hx := B.exec
  have hb := B.bytes
  have hr := B.returns
  have hts := atoms_spec (ws := ow_k_X19_line) B.pre
  have hown : s.vm.findClass RX19 = some m.cls := findClass_of_methodNamed B.named
  have hlocks := B.notSynchronized
  subst hsz
  have hD := hD0.self (sz := s.heap.size)
  generalize hAe : va_A [(c0, .inr (20, [.int 0, .ref c5, .int 0, .int 0, .ref c1, .ref c6, .ref c7, .ref c8, .ref c9, .ref c10, .ref c11, .ref c12, .ref c13, .ref c14, .ref c15, .ref c16, .ref c17, .int 0, .int 0, .int 0, .int 0, .int 0, .int 0, .int 0, .int 0, .int 0, .ref c18, .ref c19, .ref c20, .ref c21, .ref c22, .ref c23, .ref c24, .ref c25, .ref c26, .int 0])), (c1, .inl (c2, 4, .inl (fun _ => 0)))] s.heap.size = A at hD hN ⊢
  have hA : ∀ q : Nat, s.heap.size ≤ q → A q := fun q h => by rw [← hAe]; exact Or.inr h
  have hS : va_S A s.heap s.heap [] := va_S.rf
  have hl := lv_entry ([.ref c0, .int c3, .int c4]) (n := 3) (Nat.le_of_ble_eq_true rfl)
  rw [lg_entry_eq]
  generalize (lg_sl ([.ref c0, .int c3, .int c4]) ++ List.replicate (3 - (lg_sl ([.ref c0, .int c3, .int c4])).length) Slot.unset).toArray = ls at hl ⊢
  have hl : lv_has ls 3 [(0, .ref c0), (1, .int c3), (2, .int c4)] := hl
  refine lv_aload_n hx hb dX19_line_0 rfl (lv_at hl 0 rfl) ?_
  refine lv_iconst (v := 0) hx hb dX19_line_1 (by decide) ?_
  refine va_put (D := (dC, dI)) (ci := 20) (v := .int 0) (ty := .int) (C := RX19) (T := TX19) (N := 36) hx hb hts hi_k_X19_line_X19 tyX19 tyX19_ok nmX19 hown hK hP hD hS 0 rfl rfl 0 (by decide) (hts (.fieldLink RX19 113 "TimeMachineModel" "code" "I") (List.mem_of_getElem? (i := 1) rfl)) (fun _ h9 => h9) rfl (by decide +kernel) rfl rfl (Nat.le_of_ble_eq_true rfl) dX19_line_2 (fun H locs hP hD hS => ?_)
  have hP : va_P (dC, dI) vwCl [(c0, .inr (20, [.int 0, .ref c5, .int 0, .int 0, .ref c1, .ref c6, .ref c7, .ref c8, .ref c9, .ref c10, .ref c11, .ref c12, .ref c13, .ref c14, .ref c15, .ref c16, .ref c17, .int 0, .int 0, .int 0, .int 0, .int 0, .int 0, .int 0, .int 0, .int 0, .ref c18, .ref c19, .ref c20, .ref c21, .ref c22, .ref c23, .ref c24, .ref c25, .ref c26, .int 0])), (c1, .inl (c2, 4, .inl (fun _ => 0)))] H := hP
  have hD : va_D A [(c0, .inr (20, [.int 0, .ref c5, .int 0, .int 0, .ref c1, .ref c6, .ref c7, .ref c8, .ref c9, .ref c10, .ref c11, .ref c12, .ref c13, .ref c14, .ref c15, .ref c16, .ref c17, .int 0, .int 0, .int 0, .int 0, .int 0, .int 0, .int 0, .int 0, .int 0, .ref c18, .ref c19, .ref c20, .ref c21, .ref c22, .ref c23, .ref c24, .ref c25, .ref c26, .int 0])), (c1, .inl (c2, 4, .inl (fun _ => 0)))] := hD
  refine lv_aload_n hx hb dX19_line_5 rfl (lv_at hl 0 rfl) ?_
  refine lv_iload_n hx hb dX19_line_6 rfl (lv_at hl 1 rfl) ?_
  refine lv_iload_n hx hb dX19_line_7 rfl (lv_at hl 2 rfl) ?_
  have hPc := hP.sub (ws' := [(c0, .inr (20, [.int 0, .ref c5, .int 0, .int 0, .ref c1, .ref c6, .ref c7, .ref c8, .ref c9, .ref c10, .ref c11, .ref c12, .ref c13, .ref c14, .ref c15, .ref c16, .ref c17, .int 0, .int 0, .int 0, .int 0, .int 0, .int 0, .int 0, .int 0, .int 0, .ref c18, .ref c19, .ref c20, .ref c21, .ref c22, .ref c23, .ref c24, .ref c25, .ref c26, .int 0])), (c1, .inl (c2, 4, .inl (fun _ => 0)))]) [0, 1] rfl
  have hDc := hD.sub (ws' := [(c0, .inr (20, [.int 0, .ref c5, .int 0, .int 0, .ref c1, .ref c6, .ref c7, .ref c8, .ref c9, .ref c10, .ref c11, .ref c12, .ref c13, .ref c14, .ref c15, .ref c16, .ref c17, .int 0, .int 0, .int 0, .int 0, .int 0, .int 0, .int 0, .int 0, .int 0, .ref c18, .ref c19, .ref c20, .ref c21, .ref c22, .ref c23, .ref c24, .ref c25, .ref c26, .int 0])), (c1, .inl (c2, 4, .inl (fun _ => 0)))]) [0, 1] (by decide) rfl
  have hKc := hK.sub (tys' := [(c2, .boolean)]) [0] rfl
  have hFc := va_free (wc := [(c0, .inr (20, [.int 0, .ref c5, .int 0, .int 0, .ref c1, .ref c6, .ref c7, .ref c8, .ref c9, .ref c10, .ref c11, .ref c12, .ref c13, .ref c14, .ref c15, .ref c16, .ref c17, .int 0, .int 0, .int 0, .int 0, .int 0, .int 0, .int 0, .int 0, .int 0, .ref c18, .ref c19, .ref c20, .ref c21, .ref c22, .ref c23, .ref c24, .ref c25, .ref c26, .int 0])), (c1, .inl (c2, 4, .inl (fun _ => 0)))]) hD hS hA [0, 1] rfl
  refine va_calli (va_runV (As := [.int c3, .int c4]) (rest := []) ⟨hx, hb, hml, hown, hts⟩ (k_X19_hasByte l hlt dC dI c0 c1 c2 c3 c4 c5 c6 c7 c8 c9 c10 c11 c12 c13 c14 c15 c16 c17 c18 c19 c20 c21 c22 c23 c24 c25 c26  H.size) (cwV 2 hts gi_k_X19_line_0 rfl rfl rfl (by decide +kernel) ⟨Nat.le_of_ble_eq_true rfl, Nat.le_of_ble_eq_true rfl⟩) ⟨fun a U g mk q => by obtain ⟨q0, q1, qP, qK, qD, qN⟩ := q; exact ⟨q0, q1, qP, va_K.moved (u := U) (U := U.calling g mk a) (Vm.Alike.refl U.vm) qK, qD, nv_same rfl rfl qN⟩, va_recv hKc hPc (ci := 20) (q0 := 0) rfl rfl, fun U hU hW => ⟨rfl, by rw [hU], by rw [hU]; exact hPc, va_K.moved hW.alike hKc, hDc.weaken (fun _ _ _ _ => trivial), nv_call hS hFc hU hW hN⟩⟩ rfl rfl hl.1 rfl (lv_room (Nat.le_of_ble_eq_true rfl)) dX19_line_8 ⟨by decide +kernel, by decide +kernel⟩) hS (fun q _ h => hFc q h) hFc (fun r1 u t H1 locs ht hvm hw hB hz1 hk1 hS => ?_)
  obtain ⟨hP1, hK1, hD1⟩ := hB
  rw [ht] at hP1
  have hK1 := va_K.moved hvm.symm hK1
  obtain rfl : r1 = 0 := hw
  obtain ⟨hP, hD⟩ := va_join (wr := []) (w1 := [(c0, .inr (20, [.int 0, .ref c5, .int 0, .int 0, .ref c1, .ref c6, .ref c7, .ref c8, .ref c9, .ref c10, .ref c11, .ref c12, .ref c13, .ref c14, .ref c15, .ref c16, .ref c17, .int 0, .int 0, .int 0, .int 0, .int 0, .int 0, .int 0, .int 0, .int 0, .ref c18, .ref c19, .ref c20, .ref c21, .ref c22, .ref c23, .ref c24, .ref c25, .ref c26, .int 0])), (c1, .inl (c2, 4, .inl (fun _ => 0)))]) hP hD [0, 1] [] rfl rfl (by decide) (by decide) hk1 hFc hP1 hD1
  have hK := (hK.sub (tys' := []) [] rfl).app hK1
  generalize H1 = H at hP hS ⊢
  have hP : va_P (dC, dI) vwCl [(c0, .inr (20, [.int 0, .ref c5, .int 0, .int 0, .ref c1, .ref c6, .ref c7, .ref c8, .ref c9, .ref c10, .ref c11, .ref c12, .ref c13, .ref c14, .ref c15, .ref c16, .ref c17, .int 0, .int 0, .int 0, .int 0, .int 0, .int 0, .int 0, .int 0, .int 0, .ref c18, .ref c19, .ref c20, .ref c21, .ref c22, .ref c23, .ref c24, .ref c25, .ref c26, .int 0])), (c1, .inl (c2, 4, .inl (fun _ => 0)))] H := hP
  have hD : va_D A [(c0, .inr (20, [.int 0, .ref c5, .int 0, .int 0, .ref c1, .ref c6, .ref c7, .ref c8, .ref c9, .ref c10, .ref c11, .ref c12, .ref c13, .ref c14, .ref c15, .ref c16, .ref c17, .int 0, .int 0, .int 0, .int 0, .int 0, .int 0, .int 0, .int 0, .int 0, .ref c18, .ref c19, .ref c20, .ref c21, .ref c22, .ref c23, .ref c24, .ref c25, .ref c26, .int 0])), (c1, .inl (c2, 4, .inl (fun _ => 0)))] := hD
  have hK : va_K (dC, dI) vwCl [(c2, .boolean)] s := hK
  refine W.widen (k := 0) (n := 0) (by decide +kernel) (by decide +kernel) ?_
  refine lv_if_eq (tgt := 31) hx hb dX19_line_11 (by decide) (fun _ => ?_) (fun h9 => absurd (by decide) h9)
  refine lv_iconst (v := 0) hx hb dX19_line_31 (by decide) ?_
  have hP9 := hP.sub (ws' := [(c0, .inr (20, [.int 0, .ref c5, .int 0, .int 0, .ref c1, .ref c6, .ref c7, .ref c8, .ref c9, .ref c10, .ref c11, .ref c12, .ref c13, .ref c14, .ref c15, .ref c16, .ref c17, .int 0, .int 0, .int 0, .int 0, .int 0, .int 0, .int 0, .int 0, .int 0, .ref c18, .ref c19, .ref c20, .ref c21, .ref c22, .ref c23, .ref c24, .ref c25, .ref c26, .int 0])), (c1, .inl (c2, 4, .inl (fun _ => 0)))]) [0, 1] rfl
  have hD9 := hD.sub (ws' := [(c0, .inr (20, [.int 0, .ref c5, .int 0, .int 0, .ref c1, .ref c6, .ref c7, .ref c8, .ref c9, .ref c10, .ref c11, .ref c12, .ref c13, .ref c14, .ref c15, .ref c16, .ref c17, .int 0, .int 0, .int 0, .int 0, .int 0, .int 0, .int 0, .int 0, .int 0, .ref c18, .ref c19, .ref c20, .ref c21, .ref c22, .ref c23, .ref c24, .ref c25, .ref c26, .int 0])), (c1, .inl (c2, 4, .inl (fun _ => 0)))]) [0, 1] (by decide) rfl
  have hK9 := hK.sub (tys' := [(c2, .boolean)]) [0] rfl
  refine W.widen (k := 0) (n := 0) (by decide +kernel) (by decide +kernel) ?_
  exact W.iret (v := 0) hx hb hr (fun t ht hW => ⟨⟨0, (), rfl, rfl, by rw [ht]; exact hP9, va_K.moved hW.alike hK9, hD9⟩, hS.F ht⟩) hS.2.2 dX19_line_32
def ow_k_X12_boot : List Cond := .code yX12_boot cX12_boot 2 none :: ([.classLink RX12 70 "java/lang/IllegalArgumentException", .initialized "java/lang/IllegalArgumentException", .fieldLink RX12 16 "TimeMachine" "programs" "[LTimeMachine$Program;", .classLink RX12 118 "java/lang/IllegalStateException", .initialized "java/lang/IllegalStateException"] ++ (u_ws RX12 TX12 12 ++ ((vx_at0 RX12 72 "java/lang/IllegalArgumentException" ["java/lang/RuntimeException", "java/lang/Exception"]).filter goodWord ++ ((vx_at0 RX12 120 "java/lang/IllegalStateException" ["java/lang/RuntimeException", "java/lang/Exception"]).filter goodWord ++ []))))
theorem gd_k_X12_boot : ∀ w ∈ ow_k_X12_boot, (w.onTables && w.keeps) = true ∨ ∃ ty, w = Cond.arrayClass ty := List.forall_mem_cons.mpr ⟨good_of_word rfl, List.forall_mem_append.mpr ⟨fun w h => good_of_word (List.all_eq_true.mp (by decide +kernel) w h), List.forall_mem_append.mpr ⟨gu_X12, List.forall_mem_append.mpr ⟨fun w h => good_of_word (List.mem_filter.mp h).2, List.forall_mem_append.mpr ⟨fun w h => good_of_word (List.mem_filter.mp h).2, fun _ h => nomatch h⟩⟩⟩⟩⟩
theorem hi_k_X12_boot_X12 : ∀ w ∈ u_ws RX12 TX12 12, w ∈ ow_k_X12_boot := fun w h => List.mem_cons_of_mem _ (List.mem_append_right _ (List.mem_append_left _ h))
set_option maxHeartbeats 40000000 in
set_option maxRecDepth 100000 in
theorem k_X12_boot (l : Launch) (hlt : l.stackTraces = false) (dC : Nat → ClassId) (dI : Nat → Nat → Nat) (c0 : Nat) (c1 : Nat) (c2 : ClassId) (c3 : Int32) (c4 : Nat) (c5 : Nat) (c6 : Nat) (c7 : Nat) (c8 : Nat) (c9 : Nat) (c10 : Nat) (c11 : Nat) (sz : Nat) : vx_Met l yX12_boot ow_k_X12_boot ({ frames := 6, cells := 1, slots := 6, locals := 81 }) (va_Pc [.ref c0, .int c3] (fun U => U.heap.size = sz ∧ va_P (dC, dI) vwCl [(c0, .inr (13, [.ref c4, .int 0, .int 0, .ref c1, .ref c5, .ref c6, .ref c7, .ref c8, .ref c9, .ref c10, .int 0, .ref c11])), (c1, .inl (c2, 4, .inr (.inr (.inr (.inr (fun _ => none))))))] U.heap ∧ va_K (dC, dI) vwCl [(c2, .object RX8)] U ∧ va_D (fun _ => True) [(c0, .inr (13, [.ref c4, .int 0, .int 0, .ref c1, .ref c5, .ref c6, .ref c7, .ref c8, .ref c9, .ref c10, .int 0, .ref c11])), (c1, .inl (c2, 4, .inr (.inr (.inr (.inr (fun _ => none))))))] ∧ nv_E (va_A [(c0, .inr (13, [.ref c4, .int 0, .int 0, .ref c1, .ref c5, .ref c6, .ref c7, .ref c8, .ref c9, .ref c10, .int 0, .ref c11])), (c1, .inl (c2, 4, .inr (.inr (.inr (.inr (fun _ => none))))))] sz) U ∧ nv_Dc U)) (va_Qv (fun _ => False) (fun (_ : Unit) t => True) (va_A [(c0, .inr (13, [.ref c4, .int 0, .int 0, .ref c1, .ref c5, .ref c6, .ref c7, .ref c8, .ref c9, .ref c10, .int 0, .ref c11])), (c1, .inl (c2, 4, .inr (.inr (.inr (.inr (fun _ => none))))))] sz)) (vx_X (fun _ : Unit => True) (fun E _ _ => ((c3 < 0) ∧ E = "java/lang/IllegalArgumentException") ∨ ((¬ c3 < 0) ∧ (c3 < 4) ∧ E = "java/lang/IllegalStateException") ∨ ((¬ c3 < 0) ∧ (¬ c3 < 4) ∧ E = "java/lang/IllegalArgumentException") ∨ False) (va_A [(c0, .inr (13, [.ref c4, .int 0, .int 0, .ref c1, .ref c5, .ref c6, .ref c7, .ref c8, .ref c9, .ref c10, .int 0, .ref c11])), (c1, .inl (c2, 4, .inr (.inr (.inr (.inr (fun _ => none))))))] sz)) 1 6 (va_A [(c0, .inr (13, [.ref c4, .int 0, .int 0, .ref c1, .ref c5, .ref c6, .ref c7, .ref c8, .ref c9, .ref c10, .int 0, .ref c11])), (c1, .inl (c2, 4, .inr (.inr (.inr (.inr (fun _ => none))))))] sz) := by
  refine vx_ofW (cc := cX12_boot) (maxL := 2) (ret := none) (by decide) rfl ?_
  intro p e s m args below meth c s₁ B hml htb hv
  obtain ⟨rfl, hsz, hP, hK, hD0, hN, hDe⟩ := hv
  have hx := B.exec
  have hb := B.bytes
  have hr := B.returns
  have hts := atoms_spec (ws := ow_k_X12_boot) B.pre
  have hown : s.vm.findClass RX12 = some m.cls := findClass_of_methodNamed B.named
  have hlocks := B.notSynchronized
  subst hsz
  have hD := hD0.self (sz := s.heap.size)
  generalize hAe : va_A [(c0, .inr (13, [.ref c4, .int 0, .int 0, .ref c1, .ref c5, .ref c6, .ref c7, .ref c8, .ref c9, .ref c10, .int 0, .ref c11])), (c1, .inl (c2, 4, .inr (.inr (.inr (.inr (fun _ => none))))))] s.heap.size = A at hD hN ⊢
  have hA : ∀ q : Nat, s.heap.size ≤ q → A q := fun q h => by rw [← hAe]; exact Or.inr h
  have hS : va_S A s.heap s.heap [] := va_S.rf
  have hl := lv_entry ([.ref c0, .int c3]) (n := 2) (Nat.le_of_ble_eq_true rfl)
  rw [lg_entry_eq]
  generalize (lg_sl ([.ref c0, .int c3]) ++ List.replicate (2 - (lg_sl ([.ref c0, .int c3])).length) Slot.unset).toArray = ls at hl ⊢
  have hl : lv_has ls 2 [(0, .ref c0), (1, .int c3)] := hl
  refine lv_iload_n hx hb dX12_boot_0 rfl (lv_at hl 1 rfl) ?_
  refine lv_if_lt (tgt := 9) hx hb dX12_boot_1 (by decide) (fun c_1 => ?_) (fun c_1 => ?_)
  · exact vx_throw0 (own := RX12) (cls := "java/lang/IllegalArgumentException") (names := ["java/lang/RuntimeException", "java/lang/Exception"]) (ik := 70) (ic := 72) (A := A) hx hb hlt hown (by decide +kernel) (by decide +kernel) (hts (.classLink RX12 70 "java/lang/IllegalArgumentException") (List.mem_of_getElem? (i := 1) rfl)) (hts (.initialized "java/lang/IllegalArgumentException") (List.mem_of_getElem? (i := 2) rfl)) (vx_hat (B := [.castable "java/lang/IllegalArgumentException" "java/lang/IllegalArgumentException", .declares ⟨"java/lang/RuntimeException", "<init>", "()V"⟩, .declares ⟨"java/lang/Exception", "<init>", "()V"⟩, .declares ⟨"java/lang/Throwable", "<init>", "()V"⟩]) (fun w h => hts w (List.mem_cons_of_mem _ (List.mem_append_right _ (List.mem_append_right _ (List.mem_append_left _ h))))) (by decide +kernel) (vx_c (va_Nw.use rfl hN.2.2.2.2.2.2.2.1) (vx_c (va_Nw.use rfl (hDe _ (by decide +kernel))) (vx_c (va_Nw.use rfl (hDe _ (by decide +kernel))) (vx_c (va_Nw.use rfl (hDe _ (by decide +kernel))) vx_n))))) (by decide +kernel) hN.2.2.2.2.2.1 hN.2.2.2.2.2.2.1 hS (by rw [hml]; exact hl.1) dX12_boot_9 dX12_boot_12 dX12_boot_13 dX12_boot_16 (fun x9 h9 => (htb x9 h9).elim) (Nat.le_of_ble_eq_true rfl) (Nat.le_of_ble_eq_true rfl) (by decide +kernel) (by decide +kernel) hlocks (fun t hvm hz hk => ⟨(), trivial, Or.inl ⟨c_1, rfl⟩, Nat.le_trans hS.1 hz, fun q h1 h2 => (hk q (Nat.lt_of_lt_of_le h1 hS.1)).trans (hS.2.1 q h1 h2)⟩) hS.2.2 (by decide +kernel) (by decide +kernel)
  · refine lv_iload_n hx hb dX12_boot_4 rfl (lv_at hl 1 rfl) ?_
    refine lv_iconst (v := 4) hx hb dX12_boot_5 (by decide) ?_
    refine lv_icmp_lt (tgt := 17) hx hb dX12_boot_6 (by decide) (fun c_2 => ?_) (fun c_2 => ?_)
    · refine lv_aload_n hx hb dX12_boot_17 rfl (lv_at hl 0 rfl) ?_
      refine va_get (D := (dC, dI)) (ci := 13) (v := .ref c1) (C := RX12) (T := TX12) (N := 12) hx hb hts hi_k_X12_boot_X12 hown hK hP 0 rfl rfl 3 (by decide) (hts (.fieldLink RX12 16 "TimeMachine" "programs" "[LTimeMachine$Program;") (List.mem_of_getElem? (i := 3) rfl)) (fun _ h9 => h9) rfl dX12_boot_18 ?_
      refine lv_iload_n hx hb dX12_boot_21 rfl (lv_at hl 1 rfl) ?_
      refine va_aldq (i := c3) hx hb hK hP 1 0 rfl rfl (nv_in1 (k := 4) c_1 c_2 (by decide) (by decide)) dX12_boot_22 ?_
      refine W.eq (g2 := F0 m 23 ls [.null]) rfl ?_
      refine lv_ifnonnullN hx hb dX12_boot_23 ?_
      exact vx_throw0 (own := RX12) (cls := "java/lang/IllegalStateException") (names := ["java/lang/RuntimeException", "java/lang/Exception"]) (ik := 118) (ic := 120) (A := A) hx hb hlt hown (by decide +kernel) (by decide +kernel) (hts (.classLink RX12 118 "java/lang/IllegalStateException") (List.mem_of_getElem? (i := 4) rfl)) (hts (.initialized "java/lang/IllegalStateException") (List.mem_of_getElem? (i := 5) rfl)) (vx_hat (B := [.castable "java/lang/IllegalStateException" "java/lang/IllegalStateException", .declares ⟨"java/lang/RuntimeException", "<init>", "()V"⟩, .declares ⟨"java/lang/Exception", "<init>", "()V"⟩, .declares ⟨"java/lang/Throwable", "<init>", "()V"⟩]) (fun w h => hts w (List.mem_cons_of_mem _ (List.mem_append_right _ (List.mem_append_right _ (List.mem_append_right _ (List.mem_append_left _ h)))))) (by decide +kernel) (vx_c (va_Nw.use rfl hN.2.2.2.2.2.2.2.2.1) (vx_c (va_Nw.use rfl (hDe _ (by decide +kernel))) (vx_c (va_Nw.use rfl (hDe _ (by decide +kernel))) (vx_c (va_Nw.use rfl (hDe _ (by decide +kernel))) vx_n))))) (by decide +kernel) hN.2.2.2.2.2.1 hN.2.2.2.2.2.2.1 hS (by rw [hml]; exact hl.1) dX12_boot_26 dX12_boot_29 dX12_boot_30 dX12_boot_33 (fun x9 h9 => (htb x9 h9).elim) (Nat.le_of_ble_eq_true rfl) (Nat.le_of_ble_eq_true rfl) (by decide +kernel) (by decide +kernel) hlocks (fun t hvm hz hk => ⟨(), trivial, Or.inr (Or.inl ⟨c_1, c_2, rfl⟩), Nat.le_trans hS.1 hz, fun q h1 h2 => (hk q (Nat.lt_of_lt_of_le h1 hS.1)).trans (hS.2.1 q h1 h2)⟩) hS.2.2 (by decide +kernel) (by decide +kernel)
    · exact vx_throw0 (own := RX12) (cls := "java/lang/IllegalArgumentException") (names := ["java/lang/RuntimeException", "java/lang/Exception"]) (ik := 70) (ic := 72) (A := A) hx hb hlt hown (by decide +kernel) (by decide +kernel) (hts (.classLink RX12 70 "java/lang/IllegalArgumentException") (List.mem_of_getElem? (i := 1) rfl)) (hts (.initialized "java/lang/IllegalArgumentException") (List.mem_of_getElem? (i := 2) rfl)) (vx_hat (B := [.castable "java/lang/IllegalArgumentException" "java/lang/IllegalArgumentException", .declares ⟨"java/lang/RuntimeException", "<init>", "()V"⟩, .declares ⟨"java/lang/Exception", "<init>", "()V"⟩, .declares ⟨"java/lang/Throwable", "<init>", "()V"⟩]) (fun w h => hts w (List.mem_cons_of_mem _ (List.mem_append_right _ (List.mem_append_right _ (List.mem_append_left _ h))))) (by decide +kernel) (vx_c (va_Nw.use rfl hN.2.2.2.2.2.2.2.1) (vx_c (va_Nw.use rfl (hDe _ (by decide +kernel))) (vx_c (va_Nw.use rfl (hDe _ (by decide +kernel))) (vx_c (va_Nw.use rfl (hDe _ (by decide +kernel))) vx_n))))) (by decide +kernel) hN.2.2.2.2.2.1 hN.2.2.2.2.2.2.1 hS (by rw [hml]; exact hl.1) dX12_boot_9 dX12_boot_12 dX12_boot_13 dX12_boot_16 (fun x9 h9 => (htb x9 h9).elim) (Nat.le_of_ble_eq_true rfl) (Nat.le_of_ble_eq_true rfl) (by decide +kernel) (by decide +kernel) hlocks (fun t hvm hz hk => ⟨(), trivial, Or.inr (Or.inr (Or.inl ⟨c_1, c_2, rfl⟩)), Nat.le_trans hS.1 hz, fun q h1 h2 => (hk q (Nat.lt_of_lt_of_le h1 hS.1)).trans (hS.2.1 q h1 h2)⟩) hS.2.2 (by decide +kernel) (by decide +kernel)
def ow_k_L_boot : List Cond := .codeWith yL_boot cL_boot 3 (some .int) [(0, 5, 8, 13), (0, 5, 11, 19)] :: ([.methodLink RL 15 yX12_boot, .instanceMethod yX12_boot, .selects RX12 yX12_boot yX12_boot, .initialized RX12, .classLink RL 13 "java/lang/IllegalArgumentException", .classLink RL 19 "java/lang/IllegalStateException"] ++ (ow_k_X12_boot ++ []))
theorem gd_k_L_boot : ∀ w ∈ ow_k_L_boot, (w.onTables && w.keeps) = true ∨ ∃ ty, w = Cond.arrayClass ty := List.forall_mem_cons.mpr ⟨good_of_word rfl, List.forall_mem_append.mpr ⟨fun w h => good_of_word (List.all_eq_true.mp (by decide +kernel) w h), List.forall_mem_append.mpr ⟨gd_k_X12_boot, fun _ h => nomatch h⟩⟩⟩
theorem gi_k_L_boot_0 : GoodIn ow_k_L_boot (wsV RL 15 RX12 yX12_boot ow_k_X12_boot) := goodIn_app (goodIn_of _ (by decide +kernel)) (fun w h => ⟨List.mem_cons_of_mem _ (List.mem_append_right _ (List.mem_append_left _ h)), gd_k_X12_boot w h⟩)
set_option maxHeartbeats 40000000 in
set_option maxRecDepth 100000 in
theorem k_L_boot (l : Launch) (hlt : l.stackTraces = false) (dC : Nat → ClassId) (dI : Nat → Nat → Nat) (c0 : Nat) (c1 : Nat) (c2 : ClassId) (c3 : Int32) (c4 : Nat) (c5 : Nat) (c6 : Nat) (c7 : Nat) (c8 : Nat) (c9 : Nat) (c10 : Nat) (c11 : Nat) (sz : Nat) : Met l yL_boot ow_k_L_boot ({ frames := 7, cells := 1, slots := 6, locals := 102 }) (va_Pc [.ref c0, .int c3] (fun U => U.heap.size = sz ∧ va_P (dC, dI) vwCl [(c0, .inr (13, [.ref c4, .int 0, .int 0, .ref c1, .ref c5, .ref c6, .ref c7, .ref c8, .ref c9, .ref c10, .int 0, .ref c11])), (c1, .inl (c2, 4, .inr (.inr (.inr (.inr (fun _ => none))))))] U.heap ∧ va_K (dC, dI) vwCl [(c2, .object RX8)] U ∧ va_D (fun _ => True) [(c0, .inr (13, [.ref c4, .int 0, .int 0, .ref c1, .ref c5, .ref c6, .ref c7, .ref c8, .ref c9, .ref c10, .int 0, .ref c11])), (c1, .inl (c2, 4, .inr (.inr (.inr (.inr (fun _ => none))))))] ∧ nv_E (va_A [(c0, .inr (13, [.ref c4, .int 0, .int 0, .ref c1, .ref c5, .ref c6, .ref c7, .ref c8, .ref c9, .ref c10, .int 0, .ref c11])), (c1, .inl (c2, 4, .inr (.inr (.inr (.inr (fun _ => none))))))] sz) U ∧ nv_Dc U)) (va_Qi (fun r _ => ((c3 < 0) ∧ r = 1) ∨ ((¬ c3 < 0) ∧ (c3 < 4) ∧ r = 2) ∨ ((¬ c3 < 0) ∧ (¬ c3 < 4) ∧ r = 1) ∨ False) (fun (_ : Unit) t => True) (va_A [(c0, .inr (13, [.ref c4, .int 0, .int 0, .ref c1, .ref c5, .ref c6, .ref c7, .ref c8, .ref c9, .ref c10, .int 0, .ref c11])), (c1, .inl (c2, 4, .inr (.inr (.inr (.inr (fun _ => none))))))] sz)) 1 6 (va_A [(c0, .inr (13, [.ref c4, .int 0, .int 0, .ref c1, .ref c5, .ref c6, .ref c7, .ref c8, .ref c9, .ref c10, .int 0, .ref c11])), (c1, .inl (c2, 4, .inr (.inr (.inr (.inr (fun _ => none))))))] sz) := by
  refine va_MetW (hh := [(0, 5, 8, 13), (0, 5, 11, 19)]) (cc := cL_boot) (maxL := 3) (ret := (some .int)) (by decide) rfl ?_
  intro p e s m args below meth c s₁ B hml hv
  obtain ⟨rfl, hsz, hP, hK, hD0, hN, hDe⟩ := hv
  have hx := B.exec
  have hb := B.bytes
  have hr := B.returns
  have hts := atoms_spec (ws := ow_k_L_boot) B.pre
  have hown : s.vm.findClass RL = some m.cls := findClass_of_methodNamed B.named
  have hlocks := B.notSynchronized
  have htab : c.exceptionTable.toList = tableOf [(0, 5, 8, 13), (0, 5, 11, 19)] := vx_table (x := yL_boot) B (hts _ List.mem_cons_self)
  subst hsz
  have hD := hD0.self (sz := s.heap.size)
  generalize hAe : va_A [(c0, .inr (13, [.ref c4, .int 0, .int 0, .ref c1, .ref c5, .ref c6, .ref c7, .ref c8, .ref c9, .ref c10, .int 0, .ref c11])), (c1, .inl (c2, 4, .inr (.inr (.inr (.inr (fun _ => none))))))] s.heap.size = A at hD hN ⊢
  have hA : ∀ q : Nat, s.heap.size ≤ q → A q := fun q h => by rw [← hAe]; exact Or.inr h
  have hS : va_S A s.heap s.heap [] := va_S.rf
  have hl := lv_entry ([.ref c0, .int c3]) (n := 3) (Nat.le_of_ble_eq_true rfl)
  rw [lg_entry_eq]
  generalize (lg_sl ([.ref c0, .int c3]) ++ List.replicate (3 - (lg_sl ([.ref c0, .int c3])).length) Slot.unset).toArray = ls at hl ⊢
  have hl : lv_has ls 3 [(0, .ref c0), (1, .int c3)] := hl
  refine lv_aload_n hx hb dL_boot_0 rfl (lv_at hl 0 rfl) ?_
  refine lv_iload_n hx hb dL_boot_1 rfl (lv_at hl 1 rfl) ?_
  have hPc := hP.sub (ws' := [(c0, .inr (13, [.ref c4, .int 0, .int 0, .ref c1, .ref c5, .ref c6, .ref c7, .ref c8, .ref c9, .ref c10, .int 0, .ref c11])), (c1, .inl (c2, 4, .inr (.inr (.inr (.inr (fun _ => none))))))]) [0, 1] rfl
  have hDc := hD.sub (ws' := [(c0, .inr (13, [.ref c4, .int 0, .int 0, .ref c1, .ref c5, .ref c6, .ref c7, .ref c8, .ref c9, .ref c10, .int 0, .ref c11])), (c1, .inl (c2, 4, .inr (.inr (.inr (.inr (fun _ => none))))))]) [0, 1] (by decide) rfl
  have hKc := hK.sub (tys' := [(c2, .object RX8)]) [0] rfl
  have hFc := va_free (wc := [(c0, .inr (13, [.ref c4, .int 0, .int 0, .ref c1, .ref c5, .ref c6, .ref c7, .ref c8, .ref c9, .ref c10, .int 0, .ref c11])), (c1, .inl (c2, 4, .inr (.inr (.inr (.inr (fun _ => none))))))]) hD hS hA [0, 1] rfl
  refine vx_callv (vx_runV (As := [.int c3]) (rest := []) ⟨hx, hb, hml, hown, hts⟩ (k_X12_boot l hlt dC dI c0 c1 c2 c3 c4 c5 c6 c7 c8 c9 c10 c11  s.heap.size) (cwV 1 hts gi_k_L_boot_0 rfl rfl rfl (by decide +kernel) ⟨Nat.le_of_ble_eq_true rfl, Nat.le_of_ble_eq_true rfl⟩) ⟨fun a U g mk q => by obtain ⟨q0, q1, qP, qK, qD, qN, qE⟩ := q; exact ⟨q0, q1, qP, va_K.moved (u := U) (U := U.calling g mk a) (Vm.Alike.refl U.vm) qK, qD, nv_same rfl rfl qN, nv_Dsame rfl qE⟩, va_recv hKc hPc (ci := 13) (q0 := 0) rfl rfl, fun U hU hW => ⟨rfl, by rw [hU], by rw [hU]; exact hPc, va_K.moved hW.alike hKc, hDc.weaken (fun _ _ _ _ => trivial), nv_call hS hFc hU hW hN, nv_Dcall hW hDe⟩⟩ rfl rfl hl.1 rfl (lv_room (Nat.le_of_ble_eq_true rfl)) dL_boot_2 ⟨by decide +kernel, by decide +kernel⟩) hS (fun q _ h => hFc q h) hFc (fun q _ h => hFc q h) (fun E9 ce q9 ux t H1 locs ht hvm _ hw _ hk1 hS hce hcv hcl => ?_) (fun u t H1 locs ht hvm hw hB hz1 hk1 hS => ?_)
  · have hK1 := hK.sub (tys' := []) [] rfl
    obtain ⟨hP, hD⟩ := va_join (wr := []) (w1 := []) hP hD [0, 1] [] rfl rfl (by decide) (by decide) hk1 hFc nv_P0 nv_D0
    have hK := (hK.sub (tys' := []) [] rfl).app hK1
    generalize H1 = H at hP hS hce ⊢
    have hP : va_P (dC, dI) vwCl [] H := hP
    have hD : va_D A [] := hD
    have hK : va_K (dC, dI) vwCl [] s := hK
    rcases hw with ⟨c_1_0, h9⟩ | ⟨c_1_0, c_1_1, h9⟩ | ⟨c_1_0, c_1_1, h9⟩ | h9
    · subst h9
      refine nw_catch (own := RL) (name := "java/lang/IllegalArgumentException") hown [] ⟨0, 5, 8, 13⟩ [⟨0, 5, 11, 19⟩] (htab.trans rfl) (fun z h9 => absurd h9 List.not_mem_nil) (by decide) (by decide) (hts (.classLink RL 13 "java/lang/IllegalArgumentException") (List.mem_of_getElem? (i := 5) rfl)) (va_Nw.use rfl hN.2.2.2.2.2.2.2.1) hce hcv hcl ?_
      refine W.eq (g2 := F0 m 8 ls [.ref q9]) rfl ?_
      refine W.widen (k := 1) (n := 6) (by decide +kernel) (by decide +kernel) ?_
      refine lv_astore_n (lv' := [(2, .ref q9), (0, .ref c0), (1, .int c3)]) hx hb dL_boot_8 rfl hl (by decide) rfl (fun ls hl => ?_)
      refine lv_iconst (v := 1) hx hb dL_boot_9 (by decide) ?_
      refine W.widen (k := 1) (n := 6) (by decide +kernel) (by decide +kernel) ?_
      exact W.iret (v := 1) hx hb hr (fun t ht hW => ⟨⟨1, (), rfl, Or.inl ⟨c_1_0, rfl⟩, trivial⟩, hS.F ht⟩) hS.2.2 dL_boot_10
    · subst h9
      refine nw_catch (own := RL) (name := "java/lang/IllegalStateException") hown [⟨0, 5, 8, 13⟩] ⟨0, 5, 11, 19⟩ [] (htab.trans rfl) (fun z h9 => by rcases List.mem_singleton.mp h9 with rfl; exact Or.inr ⟨by decide, _, (hts (.classLink RL 13 "java/lang/IllegalArgumentException") (List.mem_of_getElem? (i := 5) rfl)), hN.2.2.2.2.2.2.2.2.2⟩) (by decide) (by decide) (hts (.classLink RL 19 "java/lang/IllegalStateException") (List.mem_of_getElem? (i := 6) rfl)) (va_Nw.use rfl hN.2.2.2.2.2.2.2.2.1) hce hcv hcl ?_
      refine W.eq (g2 := F0 m 11 ls [.ref q9]) rfl ?_
      refine W.widen (k := 1) (n := 6) (by decide +kernel) (by decide +kernel) ?_
      refine lv_astore_n (lv' := [(2, .ref q9), (0, .ref c0), (1, .int c3)]) hx hb dL_boot_11 rfl hl (by decide) rfl (fun ls hl => ?_)
      refine lv_iconst (v := 2) hx hb dL_boot_12 (by decide) ?_
      refine W.widen (k := 1) (n := 6) (by decide +kernel) (by decide +kernel) ?_
      exact W.iret (v := 2) hx hb hr (fun t ht hW => ⟨⟨2, (), rfl, Or.inr (Or.inl ⟨c_1_0, c_1_1, rfl⟩), trivial⟩, hS.F ht⟩) hS.2.2 dL_boot_13
    · subst h9
      refine nw_catch (own := RL) (name := "java/lang/IllegalArgumentException") hown [] ⟨0, 5, 8, 13⟩ [⟨0, 5, 11, 19⟩] (htab.trans rfl) (fun z h9 => absurd h9 List.not_mem_nil) (by decide) (by decide) (hts (.classLink RL 13 "java/lang/IllegalArgumentException") (List.mem_of_getElem? (i := 5) rfl)) (va_Nw.use rfl hN.2.2.2.2.2.2.2.1) hce hcv hcl ?_
      refine W.eq (g2 := F0 m 8 ls [.ref q9]) rfl ?_
      refine W.widen (k := 1) (n := 6) (by decide +kernel) (by decide +kernel) ?_
      refine lv_astore_n (lv' := [(2, .ref q9), (0, .ref c0), (1, .int c3)]) hx hb dL_boot_8 rfl hl (by decide) rfl (fun ls hl => ?_)
      refine lv_iconst (v := 1) hx hb dL_boot_9 (by decide) ?_
      refine W.widen (k := 1) (n := 6) (by decide +kernel) (by decide +kernel) ?_
      exact W.iret (v := 1) hx hb hr (fun t ht hW => ⟨⟨1, (), rfl, Or.inr (Or.inr (Or.inl ⟨c_1_0, c_1_1, rfl⟩)), trivial⟩, hS.F ht⟩) hS.2.2 dL_boot_10
    · exact h9.elim
  exact hw.elim
def ow_k_X19_fails_v2 : List Cond := .code yX19_fails cX19_fails 3 (some .boolean) :: ([.fieldLink RX19 113 "TimeMachineModel" "code" "I"] ++ (u_ws RX19 TX19 36 ++ []))
theorem gd_k_X19_fails_v2 : ∀ w ∈ ow_k_X19_fails_v2, (w.onTables && w.keeps) = true ∨ ∃ ty, w = Cond.arrayClass ty := List.forall_mem_cons.mpr ⟨good_of_word rfl, List.forall_mem_append.mpr ⟨fun w h => good_of_word (List.all_eq_true.mp (by decide +kernel) w h), List.forall_mem_append.mpr ⟨gu_X19, fun _ h => nomatch h⟩⟩⟩
theorem hi_k_X19_fails_v2_X19 : ∀ w ∈ u_ws RX19 TX19 36, w ∈ ow_k_X19_fails_v2 := fun w h => List.mem_cons_of_mem _ (List.mem_append_right _ (List.mem_append_left _ h))
