set_option maxHeartbeats 40000000 in
set_option maxRecDepth 100000 in
theorem k_X16_immediate_v5 (l : Launch) (hlt : l.stackTraces = false) (dC : Nat → ClassId) (dI : Nat → Nat → Nat) (c0 : Int32) (c1 : Int32) (sz : Nat) : Met l yX16_immediate ow_k_X16_immediate_v5 ({ frames := 0, cells := 0, slots := 0, locals := 0 }) (va_Pc [.int 3, .int 2, .int c0, .int 2, .int c1] (fun U => U.heap.size = sz ∧ va_P (dC, dI) vwCl [] U.heap ∧ va_K (dC, dI) vwCl [] U ∧ va_D (fun _ => True) [] ∧ nv_E (va_A [] sz) U)) (va_Qi (fun r _ => (r = ((((3 ||| ((c0 : Int32) <<< ((7 : Int32) &&& 31))) ||| 8192) ||| 65536) ||| ((c1 : Int32) <<< ((20 : Int32) &&& 31)))) ∨ False) (fun (_ : Unit) t => va_P (dC, dI) vwCl [] t.heap ∧ va_K (dC, dI) vwCl [] t ∧ va_D (va_A [] sz) []) (va_A [] sz)) 0 0 (va_A [] sz) := by
  refine Met.ofW (cc := cX16_immediate) (maxL := 5) (ret := (some .int)) (by decide) rfl ?_
  intro p e s m args below meth c s₁ B hml hv
  obtain ⟨rfl, hsz, hP, hK, hD0, hN⟩ := hv
  have hx := B.exec
  have hb := B.bytes
  have hr := B.returns
  have hts := atoms_spec (ws := ow_k_X16_immediate_v5) B.pre
  have hown : s.vm.findClass RX16 = some m.cls := findClass_of_methodNamed B.named
  have hlocks := B.notSynchronized
  subst hsz
  have hD := hD0.self (sz := s.heap.size)
  generalize hAe : va_A [] s.heap.size = A at hD hN ⊢
  have hA : ∀ q : Nat, s.heap.size ≤ q → A q := fun q h => by rw [← hAe]; exact Or.inr h
  have hS : va_S A s.heap s.heap [] := va_S.rf
  have hl := lv_entry ([.int 3, .int 2, .int c0, .int 2, .int c1]) (n := 5) (Nat.le_of_ble_eq_true rfl)
  rw [lg_entry_eq]
  generalize (lg_sl ([.int 3, .int 2, .int c0, .int 2, .int c1]) ++ List.replicate (5 - (lg_sl ([.int 3, .int 2, .int c0, .int 2, .int c1])).length) Slot.unset).toArray = ls at hl ⊢
  have hl : lv_has ls 5 [(0, .int 3), (1, .int 2), (2, .int c0), (3, .int 2), (4, .int c1)] := hl
  refine lv_iload_n hx hb dX16_immediate_0 rfl (lv_at hl 0 rfl) ?_
  refine lv_iload_n hx hb dX16_immediate_1 rfl (lv_at hl 2 rfl) ?_
  refine lv_bipush (v := 7) hx hb dX16_immediate_2 (by decide) ?_
  refine lv_ishl hx hb dX16_immediate_4 ?_
  refine lv_ior hx hb dX16_immediate_5 ?_
  refine lv_iload_n hx hb dX16_immediate_6 rfl (lv_at hl 1 rfl) ?_
  refine lv_bipush (v := 12) hx hb dX16_immediate_7 (by decide) ?_
  refine lv_ishl hx hb dX16_immediate_9 ?_
  refine lv_topi (fun z1 ez1 => ?_)
  obtain rfl : z1 = 8192 := ez1.trans (by decide)
  refine lv_ior hx hb dX16_immediate_10 ?_
  refine lv_iload_n hx hb dX16_immediate_11 rfl (lv_at hl 3 rfl) ?_
  refine lv_bipush (v := 15) hx hb dX16_immediate_12 (by decide) ?_
  refine lv_ishl hx hb dX16_immediate_14 ?_
  refine lv_topi (fun z2 ez2 => ?_)
  obtain rfl : z2 = 65536 := ez2.trans (by decide)
  refine lv_ior hx hb dX16_immediate_15 ?_
  refine lv_iload hx hb dX16_immediate_16 (lv_at hl 4 rfl) ?_
  refine lv_bipush (v := 20) hx hb dX16_immediate_18 (by decide) ?_
  refine lv_ishl hx hb dX16_immediate_20 ?_
  refine lv_ior hx hb dX16_immediate_21 ?_
  refine W.widen (k := 0) (n := 0) (by decide +kernel) (by decide +kernel) ?_
  exact W.iret (v := ((((3 ||| ((c0 : Int32) <<< ((7 : Int32) &&& 31))) ||| 8192) ||| 65536) ||| ((c1 : Int32) <<< ((20 : Int32) &&& 31)))) hx hb hr (fun t ht hW => ⟨⟨((((3 ||| ((c0 : Int32) <<< ((7 : Int32) &&& 31))) ||| 8192) ||| 65536) ||| ((c1 : Int32) <<< ((20 : Int32) &&& 31))), (), rfl, Or.inl rfl, by rw [ht]; exact hP, va_K.moved hW.alike hK, hD⟩, hS.F ht⟩) hS.2.2 dX16_immediate_22
def ow_k_X16_immediate_v6 : List Cond := .code yX16_immediate cX16_immediate 5 (some .int) :: ([] ++ [])
theorem gd_k_X16_immediate_v6 : ∀ w ∈ ow_k_X16_immediate_v6, (w.onTables && w.keeps) = true ∨ ∃ ty, w = Cond.arrayClass ty := List.forall_mem_cons.mpr ⟨good_of_word rfl, List.forall_mem_append.mpr ⟨fun w h => good_of_word (List.all_eq_true.mp (by decide +kernel) w h), fun _ h => nomatch h⟩⟩
set_option maxHeartbeats 40000000 in
set_option maxRecDepth 100000 in
theorem k_X16_immediate_v6 (l : Launch) (hlt : l.stackTraces = false) (dC : Nat → ClassId) (dI : Nat → Nat → Nat) (c0 : Int32) (c1 : Int32) (c2 : Int32) (sz : Nat) : Met l yX16_immediate ow_k_X16_immediate_v6 ({ frames := 0, cells := 0, slots := 0, locals := 0 }) (va_Pc [.int 19, .int 1, .int c0, .int c1, .int c2] (fun U => U.heap.size = sz ∧ va_P (dC, dI) vwCl [] U.heap ∧ va_K (dC, dI) vwCl [] U ∧ va_D (fun _ => True) [] ∧ nv_E (va_A [] sz) U)) (va_Qi (fun r _ => (r = ((((19 ||| ((c0 : Int32) <<< ((7 : Int32) &&& 31))) ||| 4096) ||| ((c1 : Int32) <<< ((15 : Int32) &&& 31))) ||| ((c2 : Int32) <<< ((20 : Int32) &&& 31)))) ∨ False) (fun (_ : Unit) t => va_P (dC, dI) vwCl [] t.heap ∧ va_K (dC, dI) vwCl [] t ∧ va_D (va_A [] sz) []) (va_A [] sz)) 0 0 (va_A [] sz) := by
  refine Met.ofW (cc := cX16_immediate) (maxL := 5) (ret := (some .int)) (by decide) rfl ?_
  intro p e s m args below meth c s₁ B hml hv
  obtain ⟨rfl, hsz, hP, hK, hD0, hN⟩ := hv
  have hx := B.exec
  have hb := B.bytes
  have hr := B.returns
  have hts := atoms_spec (ws := ow_k_X16_immediate_v6) B.pre
  have hown : s.vm.findClass RX16 = some m.cls := findClass_of_methodNamed B.named
  have hlocks := B.notSynchronized
  subst hsz
  have hD := hD0.self (sz := s.heap.size)
  generalize hAe : va_A [] s.heap.size = A at hD hN ⊢
  have hA : ∀ q : Nat, s.heap.size ≤ q → A q := fun q h => by rw [← hAe]; exact Or.inr h
  have hS : va_S A s.heap s.heap [] := va_S.rf
  have hl := lv_entry ([.int 19, .int 1, .int c0, .int c1, .int c2]) (n := 5) (Nat.le_of_ble_eq_true rfl)
  rw [lg_entry_eq]
  generalize (lg_sl ([.int 19, .int 1, .int c0, .int c1, .int c2]) ++ List.replicate (5 - (lg_sl ([.int 19, .int 1, .int c0, .int c1, .int c2])).length) Slot.unset).toArray = ls at hl ⊢
  have hl : lv_has ls 5 [(0, .int 19), (1, .int 1), (2, .int c0), (3, .int c1), (4, .int c2)] := hl
  refine lv_iload_n hx hb dX16_immediate_0 rfl (lv_at hl 0 rfl) ?_
  refine lv_iload_n hx hb dX16_immediate_1 rfl (lv_at hl 2 rfl) ?_
  refine lv_bipush (v := 7) hx hb dX16_immediate_2 (by decide) ?_
  refine lv_ishl hx hb dX16_immediate_4 ?_
  refine lv_ior hx hb dX16_immediate_5 ?_
  refine lv_iload_n hx hb dX16_immediate_6 rfl (lv_at hl 1 rfl) ?_
  refine lv_bipush (v := 12) hx hb dX16_immediate_7 (by decide) ?_
  refine lv_ishl hx hb dX16_immediate_9 ?_
  refine lv_topi (fun z1 ez1 => ?_)
  obtain rfl : z1 = 4096 := ez1.trans (by decide)
  refine lv_ior hx hb dX16_immediate_10 ?_
  refine lv_iload_n hx hb dX16_immediate_11 rfl (lv_at hl 3 rfl) ?_
  refine lv_bipush (v := 15) hx hb dX16_immediate_12 (by decide) ?_
  refine lv_ishl hx hb dX16_immediate_14 ?_
  refine lv_ior hx hb dX16_immediate_15 ?_
  refine lv_iload hx hb dX16_immediate_16 (lv_at hl 4 rfl) ?_
  refine lv_bipush (v := 20) hx hb dX16_immediate_18 (by decide) ?_
  refine lv_ishl hx hb dX16_immediate_20 ?_
  refine lv_ior hx hb dX16_immediate_21 ?_
  refine W.widen (k := 0) (n := 0) (by decide +kernel) (by decide +kernel) ?_
  exact W.iret (v := ((((19 ||| ((c0 : Int32) <<< ((7 : Int32) &&& 31))) ||| 4096) ||| ((c1 : Int32) <<< ((15 : Int32) &&& 31))) ||| ((c2 : Int32) <<< ((20 : Int32) &&& 31)))) hx hb hr (fun t ht hW => ⟨⟨((((19 ||| ((c0 : Int32) <<< ((7 : Int32) &&& 31))) ||| 4096) ||| ((c1 : Int32) <<< ((15 : Int32) &&& 31))) ||| ((c2 : Int32) <<< ((20 : Int32) &&& 31))), (), rfl, Or.inl rfl, by rw [ht]; exact hP, va_K.moved hW.alike hK, hD⟩, hS.F ht⟩) hS.2.2 dX16_immediate_22
def ow_k_X16_immediate_v7 : List Cond := .code yX16_immediate cX16_immediate 5 (some .int) :: ([] ++ [])
theorem gd_k_X16_immediate_v7 : ∀ w ∈ ow_k_X16_immediate_v7, (w.onTables && w.keeps) = true ∨ ∃ ty, w = Cond.arrayClass ty := List.forall_mem_cons.mpr ⟨good_of_word rfl, List.forall_mem_append.mpr ⟨fun w h => good_of_word (List.all_eq_true.mp (by decide +kernel) w h), fun _ h => nomatch h⟩⟩
set_option maxHeartbeats 40000000 in
set_option maxRecDepth 100000 in
theorem k_X16_immediate_v7 (l : Launch) (hlt : l.stackTraces = false) (dC : Nat → ClassId) (dI : Nat → Nat → Nat) (c0 : Int32) (sz : Nat) : Met l yX16_immediate ow_k_X16_immediate_v7 ({ frames := 0, cells := 0, slots := 0, locals := 0 }) (va_Pc [.int 103, .int 0, .int 1, .int c0, .int 0] (fun U => U.heap.size = sz ∧ va_P (dC, dI) vwCl [] U.heap ∧ va_K (dC, dI) vwCl [] U ∧ va_D (fun _ => True) [] ∧ nv_E (va_A [] sz) U)) (va_Qi (fun r _ => (r = ((231 ||| ((c0 : Int32) <<< ((15 : Int32) &&& 31))) ||| 0)) ∨ False) (fun (_ : Unit) t => va_P (dC, dI) vwCl [] t.heap ∧ va_K (dC, dI) vwCl [] t ∧ va_D (va_A [] sz) []) (va_A [] sz)) 0 0 (va_A [] sz) := by
  refine Met.ofW (cc := cX16_immediate) (maxL := 5) (ret := (some .int)) (by decide) rfl ?_
  intro p e s m args below meth c s₁ B hml hv
  obtain ⟨rfl, hsz, hP, hK, hD0, hN⟩ := hv
  have hx := B.exec
  have hb := B.bytes
  have hr := B.returns
  have hts := atoms_spec (ws := ow_k_X16_immediate_v7) B.pre
  have hown : s.vm.findClass RX16 = some m.cls := findClass_of_methodNamed B.named
  have hlocks := B.notSynchronized
  subst hsz
  have hD := hD0.self (sz := s.heap.size)
  generalize hAe : va_A [] s.heap.size = A at hD hN ⊢
  have hA : ∀ q : Nat, s.heap.size ≤ q → A q := fun q h => by rw [← hAe]; exact Or.inr h
  have hS : va_S A s.heap s.heap [] := va_S.rf
  have hl := lv_entry ([.int 103, .int 0, .int 1, .int c0, .int 0]) (n := 5) (Nat.le_of_ble_eq_true rfl)
  rw [lg_entry_eq]
  generalize (lg_sl ([.int 103, .int 0, .int 1, .int c0, .int 0]) ++ List.replicate (5 - (lg_sl ([.int 103, .int 0, .int 1, .int c0, .int 0])).length) Slot.unset).toArray = ls at hl ⊢
  have hl : lv_has ls 5 [(0, .int 103), (1, .int 0), (2, .int 1), (3, .int c0), (4, .int 0)] := hl
  refine lv_iload_n hx hb dX16_immediate_0 rfl (lv_at hl 0 rfl) ?_
  refine lv_iload_n hx hb dX16_immediate_1 rfl (lv_at hl 2 rfl) ?_
  refine lv_bipush (v := 7) hx hb dX16_immediate_2 (by decide) ?_
  refine lv_ishl hx hb dX16_immediate_4 ?_
  refine lv_topi (fun z1 ez1 => ?_)
  obtain rfl : z1 = 128 := ez1.trans (by decide)
  refine lv_ior hx hb dX16_immediate_5 ?_
  refine lv_topi (fun z2 ez2 => ?_)
  obtain rfl : z2 = 231 := ez2.trans (by decide)
  refine lv_iload_n hx hb dX16_immediate_6 rfl (lv_at hl 1 rfl) ?_
  refine lv_bipush (v := 12) hx hb dX16_immediate_7 (by decide) ?_
  refine lv_ishl hx hb dX16_immediate_9 ?_
  refine lv_topi (fun z3 ez3 => ?_)
  obtain rfl : z3 = 0 := ez3.trans (by decide)
  refine lv_ior hx hb dX16_immediate_10 ?_
  refine lv_topi (fun z4 ez4 => ?_)
  obtain rfl : z4 = 231 := ez4.trans (by decide)
  refine lv_iload_n hx hb dX16_immediate_11 rfl (lv_at hl 3 rfl) ?_
  refine lv_bipush (v := 15) hx hb dX16_immediate_12 (by decide) ?_
  refine lv_ishl hx hb dX16_immediate_14 ?_
  refine lv_ior hx hb dX16_immediate_15 ?_
  refine lv_iload hx hb dX16_immediate_16 (lv_at hl 4 rfl) ?_
  refine lv_bipush (v := 20) hx hb dX16_immediate_18 (by decide) ?_
  refine lv_ishl hx hb dX16_immediate_20 ?_
  refine lv_topi (fun z5 ez5 => ?_)
  obtain rfl : z5 = 0 := ez5.trans (by decide)
  refine lv_ior hx hb dX16_immediate_21 ?_
  refine W.widen (k := 0) (n := 0) (by decide +kernel) (by decide +kernel) ?_
  exact W.iret (v := ((231 ||| ((c0 : Int32) <<< ((15 : Int32) &&& 31))) ||| 0)) hx hb hr (fun t ht hW => ⟨⟨((231 ||| ((c0 : Int32) <<< ((15 : Int32) &&& 31))) ||| 0), (), rfl, Or.inl rfl, by rw [ht]; exact hP, va_K.moved hW.alike hK, hD⟩, hS.F ht⟩) hS.2.2 dX16_immediate_22
def ow_k_X16_threes_v4 : List Cond := .code yX16_threes cX16_threes 5 (some .int) :: ([] ++ [])
theorem gd_k_X16_threes_v4 : ∀ w ∈ ow_k_X16_threes_v4, (w.onTables && w.keeps) = true ∨ ∃ ty, w = Cond.arrayClass ty := List.forall_mem_cons.mpr ⟨good_of_word rfl, List.forall_mem_append.mpr ⟨fun w h => good_of_word (List.all_eq_true.mp (by decide +kernel) w h), fun _ h => nomatch h⟩⟩
set_option maxHeartbeats 40000000 in
set_option maxRecDepth 100000 in
theorem k_X16_threes_v4 (l : Launch) (hlt : l.stackTraces = false) (dC : Nat → ClassId) (dI : Nat → Nat → Nat) (c0 : Int32) (c1 : Int32) (c2 : Int32) (sz : Nat) : Met l yX16_threes ow_k_X16_threes_v4 ({ frames := 0, cells := 0, slots := 0, locals := 0 }) (va_Pc [.int 0, .int 0, .int c0, .int c1, .int c2] (fun U => U.heap.size = sz ∧ va_P (dC, dI) vwCl [] U.heap ∧ va_K (dC, dI) vwCl [] U ∧ va_D (fun _ => True) [] ∧ nv_E (va_A [] sz) U)) (va_Qi (fun r _ => (r = (((((51 ||| ((c0 : Int32) <<< ((7 : Int32) &&& 31))) ||| 0) ||| ((c1 : Int32) <<< ((15 : Int32) &&& 31))) ||| ((c2 : Int32) <<< ((20 : Int32) &&& 31))) ||| 0)) ∨ False) (fun (_ : Unit) t => va_P (dC, dI) vwCl [] t.heap ∧ va_K (dC, dI) vwCl [] t ∧ va_D (va_A [] sz) []) (va_A [] sz)) 0 0 (va_A [] sz) := by
  refine Met.ofW (cc := cX16_threes) (maxL := 5) (ret := (some .int)) (by decide) rfl ?_
  intro p e s m args below meth c s₁ B hml hv
  obtain ⟨rfl, hsz, hP, hK, hD0, hN⟩ := hv
  have hx := B.exec
  have hb := B.bytes
  have hr := B.returns
  have hts := atoms_spec (ws := ow_k_X16_threes_v4) B.pre
  have hown : s.vm.findClass RX16 = some m.cls := findClass_of_methodNamed B.named
  have hlocks := B.notSynchronized
  subst hsz
  have hD := hD0.self (sz := s.heap.size)
  generalize hAe : va_A [] s.heap.size = A at hD hN ⊢
  have hA : ∀ q : Nat, s.heap.size ≤ q → A q := fun q h => by rw [← hAe]; exact Or.inr h
  have hS : va_S A s.heap s.heap [] := va_S.rf
  have hl := lv_entry ([.int 0, .int 0, .int c0, .int c1, .int c2]) (n := 5) (Nat.le_of_ble_eq_true rfl)
  rw [lg_entry_eq]
  generalize (lg_sl ([.int 0, .int 0, .int c0, .int c1, .int c2]) ++ List.replicate (5 - (lg_sl ([.int 0, .int 0, .int c0, .int c1, .int c2])).length) Slot.unset).toArray = ls at hl ⊢
  have hl : lv_has ls 5 [(0, .int 0), (1, .int 0), (2, .int c0), (3, .int c1), (4, .int c2)] := hl
  refine lv_bipush (v := 51) hx hb dX16_threes_0 (by decide) ?_
  refine lv_iload_n hx hb dX16_threes_2 rfl (lv_at hl 2 rfl) ?_
  refine lv_bipush (v := 7) hx hb dX16_threes_3 (by decide) ?_
  refine lv_ishl hx hb dX16_threes_5 ?_
  refine lv_ior hx hb dX16_threes_6 ?_
  refine lv_iload_n hx hb dX16_threes_7 rfl (lv_at hl 0 rfl) ?_
  refine lv_bipush (v := 12) hx hb dX16_threes_8 (by decide) ?_
  refine lv_ishl hx hb dX16_threes_10 ?_
  refine lv_topi (fun z1 ez1 => ?_)
  obtain rfl : z1 = 0 := ez1.trans (by decide)
  refine lv_ior hx hb dX16_threes_11 ?_
  refine lv_iload_n hx hb dX16_threes_12 rfl (lv_at hl 3 rfl) ?_
  refine lv_bipush (v := 15) hx hb dX16_threes_13 (by decide) ?_
  refine lv_ishl hx hb dX16_threes_15 ?_
  refine lv_ior hx hb dX16_threes_16 ?_
  refine lv_iload hx hb dX16_threes_17 (lv_at hl 4 rfl) ?_
  refine lv_bipush (v := 20) hx hb dX16_threes_19 (by decide) ?_
  refine lv_ishl hx hb dX16_threes_21 ?_
  refine lv_ior hx hb dX16_threes_22 ?_
  refine lv_iload_n hx hb dX16_threes_23 rfl (lv_at hl 1 rfl) ?_
  refine lv_bipush (v := 25) hx hb dX16_threes_24 (by decide) ?_
  refine lv_ishl hx hb dX16_threes_26 ?_
  refine lv_topi (fun z2 ez2 => ?_)
  obtain rfl : z2 = 0 := ez2.trans (by decide)
  refine lv_ior hx hb dX16_threes_27 ?_
  refine W.widen (k := 0) (n := 0) (by decide +kernel) (by decide +kernel) ?_
  exact W.iret (v := (((((51 ||| ((c0 : Int32) <<< ((7 : Int32) &&& 31))) ||| 0) ||| ((c1 : Int32) <<< ((15 : Int32) &&& 31))) ||| ((c2 : Int32) <<< ((20 : Int32) &&& 31))) ||| 0)) hx hb hr (fun t ht hW => ⟨⟨(((((51 ||| ((c0 : Int32) <<< ((7 : Int32) &&& 31))) ||| 0) ||| ((c1 : Int32) <<< ((15 : Int32) &&& 31))) ||| ((c2 : Int32) <<< ((20 : Int32) &&& 31))) ||| 0), (), rfl, Or.inl rfl, by rw [ht]; exact hP, va_K.moved hW.alike hK, hD⟩, hS.F ht⟩) hS.2.2 dX16_threes_28
def ow_g_X16_two : List Cond := .code yX16_two cX16_two 7 (some .int) :: ([.methodLink RX16 297 yX16_part, .static yX16_part, .initialized RX16, .methodLink RX16 300 yX16_bit, .static yX16_bit, .methodLink RX16 313 yX16_immediate, .static yX16_immediate, .methodLink RX16 332 yX16_threes, .static yX16_threes, .methodLink RX16 317 yX16_storing, .static yX16_storing, .constant RX16 335 (1048691)] ++ (ow_k_X16_part_v20 ++ (ow_k_X16_part_v21 ++ (ow_k_X16_part_v22 ++ (ow_k_X16_bit_v16 ++ (ow_k_X16_bit_v17 ++ (ow_k_X16_bit_v18 ++ (ow_k_X16_bit_v19 ++ (ow_k_X16_bit_v20 ++ (ow_k_X16_immediate_v4 ++ (ow_k_X16_threes_v3 ++ (ow_k_X16_storing_v1 ++ (ow_k_X16_immediate_v5 ++ (ow_k_X16_immediate_v6 ++ (ow_k_X16_immediate_v7 ++ (ow_k_X16_threes_v4 ++ []))))))))))))))))
theorem gd_g_X16_two : ∀ w ∈ ow_g_X16_two, (w.onTables && w.keeps) = true ∨ ∃ ty, w = Cond.arrayClass ty := List.forall_mem_cons.mpr ⟨good_of_word rfl, List.forall_mem_append.mpr ⟨fun w h => good_of_word (List.all_eq_true.mp (by decide +kernel) w h), List.forall_mem_append.mpr ⟨gd_k_X16_part_v20, List.forall_mem_append.mpr ⟨gd_k_X16_part_v21, List.forall_mem_append.mpr ⟨gd_k_X16_part_v22, List.forall_mem_append.mpr ⟨gd_k_X16_bit_v16, List.forall_mem_append.mpr ⟨gd_k_X16_bit_v17, List.forall_mem_append.mpr ⟨gd_k_X16_bit_v18, List.forall_mem_append.mpr ⟨gd_k_X16_bit_v19, List.forall_mem_append.mpr ⟨gd_k_X16_bit_v20, List.forall_mem_append.mpr ⟨gd_k_X16_immediate_v4, List.forall_mem_append.mpr ⟨gd_k_X16_threes_v3, List.forall_mem_append.mpr ⟨gd_k_X16_storing_v1, List.forall_mem_append.mpr ⟨gd_k_X16_immediate_v5, List.forall_mem_append.mpr ⟨gd_k_X16_immediate_v6, List.forall_mem_append.mpr ⟨gd_k_X16_immediate_v7, List.forall_mem_append.mpr ⟨gd_k_X16_threes_v4, fun _ h => nomatch h⟩⟩⟩⟩⟩⟩⟩⟩⟩⟩⟩⟩⟩⟩⟩⟩⟩
theorem gi_g_X16_two_0 : GoodIn ow_g_X16_two (wsS RX16 297 yX16_part ow_k_X16_part_v20) := goodIn_app (goodIn_of _ (by decide +kernel)) (fun w h => ⟨List.mem_cons_of_mem _ (List.mem_append_right _ (List.mem_append_left _ h)), gd_k_X16_part_v20 w h⟩)
theorem gi_g_X16_two_1 : GoodIn ow_g_X16_two (wsS RX16 297 yX16_part ow_k_X16_part_v21) := goodIn_app (goodIn_of _ (by decide +kernel)) (fun w h => ⟨List.mem_cons_of_mem _ (List.mem_append_right _ (List.mem_append_right _ (List.mem_append_left _ h))), gd_k_X16_part_v21 w h⟩)
theorem gi_g_X16_two_2 : GoodIn ow_g_X16_two (wsS RX16 297 yX16_part ow_k_X16_part_v22) := goodIn_app (goodIn_of _ (by decide +kernel)) (fun w h => ⟨List.mem_cons_of_mem _ (List.mem_append_right _ (List.mem_append_right _ (List.mem_append_right _ (List.mem_append_left _ h)))), gd_k_X16_part_v22 w h⟩)
theorem gi_g_X16_two_3 : GoodIn ow_g_X16_two (wsS RX16 300 yX16_bit ow_k_X16_bit_v16) := goodIn_app (goodIn_of _ (by decide +kernel)) (fun w h => ⟨List.mem_cons_of_mem _ (List.mem_append_right _ (List.mem_append_right _ (List.mem_append_right _ (List.mem_append_right _ (List.mem_append_left _ h))))), gd_k_X16_bit_v16 w h⟩)
theorem gi_g_X16_two_4 : GoodIn ow_g_X16_two (wsS RX16 300 yX16_bit ow_k_X16_bit_v17) := goodIn_app (goodIn_of _ (by decide +kernel)) (fun w h => ⟨List.mem_cons_of_mem _ (List.mem_append_right _ (List.mem_append_right _ (List.mem_append_right _ (List.mem_append_right _ (List.mem_append_right _ (List.mem_append_left _ h)))))), gd_k_X16_bit_v17 w h⟩)
theorem gi_g_X16_two_5 : GoodIn ow_g_X16_two (wsS RX16 300 yX16_bit ow_k_X16_bit_v18) := goodIn_app (goodIn_of _ (by decide +kernel)) (fun w h => ⟨List.mem_cons_of_mem _ (List.mem_append_right _ (List.mem_append_right _ (List.mem_append_right _ (List.mem_append_right _ (List.mem_append_right _ (List.mem_append_right _ (List.mem_append_left _ h))))))), gd_k_X16_bit_v18 w h⟩)
theorem gi_g_X16_two_6 : GoodIn ow_g_X16_two (wsS RX16 300 yX16_bit ow_k_X16_bit_v19) := goodIn_app (goodIn_of _ (by decide +kernel)) (fun w h => ⟨List.mem_cons_of_mem _ (List.mem_append_right _ (List.mem_append_right _ (List.mem_append_right _ (List.mem_append_right _ (List.mem_append_right _ (List.mem_append_right _ (List.mem_append_right _ (List.mem_append_left _ h)))))))), gd_k_X16_bit_v19 w h⟩)
theorem gi_g_X16_two_7 : GoodIn ow_g_X16_two (wsS RX16 300 yX16_bit ow_k_X16_bit_v20) := goodIn_app (goodIn_of _ (by decide +kernel)) (fun w h => ⟨List.mem_cons_of_mem _ (List.mem_append_right _ (List.mem_append_right _ (List.mem_append_right _ (List.mem_append_right _ (List.mem_append_right _ (List.mem_append_right _ (List.mem_append_right _ (List.mem_append_right _ (List.mem_append_left _ h))))))))), gd_k_X16_bit_v20 w h⟩)
theorem gi_g_X16_two_8 : GoodIn ow_g_X16_two (wsS RX16 313 yX16_immediate ow_k_X16_immediate_v4) := goodIn_app (goodIn_of _ (by decide +kernel)) (fun w h => ⟨List.mem_cons_of_mem _ (List.mem_append_right _ (List.mem_append_right _ (List.mem_append_right _ (List.mem_append_right _ (List.mem_append_right _ (List.mem_append_right _ (List.mem_append_right _ (List.mem_append_right _ (List.mem_append_right _ (List.mem_append_left _ h)))))))))), gd_k_X16_immediate_v4 w h⟩)
theorem gi_g_X16_two_9 : GoodIn ow_g_X16_two (wsS RX16 332 yX16_threes ow_k_X16_threes_v3) := goodIn_app (goodIn_of _ (by decide +kernel)) (fun w h => ⟨List.mem_cons_of_mem _ (List.mem_append_right _ (List.mem_append_right _ (List.mem_append_right _ (List.mem_append_right _ (List.mem_append_right _ (List.mem_append_right _ (List.mem_append_right _ (List.mem_append_right _ (List.mem_append_right _ (List.mem_append_right _ (List.mem_append_left _ h))))))))))), gd_k_X16_threes_v3 w h⟩)
theorem gi_g_X16_two_10 : GoodIn ow_g_X16_two (wsS RX16 317 yX16_storing ow_k_X16_storing_v1) := goodIn_app (goodIn_of _ (by decide +kernel)) (fun w h => ⟨List.mem_cons_of_mem _ (List.mem_append_right _ (List.mem_append_right _ (List.mem_append_right _ (List.mem_append_right _ (List.mem_append_right _ (List.mem_append_right _ (List.mem_append_right _ (List.mem_append_right _ (List.mem_append_right _ (List.mem_append_right _ (List.mem_append_right _ (List.mem_append_left _ h)))))))))))), gd_k_X16_storing_v1 w h⟩)
theorem gi_g_X16_two_11 : GoodIn ow_g_X16_two (wsS RX16 313 yX16_immediate ow_k_X16_immediate_v5) := goodIn_app (goodIn_of _ (by decide +kernel)) (fun w h => ⟨List.mem_cons_of_mem _ (List.mem_append_right _ (List.mem_append_right _ (List.mem_append_right _ (List.mem_append_right _ (List.mem_append_right _ (List.mem_append_right _ (List.mem_append_right _ (List.mem_append_right _ (List.mem_append_right _ (List.mem_append_right _ (List.mem_append_right _ (List.mem_append_right _ (List.mem_append_left _ h))))))))))))), gd_k_X16_immediate_v5 w h⟩)
theorem gi_g_X16_two_12 : GoodIn ow_g_X16_two (wsS RX16 313 yX16_immediate ow_k_X16_immediate_v6) := goodIn_app (goodIn_of _ (by decide +kernel)) (fun w h => ⟨List.mem_cons_of_mem _ (List.mem_append_right _ (List.mem_append_right _ (List.mem_append_right _ (List.mem_append_right _ (List.mem_append_right _ (List.mem_append_right _ (List.mem_append_right _ (List.mem_append_right _ (List.mem_append_right _ (List.mem_append_right _ (List.mem_append_right _ (List.mem_append_right _ (List.mem_append_right _ (List.mem_append_left _ h)))))))))))))), gd_k_X16_immediate_v6 w h⟩)
theorem gi_g_X16_two_13 : GoodIn ow_g_X16_two (wsS RX16 313 yX16_immediate ow_k_X16_immediate_v7) := goodIn_app (goodIn_of _ (by decide +kernel)) (fun w h => ⟨List.mem_cons_of_mem _ (List.mem_append_right _ (List.mem_append_right _ (List.mem_append_right _ (List.mem_append_right _ (List.mem_append_right _ (List.mem_append_right _ (List.mem_append_right _ (List.mem_append_right _ (List.mem_append_right _ (List.mem_append_right _ (List.mem_append_right _ (List.mem_append_right _ (List.mem_append_right _ (List.mem_append_right _ (List.mem_append_left _ h))))))))))))))), gd_k_X16_immediate_v7 w h⟩)
theorem gi_g_X16_two_14 : GoodIn ow_g_X16_two (wsS RX16 332 yX16_threes ow_k_X16_threes_v4) := goodIn_app (goodIn_of _ (by decide +kernel)) (fun w h => ⟨List.mem_cons_of_mem _ (List.mem_append_right _ (List.mem_append_right _ (List.mem_append_right _ (List.mem_append_right _ (List.mem_append_right _ (List.mem_append_right _ (List.mem_append_right _ (List.mem_append_right _ (List.mem_append_right _ (List.mem_append_right _ (List.mem_append_right _ (List.mem_append_right _ (List.mem_append_right _ (List.mem_append_right _ (List.mem_append_right _ (List.mem_append_left _ h)))))))))))))))), gd_k_X16_threes_v4 w h⟩)
set_option maxHeartbeats 40000000 in
set_option maxRecDepth 100000 in
theorem g_X16_two (l : Launch) (hlt : l.stackTraces = false) (dC : Nat → ClassId) (dI : Nat → Nat → Nat) (v0 : Int32) (v1 : Int32) (sz : Nat) : Met l yX16_two ow_g_X16_two ({ frames := 3, cells := 0, slots := 0, locals := 67 }) (va_Pc [.int v0, .int v1] (fun U => U.heap.size = sz ∧ va_P (dC, dI) vwCl [] U.heap ∧ va_K (dC, dI) vwCl [] U ∧ va_D (fun _ => True) [] ∧ nv_E (va_A [] sz) U)) (va_Qi (fun r _ => ((¬ ((((v0 : Int32).toUInt32 >>> ((12 : Int32).toUInt32 &&& Int32.toUInt32 31)).toInt32) &&& 1) = 1) ∧ (¬ v1 = 0) ∧ (¬ v1 = 2) ∧ (¬ v1 = 6) ∧ (v1 = 4) ∧ (((((v0 : Int32).toUInt32 >>> ((2 : Int32).toUInt32 &&& Int32.toUInt32 31)).toInt32) &&& 31) ≤ 0) ∧ (¬ ((((v0 : Int32).toUInt32 >>> ((7 : Int32).toUInt32 &&& Int32.toUInt32 31)).toInt32) &&& 31) = 0) ∧ r = ((103 ||| ((((((v0 : Int32).toUInt32 >>> ((7 : Int32).toUInt32 &&& Int32.toUInt32 31)).toInt32) &&& 31) : Int32) <<< ((15 : Int32) &&& 31))) ||| 0)) ∨ ((¬ ((((v0 : Int32).toUInt32 >>> ((12 : Int32).toUInt32 &&& Int32.toUInt32 31)).toInt32) &&& 1) = 1) ∧ (¬ v1 = 0) ∧ (¬ v1 = 2) ∧ (¬ v1 = 6) ∧ (v1 = 4) ∧ (((((v0 : Int32).toUInt32 >>> ((2 : Int32).toUInt32 &&& Int32.toUInt32 31)).toInt32) &&& 31) ≤ 0) ∧ (((((v0 : Int32).toUInt32 >>> ((7 : Int32).toUInt32 &&& Int32.toUInt32 31)).toInt32) &&& 31) = 0) ∧ r = 0) ∨ ((¬ ((((v0 : Int32).toUInt32 >>> ((12 : Int32).toUInt32 &&& Int32.toUInt32 31)).toInt32) &&& 1) = 1) ∧ (¬ v1 = 0) ∧ (¬ v1 = 2) ∧ (¬ v1 = 6) ∧ (v1 = 4) ∧ (¬ ((((v0 : Int32).toUInt32 >>> ((2 : Int32).toUInt32 &&& Int32.toUInt32 31)).toInt32) &&& 31) ≤ 0) ∧ r = (((((51 ||| ((((((v0 : Int32).toUInt32 >>> ((7 : Int32).toUInt32 &&& Int32.toUInt32 31)).toInt32) &&& 31) : Int32) <<< ((7 : Int32) &&& 31))) ||| 0) ||| 0) ||| ((((((v0 : Int32).toUInt32 >>> ((2 : Int32).toUInt32 &&& Int32.toUInt32 31)).toInt32) &&& 31) : Int32) <<< ((20 : Int32) &&& 31))) ||| 0)) ∨ ((¬ ((((v0 : Int32).toUInt32 >>> ((12 : Int32).toUInt32 &&& Int32.toUInt32 31)).toInt32) &&& 1) = 1) ∧ (¬ v1 = 0) ∧ (¬ v1 = 2) ∧ (¬ v1 = 6) ∧ (¬ v1 = 4) ∧ r = 0) ∨ ((¬ ((((v0 : Int32).toUInt32 >>> ((12 : Int32).toUInt32 &&& Int32.toUInt32 31)).toInt32) &&& 1) = 1) ∧ (¬ v1 = 0) ∧ (¬ v1 = 2) ∧ (v1 = 6) ∧ r = (((((35 ||| (((((((((((((v0 : Int32).toUInt32 >>> ((9 : Int32).toUInt32 &&& Int32.toUInt32 31)).toInt32) &&& 15) : Int32) <<< ((2 : Int32) &&& 31)) ||| ((((((v0 : Int32).toUInt32 >>> ((7 : Int32).toUInt32 &&& Int32.toUInt32 31)).toInt32) &&& 3) : Int32) <<< ((6 : Int32) &&& 31))) : Int32).toUInt32 >>> ((0 : Int32).toUInt32 &&& Int32.toUInt32 31)).toInt32) &&& 31) : Int32) <<< ((7 : Int32) &&& 31))) ||| 8192) ||| 65536) ||| ((((((v0 : Int32).toUInt32 >>> ((2 : Int32).toUInt32 &&& Int32.toUInt32 31)).toInt32) &&& 31) : Int32) <<< ((20 : Int32) &&& 31))) ||| (((((((((((((v0 : Int32).toUInt32 >>> ((9 : Int32).toUInt32 &&& Int32.toUInt32 31)).toInt32) &&& 15) : Int32) <<< ((2 : Int32) &&& 31)) ||| ((((((v0 : Int32).toUInt32 >>> ((7 : Int32).toUInt32 &&& Int32.toUInt32 31)).toInt32) &&& 3) : Int32) <<< ((6 : Int32) &&& 31))) : Int32).toUInt32 >>> ((5 : Int32).toUInt32 &&& Int32.toUInt32 31)).toInt32) &&& 127) : Int32) <<< ((25 : Int32) &&& 31)))) ∨ ((¬ ((((v0 : Int32).toUInt32 >>> ((12 : Int32).toUInt32 &&& Int32.toUInt32 31)).toInt32) &&& 1) = 1) ∧ (¬ v1 = 0) ∧ (v1 = 2) ∧ (¬ ((((v0 : Int32).toUInt32 >>> ((7 : Int32).toUInt32 &&& Int32.toUInt32 31)).toInt32) &&& 31) = 0) ∧ r = ((((3 ||| ((((((v0 : Int32).toUInt32 >>> ((7 : Int32).toUInt32 &&& Int32.toUInt32 31)).toInt32) &&& 31) : Int32) <<< ((7 : Int32) &&& 31))) ||| 8192) ||| 65536) ||| ((((((((((v0 : Int32).toUInt32 >>> ((12 : Int32).toUInt32 &&& Int32.toUInt32 31)).toInt32) &&& 1) : Int32) <<< ((5 : Int32) &&& 31)) ||| ((((((v0 : Int32).toUInt32 >>> ((4 : Int32).toUInt32 &&& Int32.toUInt32 31)).toInt32) &&& 7) : Int32) <<< ((2 : Int32) &&& 31))) ||| ((((((v0 : Int32).toUInt32 >>> ((2 : Int32).toUInt32 &&& Int32.toUInt32 31)).toInt32) &&& 3) : Int32) <<< ((6 : Int32) &&& 31))) : Int32) <<< ((20 : Int32) &&& 31)))) ∨ ((¬ ((((v0 : Int32).toUInt32 >>> ((12 : Int32).toUInt32 &&& Int32.toUInt32 31)).toInt32) &&& 1) = 1) ∧ (¬ v1 = 0) ∧ (v1 = 2) ∧ (((((v0 : Int32).toUInt32 >>> ((7 : Int32).toUInt32 &&& Int32.toUInt32 31)).toInt32) &&& 31) = 0) ∧ r = 0) ∨ ((¬ ((((v0 : Int32).toUInt32 >>> ((12 : Int32).toUInt32 &&& Int32.toUInt32 31)).toInt32) &&& 1) = 1) ∧ (v1 = 0) ∧ r = ((((19 ||| ((((((v0 : Int32).toUInt32 >>> ((7 : Int32).toUInt32 &&& Int32.toUInt32 31)).toInt32) &&& 31) : Int32) <<< ((7 : Int32) &&& 31))) ||| 4096) ||| ((((((v0 : Int32).toUInt32 >>> ((7 : Int32).toUInt32 &&& Int32.toUInt32 31)).toInt32) &&& 31) : Int32) <<< ((15 : Int32) &&& 31))) ||| ((((((v0 : Int32).toUInt32 >>> ((2 : Int32).toUInt32 &&& Int32.toUInt32 31)).toInt32) &&& 31) : Int32) <<< ((20 : Int32) &&& 31)))) ∨ ((((((v0 : Int32).toUInt32 >>> ((12 : Int32).toUInt32 &&& Int32.toUInt32 31)).toInt32) &&& 1) = 1) ∧ (¬ v1 = 0) ∧ (¬ v1 = 2) ∧ (¬ v1 = 6) ∧ (v1 = 4) ∧ (((((v0 : Int32).toUInt32 >>> ((2 : Int32).toUInt32 &&& Int32.toUInt32 31)).toInt32) &&& 31) ≤ 0) ∧ (¬ ((((v0 : Int32).toUInt32 >>> ((7 : Int32).toUInt32 &&& Int32.toUInt32 31)).toInt32) &&& 31) = 0) ∧ r = ((231 ||| ((((((v0 : Int32).toUInt32 >>> ((7 : Int32).toUInt32 &&& Int32.toUInt32 31)).toInt32) &&& 31) : Int32) <<< ((15 : Int32) &&& 31))) ||| 0)) ∨ ((((((v0 : Int32).toUInt32 >>> ((12 : Int32).toUInt32 &&& Int32.toUInt32 31)).toInt32) &&& 1) = 1) ∧ (¬ v1 = 0) ∧ (¬ v1 = 2) ∧ (¬ v1 = 6) ∧ (v1 = 4) ∧ (((((v0 : Int32).toUInt32 >>> ((2 : Int32).toUInt32 &&& Int32.toUInt32 31)).toInt32) &&& 31) ≤ 0) ∧ (((((v0 : Int32).toUInt32 >>> ((7 : Int32).toUInt32 &&& Int32.toUInt32 31)).toInt32) &&& 31) = 0) ∧ r = 1048691) ∨ ((((((v0 : Int32).toUInt32 >>> ((12 : Int32).toUInt32 &&& Int32.toUInt32 31)).toInt32) &&& 1) = 1) ∧ (¬ v1 = 0) ∧ (¬ v1 = 2) ∧ (¬ v1 = 6) ∧ (v1 = 4) ∧ (¬ ((((v0 : Int32).toUInt32 >>> ((2 : Int32).toUInt32 &&& Int32.toUInt32 31)).toInt32) &&& 31) ≤ 0) ∧ r = (((((51 ||| ((((((v0 : Int32).toUInt32 >>> ((7 : Int32).toUInt32 &&& Int32.toUInt32 31)).toInt32) &&& 31) : Int32) <<< ((7 : Int32) &&& 31))) ||| 0) ||| ((((((v0 : Int32).toUInt32 >>> ((7 : Int32).toUInt32 &&& Int32.toUInt32 31)).toInt32) &&& 31) : Int32) <<< ((15 : Int32) &&& 31))) ||| ((((((v0 : Int32).toUInt32 >>> ((2 : Int32).toUInt32 &&& Int32.toUInt32 31)).toInt32) &&& 31) : Int32) <<< ((20 : Int32) &&& 31))) ||| 0)) ∨ ((((((v0 : Int32).toUInt32 >>> ((12 : Int32).toUInt32 &&& Int32.toUInt32 31)).toInt32) &&& 1) = 1) ∧ (¬ v1 = 0) ∧ (¬ v1 = 2) ∧ (¬ v1 = 6) ∧ (¬ v1 = 4) ∧ r = 0) ∨ ((((((v0 : Int32).toUInt32 >>> ((12 : Int32).toUInt32 &&& Int32.toUInt32 31)).toInt32) &&& 1) = 1) ∧ (¬ v1 = 0) ∧ (¬ v1 = 2) ∧ (v1 = 6) ∧ r = (((((35 ||| (((((((((((((v0 : Int32).toUInt32 >>> ((9 : Int32).toUInt32 &&& Int32.toUInt32 31)).toInt32) &&& 15) : Int32) <<< ((2 : Int32) &&& 31)) ||| ((((((v0 : Int32).toUInt32 >>> ((7 : Int32).toUInt32 &&& Int32.toUInt32 31)).toInt32) &&& 3) : Int32) <<< ((6 : Int32) &&& 31))) : Int32).toUInt32 >>> ((0 : Int32).toUInt32 &&& Int32.toUInt32 31)).toInt32) &&& 31) : Int32) <<< ((7 : Int32) &&& 31))) ||| 8192) ||| 65536) ||| ((((((v0 : Int32).toUInt32 >>> ((2 : Int32).toUInt32 &&& Int32.toUInt32 31)).toInt32) &&& 31) : Int32) <<< ((20 : Int32) &&& 31))) ||| (((((((((((((v0 : Int32).toUInt32 >>> ((9 : Int32).toUInt32 &&& Int32.toUInt32 31)).toInt32) &&& 15) : Int32) <<< ((2 : Int32) &&& 31)) ||| ((((((v0 : Int32).toUInt32 >>> ((7 : Int32).toUInt32 &&& Int32.toUInt32 31)).toInt32) &&& 3) : Int32) <<< ((6 : Int32) &&& 31))) : Int32).toUInt32 >>> ((5 : Int32).toUInt32 &&& Int32.toUInt32 31)).toInt32) &&& 127) : Int32) <<< ((25 : Int32) &&& 31)))) ∨ ((((((v0 : Int32).toUInt32 >>> ((12 : Int32).toUInt32 &&& Int32.toUInt32 31)).toInt32) &&& 1) = 1) ∧ (¬ v1 = 0) ∧ (v1 = 2) ∧ (¬ ((((v0 : Int32).toUInt32 >>> ((7 : Int32).toUInt32 &&& Int32.toUInt32 31)).toInt32) &&& 31) = 0) ∧ r = ((((3 ||| ((((((v0 : Int32).toUInt32 >>> ((7 : Int32).toUInt32 &&& Int32.toUInt32 31)).toInt32) &&& 31) : Int32) <<< ((7 : Int32) &&& 31))) ||| 8192) ||| 65536) ||| ((((((((((v0 : Int32).toUInt32 >>> ((12 : Int32).toUInt32 &&& Int32.toUInt32 31)).toInt32) &&& 1) : Int32) <<< ((5 : Int32) &&& 31)) ||| ((((((v0 : Int32).toUInt32 >>> ((4 : Int32).toUInt32 &&& Int32.toUInt32 31)).toInt32) &&& 7) : Int32) <<< ((2 : Int32) &&& 31))) ||| ((((((v0 : Int32).toUInt32 >>> ((2 : Int32).toUInt32 &&& Int32.toUInt32 31)).toInt32) &&& 3) : Int32) <<< ((6 : Int32) &&& 31))) : Int32) <<< ((20 : Int32) &&& 31)))) ∨ ((((((v0 : Int32).toUInt32 >>> ((12 : Int32).toUInt32 &&& Int32.toUInt32 31)).toInt32) &&& 1) = 1) ∧ (¬ v1 = 0) ∧ (v1 = 2) ∧ (((((v0 : Int32).toUInt32 >>> ((7 : Int32).toUInt32 &&& Int32.toUInt32 31)).toInt32) &&& 31) = 0) ∧ r = 0) ∨ ((((((v0 : Int32).toUInt32 >>> ((12 : Int32).toUInt32 &&& Int32.toUInt32 31)).toInt32) &&& 1) = 1) ∧ (v1 = 0) ∧ r = 0) ∨ False) (fun (_ : Unit) t => va_P (dC, dI) vwCl [] t.heap ∧ va_K (dC, dI) vwCl [] t ∧ va_D (va_A [] sz) []) (va_A [] sz)) 0 0 (va_A [] sz) := by
  refine Met.ofW (cc := cX16_two) (maxL := 7) (ret := (some .int)) (by decide) rfl ?_
  intro p e s m args below meth c s₁ B hml hv
  obtain ⟨rfl, hsz, hP, hK, hD0, hN⟩ := hv
  have hx := B.exec
  have hb := B.bytes
  have hr := B.returns
  have hts := atoms_spec (ws := ow_g_X16_two) B.pre
  have hown : s.vm.findClass RX16 = some m.cls := findClass_of_methodNamed B.named
  have hlocks := B.notSynchronized
  subst hsz
  have hD := hD0.self (sz := s.heap.size)
  generalize hAe : va_A [] s.heap.size = A at hD hN ⊢
  have hA : ∀ q : Nat, s.heap.size ≤ q → A q := fun q h => by rw [← hAe]; exact Or.inr h
  have hS : va_S A s.heap s.heap [] := va_S.rf
  have hl := lv_entry ([.int v0, .int v1]) (n := 7) (Nat.le_of_ble_eq_true rfl)
  rw [lg_entry_eq]
  generalize (lg_sl ([.int v0, .int v1]) ++ List.replicate (7 - (lg_sl ([.int v0, .int v1])).length) Slot.unset).toArray = ls at hl ⊢
  have hl : lv_has ls 7 [(0, .int v0), (1, .int v1)] := hl
  refine lv_iload_n hx hb dX16_two_0 rfl (lv_at hl 0 rfl) ?_
  refine lv_bipush (v := 7) hx hb dX16_two_1 (by decide) ?_
  refine lv_iconst (v := 5) hx hb dX16_two_3 (by decide) ?_
  have hPc := hP.sub (ws' := []) [] rfl
  have hDc := hD.sub (ws' := []) [] (by decide) rfl
  have hKc := hK.sub (tys' := []) [] rfl
  have hFc := va_free (wc := []) hD hS hA [] rfl
  refine va_calli (va_runS (As := [.int v0, .int 7, .int 5]) (rest := []) ⟨hx, hb, hml, hown, hts⟩ (k_X16_part_v20 l hlt dC dI v0  s.heap.size) (cwS 3 hts gi_g_X16_two_0 rfl rfl rfl (by decide +kernel) ⟨Nat.le_of_ble_eq_true rfl, Nat.le_of_ble_eq_true rfl⟩) ⟨fun a U g mk q => by obtain ⟨q0, q1, qP, qK, qD, qN⟩ := q; exact ⟨q0, q1, qP, va_K.moved (u := U) (U := U.calling g mk a) (Vm.Alike.refl U.vm) qK, qD, nv_same rfl rfl qN⟩, fun U hU hW => ⟨rfl, by rw [hU], by rw [hU]; exact hPc, va_K.moved hW.alike hKc, hDc.weaken (fun _ _ _ _ => trivial), nv_call hS hFc hU hW hN⟩⟩ rfl rfl hl.1 rfl (lv_room (Nat.le_of_ble_eq_true rfl)) dX16_two_4 ⟨by decide +kernel, by decide +kernel⟩) hS (fun q _ h => hFc q h) hFc (fun r1 u t H1 locs ht hvm hw hB hz1 hk1 hS => ?_)
  obtain ⟨hP1, hK1, hD1⟩ := hB
  rw [ht] at hP1
  have hK1 := va_K.moved hvm.symm hK1
  obtain ⟨hP, hD⟩ := va_join (wr := []) (w1 := []) hP hD [] [] rfl rfl (by decide) (by decide) hk1 hFc hP1 hD1
  have hK := (hK.sub (tys' := []) [] rfl).app hK1
  generalize H1 = H at hP hS ⊢
  have hP : va_P (dC, dI) vwCl [] H := hP
  have hD : va_D A [] := hD
  have hK : va_K (dC, dI) vwCl [] s := hK
  refine W.widen (k := 0) (n := 0) (by decide +kernel) (by decide +kernel) ?_
  rcases hw with h9 | h9
  · subst h9
    refine lv_istore_n (lv' := [(2, .int ((((v0 : Int32).toUInt32 >>> ((7 : Int32).toUInt32 &&& Int32.toUInt32 31)).toInt32) &&& 31)), (0, .int v0), (1, .int v1)]) hx hb dX16_two_7 rfl hl (by decide) rfl (fun ls hl => ?_)
    refine lv_iload_n hx hb dX16_two_8 rfl (lv_at hl 1 rfl) ?_
    refine lv_iconst (v := 2) hx hb dX16_two_9 (by decide) ?_
    refine lv_iconst (v := 5) hx hb dX16_two_10 (by decide) ?_
    have hPc := hP.sub (ws' := []) [] rfl
    have hDc := hD.sub (ws' := []) [] (by decide) rfl
    have hKc := hK.sub (tys' := []) [] rfl
    have hFc := va_free (wc := []) hD hS hA [] rfl
    refine va_calli (va_runS (As := [.int v0, .int 2, .int 5]) (rest := []) ⟨hx, hb, hml, hown, hts⟩ (k_X16_part_v21 l hlt dC dI v0  H.size) (cwS 3 hts gi_g_X16_two_1 rfl rfl rfl (by decide +kernel) ⟨Nat.le_of_ble_eq_true rfl, Nat.le_of_ble_eq_true rfl⟩) ⟨fun a U g mk q => by obtain ⟨q0, q1, qP, qK, qD, qN⟩ := q; exact ⟨q0, q1, qP, va_K.moved (u := U) (U := U.calling g mk a) (Vm.Alike.refl U.vm) qK, qD, nv_same rfl rfl qN⟩, fun U hU hW => ⟨rfl, by rw [hU], by rw [hU]; exact hPc, va_K.moved hW.alike hKc, hDc.weaken (fun _ _ _ _ => trivial), nv_call hS hFc hU hW hN⟩⟩ rfl rfl hl.1 rfl (lv_room (Nat.le_of_ble_eq_true rfl)) dX16_two_11 ⟨by decide +kernel, by decide +kernel⟩) hS (fun q _ h => hFc q h) hFc (fun r2 u t H1 locs ht hvm hw hB hz1 hk1 hS => ?_)
    obtain ⟨hP1, hK1, hD1⟩ := hB
    rw [ht] at hP1
    have hK1 := va_K.moved hvm.symm hK1
    obtain ⟨hP, hD⟩ := va_join (wr := []) (w1 := []) hP hD [] [] rfl rfl (by decide) (by decide) hk1 hFc hP1 hD1
    have hK := (hK.sub (tys' := []) [] rfl).app hK1
    generalize H1 = H at hP hS ⊢
    have hP : va_P (dC, dI) vwCl [] H := hP
    have hD : va_D A [] := hD
    have hK : va_K (dC, dI) vwCl [] s := hK
    refine W.widen (k := 0) (n := 0) (by decide +kernel) (by decide +kernel) ?_
    rcases hw with h9 | h9
    · subst h9
      refine lv_istore_n (lv' := [(3, .int ((((v0 : Int32).toUInt32 >>> ((2 : Int32).toUInt32 &&& Int32.toUInt32 31)).toInt32) &&& 31)), (2, .int ((((v0 : Int32).toUInt32 >>> ((7 : Int32).toUInt32 &&& Int32.toUInt32 31)).toInt32) &&& 31)), (0, .int v0), (1, .int v1)]) hx hb dX16_two_14 rfl hl (by decide) rfl (fun ls hl => ?_)
      refine lv_iload_n hx hb dX16_two_15 rfl (lv_at hl 2 rfl) ?_
      refine lv_bipush (v := 12) hx hb dX16_two_16 (by decide) ?_
      refine lv_iconst (v := 1) hx hb dX16_two_18 (by decide) ?_
      have hPc := hP.sub (ws' := []) [] rfl
      have hDc := hD.sub (ws' := []) [] (by decide) rfl
      have hKc := hK.sub (tys' := []) [] rfl
      have hFc := va_free (wc := []) hD hS hA [] rfl
      refine va_calli (va_runS (As := [.int v0, .int 12, .int 1]) (rest := []) ⟨hx, hb, hml, hown, hts⟩ (k_X16_part_v22 l hlt dC dI v0  H.size) (cwS 3 hts gi_g_X16_two_2 rfl rfl rfl (by decide +kernel) ⟨Nat.le_of_ble_eq_true rfl, Nat.le_of_ble_eq_true rfl⟩) ⟨fun a U g mk q => by obtain ⟨q0, q1, qP, qK, qD, qN⟩ := q; exact ⟨q0, q1, qP, va_K.moved (u := U) (U := U.calling g mk a) (Vm.Alike.refl U.vm) qK, qD, nv_same rfl rfl qN⟩, fun U hU hW => ⟨rfl, by rw [hU], by rw [hU]; exact hPc, va_K.moved hW.alike hKc, hDc.weaken (fun _ _ _ _ => trivial), nv_call hS hFc hU hW hN⟩⟩ rfl rfl hl.1 rfl (lv_room (Nat.le_of_ble_eq_true rfl)) dX16_two_19 ⟨by decide +kernel, by decide +kernel⟩) hS (fun q _ h => hFc q h) hFc (fun r3 u t H1 locs ht hvm hw hB hz1 hk1 hS => ?_)
      obtain ⟨hP1, hK1, hD1⟩ := hB
      rw [ht] at hP1
      have hK1 := va_K.moved hvm.symm hK1
      obtain ⟨hP, hD⟩ := va_join (wr := []) (w1 := []) hP hD [] [] rfl rfl (by decide) (by decide) hk1 hFc hP1 hD1
      have hK := (hK.sub (tys' := []) [] rfl).app hK1
      generalize H1 = H at hP hS ⊢
      have hP : va_P (dC, dI) vwCl [] H := hP
      have hD : va_D A [] := hD
      have hK : va_K (dC, dI) vwCl [] s := hK
      refine W.widen (k := 0) (n := 0) (by decide +kernel) (by decide +kernel) ?_
      rcases hw with h9 | h9
      · subst h9
        refine lv_iconst (v := 1) hx hb dX16_two_22 (by decide) ?_
        refine lv_icmp_ne (tgt := 30) hx hb dX16_two_23 (by decide) (fun c_4 => ?_) (fun c_4 => ?_)
        · refine lv_iconst (v := 0) hx hb dX16_two_30 (by decide) ?_
          refine lv_istore (lv' := [(4, .int 0), (3, .int ((((v0 : Int32).toUInt32 >>> ((2 : Int32).toUInt32 &&& Int32.toUInt32 31)).toInt32) &&& 31)), (2, .int ((((v0 : Int32).toUInt32 >>> ((7 : Int32).toUInt32 &&& Int32.toUInt32 31)).toInt32) &&& 31)), (0, .int v0), (1, .int v1)]) hx hb dX16_two_31 hl (by decide) rfl (fun ls hl => ?_)
          refine lv_iload_n hx hb dX16_two_33 rfl (lv_at hl 3 rfl) ?_
          refine lv_bipush (v := 12) hx hb dX16_two_34 (by decide) ?_
          refine lv_iconst (v := 1) hx hb dX16_two_36 (by decide) ?_
          refine lv_iconst (v := 5) hx hb dX16_two_37 (by decide) ?_
          have hPc := hP.sub (ws' := []) [] rfl
          have hDc := hD.sub (ws' := []) [] (by decide) rfl
          have hKc := hK.sub (tys' := []) [] rfl
          have hFc := va_free (wc := []) hD hS hA [] rfl
          refine va_calli (va_runS (As := [.int v0, .int 12, .int 1, .int 5]) (rest := []) ⟨hx, hb, hml, hown, hts⟩ (k_X16_bit_v16 l hlt dC dI v0  H.size) (cwS 4 hts gi_g_X16_two_3 rfl rfl rfl (by decide +kernel) ⟨Nat.le_of_ble_eq_true rfl, Nat.le_of_ble_eq_true rfl⟩) ⟨fun a U g mk q => by obtain ⟨q0, q1, qP, qK, qD, qN⟩ := q; exact ⟨q0, q1, qP, va_K.moved (u := U) (U := U.calling g mk a) (Vm.Alike.refl U.vm) qK, qD, nv_same rfl rfl qN⟩, fun U hU hW => ⟨rfl, by rw [hU], by rw [hU]; exact hPc, va_K.moved hW.alike hKc, hDc.weaken (fun _ _ _ _ => trivial), nv_call hS hFc hU hW hN⟩⟩ rfl rfl hl.1 rfl (lv_room (Nat.le_of_ble_eq_true rfl)) dX16_two_38 ⟨by decide +kernel, by decide +kernel⟩) hS (fun q _ h => hFc q h) hFc (fun r4 u t H1 locs ht hvm hw hB hz1 hk1 hS => ?_)
          obtain ⟨hP1, hK1, hD1⟩ := hB
          rw [ht] at hP1
          have hK1 := va_K.moved hvm.symm hK1
          obtain ⟨hP, hD⟩ := va_join (wr := []) (w1 := []) hP hD [] [] rfl rfl (by decide) (by decide) hk1 hFc hP1 hD1
          have hK := (hK.sub (tys' := []) [] rfl).app hK1
          generalize H1 = H at hP hS ⊢
          have hP : va_P (dC, dI) vwCl [] H := hP
          have hD : va_D A [] := hD
          have hK : va_K (dC, dI) vwCl [] s := hK
          refine W.widen (k := 0) (n := 0) (by decide +kernel) (by decide +kernel) ?_
          rcases hw with h9 | h9
          · subst h9
            refine lv_iload_n hx hb dX16_two_41 rfl (lv_at hl 3 rfl) ?_
            refine lv_iconst (v := 4) hx hb dX16_two_42 (by decide) ?_
            refine lv_iconst (v := 3) hx hb dX16_two_43 (by decide) ?_
            refine lv_iconst (v := 2) hx hb dX16_two_44 (by decide) ?_
            have hPc := hP.sub (ws' := []) [] rfl
            have hDc := hD.sub (ws' := []) [] (by decide) rfl
            have hKc := hK.sub (tys' := []) [] rfl
            have hFc := va_free (wc := []) hD hS hA [] rfl
            refine va_calli (va_runS (As := [.int v0, .int 4, .int 3, .int 2]) (rest := [.int ((((((v0 : Int32).toUInt32 >>> ((12 : Int32).toUInt32 &&& Int32.toUInt32 31)).toInt32) &&& 1) : Int32) <<< ((5 : Int32) &&& 31))]) ⟨hx, hb, hml, hown, hts⟩ (k_X16_bit_v17 l hlt dC dI v0  H.size) (cwS 4 hts gi_g_X16_two_4 rfl rfl rfl (by decide +kernel) ⟨Nat.le_of_ble_eq_true rfl, Nat.le_of_ble_eq_true rfl⟩) ⟨fun a U g mk q => by obtain ⟨q0, q1, qP, qK, qD, qN⟩ := q; exact ⟨q0, q1, qP, va_K.moved (u := U) (U := U.calling g mk a) (Vm.Alike.refl U.vm) qK, qD, nv_same rfl rfl qN⟩, fun U hU hW => ⟨rfl, by rw [hU], by rw [hU]; exact hPc, va_K.moved hW.alike hKc, hDc.weaken (fun _ _ _ _ => trivial), nv_call hS hFc hU hW hN⟩⟩ rfl rfl hl.1 rfl (lv_room (Nat.le_of_ble_eq_true rfl)) dX16_two_45 ⟨by decide +kernel, by decide +kernel⟩) hS (fun q _ h => hFc q h) hFc (fun r5 u t H1 locs ht hvm hw hB hz1 hk1 hS => ?_)
            obtain ⟨hP1, hK1, hD1⟩ := hB
            rw [ht] at hP1
            have hK1 := va_K.moved hvm.symm hK1
            obtain ⟨hP, hD⟩ := va_join (wr := []) (w1 := []) hP hD [] [] rfl rfl (by decide) (by decide) hk1 hFc hP1 hD1
            have hK := (hK.sub (tys' := []) [] rfl).app hK1
            generalize H1 = H at hP hS ⊢
            have hP : va_P (dC, dI) vwCl [] H := hP
            have hD : va_D A [] := hD
            have hK : va_K (dC, dI) vwCl [] s := hK
            refine W.widen (k := 0) (n := 0) (by decide +kernel) (by decide +kernel) ?_
            rcases hw with h9 | h9
            · subst h9
              refine lv_ior hx hb dX16_two_48 ?_
              refine lv_iload_n hx hb dX16_two_49 rfl (lv_at hl 3 rfl) ?_
              refine lv_iconst (v := 2) hx hb dX16_two_50 (by decide) ?_
              refine lv_iconst (v := 2) hx hb dX16_two_51 (by decide) ?_
              refine lv_bipush (v := 6) hx hb dX16_two_52 (by decide) ?_
              have hPc := hP.sub (ws' := []) [] rfl
              have hDc := hD.sub (ws' := []) [] (by decide) rfl
              have hKc := hK.sub (tys' := []) [] rfl
              have hFc := va_free (wc := []) hD hS hA [] rfl
              refine va_calli (va_runS (As := [.int v0, .int 2, .int 2, .int 6]) (rest := [.int (((((((v0 : Int32).toUInt32 >>> ((12 : Int32).toUInt32 &&& Int32.toUInt32 31)).toInt32) &&& 1) : Int32) <<< ((5 : Int32) &&& 31)) ||| ((((((v0 : Int32).toUInt32 >>> ((4 : Int32).toUInt32 &&& Int32.toUInt32 31)).toInt32) &&& 7) : Int32) <<< ((2 : Int32) &&& 31)))]) ⟨hx, hb, hml, hown, hts⟩ (k_X16_bit_v18 l hlt dC dI v0  H.size) (cwS 4 hts gi_g_X16_two_5 rfl rfl rfl (by decide +kernel) ⟨Nat.le_of_ble_eq_true rfl, Nat.le_of_ble_eq_true rfl⟩) ⟨fun a U g mk q => by obtain ⟨q0, q1, qP, qK, qD, qN⟩ := q; exact ⟨q0, q1, qP, va_K.moved (u := U) (U := U.calling g mk a) (Vm.Alike.refl U.vm) qK, qD, nv_same rfl rfl qN⟩, fun U hU hW => ⟨rfl, by rw [hU], by rw [hU]; exact hPc, va_K.moved hW.alike hKc, hDc.weaken (fun _ _ _ _ => trivial), nv_call hS hFc hU hW hN⟩⟩ rfl rfl hl.1 rfl (lv_room (Nat.le_of_ble_eq_true rfl)) dX16_two_54 ⟨by decide +kernel, by decide +kernel⟩) hS (fun q _ h => hFc q h) hFc (fun r6 u t H1 locs ht hvm hw hB hz1 hk1 hS => ?_)
              obtain ⟨hP1, hK1, hD1⟩ := hB
              rw [ht] at hP1
              have hK1 := va_K.moved hvm.symm hK1
              obtain ⟨hP, hD⟩ := va_join (wr := []) (w1 := []) hP hD [] [] rfl rfl (by decide) (by decide) hk1 hFc hP1 hD1
              have hK := (hK.sub (tys' := []) [] rfl).app hK1
              generalize H1 = H at hP hS ⊢
              have hP : va_P (dC, dI) vwCl [] H := hP
              have hD : va_D A [] := hD
              have hK : va_K (dC, dI) vwCl [] s := hK
              refine W.widen (k := 0) (n := 0) (by decide +kernel) (by decide +kernel) ?_
              rcases hw with h9 | h9
              · subst h9
                refine lv_ior hx hb dX16_two_57 ?_
                refine lv_istore (lv' := [(5, .int ((((((((v0 : Int32).toUInt32 >>> ((12 : Int32).toUInt32 &&& Int32.toUInt32 31)).toInt32) &&& 1) : Int32) <<< ((5 : Int32) &&& 31)) ||| ((((((v0 : Int32).toUInt32 >>> ((4 : Int32).toUInt32 &&& Int32.toUInt32 31)).toInt32) &&& 7) : Int32) <<< ((2 : Int32) &&& 31))) ||| ((((((v0 : Int32).toUInt32 >>> ((2 : Int32).toUInt32 &&& Int32.toUInt32 31)).toInt32) &&& 3) : Int32) <<< ((6 : Int32) &&& 31)))), (4, .int 0), (3, .int ((((v0 : Int32).toUInt32 >>> ((2 : Int32).toUInt32 &&& Int32.toUInt32 31)).toInt32) &&& 31)), (2, .int ((((v0 : Int32).toUInt32 >>> ((7 : Int32).toUInt32 &&& Int32.toUInt32 31)).toInt32) &&& 31)), (0, .int v0), (1, .int v1)]) hx hb dX16_two_58 hl (by decide) rfl (fun ls hl => ?_)
                refine lv_iload_n hx hb dX16_two_60 rfl (lv_at hl 4 rfl) ?_
                refine lv_bipush (v := 9) hx hb dX16_two_61 (by decide) ?_
                refine lv_iconst (v := 4) hx hb dX16_two_63 (by decide) ?_
                refine lv_iconst (v := 2) hx hb dX16_two_64 (by decide) ?_
                have hPc := hP.sub (ws' := []) [] rfl
                have hDc := hD.sub (ws' := []) [] (by decide) rfl
                have hKc := hK.sub (tys' := []) [] rfl
                have hFc := va_free (wc := []) hD hS hA [] rfl
                refine va_calli (va_runS (As := [.int v0, .int 9, .int 4, .int 2]) (rest := []) ⟨hx, hb, hml, hown, hts⟩ (k_X16_bit_v19 l hlt dC dI v0  H.size) (cwS 4 hts gi_g_X16_two_6 rfl rfl rfl (by decide +kernel) ⟨Nat.le_of_ble_eq_true rfl, Nat.le_of_ble_eq_true rfl⟩) ⟨fun a U g mk q => by obtain ⟨q0, q1, qP, qK, qD, qN⟩ := q; exact ⟨q0, q1, qP, va_K.moved (u := U) (U := U.calling g mk a) (Vm.Alike.refl U.vm) qK, qD, nv_same rfl rfl qN⟩, fun U hU hW => ⟨rfl, by rw [hU], by rw [hU]; exact hPc, va_K.moved hW.alike hKc, hDc.weaken (fun _ _ _ _ => trivial), nv_call hS hFc hU hW hN⟩⟩ rfl rfl hl.1 rfl (lv_room (Nat.le_of_ble_eq_true rfl)) dX16_two_65 ⟨by decide +kernel, by decide +kernel⟩) hS (fun q _ h => hFc q h) hFc (fun r7 u t H1 locs ht hvm hw hB hz1 hk1 hS => ?_)
                obtain ⟨hP1, hK1, hD1⟩ := hB
                rw [ht] at hP1
                have hK1 := va_K.moved hvm.symm hK1
                obtain ⟨hP, hD⟩ := va_join (wr := []) (w1 := []) hP hD [] [] rfl rfl (by decide) (by decide) hk1 hFc hP1 hD1
                have hK := (hK.sub (tys' := []) [] rfl).app hK1
                generalize H1 = H at hP hS ⊢
                have hP : va_P (dC, dI) vwCl [] H := hP
                have hD : va_D A [] := hD
                have hK : va_K (dC, dI) vwCl [] s := hK
                refine W.widen (k := 0) (n := 0) (by decide +kernel) (by decide +kernel) ?_
                rcases hw with h9 | h9
                · subst h9
                  refine lv_iload_n hx hb dX16_two_68 rfl (lv_at hl 4 rfl) ?_
                  refine lv_bipush (v := 7) hx hb dX16_two_69 (by decide) ?_
                  refine lv_iconst (v := 2) hx hb dX16_two_71 (by decide) ?_
                  refine lv_bipush (v := 6) hx hb dX16_two_72 (by decide) ?_
                  have hPc := hP.sub (ws' := []) [] rfl
                  have hDc := hD.sub (ws' := []) [] (by decide) rfl
                  have hKc := hK.sub (tys' := []) [] rfl
                  have hFc := va_free (wc := []) hD hS hA [] rfl
                  refine va_calli (va_runS (As := [.int v0, .int 7, .int 2, .int 6]) (rest := [.int ((((((v0 : Int32).toUInt32 >>> ((9 : Int32).toUInt32 &&& Int32.toUInt32 31)).toInt32) &&& 15) : Int32) <<< ((2 : Int32) &&& 31))]) ⟨hx, hb, hml, hown, hts⟩ (k_X16_bit_v20 l hlt dC dI v0  H.size) (cwS 4 hts gi_g_X16_two_7 rfl rfl rfl (by decide +kernel) ⟨Nat.le_of_ble_eq_true rfl, Nat.le_of_ble_eq_true rfl⟩) ⟨fun a U g mk q => by obtain ⟨q0, q1, qP, qK, qD, qN⟩ := q; exact ⟨q0, q1, qP, va_K.moved (u := U) (U := U.calling g mk a) (Vm.Alike.refl U.vm) qK, qD, nv_same rfl rfl qN⟩, fun U hU hW => ⟨rfl, by rw [hU], by rw [hU]; exact hPc, va_K.moved hW.alike hKc, hDc.weaken (fun _ _ _ _ => trivial), nv_call hS hFc hU hW hN⟩⟩ rfl rfl hl.1 rfl (lv_room (Nat.le_of_ble_eq_true rfl)) dX16_two_74 ⟨by decide +kernel, by decide +kernel⟩) hS (fun q _ h => hFc q h) hFc (fun r8 u t H1 locs ht hvm hw hB hz1 hk1 hS => ?_)
                  obtain ⟨hP1, hK1, hD1⟩ := hB
                  rw [ht] at hP1
                  have hK1 := va_K.moved hvm.symm hK1
                  obtain ⟨hP, hD⟩ := va_join (wr := []) (w1 := []) hP hD [] [] rfl rfl (by decide) (by decide) hk1 hFc hP1 hD1
                  have hK := (hK.sub (tys' := []) [] rfl).app hK1
                  generalize H1 = H at hP hS ⊢
                  have hP : va_P (dC, dI) vwCl [] H := hP
                  have hD : va_D A [] := hD
                  have hK : va_K (dC, dI) vwCl [] s := hK
                  refine W.widen (k := 0) (n := 0) (by decide +kernel) (by decide +kernel) ?_
                  rcases hw with h9 | h9
                  · subst h9
                    refine lv_ior hx hb dX16_two_77 ?_
                    refine lv_istore (lv' := [(6, .int (((((((v0 : Int32).toUInt32 >>> ((9 : Int32).toUInt32 &&& Int32.toUInt32 31)).toInt32) &&& 15) : Int32) <<< ((2 : Int32) &&& 31)) ||| ((((((v0 : Int32).toUInt32 >>> ((7 : Int32).toUInt32 &&& Int32.toUInt32 31)).toInt32) &&& 3) : Int32) <<< ((6 : Int32) &&& 31)))), (5, .int ((((((((v0 : Int32).toUInt32 >>> ((12 : Int32).toUInt32 &&& Int32.toUInt32 31)).toInt32) &&& 1) : Int32) <<< ((5 : Int32) &&& 31)) ||| ((((((v0 : Int32).toUInt32 >>> ((4 : Int32).toUInt32 &&& Int32.toUInt32 31)).toInt32) &&& 7) : Int32) <<< ((2 : Int32) &&& 31))) ||| ((((((v0 : Int32).toUInt32 >>> ((2 : Int32).toUInt32 &&& Int32.toUInt32 31)).toInt32) &&& 3) : Int32) <<< ((6 : Int32) &&& 31)))), (4, .int 0), (3, .int ((((v0 : Int32).toUInt32 >>> ((2 : Int32).toUInt32 &&& Int32.toUInt32 31)).toInt32) &&& 31)), (2, .int ((((v0 : Int32).toUInt32 >>> ((7 : Int32).toUInt32 &&& Int32.toUInt32 31)).toInt32) &&& 31)), (0, .int v0), (1, .int v1)]) hx hb dX16_two_78 hl (by decide) rfl (fun ls hl => ?_)
                    refine lv_iload_n hx hb dX16_two_80 rfl (lv_at hl 6 rfl) ?_
                    refine lv_if_ne (tgt := 103) hx hb dX16_two_81 (by decide) (fun c_10 => ?_) (fun c_10 => ?_)
                    · refine lv_iload_n hx hb dX16_two_103 rfl (lv_at hl 6 rfl) ?_
                      refine lv_iconst (v := 2) hx hb dX16_two_104 (by decide) ?_
                      refine lv_icmp_ne (tgt := 126) hx hb dX16_two_105 (by decide) (fun c_11 => ?_) (fun c_11 => ?_)
                      · refine lv_iload_n hx hb dX16_two_126 rfl (lv_at hl 6 rfl) ?_
                        refine lv_bipush (v := 6) hx hb dX16_two_127 (by decide) ?_
                        refine lv_icmp_ne (tgt := 140) hx hb dX16_two_129 (by decide) (fun c_12 => ?_) (fun c_12 => ?_)
                        · refine lv_iload_n hx hb dX16_two_140 rfl (lv_at hl 6 rfl) ?_
                          refine lv_iconst (v := 4) hx hb dX16_two_141 (by decide) ?_
                          refine lv_icmp_eq (tgt := 147) hx hb dX16_two_142 (by decide) (fun c_13 => ?_) (fun c_13 => ?_)
                          · refine lv_iload_n hx hb dX16_two_147 rfl (lv_at hl 3 rfl) ?_
                            refine lv_if_le (tgt := 169) hx hb dX16_two_148 (by decide) (fun c_14 => ?_) (fun c_14 => ?_)
                            · refine lv_iload_n hx hb dX16_two_169 rfl (lv_at hl 4 rfl) ?_
                              refine lv_if_ne (tgt := 186) hx hb dX16_two_170 (by decide) (fun c_15 => ?_) (fun c_15 => ?_)
                              · refine lv_bipush (v := 103) hx hb dX16_two_186 (by decide) ?_
                                refine lv_iconst (v := 0) hx hb dX16_two_188 (by decide) ?_
                                refine lv_iload hx hb dX16_two_189 (lv_at hl 2 rfl) ?_
                                refine lv_if_eq (tgt := 198) hx hb dX16_two_191 (by decide) (fun _ => ?_) (fun h9 => absurd (by decide) h9)
                                refine lv_iconst (v := 0) hx hb dX16_two_198 (by decide) ?_
                                refine lv_iload_n hx hb dX16_two_199 rfl (lv_at hl 4 rfl) ?_
                                refine lv_iconst (v := 0) hx hb dX16_two_200 (by decide) ?_
                                have hPc := hP.sub (ws' := []) [] rfl
                                have hDc := hD.sub (ws' := []) [] (by decide) rfl
                                have hKc := hK.sub (tys' := []) [] rfl
                                have hFc := va_free (wc := []) hD hS hA [] rfl
                                refine va_calli (va_runS (As := [.int 103, .int 0, .int 0, .int ((((v0 : Int32).toUInt32 >>> ((7 : Int32).toUInt32 &&& Int32.toUInt32 31)).toInt32) &&& 31), .int 0]) (rest := []) ⟨hx, hb, hml, hown, hts⟩ (k_X16_immediate_v4 l hlt dC dI ((((v0 : Int32).toUInt32 >>> ((7 : Int32).toUInt32 &&& Int32.toUInt32 31)).toInt32) &&& 31)  H.size) (cwS 5 hts gi_g_X16_two_8 rfl rfl rfl (by decide +kernel) ⟨Nat.le_of_ble_eq_true rfl, Nat.le_of_ble_eq_true rfl⟩) ⟨fun a U g mk q => by obtain ⟨q0, q1, qP, qK, qD, qN⟩ := q; exact ⟨q0, q1, qP, va_K.moved (u := U) (U := U.calling g mk a) (Vm.Alike.refl U.vm) qK, qD, nv_same rfl rfl qN⟩, fun U hU hW => ⟨rfl, by rw [hU], by rw [hU]; exact hPc, va_K.moved hW.alike hKc, hDc.weaken (fun _ _ _ _ => trivial), nv_call hS hFc hU hW hN⟩⟩ rfl rfl hl.1 rfl (lv_room (Nat.le_of_ble_eq_true rfl)) dX16_two_201 ⟨by decide +kernel, by decide +kernel⟩) hS (fun q _ h => hFc q h) hFc (fun r10 u t H1 locs ht hvm hw hB hz1 hk1 hS => ?_)
                                obtain ⟨hP1, hK1, hD1⟩ := hB
                                rw [ht] at hP1
                                have hK1 := va_K.moved hvm.symm hK1
                                obtain ⟨hP, hD⟩ := va_join (wr := []) (w1 := []) hP hD [] [] rfl rfl (by decide) (by decide) hk1 hFc hP1 hD1
                                have hK := (hK.sub (tys' := []) [] rfl).app hK1
                                generalize H1 = H at hP hS ⊢
                                have hP : va_P (dC, dI) vwCl [] H := hP
                                have hD : va_D A [] := hD
                                have hK : va_K (dC, dI) vwCl [] s := hK
                                refine W.widen (k := 0) (n := 0) (by decide +kernel) (by decide +kernel) ?_
                                rcases hw with h9 | h9
                                · subst h9
                                  refine W.widen (k := 0) (n := 0) (by decide +kernel) (by decide +kernel) ?_
                                  exact W.iret (v := ((103 ||| ((((((v0 : Int32).toUInt32 >>> ((7 : Int32).toUInt32 &&& Int32.toUInt32 31)).toInt32) &&& 31) : Int32) <<< ((15 : Int32) &&& 31))) ||| 0)) hx hb hr (fun t ht hW => ⟨⟨((103 ||| ((((((v0 : Int32).toUInt32 >>> ((7 : Int32).toUInt32 &&& Int32.toUInt32 31)).toInt32) &&& 31) : Int32) <<< ((15 : Int32) &&& 31))) ||| 0), (), rfl, Or.inl ⟨c_4, c_10, c_11, c_12, c_13, c_14, c_15, rfl⟩, by rw [ht]; exact hP, va_K.moved hW.alike hK, hD⟩, hS.F ht⟩) hS.2.2 dX16_two_204
                                · exact h9.elim
                              · refine lv_iload hx hb dX16_two_173 (lv_at hl 2 rfl) ?_
                                refine lv_if_eq (tgt := 184) hx hb dX16_two_175 (by decide) (fun _ => ?_) (fun h9 => absurd (by decide) h9)
                                refine lv_iconst (v := 0) hx hb dX16_two_184 (by decide) ?_
                                refine W.widen (k := 0) (n := 0) (by decide +kernel) (by decide +kernel) ?_
                                exact W.iret (v := 0) hx hb hr (fun t ht hW => ⟨⟨0, (), rfl, Or.inr (Or.inl ⟨c_4, c_10, c_11, c_12, c_13, c_14, c_15, rfl⟩), by rw [ht]; exact hP, va_K.moved hW.alike hK, hD⟩, hS.F ht⟩) hS.2.2 dX16_two_185
                            · refine lv_iconst (v := 0) hx hb dX16_two_151 (by decide) ?_
                              refine lv_iconst (v := 0) hx hb dX16_two_152 (by decide) ?_
                              refine lv_iload_n hx hb dX16_two_153 rfl (lv_at hl 4 rfl) ?_
                              refine lv_iload hx hb dX16_two_154 (lv_at hl 2 rfl) ?_
                              refine lv_if_eq (tgt := 163) hx hb dX16_two_156 (by decide) (fun _ => ?_) (fun h9 => absurd (by decide) h9)
                              refine lv_iconst (v := 0) hx hb dX16_two_163 (by decide) ?_
                              refine lv_iload_n hx hb dX16_two_164 rfl (lv_at hl 3 rfl) ?_
                              have hPc := hP.sub (ws' := []) [] rfl
                              have hDc := hD.sub (ws' := []) [] (by decide) rfl
                              have hKc := hK.sub (tys' := []) [] rfl
                              have hFc := va_free (wc := []) hD hS hA [] rfl
                              refine va_calli (va_runS (As := [.int 0, .int 0, .int ((((v0 : Int32).toUInt32 >>> ((7 : Int32).toUInt32 &&& Int32.toUInt32 31)).toInt32) &&& 31), .int 0, .int ((((v0 : Int32).toUInt32 >>> ((2 : Int32).toUInt32 &&& Int32.toUInt32 31)).toInt32) &&& 31)]) (rest := []) ⟨hx, hb, hml, hown, hts⟩ (k_X16_threes_v3 l hlt dC dI ((((v0 : Int32).toUInt32 >>> ((7 : Int32).toUInt32 &&& Int32.toUInt32 31)).toInt32) &&& 31) ((((v0 : Int32).toUInt32 >>> ((2 : Int32).toUInt32 &&& Int32.toUInt32 31)).toInt32) &&& 31)  H.size) (cwS 5 hts gi_g_X16_two_9 rfl rfl rfl (by decide +kernel) ⟨Nat.le_of_ble_eq_true rfl, Nat.le_of_ble_eq_true rfl⟩) ⟨fun a U g mk q => by obtain ⟨q0, q1, qP, qK, qD, qN⟩ := q; exact ⟨q0, q1, qP, va_K.moved (u := U) (U := U.calling g mk a) (Vm.Alike.refl U.vm) qK, qD, nv_same rfl rfl qN⟩, fun U hU hW => ⟨rfl, by rw [hU], by rw [hU]; exact hPc, va_K.moved hW.alike hKc, hDc.weaken (fun _ _ _ _ => trivial), nv_call hS hFc hU hW hN⟩⟩ rfl rfl hl.1 rfl (lv_room (Nat.le_of_ble_eq_true rfl)) dX16_two_165 ⟨by decide +kernel, by decide +kernel⟩) hS (fun q _ h => hFc q h) hFc (fun r13 u t H1 locs ht hvm hw hB hz1 hk1 hS => ?_)
                              obtain ⟨hP1, hK1, hD1⟩ := hB
                              rw [ht] at hP1
                              have hK1 := va_K.moved hvm.symm hK1
                              obtain ⟨hP, hD⟩ := va_join (wr := []) (w1 := []) hP hD [] [] rfl rfl (by decide) (by decide) hk1 hFc hP1 hD1
                              have hK := (hK.sub (tys' := []) [] rfl).app hK1
                              generalize H1 = H at hP hS ⊢
                              have hP : va_P (dC, dI) vwCl [] H := hP
                              have hD : va_D A [] := hD
                              have hK : va_K (dC, dI) vwCl [] s := hK
                              refine W.widen (k := 0) (n := 0) (by decide +kernel) (by decide +kernel) ?_
                              rcases hw with h9 | h9
                              · subst h9
                                refine W.widen (k := 0) (n := 0) (by decide +kernel) (by decide +kernel) ?_
                                exact W.iret (v := (((((51 ||| ((((((v0 : Int32).toUInt32 >>> ((7 : Int32).toUInt32 &&& Int32.toUInt32 31)).toInt32) &&& 31) : Int32) <<< ((7 : Int32) &&& 31))) ||| 0) ||| 0) ||| ((((((v0 : Int32).toUInt32 >>> ((2 : Int32).toUInt32 &&& Int32.toUInt32 31)).toInt32) &&& 31) : Int32) <<< ((20 : Int32) &&& 31))) ||| 0)) hx hb hr (fun t ht hW => ⟨⟨(((((51 ||| ((((((v0 : Int32).toUInt32 >>> ((7 : Int32).toUInt32 &&& Int32.toUInt32 31)).toInt32) &&& 31) : Int32) <<< ((7 : Int32) &&& 31))) ||| 0) ||| 0) ||| ((((((v0 : Int32).toUInt32 >>> ((2 : Int32).toUInt32 &&& Int32.toUInt32 31)).toInt32) &&& 31) : Int32) <<< ((20 : Int32) &&& 31))) ||| 0), (), rfl, Or.inr (Or.inr (Or.inl ⟨c_4, c_10, c_11, c_12, c_13, c_14, rfl⟩)), by rw [ht]; exact hP, va_K.moved hW.alike hK, hD⟩, hS.F ht⟩) hS.2.2 dX16_two_168
                              · exact h9.elim
                          · refine lv_iconst (v := 0) hx hb dX16_two_145 (by decide) ?_
                            refine W.widen (k := 0) (n := 0) (by decide +kernel) (by decide +kernel) ?_
                            exact W.iret (v := 0) hx hb hr (fun t ht hW => ⟨⟨0, (), rfl, Or.inr (Or.inr (Or.inr (Or.inl ⟨c_4, c_10, c_11, c_12, c_13, rfl⟩))), by rw [ht]; exact hP, va_K.moved hW.alike hK, hD⟩, hS.F ht⟩) hS.2.2 dX16_two_146
                        · refine lv_iconst (v := 2) hx hb dX16_two_132 (by decide) ?_
                          refine lv_iload_n hx hb dX16_two_133 rfl (lv_at hl 3 rfl) ?_
                          refine lv_iload hx hb dX16_two_134 (lv_at hl 0 rfl) ?_
                          have hPc := hP.sub (ws' := []) [] rfl
                          have hDc := hD.sub (ws' := []) [] (by decide) rfl
                          have hKc := hK.sub (tys' := []) [] rfl
                          have hFc := va_free (wc := []) hD hS hA [] rfl
                          refine va_calli (va_runS (As := [.int 2, .int ((((v0 : Int32).toUInt32 >>> ((2 : Int32).toUInt32 &&& Int32.toUInt32 31)).toInt32) &&& 31), .int (((((((v0 : Int32).toUInt32 >>> ((9 : Int32).toUInt32 &&& Int32.toUInt32 31)).toInt32) &&& 15) : Int32) <<< ((2 : Int32) &&& 31)) ||| ((((((v0 : Int32).toUInt32 >>> ((7 : Int32).toUInt32 &&& Int32.toUInt32 31)).toInt32) &&& 3) : Int32) <<< ((6 : Int32) &&& 31)))]) (rest := []) ⟨hx, hb, hml, hown, hts⟩ (k_X16_storing_v1 l hlt dC dI ((((v0 : Int32).toUInt32 >>> ((2 : Int32).toUInt32 &&& Int32.toUInt32 31)).toInt32) &&& 31) (((((((v0 : Int32).toUInt32 >>> ((9 : Int32).toUInt32 &&& Int32.toUInt32 31)).toInt32) &&& 15) : Int32) <<< ((2 : Int32) &&& 31)) ||| ((((((v0 : Int32).toUInt32 >>> ((7 : Int32).toUInt32 &&& Int32.toUInt32 31)).toInt32) &&& 3) : Int32) <<< ((6 : Int32) &&& 31)))  H.size) (cwS 3 hts gi_g_X16_two_10 rfl rfl rfl (by decide +kernel) ⟨Nat.le_of_ble_eq_true rfl, Nat.le_of_ble_eq_true rfl⟩) ⟨fun a U g mk q => by obtain ⟨q0, q1, qP, qK, qD, qN⟩ := q; exact ⟨q0, q1, qP, va_K.moved (u := U) (U := U.calling g mk a) (Vm.Alike.refl U.vm) qK, qD, nv_same rfl rfl qN⟩, fun U hU hW => ⟨rfl, by rw [hU], by rw [hU]; exact hPc, va_K.moved hW.alike hKc, hDc.weaken (fun _ _ _ _ => trivial), nv_call hS hFc hU hW hN⟩⟩ rfl rfl hl.1 rfl (lv_room (Nat.le_of_ble_eq_true rfl)) dX16_two_136 ⟨by decide +kernel, by decide +kernel⟩) hS (fun q _ h => hFc q h) hFc (fun r16 u t H1 locs ht hvm hw hB hz1 hk1 hS => ?_)
                          obtain ⟨hP1, hK1, hD1⟩ := hB
                          rw [ht] at hP1
                          have hK1 := va_K.moved hvm.symm hK1
                          obtain ⟨hP, hD⟩ := va_join (wr := []) (w1 := []) hP hD [] [] rfl rfl (by decide) (by decide) hk1 hFc hP1 hD1
                          have hK := (hK.sub (tys' := []) [] rfl).app hK1
                          generalize H1 = H at hP hS ⊢
                          have hP : va_P (dC, dI) vwCl [] H := hP
                          have hD : va_D A [] := hD
                          have hK : va_K (dC, dI) vwCl [] s := hK
                          refine W.widen (k := 0) (n := 0) (by decide +kernel) (by decide +kernel) ?_
                          rcases hw with h9 | h9
                          · subst h9
                            refine W.widen (k := 0) (n := 0) (by decide +kernel) (by decide +kernel) ?_
                            exact W.iret (v := (((((35 ||| (((((((((((((v0 : Int32).toUInt32 >>> ((9 : Int32).toUInt32 &&& Int32.toUInt32 31)).toInt32) &&& 15) : Int32) <<< ((2 : Int32) &&& 31)) ||| ((((((v0 : Int32).toUInt32 >>> ((7 : Int32).toUInt32 &&& Int32.toUInt32 31)).toInt32) &&& 3) : Int32) <<< ((6 : Int32) &&& 31))) : Int32).toUInt32 >>> ((0 : Int32).toUInt32 &&& Int32.toUInt32 31)).toInt32) &&& 31) : Int32) <<< ((7 : Int32) &&& 31))) ||| 8192) ||| 65536) ||| ((((((v0 : Int32).toUInt32 >>> ((2 : Int32).toUInt32 &&& Int32.toUInt32 31)).toInt32) &&& 31) : Int32) <<< ((20 : Int32) &&& 31))) ||| (((((((((((((v0 : Int32).toUInt32 >>> ((9 : Int32).toUInt32 &&& Int32.toUInt32 31)).toInt32) &&& 15) : Int32) <<< ((2 : Int32) &&& 31)) ||| ((((((v0 : Int32).toUInt32 >>> ((7 : Int32).toUInt32 &&& Int32.toUInt32 31)).toInt32) &&& 3) : Int32) <<< ((6 : Int32) &&& 31))) : Int32).toUInt32 >>> ((5 : Int32).toUInt32 &&& Int32.toUInt32 31)).toInt32) &&& 127) : Int32) <<< ((25 : Int32) &&& 31)))) hx hb hr (fun t ht hW => ⟨⟨(((((35 ||| (((((((((((((v0 : Int32).toUInt32 >>> ((9 : Int32).toUInt32 &&& Int32.toUInt32 31)).toInt32) &&& 15) : Int32) <<< ((2 : Int32) &&& 31)) ||| ((((((v0 : Int32).toUInt32 >>> ((7 : Int32).toUInt32 &&& Int32.toUInt32 31)).toInt32) &&& 3) : Int32) <<< ((6 : Int32) &&& 31))) : Int32).toUInt32 >>> ((0 : Int32).toUInt32 &&& Int32.toUInt32 31)).toInt32) &&& 31) : Int32) <<< ((7 : Int32) &&& 31))) ||| 8192) ||| 65536) ||| ((((((v0 : Int32).toUInt32 >>> ((2 : Int32).toUInt32 &&& Int32.toUInt32 31)).toInt32) &&& 31) : Int32) <<< ((20 : Int32) &&& 31))) ||| (((((((((((((v0 : Int32).toUInt32 >>> ((9 : Int32).toUInt32 &&& Int32.toUInt32 31)).toInt32) &&& 15) : Int32) <<< ((2 : Int32) &&& 31)) ||| ((((((v0 : Int32).toUInt32 >>> ((7 : Int32).toUInt32 &&& Int32.toUInt32 31)).toInt32) &&& 3) : Int32) <<< ((6 : Int32) &&& 31))) : Int32).toUInt32 >>> ((5 : Int32).toUInt32 &&& Int32.toUInt32 31)).toInt32) &&& 127) : Int32) <<< ((25 : Int32) &&& 31))), (), rfl, Or.inr (Or.inr (Or.inr (Or.inr (Or.inl ⟨c_4, c_10, c_11, c_12, rfl⟩)))), by rw [ht]; exact hP, va_K.moved hW.alike hK, hD⟩, hS.F ht⟩) hS.2.2 dX16_two_139
                          · exact h9.elim
                      · refine lv_iload_n hx hb dX16_two_108 rfl (lv_at hl 4 rfl) ?_
                        refine lv_if_ne (tgt := 116) hx hb dX16_two_109 (by decide) (fun c_19 => ?_) (fun c_19 => ?_)
                        · refine lv_iconst (v := 3) hx hb dX16_two_116 (by decide) ?_
                          refine lv_iconst (v := 2) hx hb dX16_two_117 (by decide) ?_
                          refine lv_iload_n hx hb dX16_two_118 rfl (lv_at hl 4 rfl) ?_
                          refine lv_iconst (v := 2) hx hb dX16_two_119 (by decide) ?_
                          refine lv_iload hx hb dX16_two_120 (lv_at hl 1 rfl) ?_
                          have hPc := hP.sub (ws' := []) [] rfl
                          have hDc := hD.sub (ws' := []) [] (by decide) rfl
                          have hKc := hK.sub (tys' := []) [] rfl
                          have hFc := va_free (wc := []) hD hS hA [] rfl
                          refine va_calli (va_runS (As := [.int 3, .int 2, .int ((((v0 : Int32).toUInt32 >>> ((7 : Int32).toUInt32 &&& Int32.toUInt32 31)).toInt32) &&& 31), .int 2, .int ((((((((v0 : Int32).toUInt32 >>> ((12 : Int32).toUInt32 &&& Int32.toUInt32 31)).toInt32) &&& 1) : Int32) <<< ((5 : Int32) &&& 31)) ||| ((((((v0 : Int32).toUInt32 >>> ((4 : Int32).toUInt32 &&& Int32.toUInt32 31)).toInt32) &&& 7) : Int32) <<< ((2 : Int32) &&& 31))) ||| ((((((v0 : Int32).toUInt32 >>> ((2 : Int32).toUInt32 &&& Int32.toUInt32 31)).toInt32) &&& 3) : Int32) <<< ((6 : Int32) &&& 31)))]) (rest := []) ⟨hx, hb, hml, hown, hts⟩ (k_X16_immediate_v5 l hlt dC dI ((((v0 : Int32).toUInt32 >>> ((7 : Int32).toUInt32 &&& Int32.toUInt32 31)).toInt32) &&& 31) ((((((((v0 : Int32).toUInt32 >>> ((12 : Int32).toUInt32 &&& Int32.toUInt32 31)).toInt32) &&& 1) : Int32) <<< ((5 : Int32) &&& 31)) ||| ((((((v0 : Int32).toUInt32 >>> ((4 : Int32).toUInt32 &&& Int32.toUInt32 31)).toInt32) &&& 7) : Int32) <<< ((2 : Int32) &&& 31))) ||| ((((((v0 : Int32).toUInt32 >>> ((2 : Int32).toUInt32 &&& Int32.toUInt32 31)).toInt32) &&& 3) : Int32) <<< ((6 : Int32) &&& 31)))  H.size) (cwS 5 hts gi_g_X16_two_11 rfl rfl rfl (by decide +kernel) ⟨Nat.le_of_ble_eq_true rfl, Nat.le_of_ble_eq_true rfl⟩) ⟨fun a U g mk q => by obtain ⟨q0, q1, qP, qK, qD, qN⟩ := q; exact ⟨q0, q1, qP, va_K.moved (u := U) (U := U.calling g mk a) (Vm.Alike.refl U.vm) qK, qD, nv_same rfl rfl qN⟩, fun U hU hW => ⟨rfl, by rw [hU], by rw [hU]; exact hPc, va_K.moved hW.alike hKc, hDc.weaken (fun _ _ _ _ => trivial), nv_call hS hFc hU hW hN⟩⟩ rfl rfl hl.1 rfl (lv_room (Nat.le_of_ble_eq_true rfl)) dX16_two_122 ⟨by decide +kernel, by decide +kernel⟩) hS (fun q _ h => hFc q h) hFc (fun r19 u t H1 locs ht hvm hw hB hz1 hk1 hS => ?_)
                          obtain ⟨hP1, hK1, hD1⟩ := hB
                          rw [ht] at hP1
                          have hK1 := va_K.moved hvm.symm hK1
                          obtain ⟨hP, hD⟩ := va_join (wr := []) (w1 := []) hP hD [] [] rfl rfl (by decide) (by decide) hk1 hFc hP1 hD1
                          have hK := (hK.sub (tys' := []) [] rfl).app hK1
                          generalize H1 = H at hP hS ⊢
                          have hP : va_P (dC, dI) vwCl [] H := hP
                          have hD : va_D A [] := hD
                          have hK : va_K (dC, dI) vwCl [] s := hK
                          refine W.widen (k := 0) (n := 0) (by decide +kernel) (by decide +kernel) ?_
                          rcases hw with h9 | h9
                          · subst h9
                            refine W.widen (k := 0) (n := 0) (by decide +kernel) (by decide +kernel) ?_
                            exact W.iret (v := ((((3 ||| ((((((v0 : Int32).toUInt32 >>> ((7 : Int32).toUInt32 &&& Int32.toUInt32 31)).toInt32) &&& 31) : Int32) <<< ((7 : Int32) &&& 31))) ||| 8192) ||| 65536) ||| ((((((((((v0 : Int32).toUInt32 >>> ((12 : Int32).toUInt32 &&& Int32.toUInt32 31)).toInt32) &&& 1) : Int32) <<< ((5 : Int32) &&& 31)) ||| ((((((v0 : Int32).toUInt32 >>> ((4 : Int32).toUInt32 &&& Int32.toUInt32 31)).toInt32) &&& 7) : Int32) <<< ((2 : Int32) &&& 31))) ||| ((((((v0 : Int32).toUInt32 >>> ((2 : Int32).toUInt32 &&& Int32.toUInt32 31)).toInt32) &&& 3) : Int32) <<< ((6 : Int32) &&& 31))) : Int32) <<< ((20 : Int32) &&& 31)))) hx hb hr (fun t ht hW => ⟨⟨((((3 ||| ((((((v0 : Int32).toUInt32 >>> ((7 : Int32).toUInt32 &&& Int32.toUInt32 31)).toInt32) &&& 31) : Int32) <<< ((7 : Int32) &&& 31))) ||| 8192) ||| 65536) ||| ((((((((((v0 : Int32).toUInt32 >>> ((12 : Int32).toUInt32 &&& Int32.toUInt32 31)).toInt32) &&& 1) : Int32) <<< ((5 : Int32) &&& 31)) ||| ((((((v0 : Int32).toUInt32 >>> ((4 : Int32).toUInt32 &&& Int32.toUInt32 31)).toInt32) &&& 7) : Int32) <<< ((2 : Int32) &&& 31))) ||| ((((((v0 : Int32).toUInt32 >>> ((2 : Int32).toUInt32 &&& Int32.toUInt32 31)).toInt32) &&& 3) : Int32) <<< ((6 : Int32) &&& 31))) : Int32) <<< ((20 : Int32) &&& 31))), (), rfl, Or.inr (Or.inr (Or.inr (Or.inr (Or.inr (Or.inl ⟨c_4, c_10, c_11, c_19, rfl⟩))))), by rw [ht]; exact hP, va_K.moved hW.alike hK, hD⟩, hS.F ht⟩) hS.2.2 dX16_two_125
                          · exact h9.elim
                        · refine lv_iconst (v := 0) hx hb dX16_two_112 (by decide) ?_
                          refine lv_goto (tgt := 125) hx hb dX16_two_113 (by decide) ?_
                          refine W.widen (k := 0) (n := 0) (by decide +kernel) (by decide +kernel) ?_
                          exact W.iret (v := 0) hx hb hr (fun t ht hW => ⟨⟨0, (), rfl, Or.inr (Or.inr (Or.inr (Or.inr (Or.inr (Or.inr (Or.inl ⟨c_4, c_10, c_11, c_19, rfl⟩)))))), by rw [ht]; exact hP, va_K.moved hW.alike hK, hD⟩, hS.F ht⟩) hS.2.2 dX16_two_125
                    · refine lv_iload hx hb dX16_two_84 (lv_at hl 2 rfl) ?_
                      refine lv_if_eq (tgt := 93) hx hb dX16_two_86 (by decide) (fun _ => ?_) (fun h9 => absurd (by decide) h9)
                      refine lv_bipush (v := 19) hx hb dX16_two_93 (by decide) ?_
                      refine lv_iconst (v := 1) hx hb dX16_two_95 (by decide) ?_
                      refine lv_iload_n hx hb dX16_two_96 rfl (lv_at hl 4 rfl) ?_
                      refine lv_iload_n hx hb dX16_two_97 rfl (lv_at hl 4 rfl) ?_
                      refine lv_iload_n hx hb dX16_two_98 rfl (lv_at hl 3 rfl) ?_
                      have hPc := hP.sub (ws' := []) [] rfl
                      have hDc := hD.sub (ws' := []) [] (by decide) rfl
                      have hKc := hK.sub (tys' := []) [] rfl
                      have hFc := va_free (wc := []) hD hS hA [] rfl
                      refine va_calli (va_runS (As := [.int 19, .int 1, .int ((((v0 : Int32).toUInt32 >>> ((7 : Int32).toUInt32 &&& Int32.toUInt32 31)).toInt32) &&& 31), .int ((((v0 : Int32).toUInt32 >>> ((7 : Int32).toUInt32 &&& Int32.toUInt32 31)).toInt32) &&& 31), .int ((((v0 : Int32).toUInt32 >>> ((2 : Int32).toUInt32 &&& Int32.toUInt32 31)).toInt32) &&& 31)]) (rest := []) ⟨hx, hb, hml, hown, hts⟩ (k_X16_immediate_v6 l hlt dC dI ((((v0 : Int32).toUInt32 >>> ((7 : Int32).toUInt32 &&& Int32.toUInt32 31)).toInt32) &&& 31) ((((v0 : Int32).toUInt32 >>> ((7 : Int32).toUInt32 &&& Int32.toUInt32 31)).toInt32) &&& 31) ((((v0 : Int32).toUInt32 >>> ((2 : Int32).toUInt32 &&& Int32.toUInt32 31)).toInt32) &&& 31)  H.size) (cwS 5 hts gi_g_X16_two_12 rfl rfl rfl (by decide +kernel) ⟨Nat.le_of_ble_eq_true rfl, Nat.le_of_ble_eq_true rfl⟩) ⟨fun a U g mk q => by obtain ⟨q0, q1, qP, qK, qD, qN⟩ := q; exact ⟨q0, q1, qP, va_K.moved (u := U) (U := U.calling g mk a) (Vm.Alike.refl U.vm) qK, qD, nv_same rfl rfl qN⟩, fun U hU hW => ⟨rfl, by rw [hU], by rw [hU]; exact hPc, va_K.moved hW.alike hKc, hDc.weaken (fun _ _ _ _ => trivial), nv_call hS hFc hU hW hN⟩⟩ rfl rfl hl.1 rfl (lv_room (Nat.le_of_ble_eq_true rfl)) dX16_two_99 ⟨by decide +kernel, by decide +kernel⟩) hS (fun q _ h => hFc q h) hFc (fun r23 u t H1 locs ht hvm hw hB hz1 hk1 hS => ?_)
                      obtain ⟨hP1, hK1, hD1⟩ := hB
                      rw [ht] at hP1
                      have hK1 := va_K.moved hvm.symm hK1
                      obtain ⟨hP, hD⟩ := va_join (wr := []) (w1 := []) hP hD [] [] rfl rfl (by decide) (by decide) hk1 hFc hP1 hD1
                      have hK := (hK.sub (tys' := []) [] rfl).app hK1
                      generalize H1 = H at hP hS ⊢
                      have hP : va_P (dC, dI) vwCl [] H := hP
                      have hD : va_D A [] := hD
                      have hK : va_K (dC, dI) vwCl [] s := hK
                      refine W.widen (k := 0) (n := 0) (by decide +kernel) (by decide +kernel) ?_
                      rcases hw with h9 | h9
                      · subst h9
                        refine W.widen (k := 0) (n := 0) (by decide +kernel) (by decide +kernel) ?_
                        exact W.iret (v := ((((19 ||| ((((((v0 : Int32).toUInt32 >>> ((7 : Int32).toUInt32 &&& Int32.toUInt32 31)).toInt32) &&& 31) : Int32) <<< ((7 : Int32) &&& 31))) ||| 4096) ||| ((((((v0 : Int32).toUInt32 >>> ((7 : Int32).toUInt32 &&& Int32.toUInt32 31)).toInt32) &&& 31) : Int32) <<< ((15 : Int32) &&& 31))) ||| ((((((v0 : Int32).toUInt32 >>> ((2 : Int32).toUInt32 &&& Int32.toUInt32 31)).toInt32) &&& 31) : Int32) <<< ((20 : Int32) &&& 31)))) hx hb hr (fun t ht hW => ⟨⟨((((19 ||| ((((((v0 : Int32).toUInt32 >>> ((7 : Int32).toUInt32 &&& Int32.toUInt32 31)).toInt32) &&& 31) : Int32) <<< ((7 : Int32) &&& 31))) ||| 4096) ||| ((((((v0 : Int32).toUInt32 >>> ((7 : Int32).toUInt32 &&& Int32.toUInt32 31)).toInt32) &&& 31) : Int32) <<< ((15 : Int32) &&& 31))) ||| ((((((v0 : Int32).toUInt32 >>> ((2 : Int32).toUInt32 &&& Int32.toUInt32 31)).toInt32) &&& 31) : Int32) <<< ((20 : Int32) &&& 31))), (), rfl, Or.inr (Or.inr (Or.inr (Or.inr (Or.inr (Or.inr (Or.inr (Or.inl ⟨c_4, c_10, rfl⟩))))))), by rw [ht]; exact hP, va_K.moved hW.alike hK, hD⟩, hS.F ht⟩) hS.2.2 dX16_two_102
                      · exact h9.elim
                  · exact h9.elim
                · exact h9.elim
              · exact h9.elim
            · exact h9.elim
          · exact h9.elim
        · refine lv_iconst (v := 1) hx hb dX16_two_26 (by decide) ?_
          refine lv_goto (tgt := 31) hx hb dX16_two_27 (by decide) ?_
          refine lv_istore (lv' := [(4, .int 1), (3, .int ((((v0 : Int32).toUInt32 >>> ((2 : Int32).toUInt32 &&& Int32.toUInt32 31)).toInt32) &&& 31)), (2, .int ((((v0 : Int32).toUInt32 >>> ((7 : Int32).toUInt32 &&& Int32.toUInt32 31)).toInt32) &&& 31)), (0, .int v0), (1, .int v1)]) hx hb dX16_two_31 hl (by decide) rfl (fun ls hl => ?_)
          refine lv_iload_n hx hb dX16_two_33 rfl (lv_at hl 3 rfl) ?_
          refine lv_bipush (v := 12) hx hb dX16_two_34 (by decide) ?_
          refine lv_iconst (v := 1) hx hb dX16_two_36 (by decide) ?_
          refine lv_iconst (v := 5) hx hb dX16_two_37 (by decide) ?_
          have hPc := hP.sub (ws' := []) [] rfl
          have hDc := hD.sub (ws' := []) [] (by decide) rfl
          have hKc := hK.sub (tys' := []) [] rfl
          have hFc := va_free (wc := []) hD hS hA [] rfl
          refine va_calli (va_runS (As := [.int v0, .int 12, .int 1, .int 5]) (rest := []) ⟨hx, hb, hml, hown, hts⟩ (k_X16_bit_v16 l hlt dC dI v0  H.size) (cwS 4 hts gi_g_X16_two_3 rfl rfl rfl (by decide +kernel) ⟨Nat.le_of_ble_eq_true rfl, Nat.le_of_ble_eq_true rfl⟩) ⟨fun a U g mk q => by obtain ⟨q0, q1, qP, qK, qD, qN⟩ := q; exact ⟨q0, q1, qP, va_K.moved (u := U) (U := U.calling g mk a) (Vm.Alike.refl U.vm) qK, qD, nv_same rfl rfl qN⟩, fun U hU hW => ⟨rfl, by rw [hU], by rw [hU]; exact hPc, va_K.moved hW.alike hKc, hDc.weaken (fun _ _ _ _ => trivial), nv_call hS hFc hU hW hN⟩⟩ rfl rfl hl.1 rfl (lv_room (Nat.le_of_ble_eq_true rfl)) dX16_two_38 ⟨by decide +kernel, by decide +kernel⟩) hS (fun q _ h => hFc q h) hFc (fun r24 u t H1 locs ht hvm hw hB hz1 hk1 hS => ?_)
          obtain ⟨hP1, hK1, hD1⟩ := hB
          rw [ht] at hP1
          have hK1 := va_K.moved hvm.symm hK1
          obtain ⟨hP, hD⟩ := va_join (wr := []) (w1 := []) hP hD [] [] rfl rfl (by decide) (by decide) hk1 hFc hP1 hD1
          have hK := (hK.sub (tys' := []) [] rfl).app hK1
          generalize H1 = H at hP hS ⊢
          have hP : va_P (dC, dI) vwCl [] H := hP
          have hD : va_D A [] := hD
          have hK : va_K (dC, dI) vwCl [] s := hK
          refine W.widen (k := 0) (n := 0) (by decide +kernel) (by decide +kernel) ?_
          rcases hw with h9 | h9
          · subst h9
            refine lv_iload_n hx hb dX16_two_41 rfl (lv_at hl 3 rfl) ?_
            refine lv_iconst (v := 4) hx hb dX16_two_42 (by decide) ?_
            refine lv_iconst (v := 3) hx hb dX16_two_43 (by decide) ?_
            refine lv_iconst (v := 2) hx hb dX16_two_44 (by decide) ?_
            have hPc := hP.sub (ws' := []) [] rfl
            have hDc := hD.sub (ws' := []) [] (by decide) rfl
            have hKc := hK.sub (tys' := []) [] rfl
            have hFc := va_free (wc := []) hD hS hA [] rfl
            refine va_calli (va_runS (As := [.int v0, .int 4, .int 3, .int 2]) (rest := [.int ((((((v0 : Int32).toUInt32 >>> ((12 : Int32).toUInt32 &&& Int32.toUInt32 31)).toInt32) &&& 1) : Int32) <<< ((5 : Int32) &&& 31))]) ⟨hx, hb, hml, hown, hts⟩ (k_X16_bit_v17 l hlt dC dI v0  H.size) (cwS 4 hts gi_g_X16_two_4 rfl rfl rfl (by decide +kernel) ⟨Nat.le_of_ble_eq_true rfl, Nat.le_of_ble_eq_true rfl⟩) ⟨fun a U g mk q => by obtain ⟨q0, q1, qP, qK, qD, qN⟩ := q; exact ⟨q0, q1, qP, va_K.moved (u := U) (U := U.calling g mk a) (Vm.Alike.refl U.vm) qK, qD, nv_same rfl rfl qN⟩, fun U hU hW => ⟨rfl, by rw [hU], by rw [hU]; exact hPc, va_K.moved hW.alike hKc, hDc.weaken (fun _ _ _ _ => trivial), nv_call hS hFc hU hW hN⟩⟩ rfl rfl hl.1 rfl (lv_room (Nat.le_of_ble_eq_true rfl)) dX16_two_45 ⟨by decide +kernel, by decide +kernel⟩) hS (fun q _ h => hFc q h) hFc (fun r25 u t H1 locs ht hvm hw hB hz1 hk1 hS => ?_)
            obtain ⟨hP1, hK1, hD1⟩ := hB
            rw [ht] at hP1
            have hK1 := va_K.moved hvm.symm hK1
            obtain ⟨hP, hD⟩ := va_join (wr := []) (w1 := []) hP hD [] [] rfl rfl (by decide) (by decide) hk1 hFc hP1 hD1
            have hK := (hK.sub (tys' := []) [] rfl).app hK1
            generalize H1 = H at hP hS ⊢
            have hP : va_P (dC, dI) vwCl [] H := hP
            have hD : va_D A [] := hD
            have hK : va_K (dC, dI) vwCl [] s := hK
            refine W.widen (k := 0) (n := 0) (by decide +kernel) (by decide +kernel) ?_
            rcases hw with h9 | h9
            · subst h9
              refine lv_ior hx hb dX16_two_48 ?_
              refine lv_iload_n hx hb dX16_two_49 rfl (lv_at hl 3 rfl) ?_
              refine lv_iconst (v := 2) hx hb dX16_two_50 (by decide) ?_
              refine lv_iconst (v := 2) hx hb dX16_two_51 (by decide) ?_
              refine lv_bipush (v := 6) hx hb dX16_two_52 (by decide) ?_
              have hPc := hP.sub (ws' := []) [] rfl
              have hDc := hD.sub (ws' := []) [] (by decide) rfl
              have hKc := hK.sub (tys' := []) [] rfl
              have hFc := va_free (wc := []) hD hS hA [] rfl
              refine va_calli (va_runS (As := [.int v0, .int 2, .int 2, .int 6]) (rest := [.int (((((((v0 : Int32).toUInt32 >>> ((12 : Int32).toUInt32 &&& Int32.toUInt32 31)).toInt32) &&& 1) : Int32) <<< ((5 : Int32) &&& 31)) ||| ((((((v0 : Int32).toUInt32 >>> ((4 : Int32).toUInt32 &&& Int32.toUInt32 31)).toInt32) &&& 7) : Int32) <<< ((2 : Int32) &&& 31)))]) ⟨hx, hb, hml, hown, hts⟩ (k_X16_bit_v18 l hlt dC dI v0  H.size) (cwS 4 hts gi_g_X16_two_5 rfl rfl rfl (by decide +kernel) ⟨Nat.le_of_ble_eq_true rfl, Nat.le_of_ble_eq_true rfl⟩) ⟨fun a U g mk q => by obtain ⟨q0, q1, qP, qK, qD, qN⟩ := q; exact ⟨q0, q1, qP, va_K.moved (u := U) (U := U.calling g mk a) (Vm.Alike.refl U.vm) qK, qD, nv_same rfl rfl qN⟩, fun U hU hW => ⟨rfl, by rw [hU], by rw [hU]; exact hPc, va_K.moved hW.alike hKc, hDc.weaken (fun _ _ _ _ => trivial), nv_call hS hFc hU hW hN⟩⟩ rfl rfl hl.1 rfl (lv_room (Nat.le_of_ble_eq_true rfl)) dX16_two_54 ⟨by decide +kernel, by decide +kernel⟩) hS (fun q _ h => hFc q h) hFc (fun r26 u t H1 locs ht hvm hw hB hz1 hk1 hS => ?_)
              obtain ⟨hP1, hK1, hD1⟩ := hB
              rw [ht] at hP1
              have hK1 := va_K.moved hvm.symm hK1
              obtain ⟨hP, hD⟩ := va_join (wr := []) (w1 := []) hP hD [] [] rfl rfl (by decide) (by decide) hk1 hFc hP1 hD1
              have hK := (hK.sub (tys' := []) [] rfl).app hK1
              generalize H1 = H at hP hS ⊢
              have hP : va_P (dC, dI) vwCl [] H := hP
              have hD : va_D A [] := hD
              have hK : va_K (dC, dI) vwCl [] s := hK
              refine W.widen (k := 0) (n := 0) (by decide +kernel) (by decide +kernel) ?_
              rcases hw with h9 | h9
              · subst h9
                refine lv_ior hx hb dX16_two_57 ?_
                refine lv_istore (lv' := [(5, .int ((((((((v0 : Int32).toUInt32 >>> ((12 : Int32).toUInt32 &&& Int32.toUInt32 31)).toInt32) &&& 1) : Int32) <<< ((5 : Int32) &&& 31)) ||| ((((((v0 : Int32).toUInt32 >>> ((4 : Int32).toUInt32 &&& Int32.toUInt32 31)).toInt32) &&& 7) : Int32) <<< ((2 : Int32) &&& 31))) ||| ((((((v0 : Int32).toUInt32 >>> ((2 : Int32).toUInt32 &&& Int32.toUInt32 31)).toInt32) &&& 3) : Int32) <<< ((6 : Int32) &&& 31)))), (4, .int 1), (3, .int ((((v0 : Int32).toUInt32 >>> ((2 : Int32).toUInt32 &&& Int32.toUInt32 31)).toInt32) &&& 31)), (2, .int ((((v0 : Int32).toUInt32 >>> ((7 : Int32).toUInt32 &&& Int32.toUInt32 31)).toInt32) &&& 31)), (0, .int v0), (1, .int v1)]) hx hb dX16_two_58 hl (by decide) rfl (fun ls hl => ?_)
                refine lv_iload_n hx hb dX16_two_60 rfl (lv_at hl 4 rfl) ?_
                refine lv_bipush (v := 9) hx hb dX16_two_61 (by decide) ?_
                refine lv_iconst (v := 4) hx hb dX16_two_63 (by decide) ?_
                refine lv_iconst (v := 2) hx hb dX16_two_64 (by decide) ?_
                have hPc := hP.sub (ws' := []) [] rfl
                have hDc := hD.sub (ws' := []) [] (by decide) rfl
                have hKc := hK.sub (tys' := []) [] rfl
                have hFc := va_free (wc := []) hD hS hA [] rfl
                refine va_calli (va_runS (As := [.int v0, .int 9, .int 4, .int 2]) (rest := []) ⟨hx, hb, hml, hown, hts⟩ (k_X16_bit_v19 l hlt dC dI v0  H.size) (cwS 4 hts gi_g_X16_two_6 rfl rfl rfl (by decide +kernel) ⟨Nat.le_of_ble_eq_true rfl, Nat.le_of_ble_eq_true rfl⟩) ⟨fun a U g mk q => by obtain ⟨q0, q1, qP, qK, qD, qN⟩ := q; exact ⟨q0, q1, qP, va_K.moved (u := U) (U := U.calling g mk a) (Vm.Alike.refl U.vm) qK, qD, nv_same rfl rfl qN⟩, fun U hU hW => ⟨rfl, by rw [hU], by rw [hU]; exact hPc, va_K.moved hW.alike hKc, hDc.weaken (fun _ _ _ _ => trivial), nv_call hS hFc hU hW hN⟩⟩ rfl rfl hl.1 rfl (lv_room (Nat.le_of_ble_eq_true rfl)) dX16_two_65 ⟨by decide +kernel, by decide +kernel⟩) hS (fun q _ h => hFc q h) hFc (fun r27 u t H1 locs ht hvm hw hB hz1 hk1 hS => ?_)
                obtain ⟨hP1, hK1, hD1⟩ := hB
                rw [ht] at hP1
                have hK1 := va_K.moved hvm.symm hK1
                obtain ⟨hP, hD⟩ := va_join (wr := []) (w1 := []) hP hD [] [] rfl rfl (by decide) (by decide) hk1 hFc hP1 hD1
                have hK := (hK.sub (tys' := []) [] rfl).app hK1
                generalize H1 = H at hP hS ⊢
                have hP : va_P (dC, dI) vwCl [] H := hP
                have hD : va_D A [] := hD
                have hK : va_K (dC, dI) vwCl [] s := hK
                refine W.widen (k := 0) (n := 0) (by decide +kernel) (by decide +kernel) ?_
                rcases hw with h9 | h9
                · subst h9
                  refine lv_iload_n hx hb dX16_two_68 rfl (lv_at hl 4 rfl) ?_
                  refine lv_bipush (v := 7) hx hb dX16_two_69 (by decide) ?_
                  refine lv_iconst (v := 2) hx hb dX16_two_71 (by decide) ?_
                  refine lv_bipush (v := 6) hx hb dX16_two_72 (by decide) ?_
                  have hPc := hP.sub (ws' := []) [] rfl
                  have hDc := hD.sub (ws' := []) [] (by decide) rfl
                  have hKc := hK.sub (tys' := []) [] rfl
                  have hFc := va_free (wc := []) hD hS hA [] rfl
                  refine va_calli (va_runS (As := [.int v0, .int 7, .int 2, .int 6]) (rest := [.int ((((((v0 : Int32).toUInt32 >>> ((9 : Int32).toUInt32 &&& Int32.toUInt32 31)).toInt32) &&& 15) : Int32) <<< ((2 : Int32) &&& 31))]) ⟨hx, hb, hml, hown, hts⟩ (k_X16_bit_v20 l hlt dC dI v0  H.size) (cwS 4 hts gi_g_X16_two_7 rfl rfl rfl (by decide +kernel) ⟨Nat.le_of_ble_eq_true rfl, Nat.le_of_ble_eq_true rfl⟩) ⟨fun a U g mk q => by obtain ⟨q0, q1, qP, qK, qD, qN⟩ := q; exact ⟨q0, q1, qP, va_K.moved (u := U) (U := U.calling g mk a) (Vm.Alike.refl U.vm) qK, qD, nv_same rfl rfl qN⟩, fun U hU hW => ⟨rfl, by rw [hU], by rw [hU]; exact hPc, va_K.moved hW.alike hKc, hDc.weaken (fun _ _ _ _ => trivial), nv_call hS hFc hU hW hN⟩⟩ rfl rfl hl.1 rfl (lv_room (Nat.le_of_ble_eq_true rfl)) dX16_two_74 ⟨by decide +kernel, by decide +kernel⟩) hS (fun q _ h => hFc q h) hFc (fun r28 u t H1 locs ht hvm hw hB hz1 hk1 hS => ?_)
                  obtain ⟨hP1, hK1, hD1⟩ := hB
                  rw [ht] at hP1
                  have hK1 := va_K.moved hvm.symm hK1
                  obtain ⟨hP, hD⟩ := va_join (wr := []) (w1 := []) hP hD [] [] rfl rfl (by decide) (by decide) hk1 hFc hP1 hD1
                  have hK := (hK.sub (tys' := []) [] rfl).app hK1
                  generalize H1 = H at hP hS ⊢
                  have hP : va_P (dC, dI) vwCl [] H := hP
                  have hD : va_D A [] := hD
                  have hK : va_K (dC, dI) vwCl [] s := hK
                  refine W.widen (k := 0) (n := 0) (by decide +kernel) (by decide +kernel) ?_
                  rcases hw with h9 | h9
                  · subst h9
                    refine lv_ior hx hb dX16_two_77 ?_
                    refine lv_istore (lv' := [(6, .int (((((((v0 : Int32).toUInt32 >>> ((9 : Int32).toUInt32 &&& Int32.toUInt32 31)).toInt32) &&& 15) : Int32) <<< ((2 : Int32) &&& 31)) ||| ((((((v0 : Int32).toUInt32 >>> ((7 : Int32).toUInt32 &&& Int32.toUInt32 31)).toInt32) &&& 3) : Int32) <<< ((6 : Int32) &&& 31)))), (5, .int ((((((((v0 : Int32).toUInt32 >>> ((12 : Int32).toUInt32 &&& Int32.toUInt32 31)).toInt32) &&& 1) : Int32) <<< ((5 : Int32) &&& 31)) ||| ((((((v0 : Int32).toUInt32 >>> ((4 : Int32).toUInt32 &&& Int32.toUInt32 31)).toInt32) &&& 7) : Int32) <<< ((2 : Int32) &&& 31))) ||| ((((((v0 : Int32).toUInt32 >>> ((2 : Int32).toUInt32 &&& Int32.toUInt32 31)).toInt32) &&& 3) : Int32) <<< ((6 : Int32) &&& 31)))), (4, .int 1), (3, .int ((((v0 : Int32).toUInt32 >>> ((2 : Int32).toUInt32 &&& Int32.toUInt32 31)).toInt32) &&& 31)), (2, .int ((((v0 : Int32).toUInt32 >>> ((7 : Int32).toUInt32 &&& Int32.toUInt32 31)).toInt32) &&& 31)), (0, .int v0), (1, .int v1)]) hx hb dX16_two_78 hl (by decide) rfl (fun ls hl => ?_)
                    refine lv_iload_n hx hb dX16_two_80 rfl (lv_at hl 6 rfl) ?_
                    refine lv_if_ne (tgt := 103) hx hb dX16_two_81 (by decide) (fun c_27 => ?_) (fun c_27 => ?_)
                    · refine lv_iload_n hx hb dX16_two_103 rfl (lv_at hl 6 rfl) ?_
                      refine lv_iconst (v := 2) hx hb dX16_two_104 (by decide) ?_
                      refine lv_icmp_ne (tgt := 126) hx hb dX16_two_105 (by decide) (fun c_28 => ?_) (fun c_28 => ?_)
                      · refine lv_iload_n hx hb dX16_two_126 rfl (lv_at hl 6 rfl) ?_
                        refine lv_bipush (v := 6) hx hb dX16_two_127 (by decide) ?_
                        refine lv_icmp_ne (tgt := 140) hx hb dX16_two_129 (by decide) (fun c_29 => ?_) (fun c_29 => ?_)
                        · refine lv_iload_n hx hb dX16_two_140 rfl (lv_at hl 6 rfl) ?_
                          refine lv_iconst (v := 4) hx hb dX16_two_141 (by decide) ?_
                          refine lv_icmp_eq (tgt := 147) hx hb dX16_two_142 (by decide) (fun c_30 => ?_) (fun c_30 => ?_)
                          · refine lv_iload_n hx hb dX16_two_147 rfl (lv_at hl 3 rfl) ?_
                            refine lv_if_le (tgt := 169) hx hb dX16_two_148 (by decide) (fun c_31 => ?_) (fun c_31 => ?_)
                            · refine lv_iload_n hx hb dX16_two_169 rfl (lv_at hl 4 rfl) ?_
                              refine lv_if_ne (tgt := 186) hx hb dX16_two_170 (by decide) (fun c_32 => ?_) (fun c_32 => ?_)
                              · refine lv_bipush (v := 103) hx hb dX16_two_186 (by decide) ?_
                                refine lv_iconst (v := 0) hx hb dX16_two_188 (by decide) ?_
                                refine lv_iload hx hb dX16_two_189 (lv_at hl 2 rfl) ?_
                                refine lv_if_eq (tgt := 198) hx hb dX16_two_191 (by decide) (fun h9 => absurd h9 (by decide)) (fun _ => ?_)
                                refine lv_iconst (v := 1) hx hb dX16_two_194 (by decide) ?_
                                refine lv_goto (tgt := 199) hx hb dX16_two_195 (by decide) ?_
                                refine lv_iload_n hx hb dX16_two_199 rfl (lv_at hl 4 rfl) ?_
                                refine lv_iconst (v := 0) hx hb dX16_two_200 (by decide) ?_
                                have hPc := hP.sub (ws' := []) [] rfl
                                have hDc := hD.sub (ws' := []) [] (by decide) rfl
                                have hKc := hK.sub (tys' := []) [] rfl
                                have hFc := va_free (wc := []) hD hS hA [] rfl
                                refine va_calli (va_runS (As := [.int 103, .int 0, .int 1, .int ((((v0 : Int32).toUInt32 >>> ((7 : Int32).toUInt32 &&& Int32.toUInt32 31)).toInt32) &&& 31), .int 0]) (rest := []) ⟨hx, hb, hml, hown, hts⟩ (k_X16_immediate_v7 l hlt dC dI ((((v0 : Int32).toUInt32 >>> ((7 : Int32).toUInt32 &&& Int32.toUInt32 31)).toInt32) &&& 31)  H.size) (cwS 5 hts gi_g_X16_two_13 rfl rfl rfl (by decide +kernel) ⟨Nat.le_of_ble_eq_true rfl, Nat.le_of_ble_eq_true rfl⟩) ⟨fun a U g mk q => by obtain ⟨q0, q1, qP, qK, qD, qN⟩ := q; exact ⟨q0, q1, qP, va_K.moved (u := U) (U := U.calling g mk a) (Vm.Alike.refl U.vm) qK, qD, nv_same rfl rfl qN⟩, fun U hU hW => ⟨rfl, by rw [hU], by rw [hU]; exact hPc, va_K.moved hW.alike hKc, hDc.weaken (fun _ _ _ _ => trivial), nv_call hS hFc hU hW hN⟩⟩ rfl rfl hl.1 rfl (lv_room (Nat.le_of_ble_eq_true rfl)) dX16_two_201 ⟨by decide +kernel, by decide +kernel⟩) hS (fun q _ h => hFc q h) hFc (fun r30 u t H1 locs ht hvm hw hB hz1 hk1 hS => ?_)
                                obtain ⟨hP1, hK1, hD1⟩ := hB
                                rw [ht] at hP1
                                have hK1 := va_K.moved hvm.symm hK1
                                obtain ⟨hP, hD⟩ := va_join (wr := []) (w1 := []) hP hD [] [] rfl rfl (by decide) (by decide) hk1 hFc hP1 hD1
                                have hK := (hK.sub (tys' := []) [] rfl).app hK1
                                generalize H1 = H at hP hS ⊢
                                have hP : va_P (dC, dI) vwCl [] H := hP
                                have hD : va_D A [] := hD
                                have hK : va_K (dC, dI) vwCl [] s := hK
                                refine W.widen (k := 0) (n := 0) (by decide +kernel) (by decide +kernel) ?_
                                rcases hw with h9 | h9
                                · subst h9
                                  refine W.widen (k := 0) (n := 0) (by decide +kernel) (by decide +kernel) ?_
                                  exact W.iret (v := ((231 ||| ((((((v0 : Int32).toUInt32 >>> ((7 : Int32).toUInt32 &&& Int32.toUInt32 31)).toInt32) &&& 31) : Int32) <<< ((15 : Int32) &&& 31))) ||| 0)) hx hb hr (fun t ht hW => ⟨⟨((231 ||| ((((((v0 : Int32).toUInt32 >>> ((7 : Int32).toUInt32 &&& Int32.toUInt32 31)).toInt32) &&& 31) : Int32) <<< ((15 : Int32) &&& 31))) ||| 0), (), rfl, Or.inr (Or.inr (Or.inr (Or.inr (Or.inr (Or.inr (Or.inr (Or.inr (Or.inl ⟨c_4, c_27, c_28, c_29, c_30, c_31, c_32, rfl⟩)))))))), by rw [ht]; exact hP, va_K.moved hW.alike hK, hD⟩, hS.F ht⟩) hS.2.2 dX16_two_204
                                · exact h9.elim
                              · refine lv_iload hx hb dX16_two_173 (lv_at hl 2 rfl) ?_
                                refine lv_if_eq (tgt := 184) hx hb dX16_two_175 (by decide) (fun h9 => absurd h9 (by decide)) (fun _ => ?_)
                                refine lv_ldcw hx hb hown (hts (.constant RX16 335 (1048691)) (List.mem_of_getElem? (i := 12) rfl)) dX16_two_178 ?_
                                refine lv_goto (tgt := 185) hx hb dX16_two_181 (by decide) ?_
                                refine W.widen (k := 0) (n := 0) (by decide +kernel) (by decide +kernel) ?_
                                exact W.iret (v := 1048691) hx hb hr (fun t ht hW => ⟨⟨1048691, (), rfl, Or.inr (Or.inr (Or.inr (Or.inr (Or.inr (Or.inr (Or.inr (Or.inr (Or.inr (Or.inl ⟨c_4, c_27, c_28, c_29, c_30, c_31, c_32, rfl⟩))))))))), by rw [ht]; exact hP, va_K.moved hW.alike hK, hD⟩, hS.F ht⟩) hS.2.2 dX16_two_185
                            · refine lv_iconst (v := 0) hx hb dX16_two_151 (by decide) ?_
                              refine lv_iconst (v := 0) hx hb dX16_two_152 (by decide) ?_
                              refine lv_iload_n hx hb dX16_two_153 rfl (lv_at hl 4 rfl) ?_
                              refine lv_iload hx hb dX16_two_154 (lv_at hl 2 rfl) ?_
                              refine lv_if_eq (tgt := 163) hx hb dX16_two_156 (by decide) (fun h9 => absurd h9 (by decide)) (fun _ => ?_)
                              refine lv_iload_n hx hb dX16_two_159 rfl (lv_at hl 4 rfl) ?_
                              refine lv_goto (tgt := 164) hx hb dX16_two_160 (by decide) ?_
                              refine lv_iload_n hx hb dX16_two_164 rfl (lv_at hl 3 rfl) ?_
                              have hPc := hP.sub (ws' := []) [] rfl
                              have hDc := hD.sub (ws' := []) [] (by decide) rfl
                              have hKc := hK.sub (tys' := []) [] rfl
                              have hFc := va_free (wc := []) hD hS hA [] rfl
                              refine va_calli (va_runS (As := [.int 0, .int 0, .int ((((v0 : Int32).toUInt32 >>> ((7 : Int32).toUInt32 &&& Int32.toUInt32 31)).toInt32) &&& 31), .int ((((v0 : Int32).toUInt32 >>> ((7 : Int32).toUInt32 &&& Int32.toUInt32 31)).toInt32) &&& 31), .int ((((v0 : Int32).toUInt32 >>> ((2 : Int32).toUInt32 &&& Int32.toUInt32 31)).toInt32) &&& 31)]) (rest := []) ⟨hx, hb, hml, hown, hts⟩ (k_X16_threes_v4 l hlt dC dI ((((v0 : Int32).toUInt32 >>> ((7 : Int32).toUInt32 &&& Int32.toUInt32 31)).toInt32) &&& 31) ((((v0 : Int32).toUInt32 >>> ((7 : Int32).toUInt32 &&& Int32.toUInt32 31)).toInt32) &&& 31) ((((v0 : Int32).toUInt32 >>> ((2 : Int32).toUInt32 &&& Int32.toUInt32 31)).toInt32) &&& 31)  H.size) (cwS 5 hts gi_g_X16_two_14 rfl rfl rfl (by decide +kernel) ⟨Nat.le_of_ble_eq_true rfl, Nat.le_of_ble_eq_true rfl⟩) ⟨fun a U g mk q => by obtain ⟨q0, q1, qP, qK, qD, qN⟩ := q; exact ⟨q0, q1, qP, va_K.moved (u := U) (U := U.calling g mk a) (Vm.Alike.refl U.vm) qK, qD, nv_same rfl rfl qN⟩, fun U hU hW => ⟨rfl, by rw [hU], by rw [hU]; exact hPc, va_K.moved hW.alike hKc, hDc.weaken (fun _ _ _ _ => trivial), nv_call hS hFc hU hW hN⟩⟩ rfl rfl hl.1 rfl (lv_room (Nat.le_of_ble_eq_true rfl)) dX16_two_165 ⟨by decide +kernel, by decide +kernel⟩) hS (fun q _ h => hFc q h) hFc (fun r34 u t H1 locs ht hvm hw hB hz1 hk1 hS => ?_)
                              obtain ⟨hP1, hK1, hD1⟩ := hB
                              rw [ht] at hP1
                              have hK1 := va_K.moved hvm.symm hK1
                              obtain ⟨hP, hD⟩ := va_join (wr := []) (w1 := []) hP hD [] [] rfl rfl (by decide) (by decide) hk1 hFc hP1 hD1
                              have hK := (hK.sub (tys' := []) [] rfl).app hK1
                              generalize H1 = H at hP hS ⊢
                              have hP : va_P (dC, dI) vwCl [] H := hP
                              have hD : va_D A [] := hD
                              have hK : va_K (dC, dI) vwCl [] s := hK
                              refine W.widen (k := 0) (n := 0) (by decide +kernel) (by decide +kernel) ?_
                              rcases hw with h9 | h9
                              · subst h9
                                refine W.widen (k := 0) (n := 0) (by decide +kernel) (by decide +kernel) ?_
                                exact W.iret (v := (((((51 ||| ((((((v0 : Int32).toUInt32 >>> ((7 : Int32).toUInt32 &&& Int32.toUInt32 31)).toInt32) &&& 31) : Int32) <<< ((7 : Int32) &&& 31))) ||| 0) ||| ((((((v0 : Int32).toUInt32 >>> ((7 : Int32).toUInt32 &&& Int32.toUInt32 31)).toInt32) &&& 31) : Int32) <<< ((15 : Int32) &&& 31))) ||| ((((((v0 : Int32).toUInt32 >>> ((2 : Int32).toUInt32 &&& Int32.toUInt32 31)).toInt32) &&& 31) : Int32) <<< ((20 : Int32) &&& 31))) ||| 0)) hx hb hr (fun t ht hW => ⟨⟨(((((51 ||| ((((((v0 : Int32).toUInt32 >>> ((7 : Int32).toUInt32 &&& Int32.toUInt32 31)).toInt32) &&& 31) : Int32) <<< ((7 : Int32) &&& 31))) ||| 0) ||| ((((((v0 : Int32).toUInt32 >>> ((7 : Int32).toUInt32 &&& Int32.toUInt32 31)).toInt32) &&& 31) : Int32) <<< ((15 : Int32) &&& 31))) ||| ((((((v0 : Int32).toUInt32 >>> ((2 : Int32).toUInt32 &&& Int32.toUInt32 31)).toInt32) &&& 31) : Int32) <<< ((20 : Int32) &&& 31))) ||| 0), (), rfl, Or.inr (Or.inr (Or.inr (Or.inr (Or.inr (Or.inr (Or.inr (Or.inr (Or.inr (Or.inr (Or.inl ⟨c_4, c_27, c_28, c_29, c_30, c_31, rfl⟩)))))))))), by rw [ht]; exact hP, va_K.moved hW.alike hK, hD⟩, hS.F ht⟩) hS.2.2 dX16_two_168
                              · exact h9.elim
                          · refine lv_iconst (v := 0) hx hb dX16_two_145 (by decide) ?_
                            refine W.widen (k := 0) (n := 0) (by decide +kernel) (by decide +kernel) ?_
                            exact W.iret (v := 0) hx hb hr (fun t ht hW => ⟨⟨0, (), rfl, Or.inr (Or.inr (Or.inr (Or.inr (Or.inr (Or.inr (Or.inr (Or.inr (Or.inr (Or.inr (Or.inr (Or.inl ⟨c_4, c_27, c_28, c_29, c_30, rfl⟩))))))))))), by rw [ht]; exact hP, va_K.moved hW.alike hK, hD⟩, hS.F ht⟩) hS.2.2 dX16_two_146
                        · refine lv_iconst (v := 2) hx hb dX16_two_132 (by decide) ?_
                          refine lv_iload_n hx hb dX16_two_133 rfl (lv_at hl 3 rfl) ?_
                          refine lv_iload hx hb dX16_two_134 (lv_at hl 0 rfl) ?_
                          have hPc := hP.sub (ws' := []) [] rfl
                          have hDc := hD.sub (ws' := []) [] (by decide) rfl
                          have hKc := hK.sub (tys' := []) [] rfl
                          have hFc := va_free (wc := []) hD hS hA [] rfl
                          refine va_calli (va_runS (As := [.int 2, .int ((((v0 : Int32).toUInt32 >>> ((2 : Int32).toUInt32 &&& Int32.toUInt32 31)).toInt32) &&& 31), .int (((((((v0 : Int32).toUInt32 >>> ((9 : Int32).toUInt32 &&& Int32.toUInt32 31)).toInt32) &&& 15) : Int32) <<< ((2 : Int32) &&& 31)) ||| ((((((v0 : Int32).toUInt32 >>> ((7 : Int32).toUInt32 &&& Int32.toUInt32 31)).toInt32) &&& 3) : Int32) <<< ((6 : Int32) &&& 31)))]) (rest := []) ⟨hx, hb, hml, hown, hts⟩ (k_X16_storing_v1 l hlt dC dI ((((v0 : Int32).toUInt32 >>> ((2 : Int32).toUInt32 &&& Int32.toUInt32 31)).toInt32) &&& 31) (((((((v0 : Int32).toUInt32 >>> ((9 : Int32).toUInt32 &&& Int32.toUInt32 31)).toInt32) &&& 15) : Int32) <<< ((2 : Int32) &&& 31)) ||| ((((((v0 : Int32).toUInt32 >>> ((7 : Int32).toUInt32 &&& Int32.toUInt32 31)).toInt32) &&& 3) : Int32) <<< ((6 : Int32) &&& 31)))  H.size) (cwS 3 hts gi_g_X16_two_10 rfl rfl rfl (by decide +kernel) ⟨Nat.le_of_ble_eq_true rfl, Nat.le_of_ble_eq_true rfl⟩) ⟨fun a U g mk q => by obtain ⟨q0, q1, qP, qK, qD, qN⟩ := q; exact ⟨q0, q1, qP, va_K.moved (u := U) (U := U.calling g mk a) (Vm.Alike.refl U.vm) qK, qD, nv_same rfl rfl qN⟩, fun U hU hW => ⟨rfl, by rw [hU], by rw [hU]; exact hPc, va_K.moved hW.alike hKc, hDc.weaken (fun _ _ _ _ => trivial), nv_call hS hFc hU hW hN⟩⟩ rfl rfl hl.1 rfl (lv_room (Nat.le_of_ble_eq_true rfl)) dX16_two_136 ⟨by decide +kernel, by decide +kernel⟩) hS (fun q _ h => hFc q h) hFc (fun r37 u t H1 locs ht hvm hw hB hz1 hk1 hS => ?_)
                          obtain ⟨hP1, hK1, hD1⟩ := hB
                          rw [ht] at hP1
                          have hK1 := va_K.moved hvm.symm hK1
                          obtain ⟨hP, hD⟩ := va_join (wr := []) (w1 := []) hP hD [] [] rfl rfl (by decide) (by decide) hk1 hFc hP1 hD1
                          have hK := (hK.sub (tys' := []) [] rfl).app hK1
                          generalize H1 = H at hP hS ⊢
                          have hP : va_P (dC, dI) vwCl [] H := hP
                          have hD : va_D A [] := hD
                          have hK : va_K (dC, dI) vwCl [] s := hK
                          refine W.widen (k := 0) (n := 0) (by decide +kernel) (by decide +kernel) ?_
                          rcases hw with h9 | h9
                          · subst h9
                            refine W.widen (k := 0) (n := 0) (by decide +kernel) (by decide +kernel) ?_
                            exact W.iret (v := (((((35 ||| (((((((((((((v0 : Int32).toUInt32 >>> ((9 : Int32).toUInt32 &&& Int32.toUInt32 31)).toInt32) &&& 15) : Int32) <<< ((2 : Int32) &&& 31)) ||| ((((((v0 : Int32).toUInt32 >>> ((7 : Int32).toUInt32 &&& Int32.toUInt32 31)).toInt32) &&& 3) : Int32) <<< ((6 : Int32) &&& 31))) : Int32).toUInt32 >>> ((0 : Int32).toUInt32 &&& Int32.toUInt32 31)).toInt32) &&& 31) : Int32) <<< ((7 : Int32) &&& 31))) ||| 8192) ||| 65536) ||| ((((((v0 : Int32).toUInt32 >>> ((2 : Int32).toUInt32 &&& Int32.toUInt32 31)).toInt32) &&& 31) : Int32) <<< ((20 : Int32) &&& 31))) ||| (((((((((((((v0 : Int32).toUInt32 >>> ((9 : Int32).toUInt32 &&& Int32.toUInt32 31)).toInt32) &&& 15) : Int32) <<< ((2 : Int32) &&& 31)) ||| ((((((v0 : Int32).toUInt32 >>> ((7 : Int32).toUInt32 &&& Int32.toUInt32 31)).toInt32) &&& 3) : Int32) <<< ((6 : Int32) &&& 31))) : Int32).toUInt32 >>> ((5 : Int32).toUInt32 &&& Int32.toUInt32 31)).toInt32) &&& 127) : Int32) <<< ((25 : Int32) &&& 31)))) hx hb hr (fun t ht hW => ⟨⟨(((((35 ||| (((((((((((((v0 : Int32).toUInt32 >>> ((9 : Int32).toUInt32 &&& Int32.toUInt32 31)).toInt32) &&& 15) : Int32) <<< ((2 : Int32) &&& 31)) ||| ((((((v0 : Int32).toUInt32 >>> ((7 : Int32).toUInt32 &&& Int32.toUInt32 31)).toInt32) &&& 3) : Int32) <<< ((6 : Int32) &&& 31))) : Int32).toUInt32 >>> ((0 : Int32).toUInt32 &&& Int32.toUInt32 31)).toInt32) &&& 31) : Int32) <<< ((7 : Int32) &&& 31))) ||| 8192) ||| 65536) ||| ((((((v0 : Int32).toUInt32 >>> ((2 : Int32).toUInt32 &&& Int32.toUInt32 31)).toInt32) &&& 31) : Int32) <<< ((20 : Int32) &&& 31))) ||| (((((((((((((v0 : Int32).toUInt32 >>> ((9 : Int32).toUInt32 &&& Int32.toUInt32 31)).toInt32) &&& 15) : Int32) <<< ((2 : Int32) &&& 31)) ||| ((((((v0 : Int32).toUInt32 >>> ((7 : Int32).toUInt32 &&& Int32.toUInt32 31)).toInt32) &&& 3) : Int32) <<< ((6 : Int32) &&& 31))) : Int32).toUInt32 >>> ((5 : Int32).toUInt32 &&& Int32.toUInt32 31)).toInt32) &&& 127) : Int32) <<< ((25 : Int32) &&& 31))), (), rfl, Or.inr (Or.inr (Or.inr (Or.inr (Or.inr (Or.inr (Or.inr (Or.inr (Or.inr (Or.inr (Or.inr (Or.inr (Or.inl ⟨c_4, c_27, c_28, c_29, rfl⟩)))))))))))), by rw [ht]; exact hP, va_K.moved hW.alike hK, hD⟩, hS.F ht⟩) hS.2.2 dX16_two_139
                          · exact h9.elim
                      · refine lv_iload_n hx hb dX16_two_108 rfl (lv_at hl 4 rfl) ?_
                        refine lv_if_ne (tgt := 116) hx hb dX16_two_109 (by decide) (fun c_36 => ?_) (fun c_36 => ?_)
                        · refine lv_iconst (v := 3) hx hb dX16_two_116 (by decide) ?_
                          refine lv_iconst (v := 2) hx hb dX16_two_117 (by decide) ?_
                          refine lv_iload_n hx hb dX16_two_118 rfl (lv_at hl 4 rfl) ?_
                          refine lv_iconst (v := 2) hx hb dX16_two_119 (by decide) ?_
                          refine lv_iload hx hb dX16_two_120 (lv_at hl 1 rfl) ?_
                          have hPc := hP.sub (ws' := []) [] rfl
                          have hDc := hD.sub (ws' := []) [] (by decide) rfl
                          have hKc := hK.sub (tys' := []) [] rfl
                          have hFc := va_free (wc := []) hD hS hA [] rfl
                          refine va_calli (va_runS (As := [.int 3, .int 2, .int ((((v0 : Int32).toUInt32 >>> ((7 : Int32).toUInt32 &&& Int32.toUInt32 31)).toInt32) &&& 31), .int 2, .int ((((((((v0 : Int32).toUInt32 >>> ((12 : Int32).toUInt32 &&& Int32.toUInt32 31)).toInt32) &&& 1) : Int32) <<< ((5 : Int32) &&& 31)) ||| ((((((v0 : Int32).toUInt32 >>> ((4 : Int32).toUInt32 &&& Int32.toUInt32 31)).toInt32) &&& 7) : Int32) <<< ((2 : Int32) &&& 31))) ||| ((((((v0 : Int32).toUInt32 >>> ((2 : Int32).toUInt32 &&& Int32.toUInt32 31)).toInt32) &&& 3) : Int32) <<< ((6 : Int32) &&& 31)))]) (rest := []) ⟨hx, hb, hml, hown, hts⟩ (k_X16_immediate_v5 l hlt dC dI ((((v0 : Int32).toUInt32 >>> ((7 : Int32).toUInt32 &&& Int32.toUInt32 31)).toInt32) &&& 31) ((((((((v0 : Int32).toUInt32 >>> ((12 : Int32).toUInt32 &&& Int32.toUInt32 31)).toInt32) &&& 1) : Int32) <<< ((5 : Int32) &&& 31)) ||| ((((((v0 : Int32).toUInt32 >>> ((4 : Int32).toUInt32 &&& Int32.toUInt32 31)).toInt32) &&& 7) : Int32) <<< ((2 : Int32) &&& 31))) ||| ((((((v0 : Int32).toUInt32 >>> ((2 : Int32).toUInt32 &&& Int32.toUInt32 31)).toInt32) &&& 3) : Int32) <<< ((6 : Int32) &&& 31)))  H.size) (cwS 5 hts gi_g_X16_two_11 rfl rfl rfl (by decide +kernel) ⟨Nat.le_of_ble_eq_true rfl, Nat.le_of_ble_eq_true rfl⟩) ⟨fun a U g mk q => by obtain ⟨q0, q1, qP, qK, qD, qN⟩ := q; exact ⟨q0, q1, qP, va_K.moved (u := U) (U := U.calling g mk a) (Vm.Alike.refl U.vm) qK, qD, nv_same rfl rfl qN⟩, fun U hU hW => ⟨rfl, by rw [hU], by rw [hU]; exact hPc, va_K.moved hW.alike hKc, hDc.weaken (fun _ _ _ _ => trivial), nv_call hS hFc hU hW hN⟩⟩ rfl rfl hl.1 rfl (lv_room (Nat.le_of_ble_eq_true rfl)) dX16_two_122 ⟨by decide +kernel, by decide +kernel⟩) hS (fun q _ h => hFc q h) hFc (fun r40 u t H1 locs ht hvm hw hB hz1 hk1 hS => ?_)
                          obtain ⟨hP1, hK1, hD1⟩ := hB
                          rw [ht] at hP1
                          have hK1 := va_K.moved hvm.symm hK1
                          obtain ⟨hP, hD⟩ := va_join (wr := []) (w1 := []) hP hD [] [] rfl rfl (by decide) (by decide) hk1 hFc hP1 hD1
                          have hK := (hK.sub (tys' := []) [] rfl).app hK1
                          generalize H1 = H at hP hS ⊢
                          have hP : va_P (dC, dI) vwCl [] H := hP
                          have hD : va_D A [] := hD
                          have hK : va_K (dC, dI) vwCl [] s := hK
                          refine W.widen (k := 0) (n := 0) (by decide +kernel) (by decide +kernel) ?_
                          rcases hw with h9 | h9
                          · subst h9
                            refine W.widen (k := 0) (n := 0) (by decide +kernel) (by decide +kernel) ?_
                            exact W.iret (v := ((((3 ||| ((((((v0 : Int32).toUInt32 >>> ((7 : Int32).toUInt32 &&& Int32.toUInt32 31)).toInt32) &&& 31) : Int32) <<< ((7 : Int32) &&& 31))) ||| 8192) ||| 65536) ||| ((((((((((v0 : Int32).toUInt32 >>> ((12 : Int32).toUInt32 &&& Int32.toUInt32 31)).toInt32) &&& 1) : Int32) <<< ((5 : Int32) &&& 31)) ||| ((((((v0 : Int32).toUInt32 >>> ((4 : Int32).toUInt32 &&& Int32.toUInt32 31)).toInt32) &&& 7) : Int32) <<< ((2 : Int32) &&& 31))) ||| ((((((v0 : Int32).toUInt32 >>> ((2 : Int32).toUInt32 &&& Int32.toUInt32 31)).toInt32) &&& 3) : Int32) <<< ((6 : Int32) &&& 31))) : Int32) <<< ((20 : Int32) &&& 31)))) hx hb hr (fun t ht hW => ⟨⟨((((3 ||| ((((((v0 : Int32).toUInt32 >>> ((7 : Int32).toUInt32 &&& Int32.toUInt32 31)).toInt32) &&& 31) : Int32) <<< ((7 : Int32) &&& 31))) ||| 8192) ||| 65536) ||| ((((((((((v0 : Int32).toUInt32 >>> ((12 : Int32).toUInt32 &&& Int32.toUInt32 31)).toInt32) &&& 1) : Int32) <<< ((5 : Int32) &&& 31)) ||| ((((((v0 : Int32).toUInt32 >>> ((4 : Int32).toUInt32 &&& Int32.toUInt32 31)).toInt32) &&& 7) : Int32) <<< ((2 : Int32) &&& 31))) ||| ((((((v0 : Int32).toUInt32 >>> ((2 : Int32).toUInt32 &&& Int32.toUInt32 31)).toInt32) &&& 3) : Int32) <<< ((6 : Int32) &&& 31))) : Int32) <<< ((20 : Int32) &&& 31))), (), rfl, Or.inr (Or.inr (Or.inr (Or.inr (Or.inr (Or.inr (Or.inr (Or.inr (Or.inr (Or.inr (Or.inr (Or.inr (Or.inr (Or.inl ⟨c_4, c_27, c_28, c_36, rfl⟩))))))))))))), by rw [ht]; exact hP, va_K.moved hW.alike hK, hD⟩, hS.F ht⟩) hS.2.2 dX16_two_125
                          · exact h9.elim
                        · refine lv_iconst (v := 0) hx hb dX16_two_112 (by decide) ?_
                          refine lv_goto (tgt := 125) hx hb dX16_two_113 (by decide) ?_
                          refine W.widen (k := 0) (n := 0) (by decide +kernel) (by decide +kernel) ?_
                          exact W.iret (v := 0) hx hb hr (fun t ht hW => ⟨⟨0, (), rfl, Or.inr (Or.inr (Or.inr (Or.inr (Or.inr (Or.inr (Or.inr (Or.inr (Or.inr (Or.inr (Or.inr (Or.inr (Or.inr (Or.inr (Or.inl ⟨c_4, c_27, c_28, c_36, rfl⟩)))))))))))))), by rw [ht]; exact hP, va_K.moved hW.alike hK, hD⟩, hS.F ht⟩) hS.2.2 dX16_two_125
                    · refine lv_iload hx hb dX16_two_84 (lv_at hl 2 rfl) ?_
                      refine lv_if_eq (tgt := 93) hx hb dX16_two_86 (by decide) (fun h9 => absurd h9 (by decide)) (fun _ => ?_)
                      refine lv_iconst (v := 0) hx hb dX16_two_89 (by decide) ?_
                      refine lv_goto (tgt := 102) hx hb dX16_two_90 (by decide) ?_
                      refine W.widen (k := 0) (n := 0) (by decide +kernel) (by decide +kernel) ?_
                      exact W.iret (v := 0) hx hb hr (fun t ht hW => ⟨⟨0, (), rfl, Or.inr (Or.inr (Or.inr (Or.inr (Or.inr (Or.inr (Or.inr (Or.inr (Or.inr (Or.inr (Or.inr (Or.inr (Or.inr (Or.inr (Or.inr (Or.inl ⟨c_4, c_27, rfl⟩))))))))))))))), by rw [ht]; exact hP, va_K.moved hW.alike hK, hD⟩, hS.F ht⟩) hS.2.2 dX16_two_102
                  · exact h9.elim
                · exact h9.elim
              · exact h9.elim
            · exact h9.elim
          · exact h9.elim
      · exact h9.elim
    · exact h9.elim
  · exact h9.elim
def ow_g_X19_low : List Cond := .code yX19_low cX19_low 3 (some .long) :: ([] ++ [])
theorem gd_g_X19_low : ∀ w ∈ ow_g_X19_low, (w.onTables && w.keeps) = true ∨ ∃ ty, w = Cond.arrayClass ty := List.forall_mem_cons.mpr ⟨good_of_word rfl, List.forall_mem_append.mpr ⟨fun w h => good_of_word (List.all_eq_true.mp (by decide +kernel) w h), fun _ h => nomatch h⟩⟩
set_option maxHeartbeats 40000000 in
set_option maxRecDepth 100000 in
theorem g_X19_low (l : Launch) (hlt : l.stackTraces = false) (dC : Nat → ClassId) (dI : Nat → Nat → Nat) (v0 : Int64) (v1 : Int32) (sz : Nat) : Met l yX19_low ow_g_X19_low ({ frames := 0, cells := 0, slots := 0, locals := 0 }) (va_Pc [.long v0, .int v1] (fun U => U.heap.size = sz ∧ va_P (dC, dI) vwCl [] U.heap ∧ va_K (dC, dI) vwCl [] U ∧ va_D (fun _ => True) [] ∧ nv_E (va_A [] sz) U)) (va_Ql (fun r _ => ((v1 ≤ 7) ∧ r = ((v0 : Int64) &&& ((((1 : Int64) <<< (((8 * v1) : Int32).toInt64 &&& 63)) : Int64) - 1))) ∨ ((¬ v1 ≤ 7) ∧ r = v0) ∨ False) (fun (_ : Unit) t => va_P (dC, dI) vwCl [] t.heap ∧ va_K (dC, dI) vwCl [] t ∧ va_D (va_A [] sz) []) (va_A [] sz)) 0 0 (va_A [] sz) := by
  refine Met.ofW (cc := cX19_low) (maxL := 3) (ret := (some .long)) (by decide) rfl ?_
  intro p e s m args below meth c s₁ B hml hv
  obtain ⟨rfl, hsz, hP, hK, hD0, hN⟩ := hv
  have hx := B.exec
  have hb := B.bytes
  have hr := B.returns
  have hts := atoms_spec (ws := ow_g_X19_low) B.pre
  have hown : s.vm.findClass RX19 = some m.cls := findClass_of_methodNamed B.named
  have hlocks := B.notSynchronized
  subst hsz
  have hD := hD0.self (sz := s.heap.size)
  generalize hAe : va_A [] s.heap.size = A at hD hN ⊢
  have hA : ∀ q : Nat, s.heap.size ≤ q → A q := fun q h => by rw [← hAe]; exact Or.inr h
  have hS : va_S A s.heap s.heap [] := va_S.rf
  have hl := lv_entry ([.long v0, .int v1]) (n := 3) (Nat.le_of_ble_eq_true rfl)
  rw [lg_entry_eq]
  generalize (lg_sl ([.long v0, .int v1]) ++ List.replicate (3 - (lg_sl ([.long v0, .int v1])).length) Slot.unset).toArray = ls at hl ⊢
  have hl : lv_has ls 3 [(0, .long v0), (2, .int v1)] := hl
  refine lv_iload_n hx hb dX19_low_0 rfl (lv_at hl 1 rfl) ?_
  refine lv_bipush (v := 7) hx hb dX19_low_1 (by decide) ?_
  refine lv_icmp_le (tgt := 10) hx hb dX19_low_3 (by decide) (fun c_1 => ?_) (fun c_1 => ?_)
  · refine lv_lload_n hx hb dX19_low_10 rfl (lv_at hl 0 rfl) ?_
    refine lv_lconst (v := 1) hx hb dX19_low_11 (by decide) ?_
    refine lv_bipush (v := 8) hx hb dX19_low_12 (by decide) ?_
    refine lv_iload_n hx hb dX19_low_14 rfl (lv_at hl 1 rfl) ?_
    refine lv_imul hx hb dX19_low_15 ?_
    refine lv_lshl hx hb dX19_low_16 rfl ?_
    refine lv_lconst (v := 1) hx hb dX19_low_17 (by decide) ?_
    refine lv_lsub hx hb dX19_low_18 ?_
    refine lv_land hx hb dX19_low_19 ?_
    refine W.widen (k := 0) (n := 0) (by decide +kernel) (by decide +kernel) ?_
    exact W.lret (v := ((v0 : Int64) &&& ((((1 : Int64) <<< (((8 * v1) : Int32).toInt64 &&& 63)) : Int64) - 1))) hx hb hr (fun t ht hW => ⟨⟨((v0 : Int64) &&& ((((1 : Int64) <<< (((8 * v1) : Int32).toInt64 &&& 63)) : Int64) - 1)), (), rfl, Or.inl ⟨c_1, rfl⟩, by rw [ht]; exact hP, va_K.moved hW.alike hK, hD⟩, hS.F ht⟩) hS.2.2 dX19_low_20
  · refine lv_lload_n hx hb dX19_low_6 rfl (lv_at hl 0 rfl) ?_
    refine lv_goto (tgt := 20) hx hb dX19_low_7 (by decide) ?_
    refine W.widen (k := 0) (n := 0) (by decide +kernel) (by decide +kernel) ?_
    exact W.lret (v := v0) hx hb hr (fun t ht hW => ⟨⟨v0, (), rfl, Or.inr (Or.inl ⟨c_1, rfl⟩), by rw [ht]; exact hP, va_K.moved hW.alike hK, hD⟩, hS.F ht⟩) hS.2.2 dX19_low_20
def ow_k_X13_bits_v15 : List Cond := .code yX13_bits cX13_bits 4 (some .int) :: ([] ++ [])
theorem gd_k_X13_bits_v15 : ∀ w ∈ ow_k_X13_bits_v15, (w.onTables && w.keeps) = true ∨ ∃ ty, w = Cond.arrayClass ty := List.forall_mem_cons.mpr ⟨good_of_word rfl, List.forall_mem_append.mpr ⟨fun w h => good_of_word (List.all_eq_true.mp (by decide +kernel) w h), fun _ h => nomatch h⟩⟩
set_option maxHeartbeats 40000000 in
set_option maxRecDepth 100000 in
theorem k_X13_bits_v15 (l : Launch) (hlt : l.stackTraces = false) (dC : Nat → ClassId) (dI : Nat → Nat → Nat) (c0 : Int32) (sz : Nat) : Met l yX13_bits ow_k_X13_bits_v15 ({ frames := 0, cells := 0, slots := 0, locals := 0 }) (va_Pc [.int c0, .int 11, .int 11, .int 12] (fun U => U.heap.size = sz ∧ va_P (dC, dI) vwCl [] U.heap ∧ va_K (dC, dI) vwCl [] U ∧ va_D (fun _ => True) [] ∧ nv_E (va_A [] sz) U)) (va_Qi (fun r _ => (r = ((((((c0 : Int32).toUInt32 >>> ((11 : Int32).toUInt32 &&& Int32.toUInt32 31)).toInt32) &&& 1) : Int32) <<< ((12 : Int32) &&& 31))) ∨ False) (fun (_ : Unit) t => va_P (dC, dI) vwCl [] t.heap ∧ va_K (dC, dI) vwCl [] t ∧ va_D (va_A [] sz) []) (va_A [] sz)) 0 0 (va_A [] sz) := by
  refine Met.ofW (cc := cX13_bits) (maxL := 4) (ret := (some .int)) (by decide) rfl ?_
  intro p e s m args below meth c s₁ B hml hv
  obtain ⟨rfl, hsz, hP, hK, hD0, hN⟩ := hv
  have hx := B.exec
  have hb := B.bytes
  have hr := B.returns
  have hts := atoms_spec (ws := ow_k_X13_bits_v15) B.pre
  have hown : s.vm.findClass RX13 = some m.cls := findClass_of_methodNamed B.named
  have hlocks := B.notSynchronized
  subst hsz
  have hD := hD0.self (sz := s.heap.size)
  generalize hAe : va_A [] s.heap.size = A at hD hN ⊢
  have hA : ∀ q : Nat, s.heap.size ≤ q → A q := fun q h => by rw [← hAe]; exact Or.inr h
  have hS : va_S A s.heap s.heap [] := va_S.rf
  have hl := lv_entry ([.int c0, .int 11, .int 11, .int 12]) (n := 4) (Nat.le_of_ble_eq_true rfl)
  rw [lg_entry_eq]
  generalize (lg_sl ([.int c0, .int 11, .int 11, .int 12]) ++ List.replicate (4 - (lg_sl ([.int c0, .int 11, .int 11, .int 12])).length) Slot.unset).toArray = ls at hl ⊢
  have hl : lv_has ls 4 [(0, .int c0), (1, .int 11), (2, .int 11), (3, .int 12)] := hl
  refine lv_iload_n hx hb dX13_bits_0 rfl (lv_at hl 0 rfl) ?_
  refine lv_iload_n hx hb dX13_bits_1 rfl (lv_at hl 2 rfl) ?_
  refine lv_iushr hx hb dX13_bits_2 rfl ?_
  refine lv_iconst (v := 1) hx hb dX13_bits_3 (by decide) ?_
  refine lv_iload_n hx hb dX13_bits_4 rfl (lv_at hl 1 rfl) ?_
  refine lv_iload_n hx hb dX13_bits_5 rfl (lv_at hl 2 rfl) ?_
  refine lv_isub hx hb dX13_bits_6 ?_
  refine lv_topi (fun z1 ez1 => ?_)
  obtain rfl : z1 = 0 := ez1.trans (by decide)
  refine lv_iconst (v := 1) hx hb dX13_bits_7 (by decide) ?_
  refine lv_iadd hx hb dX13_bits_8 ?_
  refine lv_topi (fun z2 ez2 => ?_)
  obtain rfl : z2 = 1 := ez2.trans (by decide)
  refine lv_ishl hx hb dX13_bits_9 ?_
  refine lv_topi (fun z3 ez3 => ?_)
  obtain rfl : z3 = 2 := ez3.trans (by decide)
  refine lv_iconst (v := 1) hx hb dX13_bits_10 (by decide) ?_
  refine lv_isub hx hb dX13_bits_11 ?_
  refine lv_topi (fun z4 ez4 => ?_)
  obtain rfl : z4 = 1 := ez4.trans (by decide)
  refine lv_iand hx hb dX13_bits_12 ?_
  refine lv_iload_n hx hb dX13_bits_13 rfl (lv_at hl 3 rfl) ?_
  refine lv_ishl hx hb dX13_bits_14 ?_
  refine W.widen (k := 0) (n := 0) (by decide +kernel) (by decide +kernel) ?_
  exact W.iret (v := ((((((c0 : Int32).toUInt32 >>> ((11 : Int32).toUInt32 &&& Int32.toUInt32 31)).toInt32) &&& 1) : Int32) <<< ((12 : Int32) &&& 31))) hx hb hr (fun t ht hW => ⟨⟨((((((c0 : Int32).toUInt32 >>> ((11 : Int32).toUInt32 &&& Int32.toUInt32 31)).toInt32) &&& 1) : Int32) <<< ((12 : Int32) &&& 31)), (), rfl, Or.inl rfl, by rw [ht]; exact hP, va_K.moved hW.alike hK, hD⟩, hS.F ht⟩) hS.2.2 dX13_bits_15
def ow_k_X13_bits_v16 : List Cond := .code yX13_bits cX13_bits 4 (some .int) :: ([] ++ [])
theorem gd_k_X13_bits_v16 : ∀ w ∈ ow_k_X13_bits_v16, (w.onTables && w.keeps) = true ∨ ∃ ty, w = Cond.arrayClass ty := List.forall_mem_cons.mpr ⟨good_of_word rfl, List.forall_mem_append.mpr ⟨fun w h => good_of_word (List.all_eq_true.mp (by decide +kernel) w h), fun _ h => nomatch h⟩⟩
set_option maxHeartbeats 40000000 in
set_option maxRecDepth 100000 in
theorem k_X13_bits_v16 (l : Launch) (hlt : l.stackTraces = false) (dC : Nat → ClassId) (dI : Nat → Nat → Nat) (c0 : Int32) (sz : Nat) : Met l yX13_bits ow_k_X13_bits_v16 ({ frames := 0, cells := 0, slots := 0, locals := 0 }) (va_Pc [.int c0, .int 4, .int 4, .int 11] (fun U => U.heap.size = sz ∧ va_P (dC, dI) vwCl [] U.heap ∧ va_K (dC, dI) vwCl [] U ∧ va_D (fun _ => True) [] ∧ nv_E (va_A [] sz) U)) (va_Qi (fun r _ => (r = ((((((c0 : Int32).toUInt32 >>> ((4 : Int32).toUInt32 &&& Int32.toUInt32 31)).toInt32) &&& 1) : Int32) <<< ((11 : Int32) &&& 31))) ∨ False) (fun (_ : Unit) t => va_P (dC, dI) vwCl [] t.heap ∧ va_K (dC, dI) vwCl [] t ∧ va_D (va_A [] sz) []) (va_A [] sz)) 0 0 (va_A [] sz) := by
  refine Met.ofW (cc := cX13_bits) (maxL := 4) (ret := (some .int)) (by decide) rfl ?_
  intro p e s m args below meth c s₁ B hml hv
  obtain ⟨rfl, hsz, hP, hK, hD0, hN⟩ := hv
  have hx := B.exec
  have hb := B.bytes
  have hr := B.returns
  have hts := atoms_spec (ws := ow_k_X13_bits_v16) B.pre
  have hown : s.vm.findClass RX13 = some m.cls := findClass_of_methodNamed B.named
  have hlocks := B.notSynchronized
  subst hsz
  have hD := hD0.self (sz := s.heap.size)
  generalize hAe : va_A [] s.heap.size = A at hD hN ⊢
  have hA : ∀ q : Nat, s.heap.size ≤ q → A q := fun q h => by rw [← hAe]; exact Or.inr h
  have hS : va_S A s.heap s.heap [] := va_S.rf
  have hl := lv_entry ([.int c0, .int 4, .int 4, .int 11]) (n := 4) (Nat.le_of_ble_eq_true rfl)
  rw [lg_entry_eq]
  generalize (lg_sl ([.int c0, .int 4, .int 4, .int 11]) ++ List.replicate (4 - (lg_sl ([.int c0, .int 4, .int 4, .int 11])).length) Slot.unset).toArray = ls at hl ⊢
  have hl : lv_has ls 4 [(0, .int c0), (1, .int 4), (2, .int 4), (3, .int 11)] := hl
  refine lv_iload_n hx hb dX13_bits_0 rfl (lv_at hl 0 rfl) ?_
  refine lv_iload_n hx hb dX13_bits_1 rfl (lv_at hl 2 rfl) ?_
  refine lv_iushr hx hb dX13_bits_2 rfl ?_
  refine lv_iconst (v := 1) hx hb dX13_bits_3 (by decide) ?_
  refine lv_iload_n hx hb dX13_bits_4 rfl (lv_at hl 1 rfl) ?_
  refine lv_iload_n hx hb dX13_bits_5 rfl (lv_at hl 2 rfl) ?_
  refine lv_isub hx hb dX13_bits_6 ?_
  refine lv_topi (fun z1 ez1 => ?_)
  obtain rfl : z1 = 0 := ez1.trans (by decide)
  refine lv_iconst (v := 1) hx hb dX13_bits_7 (by decide) ?_
  refine lv_iadd hx hb dX13_bits_8 ?_
  refine lv_topi (fun z2 ez2 => ?_)
  obtain rfl : z2 = 1 := ez2.trans (by decide)
  refine lv_ishl hx hb dX13_bits_9 ?_
  refine lv_topi (fun z3 ez3 => ?_)
  obtain rfl : z3 = 2 := ez3.trans (by decide)
  refine lv_iconst (v := 1) hx hb dX13_bits_10 (by decide) ?_
  refine lv_isub hx hb dX13_bits_11 ?_
  refine lv_topi (fun z4 ez4 => ?_)
  obtain rfl : z4 = 1 := ez4.trans (by decide)
  refine lv_iand hx hb dX13_bits_12 ?_
  refine lv_iload_n hx hb dX13_bits_13 rfl (lv_at hl 3 rfl) ?_
  refine lv_ishl hx hb dX13_bits_14 ?_
  refine W.widen (k := 0) (n := 0) (by decide +kernel) (by decide +kernel) ?_
  exact W.iret (v := ((((((c0 : Int32).toUInt32 >>> ((4 : Int32).toUInt32 &&& Int32.toUInt32 31)).toInt32) &&& 1) : Int32) <<< ((11 : Int32) &&& 31))) hx hb hr (fun t ht hW => ⟨⟨((((((c0 : Int32).toUInt32 >>> ((4 : Int32).toUInt32 &&& Int32.toUInt32 31)).toInt32) &&& 1) : Int32) <<< ((11 : Int32) &&& 31)), (), rfl, Or.inl rfl, by rw [ht]; exact hP, va_K.moved hW.alike hK, hD⟩, hS.F ht⟩) hS.2.2 dX13_bits_15
def ow_k_X13_bits_v17 : List Cond := .code yX13_bits cX13_bits 4 (some .int) :: ([] ++ [])
theorem gd_k_X13_bits_v17 : ∀ w ∈ ow_k_X13_bits_v17, (w.onTables && w.keeps) = true ∨ ∃ ty, w = Cond.arrayClass ty := List.forall_mem_cons.mpr ⟨good_of_word rfl, List.forall_mem_append.mpr ⟨fun w h => good_of_word (List.all_eq_true.mp (by decide +kernel) w h), fun _ h => nomatch h⟩⟩
set_option maxHeartbeats 40000000 in
set_option maxRecDepth 100000 in
theorem k_X13_bits_v17 (l : Launch) (hlt : l.stackTraces = false) (dC : Nat → ClassId) (dI : Nat → Nat → Nat) (c0 : Int32) (sz : Nat) : Met l yX13_bits ow_k_X13_bits_v17 ({ frames := 0, cells := 0, slots := 0, locals := 0 }) (va_Pc [.int c0, .int 9, .int 8, .int 9] (fun U => U.heap.size = sz ∧ va_P (dC, dI) vwCl [] U.heap ∧ va_K (dC, dI) vwCl [] U ∧ va_D (fun _ => True) [] ∧ nv_E (va_A [] sz) U)) (va_Qi (fun r _ => (r = ((((((c0 : Int32).toUInt32 >>> ((8 : Int32).toUInt32 &&& Int32.toUInt32 31)).toInt32) &&& 3) : Int32) <<< ((9 : Int32) &&& 31))) ∨ False) (fun (_ : Unit) t => va_P (dC, dI) vwCl [] t.heap ∧ va_K (dC, dI) vwCl [] t ∧ va_D (va_A [] sz) []) (va_A [] sz)) 0 0 (va_A [] sz) := by
  refine Met.ofW (cc := cX13_bits) (maxL := 4) (ret := (some .int)) (by decide) rfl ?_
  intro p e s m args below meth c s₁ B hml hv
  obtain ⟨rfl, hsz, hP, hK, hD0, hN⟩ := hv
  have hx := B.exec
  have hb := B.bytes
  have hr := B.returns
  have hts := atoms_spec (ws := ow_k_X13_bits_v17) B.pre
  have hown : s.vm.findClass RX13 = some m.cls := findClass_of_methodNamed B.named
  have hlocks := B.notSynchronized
  subst hsz
  have hD := hD0.self (sz := s.heap.size)
  generalize hAe : va_A [] s.heap.size = A at hD hN ⊢
  have hA : ∀ q : Nat, s.heap.size ≤ q → A q := fun q h => by rw [← hAe]; exact Or.inr h
  have hS : va_S A s.heap s.heap [] := va_S.rf
  have hl := lv_entry ([.int c0, .int 9, .int 8, .int 9]) (n := 4) (Nat.le_of_ble_eq_true rfl)
  rw [lg_entry_eq]
  generalize (lg_sl ([.int c0, .int 9, .int 8, .int 9]) ++ List.replicate (4 - (lg_sl ([.int c0, .int 9, .int 8, .int 9])).length) Slot.unset).toArray = ls at hl ⊢
  have hl : lv_has ls 4 [(0, .int c0), (1, .int 9), (2, .int 8), (3, .int 9)] := hl
  refine lv_iload_n hx hb dX13_bits_0 rfl (lv_at hl 0 rfl) ?_
  refine lv_iload_n hx hb dX13_bits_1 rfl (lv_at hl 2 rfl) ?_
  refine lv_iushr hx hb dX13_bits_2 rfl ?_
  refine lv_iconst (v := 1) hx hb dX13_bits_3 (by decide) ?_
  refine lv_iload_n hx hb dX13_bits_4 rfl (lv_at hl 1 rfl) ?_
  refine lv_iload_n hx hb dX13_bits_5 rfl (lv_at hl 2 rfl) ?_
  refine lv_isub hx hb dX13_bits_6 ?_
  refine lv_topi (fun z1 ez1 => ?_)
  obtain rfl : z1 = 1 := ez1.trans (by decide)
  refine lv_iconst (v := 1) hx hb dX13_bits_7 (by decide) ?_
  refine lv_iadd hx hb dX13_bits_8 ?_
  refine lv_topi (fun z2 ez2 => ?_)
  obtain rfl : z2 = 2 := ez2.trans (by decide)
  refine lv_ishl hx hb dX13_bits_9 ?_
  refine lv_topi (fun z3 ez3 => ?_)
  obtain rfl : z3 = 4 := ez3.trans (by decide)
  refine lv_iconst (v := 1) hx hb dX13_bits_10 (by decide) ?_
  refine lv_isub hx hb dX13_bits_11 ?_
  refine lv_topi (fun z4 ez4 => ?_)
  obtain rfl : z4 = 3 := ez4.trans (by decide)
  refine lv_iand hx hb dX13_bits_12 ?_
  refine lv_iload_n hx hb dX13_bits_13 rfl (lv_at hl 3 rfl) ?_
  refine lv_ishl hx hb dX13_bits_14 ?_
  refine W.widen (k := 0) (n := 0) (by decide +kernel) (by decide +kernel) ?_
  exact W.iret (v := ((((((c0 : Int32).toUInt32 >>> ((8 : Int32).toUInt32 &&& Int32.toUInt32 31)).toInt32) &&& 3) : Int32) <<< ((9 : Int32) &&& 31))) hx hb hr (fun t ht hW => ⟨⟨((((((c0 : Int32).toUInt32 >>> ((8 : Int32).toUInt32 &&& Int32.toUInt32 31)).toInt32) &&& 3) : Int32) <<< ((9 : Int32) &&& 31)), (), rfl, Or.inl rfl, by rw [ht]; exact hP, va_K.moved hW.alike hK, hD⟩, hS.F ht⟩) hS.2.2 dX13_bits_15
def ow_k_X13_bits_v18 : List Cond := .code yX13_bits cX13_bits 4 (some .int) :: ([] ++ [])
theorem gd_k_X13_bits_v18 : ∀ w ∈ ow_k_X13_bits_v18, (w.onTables && w.keeps) = true ∨ ∃ ty, w = Cond.arrayClass ty := List.forall_mem_cons.mpr ⟨good_of_word rfl, List.forall_mem_append.mpr ⟨fun w h => good_of_word (List.all_eq_true.mp (by decide +kernel) w h), fun _ h => nomatch h⟩⟩
set_option maxHeartbeats 40000000 in
set_option maxRecDepth 100000 in
theorem k_X13_bits_v18 (l : Launch) (hlt : l.stackTraces = false) (dC : Nat → ClassId) (dI : Nat → Nat → Nat) (c0 : Int32) (sz : Nat) : Met l yX13_bits ow_k_X13_bits_v18 ({ frames := 0, cells := 0, slots := 0, locals := 0 }) (va_Pc [.int c0, .int 10, .int 10, .int 8] (fun U => U.heap.size = sz ∧ va_P (dC, dI) vwCl [] U.heap ∧ va_K (dC, dI) vwCl [] U ∧ va_D (fun _ => True) [] ∧ nv_E (va_A [] sz) U)) (va_Qi (fun r _ => (r = ((((((c0 : Int32).toUInt32 >>> ((10 : Int32).toUInt32 &&& Int32.toUInt32 31)).toInt32) &&& 1) : Int32) <<< ((8 : Int32) &&& 31))) ∨ False) (fun (_ : Unit) t => va_P (dC, dI) vwCl [] t.heap ∧ va_K (dC, dI) vwCl [] t ∧ va_D (va_A [] sz) []) (va_A [] sz)) 0 0 (va_A [] sz) := by
  refine Met.ofW (cc := cX13_bits) (maxL := 4) (ret := (some .int)) (by decide) rfl ?_
  intro p e s m args below meth c s₁ B hml hv
  obtain ⟨rfl, hsz, hP, hK, hD0, hN⟩ := hv
  have hx := B.exec
  have hb := B.bytes
  have hr := B.returns
  have hts := atoms_spec (ws := ow_k_X13_bits_v18) B.pre
  have hown : s.vm.findClass RX13 = some m.cls := findClass_of_methodNamed B.named
  have hlocks := B.notSynchronized
  subst hsz
  have hD := hD0.self (sz := s.heap.size)
  generalize hAe : va_A [] s.heap.size = A at hD hN ⊢
  have hA : ∀ q : Nat, s.heap.size ≤ q → A q := fun q h => by rw [← hAe]; exact Or.inr h
  have hS : va_S A s.heap s.heap [] := va_S.rf
  have hl := lv_entry ([.int c0, .int 10, .int 10, .int 8]) (n := 4) (Nat.le_of_ble_eq_true rfl)
  rw [lg_entry_eq]
  generalize (lg_sl ([.int c0, .int 10, .int 10, .int 8]) ++ List.replicate (4 - (lg_sl ([.int c0, .int 10, .int 10, .int 8])).length) Slot.unset).toArray = ls at hl ⊢
  have hl : lv_has ls 4 [(0, .int c0), (1, .int 10), (2, .int 10), (3, .int 8)] := hl
  refine lv_iload_n hx hb dX13_bits_0 rfl (lv_at hl 0 rfl) ?_
  refine lv_iload_n hx hb dX13_bits_1 rfl (lv_at hl 2 rfl) ?_
  refine lv_iushr hx hb dX13_bits_2 rfl ?_
  refine lv_iconst (v := 1) hx hb dX13_bits_3 (by decide) ?_
  refine lv_iload_n hx hb dX13_bits_4 rfl (lv_at hl 1 rfl) ?_
  refine lv_iload_n hx hb dX13_bits_5 rfl (lv_at hl 2 rfl) ?_
  refine lv_isub hx hb dX13_bits_6 ?_
  refine lv_topi (fun z1 ez1 => ?_)
  obtain rfl : z1 = 0 := ez1.trans (by decide)
  refine lv_iconst (v := 1) hx hb dX13_bits_7 (by decide) ?_
  refine lv_iadd hx hb dX13_bits_8 ?_
  refine lv_topi (fun z2 ez2 => ?_)
  obtain rfl : z2 = 1 := ez2.trans (by decide)
  refine lv_ishl hx hb dX13_bits_9 ?_
  refine lv_topi (fun z3 ez3 => ?_)
  obtain rfl : z3 = 2 := ez3.trans (by decide)
  refine lv_iconst (v := 1) hx hb dX13_bits_10 (by decide) ?_
  refine lv_isub hx hb dX13_bits_11 ?_
  refine lv_topi (fun z4 ez4 => ?_)
  obtain rfl : z4 = 1 := ez4.trans (by decide)
  refine lv_iand hx hb dX13_bits_12 ?_
  refine lv_iload_n hx hb dX13_bits_13 rfl (lv_at hl 3 rfl) ?_
  refine lv_ishl hx hb dX13_bits_14 ?_
  refine W.widen (k := 0) (n := 0) (by decide +kernel) (by decide +kernel) ?_
  exact W.iret (v := ((((((c0 : Int32).toUInt32 >>> ((10 : Int32).toUInt32 &&& Int32.toUInt32 31)).toInt32) &&& 1) : Int32) <<< ((8 : Int32) &&& 31))) hx hb hr (fun t ht hW => ⟨⟨((((((c0 : Int32).toUInt32 >>> ((10 : Int32).toUInt32 &&& Int32.toUInt32 31)).toInt32) &&& 1) : Int32) <<< ((8 : Int32) &&& 31)), (), rfl, Or.inl rfl, by rw [ht]; exact hP, va_K.moved hW.alike hK, hD⟩, hS.F ht⟩) hS.2.2 dX13_bits_15
def ow_k_X13_bits_v19 : List Cond := .code yX13_bits cX13_bits 4 (some .int) :: ([] ++ [])
theorem gd_k_X13_bits_v19 : ∀ w ∈ ow_k_X13_bits_v19, (w.onTables && w.keeps) = true ∨ ∃ ty, w = Cond.arrayClass ty := List.forall_mem_cons.mpr ⟨good_of_word rfl, List.forall_mem_append.mpr ⟨fun w h => good_of_word (List.all_eq_true.mp (by decide +kernel) w h), fun _ h => nomatch h⟩⟩
set_option maxHeartbeats 40000000 in
set_option maxRecDepth 100000 in
theorem k_X13_bits_v19 (l : Launch) (hlt : l.stackTraces = false) (dC : Nat → ClassId) (dI : Nat → Nat → Nat) (c0 : Int32) (sz : Nat) : Met l yX13_bits ow_k_X13_bits_v19 ({ frames := 0, cells := 0, slots := 0, locals := 0 }) (va_Pc [.int c0, .int 6, .int 6, .int 7] (fun U => U.heap.size = sz ∧ va_P (dC, dI) vwCl [] U.heap ∧ va_K (dC, dI) vwCl [] U ∧ va_D (fun _ => True) [] ∧ nv_E (va_A [] sz) U)) (va_Qi (fun r _ => (r = ((((((c0 : Int32).toUInt32 >>> ((6 : Int32).toUInt32 &&& Int32.toUInt32 31)).toInt32) &&& 1) : Int32) <<< ((7 : Int32) &&& 31))) ∨ False) (fun (_ : Unit) t => va_P (dC, dI) vwCl [] t.heap ∧ va_K (dC, dI) vwCl [] t ∧ va_D (va_A [] sz) []) (va_A [] sz)) 0 0 (va_A [] sz) := by
  refine Met.ofW (cc := cX13_bits) (maxL := 4) (ret := (some .int)) (by decide) rfl ?_
  intro p e s m args below meth c s₁ B hml hv
  obtain ⟨rfl, hsz, hP, hK, hD0, hN⟩ := hv
  have hx := B.exec
  have hb := B.bytes
  have hr := B.returns
  have hts := atoms_spec (ws := ow_k_X13_bits_v19) B.pre
  have hown : s.vm.findClass RX13 = some m.cls := findClass_of_methodNamed B.named
  have hlocks := B.notSynchronized
  subst hsz
  have hD := hD0.self (sz := s.heap.size)
  generalize hAe : va_A [] s.heap.size = A at hD hN ⊢
  have hA : ∀ q : Nat, s.heap.size ≤ q → A q := fun q h => by rw [← hAe]; exact Or.inr h
  have hS : va_S A s.heap s.heap [] := va_S.rf
  have hl := lv_entry ([.int c0, .int 6, .int 6, .int 7]) (n := 4) (Nat.le_of_ble_eq_true rfl)
  rw [lg_entry_eq]
  generalize (lg_sl ([.int c0, .int 6, .int 6, .int 7]) ++ List.replicate (4 - (lg_sl ([.int c0, .int 6, .int 6, .int 7])).length) Slot.unset).toArray = ls at hl ⊢
  have hl : lv_has ls 4 [(0, .int c0), (1, .int 6), (2, .int 6), (3, .int 7)] := hl
  refine lv_iload_n hx hb dX13_bits_0 rfl (lv_at hl 0 rfl) ?_
  refine lv_iload_n hx hb dX13_bits_1 rfl (lv_at hl 2 rfl) ?_
  refine lv_iushr hx hb dX13_bits_2 rfl ?_
  refine lv_iconst (v := 1) hx hb dX13_bits_3 (by decide) ?_
  refine lv_iload_n hx hb dX13_bits_4 rfl (lv_at hl 1 rfl) ?_
  refine lv_iload_n hx hb dX13_bits_5 rfl (lv_at hl 2 rfl) ?_
  refine lv_isub hx hb dX13_bits_6 ?_
  refine lv_topi (fun z1 ez1 => ?_)
  obtain rfl : z1 = 0 := ez1.trans (by decide)
  refine lv_iconst (v := 1) hx hb dX13_bits_7 (by decide) ?_
  refine lv_iadd hx hb dX13_bits_8 ?_
  refine lv_topi (fun z2 ez2 => ?_)
  obtain rfl : z2 = 1 := ez2.trans (by decide)
  refine lv_ishl hx hb dX13_bits_9 ?_
  refine lv_topi (fun z3 ez3 => ?_)
  obtain rfl : z3 = 2 := ez3.trans (by decide)
  refine lv_iconst (v := 1) hx hb dX13_bits_10 (by decide) ?_
  refine lv_isub hx hb dX13_bits_11 ?_
  refine lv_topi (fun z4 ez4 => ?_)
  obtain rfl : z4 = 1 := ez4.trans (by decide)
  refine lv_iand hx hb dX13_bits_12 ?_
  refine lv_iload_n hx hb dX13_bits_13 rfl (lv_at hl 3 rfl) ?_
  refine lv_ishl hx hb dX13_bits_14 ?_
  refine W.widen (k := 0) (n := 0) (by decide +kernel) (by decide +kernel) ?_
  exact W.iret (v := ((((((c0 : Int32).toUInt32 >>> ((6 : Int32).toUInt32 &&& Int32.toUInt32 31)).toInt32) &&& 1) : Int32) <<< ((7 : Int32) &&& 31))) hx hb hr (fun t ht hW => ⟨⟨((((((c0 : Int32).toUInt32 >>> ((6 : Int32).toUInt32 &&& Int32.toUInt32 31)).toInt32) &&& 1) : Int32) <<< ((7 : Int32) &&& 31)), (), rfl, Or.inl rfl, by rw [ht]; exact hP, va_K.moved hW.alike hK, hD⟩, hS.F ht⟩) hS.2.2 dX13_bits_15
def ow_k_X13_bits_v20 : List Cond := .code yX13_bits cX13_bits 4 (some .int) :: ([] ++ [])
theorem gd_k_X13_bits_v20 : ∀ w ∈ ow_k_X13_bits_v20, (w.onTables && w.keeps) = true ∨ ∃ ty, w = Cond.arrayClass ty := List.forall_mem_cons.mpr ⟨good_of_word rfl, List.forall_mem_append.mpr ⟨fun w h => good_of_word (List.all_eq_true.mp (by decide +kernel) w h), fun _ h => nomatch h⟩⟩
set_option maxHeartbeats 40000000 in
set_option maxRecDepth 100000 in
theorem k_X13_bits_v20 (l : Launch) (hlt : l.stackTraces = false) (dC : Nat → ClassId) (dI : Nat → Nat → Nat) (c0 : Int32) (sz : Nat) : Met l yX13_bits ow_k_X13_bits_v20 ({ frames := 0, cells := 0, slots := 0, locals := 0 }) (va_Pc [.int c0, .int 7, .int 7, .int 6] (fun U => U.heap.size = sz ∧ va_P (dC, dI) vwCl [] U.heap ∧ va_K (dC, dI) vwCl [] U ∧ va_D (fun _ => True) [] ∧ nv_E (va_A [] sz) U)) (va_Qi (fun r _ => (r = ((((((c0 : Int32).toUInt32 >>> ((7 : Int32).toUInt32 &&& Int32.toUInt32 31)).toInt32) &&& 1) : Int32) <<< ((6 : Int32) &&& 31))) ∨ False) (fun (_ : Unit) t => va_P (dC, dI) vwCl [] t.heap ∧ va_K (dC, dI) vwCl [] t ∧ va_D (va_A [] sz) []) (va_A [] sz)) 0 0 (va_A [] sz) := by
  refine Met.ofW (cc := cX13_bits) (maxL := 4) (ret := (some .int)) (by decide) rfl ?_
  intro p e s m args below meth c s₁ B hml hv
  obtain ⟨rfl, hsz, hP, hK, hD0, hN⟩ := hv
  have hx := B.exec
  have hb := B.bytes
  have hr := B.returns
  have hts := atoms_spec (ws := ow_k_X13_bits_v20) B.pre
  have hown : s.vm.findClass RX13 = some m.cls := findClass_of_methodNamed B.named
  have hlocks := B.notSynchronized
  subst hsz
  have hD := hD0.self (sz := s.heap.size)
  generalize hAe : va_A [] s.heap.size = A at hD hN ⊢
  have hA : ∀ q : Nat, s.heap.size ≤ q → A q := fun q h => by rw [← hAe]; exact Or.inr h
  have hS : va_S A s.heap s.heap [] := va_S.rf
  have hl := lv_entry ([.int c0, .int 7, .int 7, .int 6]) (n := 4) (Nat.le_of_ble_eq_true rfl)
  rw [lg_entry_eq]
  generalize (lg_sl ([.int c0, .int 7, .int 7, .int 6]) ++ List.replicate (4 - (lg_sl ([.int c0, .int 7, .int 7, .int 6])).length) Slot.unset).toArray = ls at hl ⊢
  have hl : lv_has ls 4 [(0, .int c0), (1, .int 7), (2, .int 7), (3, .int 6)] := hl
  refine lv_iload_n hx hb dX13_bits_0 rfl (lv_at hl 0 rfl) ?_
  refine lv_iload_n hx hb dX13_bits_1 rfl (lv_at hl 2 rfl) ?_
  refine lv_iushr hx hb dX13_bits_2 rfl ?_
  refine lv_iconst (v := 1) hx hb dX13_bits_3 (by decide) ?_
  refine lv_iload_n hx hb dX13_bits_4 rfl (lv_at hl 1 rfl) ?_
  refine lv_iload_n hx hb dX13_bits_5 rfl (lv_at hl 2 rfl) ?_
  refine lv_isub hx hb dX13_bits_6 ?_
  refine lv_topi (fun z1 ez1 => ?_)
  obtain rfl : z1 = 0 := ez1.trans (by decide)
  refine lv_iconst (v := 1) hx hb dX13_bits_7 (by decide) ?_
  refine lv_iadd hx hb dX13_bits_8 ?_
  refine lv_topi (fun z2 ez2 => ?_)
  obtain rfl : z2 = 1 := ez2.trans (by decide)
  refine lv_ishl hx hb dX13_bits_9 ?_
  refine lv_topi (fun z3 ez3 => ?_)
  obtain rfl : z3 = 2 := ez3.trans (by decide)
  refine lv_iconst (v := 1) hx hb dX13_bits_10 (by decide) ?_
  refine lv_isub hx hb dX13_bits_11 ?_
  refine lv_topi (fun z4 ez4 => ?_)
  obtain rfl : z4 = 1 := ez4.trans (by decide)
  refine lv_iand hx hb dX13_bits_12 ?_
  refine lv_iload_n hx hb dX13_bits_13 rfl (lv_at hl 3 rfl) ?_
  refine lv_ishl hx hb dX13_bits_14 ?_
  refine W.widen (k := 0) (n := 0) (by decide +kernel) (by decide +kernel) ?_
  exact W.iret (v := ((((((c0 : Int32).toUInt32 >>> ((7 : Int32).toUInt32 &&& Int32.toUInt32 31)).toInt32) &&& 1) : Int32) <<< ((6 : Int32) &&& 31))) hx hb hr (fun t ht hW => ⟨⟨((((((c0 : Int32).toUInt32 >>> ((7 : Int32).toUInt32 &&& Int32.toUInt32 31)).toInt32) &&& 1) : Int32) <<< ((6 : Int32) &&& 31)), (), rfl, Or.inl rfl, by rw [ht]; exact hP, va_K.moved hW.alike hK, hD⟩, hS.F ht⟩) hS.2.2 dX13_bits_15
def ow_k_X13_bits_v21 : List Cond := .code yX13_bits cX13_bits 4 (some .int) :: ([] ++ [])
theorem gd_k_X13_bits_v21 : ∀ w ∈ ow_k_X13_bits_v21, (w.onTables && w.keeps) = true ∨ ∃ ty, w = Cond.arrayClass ty := List.forall_mem_cons.mpr ⟨good_of_word rfl, List.forall_mem_append.mpr ⟨fun w h => good_of_word (List.all_eq_true.mp (by decide +kernel) w h), fun _ h => nomatch h⟩⟩
set_option maxHeartbeats 40000000 in
set_option maxRecDepth 100000 in
theorem k_X13_bits_v21 (l : Launch) (hlt : l.stackTraces = false) (dC : Nat → ClassId) (dI : Nat → Nat → Nat) (c0 : Int32) (sz : Nat) : Met l yX13_bits ow_k_X13_bits_v21 ({ frames := 0, cells := 0, slots := 0, locals := 0 }) (va_Pc [.int c0, .int 3, .int 1, .int 3] (fun U => U.heap.size = sz ∧ va_P (dC, dI) vwCl [] U.heap ∧ va_K (dC, dI) vwCl [] U ∧ va_D (fun _ => True) [] ∧ nv_E (va_A [] sz) U)) (va_Qi (fun r _ => (r = ((((((c0 : Int32).toUInt32 >>> ((1 : Int32).toUInt32 &&& Int32.toUInt32 31)).toInt32) &&& 7) : Int32) <<< ((3 : Int32) &&& 31))) ∨ False) (fun (_ : Unit) t => va_P (dC, dI) vwCl [] t.heap ∧ va_K (dC, dI) vwCl [] t ∧ va_D (va_A [] sz) []) (va_A [] sz)) 0 0 (va_A [] sz) := by
  refine Met.ofW (cc := cX13_bits) (maxL := 4) (ret := (some .int)) (by decide) rfl ?_
  intro p e s m args below meth c s₁ B hml hv
  obtain ⟨rfl, hsz, hP, hK, hD0, hN⟩ := hv
  have hx := B.exec
  have hb := B.bytes
  have hr := B.returns
  have hts := atoms_spec (ws := ow_k_X13_bits_v21) B.pre
  have hown : s.vm.findClass RX13 = some m.cls := findClass_of_methodNamed B.named
  have hlocks := B.notSynchronized
  subst hsz
  have hD := hD0.self (sz := s.heap.size)
  generalize hAe : va_A [] s.heap.size = A at hD hN ⊢
  have hA : ∀ q : Nat, s.heap.size ≤ q → A q := fun q h => by rw [← hAe]; exact Or.inr h
  have hS : va_S A s.heap s.heap [] := va_S.rf
  have hl := lv_entry ([.int c0, .int 3, .int 1, .int 3]) (n := 4) (Nat.le_of_ble_eq_true rfl)
  rw [lg_entry_eq]
  generalize (lg_sl ([.int c0, .int 3, .int 1, .int 3]) ++ List.replicate (4 - (lg_sl ([.int c0, .int 3, .int 1, .int 3])).length) Slot.unset).toArray = ls at hl ⊢
  have hl : lv_has ls 4 [(0, .int c0), (1, .int 3), (2, .int 1), (3, .int 3)] := hl
  refine lv_iload_n hx hb dX13_bits_0 rfl (lv_at hl 0 rfl) ?_
  refine lv_iload_n hx hb dX13_bits_1 rfl (lv_at hl 2 rfl) ?_
  refine lv_iushr hx hb dX13_bits_2 rfl ?_
  refine lv_iconst (v := 1) hx hb dX13_bits_3 (by decide) ?_
  refine lv_iload_n hx hb dX13_bits_4 rfl (lv_at hl 1 rfl) ?_
  refine lv_iload_n hx hb dX13_bits_5 rfl (lv_at hl 2 rfl) ?_
  refine lv_isub hx hb dX13_bits_6 ?_
  refine lv_topi (fun z1 ez1 => ?_)
  obtain rfl : z1 = 2 := ez1.trans (by decide)
  refine lv_iconst (v := 1) hx hb dX13_bits_7 (by decide) ?_
  refine lv_iadd hx hb dX13_bits_8 ?_
  refine lv_topi (fun z2 ez2 => ?_)
  obtain rfl : z2 = 3 := ez2.trans (by decide)
  refine lv_ishl hx hb dX13_bits_9 ?_
  refine lv_topi (fun z3 ez3 => ?_)
  obtain rfl : z3 = 8 := ez3.trans (by decide)
  refine lv_iconst (v := 1) hx hb dX13_bits_10 (by decide) ?_
  refine lv_isub hx hb dX13_bits_11 ?_
  refine lv_topi (fun z4 ez4 => ?_)
  obtain rfl : z4 = 7 := ez4.trans (by decide)
  refine lv_iand hx hb dX13_bits_12 ?_
  refine lv_iload_n hx hb dX13_bits_13 rfl (lv_at hl 3 rfl) ?_
  refine lv_ishl hx hb dX13_bits_14 ?_
  refine W.widen (k := 0) (n := 0) (by decide +kernel) (by decide +kernel) ?_
  exact W.iret (v := ((((((c0 : Int32).toUInt32 >>> ((1 : Int32).toUInt32 &&& Int32.toUInt32 31)).toInt32) &&& 7) : Int32) <<< ((3 : Int32) &&& 31))) hx hb hr (fun t ht hW => ⟨⟨((((((c0 : Int32).toUInt32 >>> ((1 : Int32).toUInt32 &&& Int32.toUInt32 31)).toInt32) &&& 7) : Int32) <<< ((3 : Int32) &&& 31)), (), rfl, Or.inl rfl, by rw [ht]; exact hP, va_K.moved hW.alike hK, hD⟩, hS.F ht⟩) hS.2.2 dX13_bits_15
def ow_k_X13_bits_v22 : List Cond := .code yX13_bits cX13_bits 4 (some .int) :: ([] ++ [])
theorem gd_k_X13_bits_v22 : ∀ w ∈ ow_k_X13_bits_v22, (w.onTables && w.keeps) = true ∨ ∃ ty, w = Cond.arrayClass ty := List.forall_mem_cons.mpr ⟨good_of_word rfl, List.forall_mem_append.mpr ⟨fun w h => good_of_word (List.all_eq_true.mp (by decide +kernel) w h), fun _ h => nomatch h⟩⟩
set_option maxHeartbeats 40000000 in
set_option maxRecDepth 100000 in
theorem k_X13_bits_v22 (l : Launch) (hlt : l.stackTraces = false) (dC : Nat → ClassId) (dI : Nat → Nat → Nat) (c0 : Int32) (sz : Nat) : Met l yX13_bits ow_k_X13_bits_v22 ({ frames := 0, cells := 0, slots := 0, locals := 0 }) (va_Pc [.int c0, .int 5, .int 5, .int 2] (fun U => U.heap.size = sz ∧ va_P (dC, dI) vwCl [] U.heap ∧ va_K (dC, dI) vwCl [] U ∧ va_D (fun _ => True) [] ∧ nv_E (va_A [] sz) U)) (va_Qi (fun r _ => (r = ((((((c0 : Int32).toUInt32 >>> ((5 : Int32).toUInt32 &&& Int32.toUInt32 31)).toInt32) &&& 1) : Int32) <<< ((2 : Int32) &&& 31))) ∨ False) (fun (_ : Unit) t => va_P (dC, dI) vwCl [] t.heap ∧ va_K (dC, dI) vwCl [] t ∧ va_D (va_A [] sz) []) (va_A [] sz)) 0 0 (va_A [] sz) := by
  refine Met.ofW (cc := cX13_bits) (maxL := 4) (ret := (some .int)) (by decide) rfl ?_
  intro p e s m args below meth c s₁ B hml hv
  obtain ⟨rfl, hsz, hP, hK, hD0, hN⟩ := hv
  have hx := B.exec
  have hb := B.bytes
  have hr := B.returns
  have hts := atoms_spec (ws := ow_k_X13_bits_v22) B.pre
  have hown : s.vm.findClass RX13 = some m.cls := findClass_of_methodNamed B.named
  have hlocks := B.notSynchronized
  subst hsz
  have hD := hD0.self (sz := s.heap.size)
  generalize hAe : va_A [] s.heap.size = A at hD hN ⊢
  have hA : ∀ q : Nat, s.heap.size ≤ q → A q := fun q h => by rw [← hAe]; exact Or.inr h
  have hS : va_S A s.heap s.heap [] := va_S.rf
  have hl := lv_entry ([.int c0, .int 5, .int 5, .int 2]) (n := 4) (Nat.le_of_ble_eq_true rfl)
  rw [lg_entry_eq]
  generalize (lg_sl ([.int c0, .int 5, .int 5, .int 2]) ++ List.replicate (4 - (lg_sl ([.int c0, .int 5, .int 5, .int 2])).length) Slot.unset).toArray = ls at hl ⊢
  have hl : lv_has ls 4 [(0, .int c0), (1, .int 5), (2, .int 5), (3, .int 2)] := hl
  refine lv_iload_n hx hb dX13_bits_0 rfl (lv_at hl 0 rfl) ?_
  refine lv_iload_n hx hb dX13_bits_1 rfl (lv_at hl 2 rfl) ?_
  refine lv_iushr hx hb dX13_bits_2 rfl ?_
  refine lv_iconst (v := 1) hx hb dX13_bits_3 (by decide) ?_
  refine lv_iload_n hx hb dX13_bits_4 rfl (lv_at hl 1 rfl) ?_
  refine lv_iload_n hx hb dX13_bits_5 rfl (lv_at hl 2 rfl) ?_
  refine lv_isub hx hb dX13_bits_6 ?_
  refine lv_topi (fun z1 ez1 => ?_)
  obtain rfl : z1 = 0 := ez1.trans (by decide)
  refine lv_iconst (v := 1) hx hb dX13_bits_7 (by decide) ?_
  refine lv_iadd hx hb dX13_bits_8 ?_
  refine lv_topi (fun z2 ez2 => ?_)
  obtain rfl : z2 = 1 := ez2.trans (by decide)
  refine lv_ishl hx hb dX13_bits_9 ?_
  refine lv_topi (fun z3 ez3 => ?_)
  obtain rfl : z3 = 2 := ez3.trans (by decide)
  refine lv_iconst (v := 1) hx hb dX13_bits_10 (by decide) ?_
  refine lv_isub hx hb dX13_bits_11 ?_
  refine lv_topi (fun z4 ez4 => ?_)
  obtain rfl : z4 = 1 := ez4.trans (by decide)
  refine lv_iand hx hb dX13_bits_12 ?_
  refine lv_iload_n hx hb dX13_bits_13 rfl (lv_at hl 3 rfl) ?_
  refine lv_ishl hx hb dX13_bits_14 ?_
  refine W.widen (k := 0) (n := 0) (by decide +kernel) (by decide +kernel) ?_
  exact W.iret (v := ((((((c0 : Int32).toUInt32 >>> ((5 : Int32).toUInt32 &&& Int32.toUInt32 31)).toInt32) &&& 1) : Int32) <<< ((2 : Int32) &&& 31))) hx hb hr (fun t ht hW => ⟨⟨((((((c0 : Int32).toUInt32 >>> ((5 : Int32).toUInt32 &&& Int32.toUInt32 31)).toInt32) &&& 1) : Int32) <<< ((2 : Int32) &&& 31)), (), rfl, Or.inl rfl, by rw [ht]; exact hP, va_K.moved hW.alike hK, hD⟩, hS.F ht⟩) hS.2.2 dX13_bits_15
def ow_g_X13_shortJump : List Cond := .code yX13_shortJump cX13_shortJump 1 (some .int) :: ([.methodLink RX13 550 yX13_bits, .static yX13_bits, .initialized RX13] ++ (ow_k_X13_bits_v15 ++ (ow_k_X13_bits_v16 ++ (ow_k_X13_bits_v17 ++ (ow_k_X13_bits_v18 ++ (ow_k_X13_bits_v19 ++ (ow_k_X13_bits_v20 ++ (ow_k_X13_bits_v21 ++ (ow_k_X13_bits_v22 ++ [])))))))))
theorem gd_g_X13_shortJump : ∀ w ∈ ow_g_X13_shortJump, (w.onTables && w.keeps) = true ∨ ∃ ty, w = Cond.arrayClass ty := List.forall_mem_cons.mpr ⟨good_of_word rfl, List.forall_mem_append.mpr ⟨fun w h => good_of_word (List.all_eq_true.mp (by decide +kernel) w h), List.forall_mem_append.mpr ⟨gd_k_X13_bits_v15, List.forall_mem_append.mpr ⟨gd_k_X13_bits_v16, List.forall_mem_append.mpr ⟨gd_k_X13_bits_v17, List.forall_mem_append.mpr ⟨gd_k_X13_bits_v18, List.forall_mem_append.mpr ⟨gd_k_X13_bits_v19, List.forall_mem_append.mpr ⟨gd_k_X13_bits_v20, List.forall_mem_append.mpr ⟨gd_k_X13_bits_v21, List.forall_mem_append.mpr ⟨gd_k_X13_bits_v22, fun _ h => nomatch h⟩⟩⟩⟩⟩⟩⟩⟩⟩⟩
theorem gi_g_X13_shortJump_0 : GoodIn ow_g_X13_shortJump (wsS RX13 550 yX13_bits ow_k_X13_bits_v15) := goodIn_app (goodIn_of _ (by decide +kernel)) (fun w h => ⟨List.mem_cons_of_mem _ (List.mem_append_right _ (List.mem_append_left _ h)), gd_k_X13_bits_v15 w h⟩)
theorem gi_g_X13_shortJump_1 : GoodIn ow_g_X13_shortJump (wsS RX13 550 yX13_bits ow_k_X13_bits_v16) := goodIn_app (goodIn_of _ (by decide +kernel)) (fun w h => ⟨List.mem_cons_of_mem _ (List.mem_append_right _ (List.mem_append_right _ (List.mem_append_left _ h))), gd_k_X13_bits_v16 w h⟩)
theorem gi_g_X13_shortJump_2 : GoodIn ow_g_X13_shortJump (wsS RX13 550 yX13_bits ow_k_X13_bits_v17) := goodIn_app (goodIn_of _ (by decide +kernel)) (fun w h => ⟨List.mem_cons_of_mem _ (List.mem_append_right _ (List.mem_append_right _ (List.mem_append_right _ (List.mem_append_left _ h)))), gd_k_X13_bits_v17 w h⟩)
theorem gi_g_X13_shortJump_3 : GoodIn ow_g_X13_shortJump (wsS RX13 550 yX13_bits ow_k_X13_bits_v18) := goodIn_app (goodIn_of _ (by decide +kernel)) (fun w h => ⟨List.mem_cons_of_mem _ (List.mem_append_right _ (List.mem_append_right _ (List.mem_append_right _ (List.mem_append_right _ (List.mem_append_left _ h))))), gd_k_X13_bits_v18 w h⟩)
theorem gi_g_X13_shortJump_4 : GoodIn ow_g_X13_shortJump (wsS RX13 550 yX13_bits ow_k_X13_bits_v19) := goodIn_app (goodIn_of _ (by decide +kernel)) (fun w h => ⟨List.mem_cons_of_mem _ (List.mem_append_right _ (List.mem_append_right _ (List.mem_append_right _ (List.mem_append_right _ (List.mem_append_right _ (List.mem_append_left _ h)))))), gd_k_X13_bits_v19 w h⟩)
theorem gi_g_X13_shortJump_5 : GoodIn ow_g_X13_shortJump (wsS RX13 550 yX13_bits ow_k_X13_bits_v20) := goodIn_app (goodIn_of _ (by decide +kernel)) (fun w h => ⟨List.mem_cons_of_mem _ (List.mem_append_right _ (List.mem_append_right _ (List.mem_append_right _ (List.mem_append_right _ (List.mem_append_right _ (List.mem_append_right _ (List.mem_append_left _ h))))))), gd_k_X13_bits_v20 w h⟩)
theorem gi_g_X13_shortJump_6 : GoodIn ow_g_X13_shortJump (wsS RX13 550 yX13_bits ow_k_X13_bits_v21) := goodIn_app (goodIn_of _ (by decide +kernel)) (fun w h => ⟨List.mem_cons_of_mem _ (List.mem_append_right _ (List.mem_append_right _ (List.mem_append_right _ (List.mem_append_right _ (List.mem_append_right _ (List.mem_append_right _ (List.mem_append_right _ (List.mem_append_left _ h)))))))), gd_k_X13_bits_v21 w h⟩)
theorem gi_g_X13_shortJump_7 : GoodIn ow_g_X13_shortJump (wsS RX13 550 yX13_bits ow_k_X13_bits_v22) := goodIn_app (goodIn_of _ (by decide +kernel)) (fun w h => ⟨List.mem_cons_of_mem _ (List.mem_append_right _ (List.mem_append_right _ (List.mem_append_right _ (List.mem_append_right _ (List.mem_append_right _ (List.mem_append_right _ (List.mem_append_right _ (List.mem_append_right _ (List.mem_append_left _ h))))))))), gd_k_X13_bits_v22 w h⟩)
