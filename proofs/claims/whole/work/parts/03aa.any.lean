def nv_Dl : List MethodName := [⟨"java/lang/RuntimeException", "<init>", "()V"⟩, ⟨"java/lang/Exception", "<init>", "()V"⟩, ⟨"java/lang/Throwable", "<init>", "()V"⟩]
def nv_Dc (U : State) : Prop := ∀ q ∈ nv_Dl, va_Nw (.declares q) U
theorem nv_Dcall {s U : State} (hW : s.WarmedH U.vm) (h : nv_Dc s) : nv_Dc U := fun q hq => va_Nw.warmD hW (h q hq)
theorem nv_Dsame {u U : State} (e : u.vm = U.vm) (h : nv_Dc u) : nv_Dc U := fun q hq => va_Nw.same rfl e (h q hq)
def ow_g_X1_growingLetter : List Cond := .code yX1_growingLetter cX1_growingLetter 2 (some .char) :: ([] ++ [])
theorem gd_g_X1_growingLetter : ∀ w ∈ ow_g_X1_growingLetter, (w.onTables && w.keeps) = true ∨ ∃ ty, w = Cond.arrayClass ty := List.forall_mem_cons.mpr ⟨good_of_word rfl, List.forall_mem_append.mpr ⟨fun w h => good_of_word (List.all_eq_true.mp (by decide +kernel) w h), fun _ h => nomatch h⟩⟩
set_option maxHeartbeats 40000000 in
set_option maxRecDepth 100000 in
theorem g_X1_growingLetter (l : Launch) (hlt : l.stackTraces = false) (dC : Nat → ClassId) (dI : Nat → Nat → Nat) (v0 : Int32) (v1 : Int32) (sz : Nat) : Met l yX1_growingLetter ow_g_X1_growingLetter ({ frames := 0, cells := 0, slots := 0, locals := 0 }) (va_Pc [.int v0, .int v1] (fun U => U.heap.size = sz ∧ va_P (dC, dI) vwCl [] U.heap ∧ va_K (dC, dI) vwCl [] U ∧ va_D (fun _ => True) [] ∧ nv_E (va_A [] sz) U)) (va_Qi (fun r _ => ((¬ v0 = 1) ∧ (¬ v1 = 2) ∧ (¬ v1 = 4) ∧ r = 74) ∨ ((¬ v0 = 1) ∧ (¬ v1 = 2) ∧ (v1 = 4) ∧ r = 84) ∨ ((¬ v0 = 1) ∧ (v1 = 2) ∧ r = 76) ∨ ((v0 = 1) ∧ (¬ v1 = 2) ∧ r = 74) ∨ ((v0 = 1) ∧ (v1 = 2) ∧ r = 75) ∨ False) (fun (_ : Unit) t => va_P (dC, dI) vwCl [] t.heap ∧ va_K (dC, dI) vwCl [] t ∧ va_D (va_A [] sz) []) (va_A [] sz)) 0 0 (va_A [] sz) := by
  refine Met.ofW (cc := cX1_growingLetter) (maxL := 2) (ret := (some .char)) (by decide) rfl ?_
  intro p e s m args below meth c s₁ B hml hv
  obtain ⟨rfl, hsz, hP, hK, hD0, hN⟩ := hv
  have hx := B.exec
  have hb := B.bytes
  have hr := B.returns
  have hts := atoms_spec (ws := ow_g_X1_growingLetter) B.pre
  have hown : s.vm.findClass RX1 = some m.cls := findClass_of_methodNamed B.named
  have hlocks := B.notSynchronized
  subst hsz
  have hD := hD0.self (sz := s.heap.size)
  generalize hAe : va_A [] s.heap.size = A at hD hN ⊢
  have hA : ∀ q : Nat, s.heap.size ≤ q → A q := fun q h => by rw [← hAe]; exact Or.inr h
  have hS : va_S A s.heap s.heap [] := va_S.rf
  have hl := lv_entry ([.int v0, .int v1]) (n := 2) (Nat.le_of_ble_eq_true rfl)
  rw [lg_entry_eq]
  generalize (lg_sl ([.int v0, .int v1]) ++ List.replicate (2 - (lg_sl ([.int v0, .int v1])).length) Slot.unset).toArray = ls at hl ⊢
  have hl : lv_has ls 2 [(0, .int v0), (1, .int v1)] := hl
  refine lv_iload_n hx hb dX1_growingLetter_0 rfl (lv_at hl 0 rfl) ?_
  refine lv_iconst (v := 1) hx hb dX1_growingLetter_1 (by decide) ?_
  refine lv_icmp_ne (tgt := 18) hx hb dX1_growingLetter_2 (by decide) (fun c_1 => ?_) (fun c_1 => ?_)
  · refine lv_iload_n hx hb dX1_growingLetter_18 rfl (lv_at hl 1 rfl) ?_
    refine lv_iconst (v := 2) hx hb dX1_growingLetter_19 (by decide) ?_
    refine lv_icmp_ne (tgt := 28) hx hb dX1_growingLetter_20 (by decide) (fun c_2 => ?_) (fun c_2 => ?_)
    · refine lv_iload_n hx hb dX1_growingLetter_28 rfl (lv_at hl 1 rfl) ?_
      refine lv_iconst (v := 4) hx hb dX1_growingLetter_29 (by decide) ?_
      refine lv_icmp_ne (tgt := 38) hx hb dX1_growingLetter_30 (by decide) (fun c_3 => ?_) (fun c_3 => ?_)
      · refine lv_bipush (v := 74) hx hb dX1_growingLetter_38 (by decide) ?_
        refine W.widen (k := 0) (n := 0) (by decide +kernel) (by decide +kernel) ?_
        exact W.zret (v := 74) hx hb hr (by first | rfl | decide) (fun t ht hW => ⟨⟨74, (), rfl, Or.inl ⟨c_1, c_2, c_3, rfl⟩, by rw [ht]; exact hP, va_K.moved hW.alike hK, hD⟩, hS.F ht⟩) hS.2.2 dX1_growingLetter_40
      · refine lv_bipush (v := 84) hx hb dX1_growingLetter_33 (by decide) ?_
        refine lv_goto (tgt := 40) hx hb dX1_growingLetter_35 (by decide) ?_
        refine W.widen (k := 0) (n := 0) (by decide +kernel) (by decide +kernel) ?_
        exact W.zret (v := 84) hx hb hr (by first | rfl | decide) (fun t ht hW => ⟨⟨84, (), rfl, Or.inr (Or.inl ⟨c_1, c_2, c_3, rfl⟩), by rw [ht]; exact hP, va_K.moved hW.alike hK, hD⟩, hS.F ht⟩) hS.2.2 dX1_growingLetter_40
    · refine lv_bipush (v := 76) hx hb dX1_growingLetter_23 (by decide) ?_
      refine lv_goto (tgt := 40) hx hb dX1_growingLetter_25 (by decide) ?_
      refine W.widen (k := 0) (n := 0) (by decide +kernel) (by decide +kernel) ?_
      exact W.zret (v := 76) hx hb hr (by first | rfl | decide) (fun t ht hW => ⟨⟨76, (), rfl, Or.inr (Or.inr (Or.inl ⟨c_1, c_2, rfl⟩)), by rw [ht]; exact hP, va_K.moved hW.alike hK, hD⟩, hS.F ht⟩) hS.2.2 dX1_growingLetter_40
  · refine lv_iload_n hx hb dX1_growingLetter_5 rfl (lv_at hl 1 rfl) ?_
    refine lv_iconst (v := 2) hx hb dX1_growingLetter_6 (by decide) ?_
    refine lv_icmp_ne (tgt := 15) hx hb dX1_growingLetter_7 (by decide) (fun c_4 => ?_) (fun c_4 => ?_)
    · refine lv_bipush (v := 74) hx hb dX1_growingLetter_15 (by decide) ?_
      refine W.widen (k := 0) (n := 0) (by decide +kernel) (by decide +kernel) ?_
      exact W.zret (v := 74) hx hb hr (by first | rfl | decide) (fun t ht hW => ⟨⟨74, (), rfl, Or.inr (Or.inr (Or.inr (Or.inl ⟨c_1, c_4, rfl⟩))), by rw [ht]; exact hP, va_K.moved hW.alike hK, hD⟩, hS.F ht⟩) hS.2.2 dX1_growingLetter_17
    · refine lv_bipush (v := 75) hx hb dX1_growingLetter_10 (by decide) ?_
      refine lv_goto (tgt := 17) hx hb dX1_growingLetter_12 (by decide) ?_
      refine W.widen (k := 0) (n := 0) (by decide +kernel) (by decide +kernel) ?_
      exact W.zret (v := 75) hx hb hr (by first | rfl | decide) (fun t ht hW => ⟨⟨75, (), rfl, Or.inr (Or.inr (Or.inr (Or.inr (Or.inl ⟨c_1, c_4, rfl⟩)))), by rw [ht]; exact hP, va_K.moved hW.alike hK, hD⟩, hS.F ht⟩) hS.2.2 dX1_growingLetter_17
def ow_g_X2_isLetter : List Cond := .code yX2_isLetter cX2_isLetter 1 (some .boolean) :: ([] ++ [])
theorem gd_g_X2_isLetter : ∀ w ∈ ow_g_X2_isLetter, (w.onTables && w.keeps) = true ∨ ∃ ty, w = Cond.arrayClass ty := List.forall_mem_cons.mpr ⟨good_of_word rfl, List.forall_mem_append.mpr ⟨fun w h => good_of_word (List.all_eq_true.mp (by decide +kernel) w h), fun _ h => nomatch h⟩⟩
set_option maxHeartbeats 40000000 in
set_option maxRecDepth 100000 in
theorem g_X2_isLetter (l : Launch) (hlt : l.stackTraces = false) (dC : Nat → ClassId) (dI : Nat → Nat → Nat) (v0 : Int32) (sz : Nat) : Met l yX2_isLetter ow_g_X2_isLetter ({ frames := 0, cells := 0, slots := 0, locals := 0 }) (va_Pc [.int v0] (fun U => U.heap.size = sz ∧ va_P (dC, dI) vwCl [] U.heap ∧ va_K (dC, dI) vwCl [] U ∧ va_D (fun _ => True) [] ∧ nv_E (va_A [] sz) U)) (va_Qi (fun r _ => ((v0 < 97) ∧ (v0 < 65) ∧ r = 0) ∨ ((v0 < 97) ∧ (¬ v0 < 65) ∧ (90 < v0) ∧ r = 0) ∨ ((v0 < 97) ∧ (¬ v0 < 65) ∧ (¬ 90 < v0) ∧ r = 1) ∨ ((¬ v0 < 97) ∧ (v0 ≤ 122) ∧ r = 1) ∨ ((¬ v0 < 97) ∧ (¬ v0 ≤ 122) ∧ (v0 < 65) ∧ r = 0) ∨ ((¬ v0 < 97) ∧ (¬ v0 ≤ 122) ∧ (¬ v0 < 65) ∧ (90 < v0) ∧ r = 0) ∨ ((¬ v0 < 97) ∧ (¬ v0 ≤ 122) ∧ (¬ v0 < 65) ∧ (¬ 90 < v0) ∧ r = 1) ∨ False) (fun (_ : Unit) t => va_P (dC, dI) vwCl [] t.heap ∧ va_K (dC, dI) vwCl [] t ∧ va_D (va_A [] sz) []) (va_A [] sz)) 0 0 (va_A [] sz) := by
  refine Met.ofW (cc := cX2_isLetter) (maxL := 1) (ret := (some .boolean)) (by decide) rfl ?_
  intro p e s m args below meth c s₁ B hml hv
  obtain ⟨rfl, hsz, hP, hK, hD0, hN⟩ := hv
  have hx := B.exec
  have hb := B.bytes
  have hr := B.returns
  have hts := atoms_spec (ws := ow_g_X2_isLetter) B.pre
  have hown : s.vm.findClass RX2 = some m.cls := findClass_of_methodNamed B.named
  have hlocks := B.notSynchronized
  subst hsz
  have hD := hD0.self (sz := s.heap.size)
  generalize hAe : va_A [] s.heap.size = A at hD hN ⊢
  have hA : ∀ q : Nat, s.heap.size ≤ q → A q := fun q h => by rw [← hAe]; exact Or.inr h
  have hS : va_S A s.heap s.heap [] := va_S.rf
  have hl := lv_entry ([.int v0]) (n := 1) (Nat.le_of_ble_eq_true rfl)
  rw [lg_entry_eq]
  generalize (lg_sl ([.int v0]) ++ List.replicate (1 - (lg_sl ([.int v0])).length) Slot.unset).toArray = ls at hl ⊢
  have hl : lv_has ls 1 [(0, .int v0)] := hl
  refine lv_iload_n hx hb dX2_isLetter_0 rfl (lv_at hl 0 rfl) ?_
  refine lv_bipush (v := 97) hx hb dX2_isLetter_1 (by decide) ?_
  refine lv_icmp_lt (tgt := 12) hx hb dX2_isLetter_3 (by decide) (fun c_1 => ?_) (fun c_1 => ?_)
  · refine lv_iload_n hx hb dX2_isLetter_12 rfl (lv_at hl 0 rfl) ?_
    refine lv_bipush (v := 65) hx hb dX2_isLetter_13 (by decide) ?_
    refine lv_icmp_lt (tgt := 28) hx hb dX2_isLetter_15 (by decide) (fun c_2 => ?_) (fun c_2 => ?_)
    · refine lv_iconst (v := 0) hx hb dX2_isLetter_28 (by decide) ?_
      refine W.widen (k := 0) (n := 0) (by decide +kernel) (by decide +kernel) ?_
      exact W.zret (v := 0) hx hb hr (by first | rfl | decide) (fun t ht hW => ⟨⟨0, (), rfl, Or.inl ⟨c_1, c_2, rfl⟩, by rw [ht]; exact hP, va_K.moved hW.alike hK, hD⟩, hS.F ht⟩) hS.2.2 dX2_isLetter_29
    · refine lv_iload_n hx hb dX2_isLetter_18 rfl (lv_at hl 0 rfl) ?_
      refine lv_bipush (v := 90) hx hb dX2_isLetter_19 (by decide) ?_
      refine lv_icmp_gt (tgt := 28) hx hb dX2_isLetter_21 (by decide) (fun c_3 => ?_) (fun c_3 => ?_)
      · refine lv_iconst (v := 0) hx hb dX2_isLetter_28 (by decide) ?_
        refine W.widen (k := 0) (n := 0) (by decide +kernel) (by decide +kernel) ?_
        exact W.zret (v := 0) hx hb hr (by first | rfl | decide) (fun t ht hW => ⟨⟨0, (), rfl, Or.inr (Or.inl ⟨c_1, c_2, c_3, rfl⟩), by rw [ht]; exact hP, va_K.moved hW.alike hK, hD⟩, hS.F ht⟩) hS.2.2 dX2_isLetter_29
      · refine lv_iconst (v := 1) hx hb dX2_isLetter_24 (by decide) ?_
        refine lv_goto (tgt := 29) hx hb dX2_isLetter_25 (by decide) ?_
        refine W.widen (k := 0) (n := 0) (by decide +kernel) (by decide +kernel) ?_
        exact W.zret (v := 1) hx hb hr (by first | rfl | decide) (fun t ht hW => ⟨⟨1, (), rfl, Or.inr (Or.inr (Or.inl ⟨c_1, c_2, c_3, rfl⟩)), by rw [ht]; exact hP, va_K.moved hW.alike hK, hD⟩, hS.F ht⟩) hS.2.2 dX2_isLetter_29
  · refine lv_iload_n hx hb dX2_isLetter_6 rfl (lv_at hl 0 rfl) ?_
    refine lv_bipush (v := 122) hx hb dX2_isLetter_7 (by decide) ?_
    refine lv_icmp_le (tgt := 24) hx hb dX2_isLetter_9 (by decide) (fun c_4 => ?_) (fun c_4 => ?_)
    · refine lv_iconst (v := 1) hx hb dX2_isLetter_24 (by decide) ?_
      refine lv_goto (tgt := 29) hx hb dX2_isLetter_25 (by decide) ?_
      refine W.widen (k := 0) (n := 0) (by decide +kernel) (by decide +kernel) ?_
      exact W.zret (v := 1) hx hb hr (by first | rfl | decide) (fun t ht hW => ⟨⟨1, (), rfl, Or.inr (Or.inr (Or.inr (Or.inl ⟨c_1, c_4, rfl⟩))), by rw [ht]; exact hP, va_K.moved hW.alike hK, hD⟩, hS.F ht⟩) hS.2.2 dX2_isLetter_29
    · refine lv_iload_n hx hb dX2_isLetter_12 rfl (lv_at hl 0 rfl) ?_
      refine lv_bipush (v := 65) hx hb dX2_isLetter_13 (by decide) ?_
      refine lv_icmp_lt (tgt := 28) hx hb dX2_isLetter_15 (by decide) (fun c_5 => ?_) (fun c_5 => ?_)
      · refine lv_iconst (v := 0) hx hb dX2_isLetter_28 (by decide) ?_
        refine W.widen (k := 0) (n := 0) (by decide +kernel) (by decide +kernel) ?_
        exact W.zret (v := 0) hx hb hr (by first | rfl | decide) (fun t ht hW => ⟨⟨0, (), rfl, Or.inr (Or.inr (Or.inr (Or.inr (Or.inl ⟨c_1, c_4, c_5, rfl⟩)))), by rw [ht]; exact hP, va_K.moved hW.alike hK, hD⟩, hS.F ht⟩) hS.2.2 dX2_isLetter_29
      · refine lv_iload_n hx hb dX2_isLetter_18 rfl (lv_at hl 0 rfl) ?_
        refine lv_bipush (v := 90) hx hb dX2_isLetter_19 (by decide) ?_
        refine lv_icmp_gt (tgt := 28) hx hb dX2_isLetter_21 (by decide) (fun c_6 => ?_) (fun c_6 => ?_)
        · refine lv_iconst (v := 0) hx hb dX2_isLetter_28 (by decide) ?_
          refine W.widen (k := 0) (n := 0) (by decide +kernel) (by decide +kernel) ?_
          exact W.zret (v := 0) hx hb hr (by first | rfl | decide) (fun t ht hW => ⟨⟨0, (), rfl, Or.inr (Or.inr (Or.inr (Or.inr (Or.inr (Or.inl ⟨c_1, c_4, c_5, c_6, rfl⟩))))), by rw [ht]; exact hP, va_K.moved hW.alike hK, hD⟩, hS.F ht⟩) hS.2.2 dX2_isLetter_29
        · refine lv_iconst (v := 1) hx hb dX2_isLetter_24 (by decide) ?_
          refine lv_goto (tgt := 29) hx hb dX2_isLetter_25 (by decide) ?_
          refine W.widen (k := 0) (n := 0) (by decide +kernel) (by decide +kernel) ?_
          exact W.zret (v := 1) hx hb hr (by first | rfl | decide) (fun t ht hW => ⟨⟨1, (), rfl, Or.inr (Or.inr (Or.inr (Or.inr (Or.inr (Or.inr (Or.inl ⟨c_1, c_4, c_5, c_6, rfl⟩)))))), by rw [ht]; exact hP, va_K.moved hW.alike hK, hD⟩, hS.F ht⟩) hS.2.2 dX2_isLetter_29
def ow_g_X2_isDigit : List Cond := .code yX2_isDigit cX2_isDigit 1 (some .boolean) :: ([] ++ [])
theorem gd_g_X2_isDigit : ∀ w ∈ ow_g_X2_isDigit, (w.onTables && w.keeps) = true ∨ ∃ ty, w = Cond.arrayClass ty := List.forall_mem_cons.mpr ⟨good_of_word rfl, List.forall_mem_append.mpr ⟨fun w h => good_of_word (List.all_eq_true.mp (by decide +kernel) w h), fun _ h => nomatch h⟩⟩
set_option maxHeartbeats 40000000 in
set_option maxRecDepth 100000 in
theorem g_X2_isDigit (l : Launch) (hlt : l.stackTraces = false) (dC : Nat → ClassId) (dI : Nat → Nat → Nat) (v0 : Int32) (sz : Nat) : Met l yX2_isDigit ow_g_X2_isDigit ({ frames := 0, cells := 0, slots := 0, locals := 0 }) (va_Pc [.int v0] (fun U => U.heap.size = sz ∧ va_P (dC, dI) vwCl [] U.heap ∧ va_K (dC, dI) vwCl [] U ∧ va_D (fun _ => True) [] ∧ nv_E (va_A [] sz) U)) (va_Qi (fun r _ => ((v0 < 48) ∧ r = 0) ∨ ((¬ v0 < 48) ∧ (57 < v0) ∧ r = 0) ∨ ((¬ v0 < 48) ∧ (¬ 57 < v0) ∧ r = 1) ∨ False) (fun (_ : Unit) t => va_P (dC, dI) vwCl [] t.heap ∧ va_K (dC, dI) vwCl [] t ∧ va_D (va_A [] sz) []) (va_A [] sz)) 0 0 (va_A [] sz) := by
  refine Met.ofW (cc := cX2_isDigit) (maxL := 1) (ret := (some .boolean)) (by decide) rfl ?_
  intro p e s m args below meth c s₁ B hml hv
  obtain ⟨rfl, hsz, hP, hK, hD0, hN⟩ := hv
  have hx := B.exec
  have hb := B.bytes
  have hr := B.returns
  have hts := atoms_spec (ws := ow_g_X2_isDigit) B.pre
  have hown : s.vm.findClass RX2 = some m.cls := findClass_of_methodNamed B.named
  have hlocks := B.notSynchronized
  subst hsz
  have hD := hD0.self (sz := s.heap.size)
  generalize hAe : va_A [] s.heap.size = A at hD hN ⊢
  have hA : ∀ q : Nat, s.heap.size ≤ q → A q := fun q h => by rw [← hAe]; exact Or.inr h
  have hS : va_S A s.heap s.heap [] := va_S.rf
  have hl := lv_entry ([.int v0]) (n := 1) (Nat.le_of_ble_eq_true rfl)
  rw [lg_entry_eq]
  generalize (lg_sl ([.int v0]) ++ List.replicate (1 - (lg_sl ([.int v0])).length) Slot.unset).toArray = ls at hl ⊢
  have hl : lv_has ls 1 [(0, .int v0)] := hl
  refine lv_iload_n hx hb dX2_isDigit_0 rfl (lv_at hl 0 rfl) ?_
  refine lv_bipush (v := 48) hx hb dX2_isDigit_1 (by decide) ?_
  refine lv_icmp_lt (tgt := 16) hx hb dX2_isDigit_3 (by decide) (fun c_1 => ?_) (fun c_1 => ?_)
  · refine lv_iconst (v := 0) hx hb dX2_isDigit_16 (by decide) ?_
    refine W.widen (k := 0) (n := 0) (by decide +kernel) (by decide +kernel) ?_
    exact W.zret (v := 0) hx hb hr (by first | rfl | decide) (fun t ht hW => ⟨⟨0, (), rfl, Or.inl ⟨c_1, rfl⟩, by rw [ht]; exact hP, va_K.moved hW.alike hK, hD⟩, hS.F ht⟩) hS.2.2 dX2_isDigit_17
  · refine lv_iload_n hx hb dX2_isDigit_6 rfl (lv_at hl 0 rfl) ?_
    refine lv_bipush (v := 57) hx hb dX2_isDigit_7 (by decide) ?_
    refine lv_icmp_gt (tgt := 16) hx hb dX2_isDigit_9 (by decide) (fun c_2 => ?_) (fun c_2 => ?_)
    · refine lv_iconst (v := 0) hx hb dX2_isDigit_16 (by decide) ?_
      refine W.widen (k := 0) (n := 0) (by decide +kernel) (by decide +kernel) ?_
      exact W.zret (v := 0) hx hb hr (by first | rfl | decide) (fun t ht hW => ⟨⟨0, (), rfl, Or.inr (Or.inl ⟨c_1, c_2, rfl⟩), by rw [ht]; exact hP, va_K.moved hW.alike hK, hD⟩, hS.F ht⟩) hS.2.2 dX2_isDigit_17
    · refine lv_iconst (v := 1) hx hb dX2_isDigit_12 (by decide) ?_
      refine lv_goto (tgt := 17) hx hb dX2_isDigit_13 (by decide) ?_
      refine W.widen (k := 0) (n := 0) (by decide +kernel) (by decide +kernel) ?_
      exact W.zret (v := 1) hx hb hr (by first | rfl | decide) (fun t ht hW => ⟨⟨1, (), rfl, Or.inr (Or.inr (Or.inl ⟨c_1, c_2, rfl⟩)), by rw [ht]; exact hP, va_K.moved hW.alike hK, hD⟩, hS.F ht⟩) hS.2.2 dX2_isDigit_17
def ow_g_X2_pair : List Cond := .code yX2_pair cX2_pair 2 (some .int) :: ([] ++ [])
theorem gd_g_X2_pair : ∀ w ∈ ow_g_X2_pair, (w.onTables && w.keeps) = true ∨ ∃ ty, w = Cond.arrayClass ty := List.forall_mem_cons.mpr ⟨good_of_word rfl, List.forall_mem_append.mpr ⟨fun w h => good_of_word (List.all_eq_true.mp (by decide +kernel) w h), fun _ h => nomatch h⟩⟩
set_option maxHeartbeats 40000000 in
set_option maxRecDepth 100000 in
theorem g_X2_pair (l : Launch) (hlt : l.stackTraces = false) (dC : Nat → ClassId) (dI : Nat → Nat → Nat) (v0 : Int32) (v1 : Int32) (sz : Nat) : Met l yX2_pair ow_g_X2_pair ({ frames := 0, cells := 0, slots := 0, locals := 0 }) (va_Pc [.int v0, .int v1] (fun U => U.heap.size = sz ∧ va_P (dC, dI) vwCl [] U.heap ∧ va_K (dC, dI) vwCl [] U ∧ va_D (fun _ => True) [] ∧ nv_E (va_A [] sz) U)) (va_Qi (fun r _ => ((¬ v1 = 61) ∧ (v0 = v1) ∧ (¬ v0 = 124) ∧ (¬ v0 = 38) ∧ (¬ v0 = 60) ∧ (¬ v0 = 62) ∧ r = 0) ∨ ((¬ v1 = 61) ∧ (v0 = v1) ∧ (¬ v0 = 124) ∧ (¬ v0 = 38) ∧ (¬ v0 = 60) ∧ (v0 = 62) ∧ r = 13) ∨ ((¬ v1 = 61) ∧ (v0 = v1) ∧ (¬ v0 = 124) ∧ (¬ v0 = 38) ∧ (v0 = 60) ∧ r = 12) ∨ ((¬ v1 = 61) ∧ (v0 = v1) ∧ (¬ v0 = 124) ∧ (v0 = 38) ∧ r = 2) ∨ ((¬ v1 = 61) ∧ (v0 = v1) ∧ (v0 = 124) ∧ r = 1) ∨ ((¬ v1 = 61) ∧ (¬ v0 = v1) ∧ r = 0) ∨ ((v1 = 61) ∧ (¬ v0 = 61) ∧ (¬ v0 = 33) ∧ (¬ v0 = 60) ∧ (¬ v0 = 62) ∧ r = 0) ∨ ((v1 = 61) ∧ (¬ v0 = 61) ∧ (¬ v0 = 33) ∧ (¬ v0 = 60) ∧ (v0 = 62) ∧ r = 8) ∨ ((v1 = 61) ∧ (¬ v0 = 61) ∧ (¬ v0 = 33) ∧ (v0 = 60) ∧ r = 6) ∨ ((v1 = 61) ∧ (¬ v0 = 61) ∧ (v0 = 33) ∧ r = 4) ∨ ((v1 = 61) ∧ (v0 = 61) ∧ r = 3) ∨ False) (fun (_ : Unit) t => va_P (dC, dI) vwCl [] t.heap ∧ va_K (dC, dI) vwCl [] t ∧ va_D (va_A [] sz) []) (va_A [] sz)) 0 0 (va_A [] sz) := by
  refine Met.ofW (cc := cX2_pair) (maxL := 2) (ret := (some .int)) (by decide) rfl ?_
  intro p e s m args below meth c s₁ B hml hv
  obtain ⟨rfl, hsz, hP, hK, hD0, hN⟩ := hv
  have hx := B.exec
  have hb := B.bytes
  have hr := B.returns
  have hts := atoms_spec (ws := ow_g_X2_pair) B.pre
  have hown : s.vm.findClass RX2 = some m.cls := findClass_of_methodNamed B.named
  have hlocks := B.notSynchronized
  subst hsz
  have hD := hD0.self (sz := s.heap.size)
  generalize hAe : va_A [] s.heap.size = A at hD hN ⊢
  have hA : ∀ q : Nat, s.heap.size ≤ q → A q := fun q h => by rw [← hAe]; exact Or.inr h
  have hS : va_S A s.heap s.heap [] := va_S.rf
  have hl := lv_entry ([.int v0, .int v1]) (n := 2) (Nat.le_of_ble_eq_true rfl)
  rw [lg_entry_eq]
  generalize (lg_sl ([.int v0, .int v1]) ++ List.replicate (2 - (lg_sl ([.int v0, .int v1])).length) Slot.unset).toArray = ls at hl ⊢
  have hl : lv_has ls 2 [(0, .int v0), (1, .int v1)] := hl
  refine lv_iload_n hx hb dX2_pair_0 rfl (lv_at hl 1 rfl) ?_
  refine lv_bipush (v := 61) hx hb dX2_pair_1 (by decide) ?_
  refine lv_icmp_ne (tgt := 50) hx hb dX2_pair_3 (by decide) (fun c_1 => ?_) (fun c_1 => ?_)
  · refine lv_iload_n hx hb dX2_pair_50 rfl (lv_at hl 0 rfl) ?_
    refine lv_iload_n hx hb dX2_pair_51 rfl (lv_at hl 1 rfl) ?_
    refine lv_icmp_eq (tgt := 57) hx hb dX2_pair_52 (by decide) (fun c_2 => ?_) (fun c_2 => ?_)
    · refine lv_iload_n hx hb dX2_pair_57 rfl (lv_at hl 0 rfl) ?_
      refine lv_bipush (v := 124) hx hb dX2_pair_58 (by decide) ?_
      refine lv_icmp_ne (tgt := 67) hx hb dX2_pair_60 (by decide) (fun c_3 => ?_) (fun c_3 => ?_)
      · refine lv_iload_n hx hb dX2_pair_67 rfl (lv_at hl 0 rfl) ?_
        refine lv_bipush (v := 38) hx hb dX2_pair_68 (by decide) ?_
        refine lv_icmp_ne (tgt := 77) hx hb dX2_pair_70 (by decide) (fun c_4 => ?_) (fun c_4 => ?_)
        · refine lv_iload_n hx hb dX2_pair_77 rfl (lv_at hl 0 rfl) ?_
          refine lv_bipush (v := 60) hx hb dX2_pair_78 (by decide) ?_
          refine lv_icmp_ne (tgt := 88) hx hb dX2_pair_80 (by decide) (fun c_5 => ?_) (fun c_5 => ?_)
          · refine lv_iload_n hx hb dX2_pair_88 rfl (lv_at hl 0 rfl) ?_
            refine lv_bipush (v := 62) hx hb dX2_pair_89 (by decide) ?_
            refine lv_icmp_ne (tgt := 99) hx hb dX2_pair_91 (by decide) (fun c_6 => ?_) (fun c_6 => ?_)
            · refine lv_iconst (v := 0) hx hb dX2_pair_99 (by decide) ?_
              refine W.widen (k := 0) (n := 0) (by decide +kernel) (by decide +kernel) ?_
              exact W.iret (v := 0) hx hb hr (fun t ht hW => ⟨⟨0, (), rfl, Or.inl ⟨c_1, c_2, c_3, c_4, c_5, c_6, rfl⟩, by rw [ht]; exact hP, va_K.moved hW.alike hK, hD⟩, hS.F ht⟩) hS.2.2 dX2_pair_100
            · refine lv_bipush (v := 13) hx hb dX2_pair_94 (by decide) ?_
              refine lv_goto (tgt := 100) hx hb dX2_pair_96 (by decide) ?_
              refine W.widen (k := 0) (n := 0) (by decide +kernel) (by decide +kernel) ?_
              exact W.iret (v := 13) hx hb hr (fun t ht hW => ⟨⟨13, (), rfl, Or.inr (Or.inl ⟨c_1, c_2, c_3, c_4, c_5, c_6, rfl⟩), by rw [ht]; exact hP, va_K.moved hW.alike hK, hD⟩, hS.F ht⟩) hS.2.2 dX2_pair_100
          · refine lv_bipush (v := 12) hx hb dX2_pair_83 (by decide) ?_
            refine lv_goto (tgt := 100) hx hb dX2_pair_85 (by decide) ?_
            refine W.widen (k := 0) (n := 0) (by decide +kernel) (by decide +kernel) ?_
            exact W.iret (v := 12) hx hb hr (fun t ht hW => ⟨⟨12, (), rfl, Or.inr (Or.inr (Or.inl ⟨c_1, c_2, c_3, c_4, c_5, rfl⟩)), by rw [ht]; exact hP, va_K.moved hW.alike hK, hD⟩, hS.F ht⟩) hS.2.2 dX2_pair_100
        · refine lv_iconst (v := 2) hx hb dX2_pair_73 (by decide) ?_
          refine lv_goto (tgt := 100) hx hb dX2_pair_74 (by decide) ?_
          refine W.widen (k := 0) (n := 0) (by decide +kernel) (by decide +kernel) ?_
          exact W.iret (v := 2) hx hb hr (fun t ht hW => ⟨⟨2, (), rfl, Or.inr (Or.inr (Or.inr (Or.inl ⟨c_1, c_2, c_3, c_4, rfl⟩))), by rw [ht]; exact hP, va_K.moved hW.alike hK, hD⟩, hS.F ht⟩) hS.2.2 dX2_pair_100
      · refine lv_iconst (v := 1) hx hb dX2_pair_63 (by decide) ?_
        refine lv_goto (tgt := 100) hx hb dX2_pair_64 (by decide) ?_
        refine W.widen (k := 0) (n := 0) (by decide +kernel) (by decide +kernel) ?_
        exact W.iret (v := 1) hx hb hr (fun t ht hW => ⟨⟨1, (), rfl, Or.inr (Or.inr (Or.inr (Or.inr (Or.inl ⟨c_1, c_2, c_3, rfl⟩)))), by rw [ht]; exact hP, va_K.moved hW.alike hK, hD⟩, hS.F ht⟩) hS.2.2 dX2_pair_100
    · refine lv_iconst (v := 0) hx hb dX2_pair_55 (by decide) ?_
      refine W.widen (k := 0) (n := 0) (by decide +kernel) (by decide +kernel) ?_
      exact W.iret (v := 0) hx hb hr (fun t ht hW => ⟨⟨0, (), rfl, Or.inr (Or.inr (Or.inr (Or.inr (Or.inr (Or.inl ⟨c_1, c_2, rfl⟩))))), by rw [ht]; exact hP, va_K.moved hW.alike hK, hD⟩, hS.F ht⟩) hS.2.2 dX2_pair_56
  · refine lv_iload_n hx hb dX2_pair_6 rfl (lv_at hl 0 rfl) ?_
    refine lv_bipush (v := 61) hx hb dX2_pair_7 (by decide) ?_
    refine lv_icmp_ne (tgt := 16) hx hb dX2_pair_9 (by decide) (fun c_7 => ?_) (fun c_7 => ?_)
    · refine lv_iload_n hx hb dX2_pair_16 rfl (lv_at hl 0 rfl) ?_
      refine lv_bipush (v := 33) hx hb dX2_pair_17 (by decide) ?_
      refine lv_icmp_ne (tgt := 26) hx hb dX2_pair_19 (by decide) (fun c_8 => ?_) (fun c_8 => ?_)
      · refine lv_iload_n hx hb dX2_pair_26 rfl (lv_at hl 0 rfl) ?_
        refine lv_bipush (v := 60) hx hb dX2_pair_27 (by decide) ?_
        refine lv_icmp_ne (tgt := 37) hx hb dX2_pair_29 (by decide) (fun c_9 => ?_) (fun c_9 => ?_)
        · refine lv_iload_n hx hb dX2_pair_37 rfl (lv_at hl 0 rfl) ?_
          refine lv_bipush (v := 62) hx hb dX2_pair_38 (by decide) ?_
          refine lv_icmp_ne (tgt := 48) hx hb dX2_pair_40 (by decide) (fun c_10 => ?_) (fun c_10 => ?_)
          · refine lv_iconst (v := 0) hx hb dX2_pair_48 (by decide) ?_
            refine W.widen (k := 0) (n := 0) (by decide +kernel) (by decide +kernel) ?_
            exact W.iret (v := 0) hx hb hr (fun t ht hW => ⟨⟨0, (), rfl, Or.inr (Or.inr (Or.inr (Or.inr (Or.inr (Or.inr (Or.inl ⟨c_1, c_7, c_8, c_9, c_10, rfl⟩)))))), by rw [ht]; exact hP, va_K.moved hW.alike hK, hD⟩, hS.F ht⟩) hS.2.2 dX2_pair_49
          · refine lv_bipush (v := 8) hx hb dX2_pair_43 (by decide) ?_
            refine lv_goto (tgt := 49) hx hb dX2_pair_45 (by decide) ?_
            refine W.widen (k := 0) (n := 0) (by decide +kernel) (by decide +kernel) ?_
            exact W.iret (v := 8) hx hb hr (fun t ht hW => ⟨⟨8, (), rfl, Or.inr (Or.inr (Or.inr (Or.inr (Or.inr (Or.inr (Or.inr (Or.inl ⟨c_1, c_7, c_8, c_9, c_10, rfl⟩))))))), by rw [ht]; exact hP, va_K.moved hW.alike hK, hD⟩, hS.F ht⟩) hS.2.2 dX2_pair_49
        · refine lv_bipush (v := 6) hx hb dX2_pair_32 (by decide) ?_
          refine lv_goto (tgt := 49) hx hb dX2_pair_34 (by decide) ?_
          refine W.widen (k := 0) (n := 0) (by decide +kernel) (by decide +kernel) ?_
          exact W.iret (v := 6) hx hb hr (fun t ht hW => ⟨⟨6, (), rfl, Or.inr (Or.inr (Or.inr (Or.inr (Or.inr (Or.inr (Or.inr (Or.inr (Or.inl ⟨c_1, c_7, c_8, c_9, rfl⟩)))))))), by rw [ht]; exact hP, va_K.moved hW.alike hK, hD⟩, hS.F ht⟩) hS.2.2 dX2_pair_49
      · refine lv_iconst (v := 4) hx hb dX2_pair_22 (by decide) ?_
        refine lv_goto (tgt := 49) hx hb dX2_pair_23 (by decide) ?_
        refine W.widen (k := 0) (n := 0) (by decide +kernel) (by decide +kernel) ?_
        exact W.iret (v := 4) hx hb hr (fun t ht hW => ⟨⟨4, (), rfl, Or.inr (Or.inr (Or.inr (Or.inr (Or.inr (Or.inr (Or.inr (Or.inr (Or.inr (Or.inl ⟨c_1, c_7, c_8, rfl⟩))))))))), by rw [ht]; exact hP, va_K.moved hW.alike hK, hD⟩, hS.F ht⟩) hS.2.2 dX2_pair_49
    · refine lv_iconst (v := 3) hx hb dX2_pair_12 (by decide) ?_
      refine lv_goto (tgt := 49) hx hb dX2_pair_13 (by decide) ?_
      refine W.widen (k := 0) (n := 0) (by decide +kernel) (by decide +kernel) ?_
      exact W.iret (v := 3) hx hb hr (fun t ht hW => ⟨⟨3, (), rfl, Or.inr (Or.inr (Or.inr (Or.inr (Or.inr (Or.inr (Or.inr (Or.inr (Or.inr (Or.inr (Or.inl ⟨c_1, c_7, rfl⟩)))))))))), by rw [ht]; exact hP, va_K.moved hW.alike hK, hD⟩, hS.F ht⟩) hS.2.2 dX2_pair_49
def ow_g_X3_isEvent : List Cond := .code yX3_isEvent cX3_isEvent 4 (some .boolean) :: ([.constantLong RX3 29 (16), .constantLong RX3 31 (1099511627776)] ++ [])
theorem gd_g_X3_isEvent : ∀ w ∈ ow_g_X3_isEvent, (w.onTables && w.keeps) = true ∨ ∃ ty, w = Cond.arrayClass ty := List.forall_mem_cons.mpr ⟨good_of_word rfl, List.forall_mem_append.mpr ⟨fun w h => good_of_word (List.all_eq_true.mp (by decide +kernel) w h), fun _ h => nomatch h⟩⟩
set_option maxHeartbeats 40000000 in
set_option maxRecDepth 100000 in
theorem g_X3_isEvent (l : Launch) (hlt : l.stackTraces = false) (dC : Nat → ClassId) (dI : Nat → Nat → Nat) (v0 : Int32) (v1 : Int64) (v2 : Int32) (sz : Nat) : Met l yX3_isEvent ow_g_X3_isEvent ({ frames := 0, cells := 0, slots := 0, locals := 0 }) (va_Pc [.int v0, .long v1, .int v2] (fun U => U.heap.size = sz ∧ va_P (dC, dI) vwCl [] U.heap ∧ va_K (dC, dI) vwCl [] U ∧ va_D (fun _ => True) [] ∧ nv_E (va_A [] sz) U)) (va_Qi (fun r _ => ((v0 = 0) ∧ (v1 < 0) ∧ r = 0) ∨ ((v0 = 0) ∧ (¬ v1 < 0) ∧ (16 ≤ v1) ∧ r = 0) ∨ ((v0 = 0) ∧ (¬ v1 < 0) ∧ (¬ 16 ≤ v1) ∧ r = 1) ∨ ((¬ v0 = 0) ∧ (v0 = 1) ∧ (v2 < 1) ∧ r = 0) ∨ ((¬ v0 = 0) ∧ (v0 = 1) ∧ (¬ v2 < 1) ∧ (8 < v2) ∧ r = 0) ∨ ((¬ v0 = 0) ∧ (v0 = 1) ∧ (¬ v2 < 1) ∧ (¬ 8 < v2) ∧ r = 1) ∨ ((¬ v0 = 0) ∧ (¬ v0 = 1) ∧ (v0 = 2) ∧ (v1 < 0) ∧ r = 0) ∨ ((¬ v0 = 0) ∧ (¬ v0 = 1) ∧ (v0 = 2) ∧ (¬ v1 < 0) ∧ (16 ≤ v1) ∧ r = 0) ∨ ((¬ v0 = 0) ∧ (¬ v0 = 1) ∧ (v0 = 2) ∧ (¬ v1 < 0) ∧ (¬ 16 ≤ v1) ∧ (v2 < 1) ∧ r = 0) ∨ ((¬ v0 = 0) ∧ (¬ v0 = 1) ∧ (v0 = 2) ∧ (¬ v1 < 0) ∧ (¬ 16 ≤ v1) ∧ (¬ v2 < 1) ∧ (31 < v2) ∧ r = 0) ∨ ((¬ v0 = 0) ∧ (¬ v0 = 1) ∧ (v0 = 2) ∧ (¬ v1 < 0) ∧ (¬ 16 ≤ v1) ∧ (¬ v2 < 1) ∧ (¬ 31 < v2) ∧ r = 1) ∨ ((¬ v0 = 0) ∧ (¬ v0 = 1) ∧ (¬ v0 = 2) ∧ (v0 = 3) ∧ (v1 < 0) ∧ r = 0) ∨ ((¬ v0 = 0) ∧ (¬ v0 = 1) ∧ (¬ v0 = 2) ∧ (v0 = 3) ∧ (¬ v1 < 0) ∧ (1099511627776 < v1) ∧ r = 0) ∨ ((¬ v0 = 0) ∧ (¬ v0 = 1) ∧ (¬ v0 = 2) ∧ (v0 = 3) ∧ (¬ v1 < 0) ∧ (¬ 1099511627776 < v1) ∧ r = 1) ∨ ((¬ v0 = 0) ∧ (¬ v0 = 1) ∧ (¬ v0 = 2) ∧ (¬ v0 = 3) ∧ (¬ v0 = 4) ∧ r = 0) ∨ ((¬ v0 = 0) ∧ (¬ v0 = 1) ∧ (¬ v0 = 2) ∧ (¬ v0 = 3) ∧ (v0 = 4) ∧ r = 1) ∨ False) (fun (_ : Unit) t => va_P (dC, dI) vwCl [] t.heap ∧ va_K (dC, dI) vwCl [] t ∧ va_D (va_A [] sz) []) (va_A [] sz)) 0 0 (va_A [] sz) := by
  refine Met.ofW (cc := cX3_isEvent) (maxL := 4) (ret := (some .boolean)) (by decide) rfl ?_
  intro p e s m args below meth c s₁ B hml hv
  obtain ⟨rfl, hsz, hP, hK, hD0, hN⟩ := hv
  have hx := B.exec
  have hb := B.bytes
  have hr := B.returns
  have hts := atoms_spec (ws := ow_g_X3_isEvent) B.pre
  have hown : s.vm.findClass RX3 = some m.cls := findClass_of_methodNamed B.named
  have hlocks := B.notSynchronized
  subst hsz
  have hD := hD0.self (sz := s.heap.size)
  generalize hAe : va_A [] s.heap.size = A at hD hN ⊢
  have hA : ∀ q : Nat, s.heap.size ≤ q → A q := fun q h => by rw [← hAe]; exact Or.inr h
  have hS : va_S A s.heap s.heap [] := va_S.rf
  have hl := lv_entry ([.int v0, .long v1, .int v2]) (n := 4) (Nat.le_of_ble_eq_true rfl)
  rw [lg_entry_eq]
  generalize (lg_sl ([.int v0, .long v1, .int v2]) ++ List.replicate (4 - (lg_sl ([.int v0, .long v1, .int v2])).length) Slot.unset).toArray = ls at hl ⊢
  have hl : lv_has ls 4 [(0, .int v0), (1, .long v1), (3, .int v2)] := hl
  refine lv_iload_n hx hb dX3_isEvent_0 rfl (lv_at hl 0 rfl) ?_
  by_cases c_1 : v0 = 0
  · refine lv_tableIn (off := 31) (tgt := 32) hx hb dX3_isEvent_1 (by rw [c_1]; decide) (by rw [c_1]; decide) (by rw [c_1]; decide) (by decide) ?_
    refine lv_lload_n hx hb dX3_isEvent_32 rfl (lv_at hl 1 rfl) ?_
    refine lv_lconst (v := 0) hx hb dX3_isEvent_33 (by decide) ?_
    refine W.lcmp hx hb dX3_isEvent_34 ?_
    refine lv_if_lt (tgt := 50) hx hb dX3_isEvent_35 (by decide) (fun h9 => (fun (c_2 : v1 < 0) => ?_) ((nv_cl_lt (a := v1) (b := 0)).mp h9)) (fun h9 => (fun (c_2 : ¬ v1 < 0) => ?_) (fun h8 => h9 ((nv_cl_lt (a := v1) (b := 0)).mpr h8)))
    · refine lv_iconst (v := 0) hx hb dX3_isEvent_50 (by decide) ?_
      refine W.widen (k := 0) (n := 0) (by decide +kernel) (by decide +kernel) ?_
      exact W.zret (v := 0) hx hb hr (by first | rfl | decide) (fun t ht hW => ⟨⟨0, (), rfl, Or.inl ⟨c_1, c_2, rfl⟩, by rw [ht]; exact hP, va_K.moved hW.alike hK, hD⟩, hS.F ht⟩) hS.2.2 dX3_isEvent_51
    · refine lv_lload_n hx hb dX3_isEvent_38 rfl (lv_at hl 1 rfl) ?_
      refine lv_ldc2 hx hb hown (hts (.constantLong RX3 29 (16)) (List.mem_of_getElem? (i := 1) rfl)) dX3_isEvent_39 ?_
      refine W.lcmp hx hb dX3_isEvent_42 ?_
      refine lv_if_ge (tgt := 50) hx hb dX3_isEvent_43 (by decide) (fun h9 => (fun (c_3 : 16 ≤ v1) => ?_) ((nv_cl_ge (a := v1) (b := 16)).mp h9)) (fun h9 => (fun (c_3 : ¬ 16 ≤ v1) => ?_) (fun h8 => h9 ((nv_cl_ge (a := v1) (b := 16)).mpr h8)))
      · refine lv_iconst (v := 0) hx hb dX3_isEvent_50 (by decide) ?_
        refine W.widen (k := 0) (n := 0) (by decide +kernel) (by decide +kernel) ?_
        exact W.zret (v := 0) hx hb hr (by first | rfl | decide) (fun t ht hW => ⟨⟨0, (), rfl, Or.inr (Or.inl ⟨c_1, c_2, c_3, rfl⟩), by rw [ht]; exact hP, va_K.moved hW.alike hK, hD⟩, hS.F ht⟩) hS.2.2 dX3_isEvent_51
      · refine lv_iconst (v := 1) hx hb dX3_isEvent_46 (by decide) ?_
        refine lv_goto (tgt := 51) hx hb dX3_isEvent_47 (by decide) ?_
        refine W.widen (k := 0) (n := 0) (by decide +kernel) (by decide +kernel) ?_
        exact W.zret (v := 1) hx hb hr (by first | rfl | decide) (fun t ht hW => ⟨⟨1, (), rfl, Or.inr (Or.inr (Or.inl ⟨c_1, c_2, c_3, rfl⟩)), by rw [ht]; exact hP, va_K.moved hW.alike hK, hD⟩, hS.F ht⟩) hS.2.2 dX3_isEvent_51
  by_cases c_4 : v0 = 1
  · refine lv_tableIn (off := 51) (tgt := 52) hx hb dX3_isEvent_1 (by rw [c_4]; decide) (by rw [c_4]; decide) (by rw [c_4]; decide) (by decide) ?_
    refine lv_iload_n hx hb dX3_isEvent_52 rfl (lv_at hl 2 rfl) ?_
    refine lv_iconst (v := 1) hx hb dX3_isEvent_53 (by decide) ?_
    refine lv_icmp_lt (tgt := 67) hx hb dX3_isEvent_54 (by decide) (fun c_5 => ?_) (fun c_5 => ?_)
    · refine lv_iconst (v := 0) hx hb dX3_isEvent_67 (by decide) ?_
      refine W.widen (k := 0) (n := 0) (by decide +kernel) (by decide +kernel) ?_
      exact W.zret (v := 0) hx hb hr (by first | rfl | decide) (fun t ht hW => ⟨⟨0, (), rfl, Or.inr (Or.inr (Or.inr (Or.inl ⟨c_1, c_4, c_5, rfl⟩))), by rw [ht]; exact hP, va_K.moved hW.alike hK, hD⟩, hS.F ht⟩) hS.2.2 dX3_isEvent_68
    · refine lv_iload_n hx hb dX3_isEvent_57 rfl (lv_at hl 2 rfl) ?_
      refine lv_bipush (v := 8) hx hb dX3_isEvent_58 (by decide) ?_
      refine lv_icmp_gt (tgt := 67) hx hb dX3_isEvent_60 (by decide) (fun c_6 => ?_) (fun c_6 => ?_)
      · refine lv_iconst (v := 0) hx hb dX3_isEvent_67 (by decide) ?_
        refine W.widen (k := 0) (n := 0) (by decide +kernel) (by decide +kernel) ?_
        exact W.zret (v := 0) hx hb hr (by first | rfl | decide) (fun t ht hW => ⟨⟨0, (), rfl, Or.inr (Or.inr (Or.inr (Or.inr (Or.inl ⟨c_1, c_4, c_5, c_6, rfl⟩)))), by rw [ht]; exact hP, va_K.moved hW.alike hK, hD⟩, hS.F ht⟩) hS.2.2 dX3_isEvent_68
      · refine lv_iconst (v := 1) hx hb dX3_isEvent_63 (by decide) ?_
        refine lv_goto (tgt := 68) hx hb dX3_isEvent_64 (by decide) ?_
        refine W.widen (k := 0) (n := 0) (by decide +kernel) (by decide +kernel) ?_
        exact W.zret (v := 1) hx hb hr (by first | rfl | decide) (fun t ht hW => ⟨⟨1, (), rfl, Or.inr (Or.inr (Or.inr (Or.inr (Or.inr (Or.inl ⟨c_1, c_4, c_5, c_6, rfl⟩))))), by rw [ht]; exact hP, va_K.moved hW.alike hK, hD⟩, hS.F ht⟩) hS.2.2 dX3_isEvent_68
  by_cases c_7 : v0 = 2
  · refine lv_tableIn (off := 68) (tgt := 69) hx hb dX3_isEvent_1 (by rw [c_7]; decide) (by rw [c_7]; decide) (by rw [c_7]; decide) (by decide) ?_
    refine lv_lload_n hx hb dX3_isEvent_69 rfl (lv_at hl 1 rfl) ?_
    refine lv_lconst (v := 0) hx hb dX3_isEvent_70 (by decide) ?_
    refine W.lcmp hx hb dX3_isEvent_71 ?_
    refine lv_if_lt (tgt := 98) hx hb dX3_isEvent_72 (by decide) (fun h9 => (fun (c_8 : v1 < 0) => ?_) ((nv_cl_lt (a := v1) (b := 0)).mp h9)) (fun h9 => (fun (c_8 : ¬ v1 < 0) => ?_) (fun h8 => h9 ((nv_cl_lt (a := v1) (b := 0)).mpr h8)))
    · refine lv_iconst (v := 0) hx hb dX3_isEvent_98 (by decide) ?_
      refine W.widen (k := 0) (n := 0) (by decide +kernel) (by decide +kernel) ?_
      exact W.zret (v := 0) hx hb hr (by first | rfl | decide) (fun t ht hW => ⟨⟨0, (), rfl, Or.inr (Or.inr (Or.inr (Or.inr (Or.inr (Or.inr (Or.inl ⟨c_1, c_4, c_7, c_8, rfl⟩)))))), by rw [ht]; exact hP, va_K.moved hW.alike hK, hD⟩, hS.F ht⟩) hS.2.2 dX3_isEvent_99
    · refine lv_lload_n hx hb dX3_isEvent_75 rfl (lv_at hl 1 rfl) ?_
      refine lv_ldc2 hx hb hown (hts (.constantLong RX3 29 (16)) (List.mem_of_getElem? (i := 1) rfl)) dX3_isEvent_76 ?_
      refine W.lcmp hx hb dX3_isEvent_79 ?_
      refine lv_if_ge (tgt := 98) hx hb dX3_isEvent_80 (by decide) (fun h9 => (fun (c_9 : 16 ≤ v1) => ?_) ((nv_cl_ge (a := v1) (b := 16)).mp h9)) (fun h9 => (fun (c_9 : ¬ 16 ≤ v1) => ?_) (fun h8 => h9 ((nv_cl_ge (a := v1) (b := 16)).mpr h8)))
      · refine lv_iconst (v := 0) hx hb dX3_isEvent_98 (by decide) ?_
        refine W.widen (k := 0) (n := 0) (by decide +kernel) (by decide +kernel) ?_
        exact W.zret (v := 0) hx hb hr (by first | rfl | decide) (fun t ht hW => ⟨⟨0, (), rfl, Or.inr (Or.inr (Or.inr (Or.inr (Or.inr (Or.inr (Or.inr (Or.inl ⟨c_1, c_4, c_7, c_8, c_9, rfl⟩))))))), by rw [ht]; exact hP, va_K.moved hW.alike hK, hD⟩, hS.F ht⟩) hS.2.2 dX3_isEvent_99
      · refine lv_iload_n hx hb dX3_isEvent_83 rfl (lv_at hl 2 rfl) ?_
        refine lv_iconst (v := 1) hx hb dX3_isEvent_84 (by decide) ?_
        refine lv_icmp_lt (tgt := 98) hx hb dX3_isEvent_85 (by decide) (fun c_10 => ?_) (fun c_10 => ?_)
        · refine lv_iconst (v := 0) hx hb dX3_isEvent_98 (by decide) ?_
          refine W.widen (k := 0) (n := 0) (by decide +kernel) (by decide +kernel) ?_
          exact W.zret (v := 0) hx hb hr (by first | rfl | decide) (fun t ht hW => ⟨⟨0, (), rfl, Or.inr (Or.inr (Or.inr (Or.inr (Or.inr (Or.inr (Or.inr (Or.inr (Or.inl ⟨c_1, c_4, c_7, c_8, c_9, c_10, rfl⟩)))))))), by rw [ht]; exact hP, va_K.moved hW.alike hK, hD⟩, hS.F ht⟩) hS.2.2 dX3_isEvent_99
        · refine lv_iload_n hx hb dX3_isEvent_88 rfl (lv_at hl 2 rfl) ?_
          refine lv_bipush (v := 31) hx hb dX3_isEvent_89 (by decide) ?_
          refine lv_icmp_gt (tgt := 98) hx hb dX3_isEvent_91 (by decide) (fun c_11 => ?_) (fun c_11 => ?_)
          · refine lv_iconst (v := 0) hx hb dX3_isEvent_98 (by decide) ?_
            refine W.widen (k := 0) (n := 0) (by decide +kernel) (by decide +kernel) ?_
            exact W.zret (v := 0) hx hb hr (by first | rfl | decide) (fun t ht hW => ⟨⟨0, (), rfl, Or.inr (Or.inr (Or.inr (Or.inr (Or.inr (Or.inr (Or.inr (Or.inr (Or.inr (Or.inl ⟨c_1, c_4, c_7, c_8, c_9, c_10, c_11, rfl⟩))))))))), by rw [ht]; exact hP, va_K.moved hW.alike hK, hD⟩, hS.F ht⟩) hS.2.2 dX3_isEvent_99
          · refine lv_iconst (v := 1) hx hb dX3_isEvent_94 (by decide) ?_
            refine lv_goto (tgt := 99) hx hb dX3_isEvent_95 (by decide) ?_
            refine W.widen (k := 0) (n := 0) (by decide +kernel) (by decide +kernel) ?_
            exact W.zret (v := 1) hx hb hr (by first | rfl | decide) (fun t ht hW => ⟨⟨1, (), rfl, Or.inr (Or.inr (Or.inr (Or.inr (Or.inr (Or.inr (Or.inr (Or.inr (Or.inr (Or.inr (Or.inl ⟨c_1, c_4, c_7, c_8, c_9, c_10, c_11, rfl⟩)))))))))), by rw [ht]; exact hP, va_K.moved hW.alike hK, hD⟩, hS.F ht⟩) hS.2.2 dX3_isEvent_99
  by_cases c_12 : v0 = 3
  · refine lv_tableIn (off := 99) (tgt := 100) hx hb dX3_isEvent_1 (by rw [c_12]; decide) (by rw [c_12]; decide) (by rw [c_12]; decide) (by decide) ?_
    refine lv_lload_n hx hb dX3_isEvent_100 rfl (lv_at hl 1 rfl) ?_
    refine lv_lconst (v := 0) hx hb dX3_isEvent_101 (by decide) ?_
    refine W.lcmp hx hb dX3_isEvent_102 ?_
    refine lv_if_lt (tgt := 118) hx hb dX3_isEvent_103 (by decide) (fun h9 => (fun (c_13 : v1 < 0) => ?_) ((nv_cl_lt (a := v1) (b := 0)).mp h9)) (fun h9 => (fun (c_13 : ¬ v1 < 0) => ?_) (fun h8 => h9 ((nv_cl_lt (a := v1) (b := 0)).mpr h8)))
    · refine lv_iconst (v := 0) hx hb dX3_isEvent_118 (by decide) ?_
      refine W.widen (k := 0) (n := 0) (by decide +kernel) (by decide +kernel) ?_
      exact W.zret (v := 0) hx hb hr (by first | rfl | decide) (fun t ht hW => ⟨⟨0, (), rfl, Or.inr (Or.inr (Or.inr (Or.inr (Or.inr (Or.inr (Or.inr (Or.inr (Or.inr (Or.inr (Or.inr (Or.inl ⟨c_1, c_4, c_7, c_12, c_13, rfl⟩))))))))))), by rw [ht]; exact hP, va_K.moved hW.alike hK, hD⟩, hS.F ht⟩) hS.2.2 dX3_isEvent_119
    · refine lv_lload_n hx hb dX3_isEvent_106 rfl (lv_at hl 1 rfl) ?_
      refine lv_ldc2 hx hb hown (hts (.constantLong RX3 31 (1099511627776)) (List.mem_of_getElem? (i := 2) rfl)) dX3_isEvent_107 ?_
      refine W.lcmp hx hb dX3_isEvent_110 ?_
      refine lv_if_gt (tgt := 118) hx hb dX3_isEvent_111 (by decide) (fun h9 => (fun (c_14 : 1099511627776 < v1) => ?_) ((nv_cl_gt (a := v1) (b := 1099511627776)).mp h9)) (fun h9 => (fun (c_14 : ¬ 1099511627776 < v1) => ?_) (fun h8 => h9 ((nv_cl_gt (a := v1) (b := 1099511627776)).mpr h8)))
      · refine lv_iconst (v := 0) hx hb dX3_isEvent_118 (by decide) ?_
        refine W.widen (k := 0) (n := 0) (by decide +kernel) (by decide +kernel) ?_
        exact W.zret (v := 0) hx hb hr (by first | rfl | decide) (fun t ht hW => ⟨⟨0, (), rfl, Or.inr (Or.inr (Or.inr (Or.inr (Or.inr (Or.inr (Or.inr (Or.inr (Or.inr (Or.inr (Or.inr (Or.inr (Or.inl ⟨c_1, c_4, c_7, c_12, c_13, c_14, rfl⟩)))))))))))), by rw [ht]; exact hP, va_K.moved hW.alike hK, hD⟩, hS.F ht⟩) hS.2.2 dX3_isEvent_119
      · refine lv_iconst (v := 1) hx hb dX3_isEvent_114 (by decide) ?_
        refine lv_goto (tgt := 119) hx hb dX3_isEvent_115 (by decide) ?_
        refine W.widen (k := 0) (n := 0) (by decide +kernel) (by decide +kernel) ?_
        exact W.zret (v := 1) hx hb hr (by first | rfl | decide) (fun t ht hW => ⟨⟨1, (), rfl, Or.inr (Or.inr (Or.inr (Or.inr (Or.inr (Or.inr (Or.inr (Or.inr (Or.inr (Or.inr (Or.inr (Or.inr (Or.inr (Or.inl ⟨c_1, c_4, c_7, c_12, c_13, c_14, rfl⟩))))))))))))), by rw [ht]; exact hP, va_K.moved hW.alike hK, hD⟩, hS.F ht⟩) hS.2.2 dX3_isEvent_119
  refine lv_tableOut (tgt := 120) hx hb dX3_isEvent_1 (by have g0 := nv_nei c_1 (k := 0) (by decide); have g1 := nv_nei c_4 (k := 1) (by decide); have g2 := nv_nei c_7 (k := 2) (by decide); have g3 := nv_nei c_12 (k := 3) (by decide); omega) (by decide) ?_
  refine lv_iload_n hx hb dX3_isEvent_120 rfl (lv_at hl 0 rfl) ?_
  refine lv_iconst (v := 4) hx hb dX3_isEvent_121 (by decide) ?_
  refine lv_icmp_ne (tgt := 129) hx hb dX3_isEvent_122 (by decide) (fun c_15 => ?_) (fun c_15 => ?_)
  · refine lv_iconst (v := 0) hx hb dX3_isEvent_129 (by decide) ?_
    refine W.widen (k := 0) (n := 0) (by decide +kernel) (by decide +kernel) ?_
    exact W.zret (v := 0) hx hb hr (by first | rfl | decide) (fun t ht hW => ⟨⟨0, (), rfl, Or.inr (Or.inr (Or.inr (Or.inr (Or.inr (Or.inr (Or.inr (Or.inr (Or.inr (Or.inr (Or.inr (Or.inr (Or.inr (Or.inr (Or.inl ⟨c_1, c_4, c_7, c_12, c_15, rfl⟩)))))))))))))), by rw [ht]; exact hP, va_K.moved hW.alike hK, hD⟩, hS.F ht⟩) hS.2.2 dX3_isEvent_130
  · refine lv_iconst (v := 1) hx hb dX3_isEvent_125 (by decide) ?_
    refine lv_goto (tgt := 130) hx hb dX3_isEvent_126 (by decide) ?_
    refine W.widen (k := 0) (n := 0) (by decide +kernel) (by decide +kernel) ?_
    exact W.zret (v := 1) hx hb hr (by first | rfl | decide) (fun t ht hW => ⟨⟨1, (), rfl, Or.inr (Or.inr (Or.inr (Or.inr (Or.inr (Or.inr (Or.inr (Or.inr (Or.inr (Or.inr (Or.inr (Or.inr (Or.inr (Or.inr (Or.inr (Or.inl ⟨c_1, c_4, c_7, c_12, c_15, rfl⟩))))))))))))))), by rw [ht]; exact hP, va_K.moved hW.alike hK, hD⟩, hS.F ht⟩) hS.2.2 dX3_isEvent_130
def ow_g_X3_second : List Cond := .code yX3_second cX3_second 2 (some .int) :: ([] ++ [])
theorem gd_g_X3_second : ∀ w ∈ ow_g_X3_second, (w.onTables && w.keeps) = true ∨ ∃ ty, w = Cond.arrayClass ty := List.forall_mem_cons.mpr ⟨good_of_word rfl, List.forall_mem_append.mpr ⟨fun w h => good_of_word (List.all_eq_true.mp (by decide +kernel) w h), fun _ h => nomatch h⟩⟩
set_option maxHeartbeats 40000000 in
set_option maxRecDepth 100000 in
theorem g_X3_second (l : Launch) (hlt : l.stackTraces = false) (dC : Nat → ClassId) (dI : Nat → Nat → Nat) (v0 : Int32) (v1 : Int32) (sz : Nat) : Met l yX3_second ow_g_X3_second ({ frames := 0, cells := 0, slots := 0, locals := 0 }) (va_Pc [.int v0, .int v1] (fun U => U.heap.size = sz ∧ va_P (dC, dI) vwCl [] U.heap ∧ va_K (dC, dI) vwCl [] U ∧ va_D (fun _ => True) [] ∧ nv_E (va_A [] sz) U)) (va_Qi (fun r _ => ((v0 = 1) ∧ r = v1) ∨ ((¬ v0 = 1) ∧ (¬ v0 = 2) ∧ r = 0) ∨ ((¬ v0 = 1) ∧ (v0 = 2) ∧ r = v1) ∨ False) (fun (_ : Unit) t => va_P (dC, dI) vwCl [] t.heap ∧ va_K (dC, dI) vwCl [] t ∧ va_D (va_A [] sz) []) (va_A [] sz)) 0 0 (va_A [] sz) := by
  refine Met.ofW (cc := cX3_second) (maxL := 2) (ret := (some .int)) (by decide) rfl ?_
  intro p e s m args below meth c s₁ B hml hv
  obtain ⟨rfl, hsz, hP, hK, hD0, hN⟩ := hv
  have hx := B.exec
  have hb := B.bytes
  have hr := B.returns
  have hts := atoms_spec (ws := ow_g_X3_second) B.pre
  have hown : s.vm.findClass RX3 = some m.cls := findClass_of_methodNamed B.named
  have hlocks := B.notSynchronized
  subst hsz
  have hD := hD0.self (sz := s.heap.size)
  generalize hAe : va_A [] s.heap.size = A at hD hN ⊢
  have hA : ∀ q : Nat, s.heap.size ≤ q → A q := fun q h => by rw [← hAe]; exact Or.inr h
  have hS : va_S A s.heap s.heap [] := va_S.rf
  have hl := lv_entry ([.int v0, .int v1]) (n := 2) (Nat.le_of_ble_eq_true rfl)
  rw [lg_entry_eq]
  generalize (lg_sl ([.int v0, .int v1]) ++ List.replicate (2 - (lg_sl ([.int v0, .int v1])).length) Slot.unset).toArray = ls at hl ⊢
  have hl : lv_has ls 2 [(0, .int v0), (1, .int v1)] := hl
  refine lv_iload_n hx hb dX3_second_0 rfl (lv_at hl 0 rfl) ?_
  refine lv_iconst (v := 1) hx hb dX3_second_1 (by decide) ?_
  refine lv_icmp_eq (tgt := 10) hx hb dX3_second_2 (by decide) (fun c_1 => ?_) (fun c_1 => ?_)
  · refine lv_iload_n hx hb dX3_second_10 rfl (lv_at hl 1 rfl) ?_
    refine lv_goto (tgt := 15) hx hb dX3_second_11 (by decide) ?_
    refine W.widen (k := 0) (n := 0) (by decide +kernel) (by decide +kernel) ?_
    exact W.iret (v := v1) hx hb hr (fun t ht hW => ⟨⟨v1, (), rfl, Or.inl ⟨c_1, rfl⟩, by rw [ht]; exact hP, va_K.moved hW.alike hK, hD⟩, hS.F ht⟩) hS.2.2 dX3_second_15
  · refine lv_iload_n hx hb dX3_second_5 rfl (lv_at hl 0 rfl) ?_
    refine lv_iconst (v := 2) hx hb dX3_second_6 (by decide) ?_
    refine lv_icmp_ne (tgt := 14) hx hb dX3_second_7 (by decide) (fun c_2 => ?_) (fun c_2 => ?_)
    · refine lv_iconst (v := 0) hx hb dX3_second_14 (by decide) ?_
      refine W.widen (k := 0) (n := 0) (by decide +kernel) (by decide +kernel) ?_
      exact W.iret (v := 0) hx hb hr (fun t ht hW => ⟨⟨0, (), rfl, Or.inr (Or.inl ⟨c_1, c_2, rfl⟩), by rw [ht]; exact hP, va_K.moved hW.alike hK, hD⟩, hS.F ht⟩) hS.2.2 dX3_second_15
    · refine lv_iload_n hx hb dX3_second_10 rfl (lv_at hl 1 rfl) ?_
      refine lv_goto (tgt := 15) hx hb dX3_second_11 (by decide) ?_
      refine W.widen (k := 0) (n := 0) (by decide +kernel) (by decide +kernel) ?_
      exact W.iret (v := v1) hx hb hr (fun t ht hW => ⟨⟨v1, (), rfl, Or.inr (Or.inr (Or.inl ⟨c_1, c_2, rfl⟩)), by rw [ht]; exact hP, va_K.moved hW.alike hK, hD⟩, hS.F ht⟩) hS.2.2 dX3_second_15
def ow_g_X3_isHead : List Cond := .code yX3_isHead cX3_isHead 3 (some .boolean) :: ([] ++ [])
theorem gd_g_X3_isHead : ∀ w ∈ ow_g_X3_isHead, (w.onTables && w.keeps) = true ∨ ∃ ty, w = Cond.arrayClass ty := List.forall_mem_cons.mpr ⟨good_of_word rfl, List.forall_mem_append.mpr ⟨fun w h => good_of_word (List.all_eq_true.mp (by decide +kernel) w h), fun _ h => nomatch h⟩⟩
set_option maxHeartbeats 40000000 in
set_option maxRecDepth 100000 in
theorem g_X3_isHead (l : Launch) (hlt : l.stackTraces = false) (dC : Nat → ClassId) (dI : Nat → Nat → Nat) (v0 : Int32) (v1 : Int32) (v2 : Int32) (sz : Nat) : Met l yX3_isHead ow_g_X3_isHead ({ frames := 0, cells := 0, slots := 0, locals := 0 }) (va_Pc [.int v0, .int v1, .int v2] (fun U => U.heap.size = sz ∧ va_P (dC, dI) vwCl [] U.heap ∧ va_K (dC, dI) vwCl [] U ∧ va_D (fun _ => True) [] ∧ nv_E (va_A [] sz) U)) (va_Qi (fun r _ => ((v0 = 0) ∧ r = 1) ∨ ((¬ v0 = 0) ∧ (v0 = 1) ∧ (8 < v1) ∧ r = 0) ∨ ((¬ v0 = 0) ∧ (v0 = 1) ∧ (¬ 8 < v1) ∧ r = 1) ∨ ((¬ v0 = 0) ∧ (¬ v0 = 1) ∧ (v0 = 2) ∧ r = 1) ∨ ((¬ v0 = 0) ∧ (¬ v0 = 1) ∧ (¬ v0 = 2) ∧ (v0 = 3) ∧ (1 < v1) ∧ r = 0) ∨ ((¬ v0 = 0) ∧ (¬ v0 = 1) ∧ (¬ v0 = 2) ∧ (v0 = 3) ∧ (¬ 1 < v1) ∧ r = 1) ∨ ((¬ v0 = 0) ∧ (¬ v0 = 1) ∧ (¬ v0 = 2) ∧ (¬ v0 = 3) ∧ (v0 = 4) ∧ (¬ v1 = 0) ∧ r = 0) ∨ ((¬ v0 = 0) ∧ (¬ v0 = 1) ∧ (¬ v0 = 2) ∧ (¬ v0 = 3) ∧ (v0 = 4) ∧ (v1 = 0) ∧ r = 1) ∨ ((¬ v0 = 0) ∧ (¬ v0 = 1) ∧ (¬ v0 = 2) ∧ (¬ v0 = 3) ∧ (¬ v0 = 4) ∧ (v0 = 5) ∧ (¬ v2 = 0) ∧ r = 0) ∨ ((¬ v0 = 0) ∧ (¬ v0 = 1) ∧ (¬ v0 = 2) ∧ (¬ v0 = 3) ∧ (¬ v0 = 4) ∧ (v0 = 5) ∧ (v2 = 0) ∧ r = 1) ∨ ((¬ v0 = 0) ∧ (¬ v0 = 1) ∧ (¬ v0 = 2) ∧ (¬ v0 = 3) ∧ (¬ v0 = 4) ∧ (¬ v0 = 5) ∧ r = 0) ∨ False) (fun (_ : Unit) t => va_P (dC, dI) vwCl [] t.heap ∧ va_K (dC, dI) vwCl [] t ∧ va_D (va_A [] sz) []) (va_A [] sz)) 0 0 (va_A [] sz) := by
  refine Met.ofW (cc := cX3_isHead) (maxL := 3) (ret := (some .boolean)) (by decide) rfl ?_
  intro p e s m args below meth c s₁ B hml hv
  obtain ⟨rfl, hsz, hP, hK, hD0, hN⟩ := hv
  have hx := B.exec
  have hb := B.bytes
  have hr := B.returns
  have hts := atoms_spec (ws := ow_g_X3_isHead) B.pre
  have hown : s.vm.findClass RX3 = some m.cls := findClass_of_methodNamed B.named
  have hlocks := B.notSynchronized
  subst hsz
  have hD := hD0.self (sz := s.heap.size)
  generalize hAe : va_A [] s.heap.size = A at hD hN ⊢
  have hA : ∀ q : Nat, s.heap.size ≤ q → A q := fun q h => by rw [← hAe]; exact Or.inr h
  have hS : va_S A s.heap s.heap [] := va_S.rf
  have hl := lv_entry ([.int v0, .int v1, .int v2]) (n := 3) (Nat.le_of_ble_eq_true rfl)
  rw [lg_entry_eq]
  generalize (lg_sl ([.int v0, .int v1, .int v2]) ++ List.replicate (3 - (lg_sl ([.int v0, .int v1, .int v2])).length) Slot.unset).toArray = ls at hl ⊢
  have hl : lv_has ls 3 [(0, .int v0), (1, .int v1), (2, .int v2)] := hl
  refine lv_iload_n hx hb dX3_isHead_0 rfl (lv_at hl 0 rfl) ?_
  by_cases c_1 : v0 = 0
  · refine lv_tableIn (off := 39) (tgt := 40) hx hb dX3_isHead_1 (by rw [c_1]; decide) (by rw [c_1]; decide) (by rw [c_1]; decide) (by decide) ?_
    refine lv_iconst (v := 1) hx hb dX3_isHead_40 (by decide) ?_
    refine W.widen (k := 0) (n := 0) (by decide +kernel) (by decide +kernel) ?_
    exact W.zret (v := 1) hx hb hr (by first | rfl | decide) (fun t ht hW => ⟨⟨1, (), rfl, Or.inl ⟨c_1, rfl⟩, by rw [ht]; exact hP, va_K.moved hW.alike hK, hD⟩, hS.F ht⟩) hS.2.2 dX3_isHead_41
  by_cases c_2 : v0 = 1
  · refine lv_tableIn (off := 41) (tgt := 42) hx hb dX3_isHead_1 (by rw [c_2]; decide) (by rw [c_2]; decide) (by rw [c_2]; decide) (by decide) ?_
    refine lv_iload_n hx hb dX3_isHead_42 rfl (lv_at hl 1 rfl) ?_
    refine lv_bipush (v := 8) hx hb dX3_isHead_43 (by decide) ?_
    refine lv_icmp_gt (tgt := 52) hx hb dX3_isHead_45 (by decide) (fun c_3 => ?_) (fun c_3 => ?_)
    · refine lv_iconst (v := 0) hx hb dX3_isHead_52 (by decide) ?_
      refine W.widen (k := 0) (n := 0) (by decide +kernel) (by decide +kernel) ?_
      exact W.zret (v := 0) hx hb hr (by first | rfl | decide) (fun t ht hW => ⟨⟨0, (), rfl, Or.inr (Or.inl ⟨c_1, c_2, c_3, rfl⟩), by rw [ht]; exact hP, va_K.moved hW.alike hK, hD⟩, hS.F ht⟩) hS.2.2 dX3_isHead_53
    · refine lv_iconst (v := 1) hx hb dX3_isHead_48 (by decide) ?_
      refine lv_goto (tgt := 53) hx hb dX3_isHead_49 (by decide) ?_
      refine W.widen (k := 0) (n := 0) (by decide +kernel) (by decide +kernel) ?_
      exact W.zret (v := 1) hx hb hr (by first | rfl | decide) (fun t ht hW => ⟨⟨1, (), rfl, Or.inr (Or.inr (Or.inl ⟨c_1, c_2, c_3, rfl⟩)), by rw [ht]; exact hP, va_K.moved hW.alike hK, hD⟩, hS.F ht⟩) hS.2.2 dX3_isHead_53
  by_cases c_4 : v0 = 2
  · refine lv_tableIn (off := 39) (tgt := 40) hx hb dX3_isHead_1 (by rw [c_4]; decide) (by rw [c_4]; decide) (by rw [c_4]; decide) (by decide) ?_
    refine lv_iconst (v := 1) hx hb dX3_isHead_40 (by decide) ?_
    refine W.widen (k := 0) (n := 0) (by decide +kernel) (by decide +kernel) ?_
    exact W.zret (v := 1) hx hb hr (by first | rfl | decide) (fun t ht hW => ⟨⟨1, (), rfl, Or.inr (Or.inr (Or.inr (Or.inl ⟨c_1, c_2, c_4, rfl⟩))), by rw [ht]; exact hP, va_K.moved hW.alike hK, hD⟩, hS.F ht⟩) hS.2.2 dX3_isHead_41
  by_cases c_5 : v0 = 3
  · refine lv_tableIn (off := 53) (tgt := 54) hx hb dX3_isHead_1 (by rw [c_5]; decide) (by rw [c_5]; decide) (by rw [c_5]; decide) (by decide) ?_
    refine lv_iload_n hx hb dX3_isHead_54 rfl (lv_at hl 1 rfl) ?_
    refine lv_iconst (v := 1) hx hb dX3_isHead_55 (by decide) ?_
    refine lv_icmp_gt (tgt := 63) hx hb dX3_isHead_56 (by decide) (fun c_6 => ?_) (fun c_6 => ?_)
    · refine lv_iconst (v := 0) hx hb dX3_isHead_63 (by decide) ?_
      refine W.widen (k := 0) (n := 0) (by decide +kernel) (by decide +kernel) ?_
      exact W.zret (v := 0) hx hb hr (by first | rfl | decide) (fun t ht hW => ⟨⟨0, (), rfl, Or.inr (Or.inr (Or.inr (Or.inr (Or.inl ⟨c_1, c_2, c_4, c_5, c_6, rfl⟩)))), by rw [ht]; exact hP, va_K.moved hW.alike hK, hD⟩, hS.F ht⟩) hS.2.2 dX3_isHead_64
    · refine lv_iconst (v := 1) hx hb dX3_isHead_59 (by decide) ?_
      refine lv_goto (tgt := 64) hx hb dX3_isHead_60 (by decide) ?_
      refine W.widen (k := 0) (n := 0) (by decide +kernel) (by decide +kernel) ?_
      exact W.zret (v := 1) hx hb hr (by first | rfl | decide) (fun t ht hW => ⟨⟨1, (), rfl, Or.inr (Or.inr (Or.inr (Or.inr (Or.inr (Or.inl ⟨c_1, c_2, c_4, c_5, c_6, rfl⟩))))), by rw [ht]; exact hP, va_K.moved hW.alike hK, hD⟩, hS.F ht⟩) hS.2.2 dX3_isHead_64
  by_cases c_7 : v0 = 4
  · refine lv_tableIn (off := 64) (tgt := 65) hx hb dX3_isHead_1 (by rw [c_7]; decide) (by rw [c_7]; decide) (by rw [c_7]; decide) (by decide) ?_
    refine lv_iload_n hx hb dX3_isHead_65 rfl (lv_at hl 1 rfl) ?_
    refine lv_if_ne (tgt := 73) hx hb dX3_isHead_66 (by decide) (fun c_8 => ?_) (fun c_8 => ?_)
    · refine lv_iconst (v := 0) hx hb dX3_isHead_73 (by decide) ?_
      refine W.widen (k := 0) (n := 0) (by decide +kernel) (by decide +kernel) ?_
      exact W.zret (v := 0) hx hb hr (by first | rfl | decide) (fun t ht hW => ⟨⟨0, (), rfl, Or.inr (Or.inr (Or.inr (Or.inr (Or.inr (Or.inr (Or.inl ⟨c_1, c_2, c_4, c_5, c_7, c_8, rfl⟩)))))), by rw [ht]; exact hP, va_K.moved hW.alike hK, hD⟩, hS.F ht⟩) hS.2.2 dX3_isHead_74
    · refine lv_iconst (v := 1) hx hb dX3_isHead_69 (by decide) ?_
      refine lv_goto (tgt := 74) hx hb dX3_isHead_70 (by decide) ?_
      refine W.widen (k := 0) (n := 0) (by decide +kernel) (by decide +kernel) ?_
      exact W.zret (v := 1) hx hb hr (by first | rfl | decide) (fun t ht hW => ⟨⟨1, (), rfl, Or.inr (Or.inr (Or.inr (Or.inr (Or.inr (Or.inr (Or.inr (Or.inl ⟨c_1, c_2, c_4, c_5, c_7, c_8, rfl⟩))))))), by rw [ht]; exact hP, va_K.moved hW.alike hK, hD⟩, hS.F ht⟩) hS.2.2 dX3_isHead_74
  by_cases c_9 : v0 = 5
  · refine lv_tableIn (off := 74) (tgt := 75) hx hb dX3_isHead_1 (by rw [c_9]; decide) (by rw [c_9]; decide) (by rw [c_9]; decide) (by decide) ?_
    refine lv_iload_n hx hb dX3_isHead_75 rfl (lv_at hl 2 rfl) ?_
    refine lv_if_ne (tgt := 83) hx hb dX3_isHead_76 (by decide) (fun c_10 => ?_) (fun c_10 => ?_)
    · refine lv_iconst (v := 0) hx hb dX3_isHead_83 (by decide) ?_
      refine W.widen (k := 0) (n := 0) (by decide +kernel) (by decide +kernel) ?_
      exact W.zret (v := 0) hx hb hr (by first | rfl | decide) (fun t ht hW => ⟨⟨0, (), rfl, Or.inr (Or.inr (Or.inr (Or.inr (Or.inr (Or.inr (Or.inr (Or.inr (Or.inl ⟨c_1, c_2, c_4, c_5, c_7, c_9, c_10, rfl⟩)))))))), by rw [ht]; exact hP, va_K.moved hW.alike hK, hD⟩, hS.F ht⟩) hS.2.2 dX3_isHead_84
    · refine lv_iconst (v := 1) hx hb dX3_isHead_79 (by decide) ?_
      refine lv_goto (tgt := 84) hx hb dX3_isHead_80 (by decide) ?_
      refine W.widen (k := 0) (n := 0) (by decide +kernel) (by decide +kernel) ?_
      exact W.zret (v := 1) hx hb hr (by first | rfl | decide) (fun t ht hW => ⟨⟨1, (), rfl, Or.inr (Or.inr (Or.inr (Or.inr (Or.inr (Or.inr (Or.inr (Or.inr (Or.inr (Or.inl ⟨c_1, c_2, c_4, c_5, c_7, c_9, c_10, rfl⟩))))))))), by rw [ht]; exact hP, va_K.moved hW.alike hK, hD⟩, hS.F ht⟩) hS.2.2 dX3_isHead_84
  refine lv_tableOut (tgt := 85) hx hb dX3_isHead_1 (by have g0 := nv_nei c_1 (k := 0) (by decide); have g1 := nv_nei c_2 (k := 1) (by decide); have g2 := nv_nei c_4 (k := 2) (by decide); have g3 := nv_nei c_5 (k := 3) (by decide); have g4 := nv_nei c_7 (k := 4) (by decide); have g5 := nv_nei c_9 (k := 5) (by decide); omega) (by decide) ?_
  refine lv_iconst (v := 0) hx hb dX3_isHead_85 (by decide) ?_
  refine W.widen (k := 0) (n := 0) (by decide +kernel) (by decide +kernel) ?_
  exact W.zret (v := 0) hx hb hr (by first | rfl | decide) (fun t ht hW => ⟨⟨0, (), rfl, Or.inr (Or.inr (Or.inr (Or.inr (Or.inr (Or.inr (Or.inr (Or.inr (Or.inr (Or.inr (Or.inl ⟨c_1, c_2, c_4, c_5, c_7, c_9, rfl⟩)))))))))), by rw [ht]; exact hP, va_K.moved hW.alike hK, hD⟩, hS.F ht⟩) hS.2.2 dX3_isHead_86
def ow_g_X4_jumpOffset : List Cond := .code yX4_jumpOffset cX4_jumpOffset 1 (some .int) :: ([.constant RX4 88 (1044480)] ++ [])
theorem gd_g_X4_jumpOffset : ∀ w ∈ ow_g_X4_jumpOffset, (w.onTables && w.keeps) = true ∨ ∃ ty, w = Cond.arrayClass ty := List.forall_mem_cons.mpr ⟨good_of_word rfl, List.forall_mem_append.mpr ⟨fun w h => good_of_word (List.all_eq_true.mp (by decide +kernel) w h), fun _ h => nomatch h⟩⟩
set_option maxHeartbeats 40000000 in
set_option maxRecDepth 100000 in
theorem g_X4_jumpOffset (l : Launch) (hlt : l.stackTraces = false) (dC : Nat → ClassId) (dI : Nat → Nat → Nat) (v0 : Int32) (sz : Nat) : Met l yX4_jumpOffset ow_g_X4_jumpOffset ({ frames := 0, cells := 0, slots := 0, locals := 0 }) (va_Pc [.int v0] (fun U => U.heap.size = sz ∧ va_P (dC, dI) vwCl [] U.heap ∧ va_K (dC, dI) vwCl [] U ∧ va_D (fun _ => True) [] ∧ nv_E (va_A [] sz) U)) (va_Qi (fun r _ => (r = (((((((v0 : Int32) >>> ((31 : Int32) &&& 31)) : Int32) <<< ((20 : Int32) &&& 31)) ||| (v0 &&& 1044480)) ||| (((v0 : Int32) >>> ((9 : Int32) &&& 31)) &&& 2048)) ||| (((v0 : Int32) >>> ((20 : Int32) &&& 31)) &&& 2046))) ∨ False) (fun (_ : Unit) t => va_P (dC, dI) vwCl [] t.heap ∧ va_K (dC, dI) vwCl [] t ∧ va_D (va_A [] sz) []) (va_A [] sz)) 0 0 (va_A [] sz) := by
  refine Met.ofW (cc := cX4_jumpOffset) (maxL := 1) (ret := (some .int)) (by decide) rfl ?_
  intro p e s m args below meth c s₁ B hml hv
  obtain ⟨rfl, hsz, hP, hK, hD0, hN⟩ := hv
  have hx := B.exec
  have hb := B.bytes
  have hr := B.returns
  have hts := atoms_spec (ws := ow_g_X4_jumpOffset) B.pre
  have hown : s.vm.findClass RX4 = some m.cls := findClass_of_methodNamed B.named
  have hlocks := B.notSynchronized
  subst hsz
  have hD := hD0.self (sz := s.heap.size)
  generalize hAe : va_A [] s.heap.size = A at hD hN ⊢
  have hA : ∀ q : Nat, s.heap.size ≤ q → A q := fun q h => by rw [← hAe]; exact Or.inr h
  have hS : va_S A s.heap s.heap [] := va_S.rf
  have hl := lv_entry ([.int v0]) (n := 1) (Nat.le_of_ble_eq_true rfl)
  rw [lg_entry_eq]
  generalize (lg_sl ([.int v0]) ++ List.replicate (1 - (lg_sl ([.int v0])).length) Slot.unset).toArray = ls at hl ⊢
  have hl : lv_has ls 1 [(0, .int v0)] := hl
  refine lv_iload_n hx hb dX4_jumpOffset_0 rfl (lv_at hl 0 rfl) ?_
  refine lv_bipush (v := 31) hx hb dX4_jumpOffset_1 (by decide) ?_
  refine lv_ishr hx hb dX4_jumpOffset_3 ?_
  refine lv_bipush (v := 20) hx hb dX4_jumpOffset_4 (by decide) ?_
  refine lv_ishl hx hb dX4_jumpOffset_6 ?_
  refine lv_iload_n hx hb dX4_jumpOffset_7 rfl (lv_at hl 0 rfl) ?_
  refine lv_ldc hx hb hown (hts (.constant RX4 88 (1044480)) (List.mem_of_getElem? (i := 1) rfl)) dX4_jumpOffset_8 ?_
  refine lv_iand hx hb dX4_jumpOffset_10 ?_
  refine lv_ior hx hb dX4_jumpOffset_11 ?_
  refine lv_iload_n hx hb dX4_jumpOffset_12 rfl (lv_at hl 0 rfl) ?_
  refine lv_bipush (v := 9) hx hb dX4_jumpOffset_13 (by decide) ?_
  refine lv_ishr hx hb dX4_jumpOffset_15 ?_
  refine lv_sipush (v := 2048) hx hb dX4_jumpOffset_16 (by decide) ?_
  refine lv_iand hx hb dX4_jumpOffset_19 ?_
  refine lv_ior hx hb dX4_jumpOffset_20 ?_
  refine lv_iload_n hx hb dX4_jumpOffset_21 rfl (lv_at hl 0 rfl) ?_
  refine lv_bipush (v := 20) hx hb dX4_jumpOffset_22 (by decide) ?_
  refine lv_ishr hx hb dX4_jumpOffset_24 ?_
  refine lv_sipush (v := 2046) hx hb dX4_jumpOffset_25 (by decide) ?_
  refine lv_iand hx hb dX4_jumpOffset_28 ?_
  refine lv_ior hx hb dX4_jumpOffset_29 ?_
  refine W.widen (k := 0) (n := 0) (by decide +kernel) (by decide +kernel) ?_
  exact W.iret (v := (((((((v0 : Int32) >>> ((31 : Int32) &&& 31)) : Int32) <<< ((20 : Int32) &&& 31)) ||| (v0 &&& 1044480)) ||| (((v0 : Int32) >>> ((9 : Int32) &&& 31)) &&& 2048)) ||| (((v0 : Int32) >>> ((20 : Int32) &&& 31)) &&& 2046))) hx hb hr (fun t ht hW => ⟨⟨(((((((v0 : Int32) >>> ((31 : Int32) &&& 31)) : Int32) <<< ((20 : Int32) &&& 31)) ||| (v0 &&& 1044480)) ||| (((v0 : Int32) >>> ((9 : Int32) &&& 31)) &&& 2048)) ||| (((v0 : Int32) >>> ((20 : Int32) &&& 31)) &&& 2046)), (), rfl, Or.inl rfl, by rw [ht]; exact hP, va_K.moved hW.alike hK, hD⟩, hS.F ht⟩) hS.2.2 dX4_jumpOffset_30
def ow_k_J6_compare_7cf53 : List Cond := .code yJ6_compare_7cf53 cJ6_compare_7cf53 2 (some .int) :: ([] ++ [])
theorem gd_k_J6_compare_7cf53 : ∀ w ∈ ow_k_J6_compare_7cf53, (w.onTables && w.keeps) = true ∨ ∃ ty, w = Cond.arrayClass ty := List.forall_mem_cons.mpr ⟨good_of_word rfl, List.forall_mem_append.mpr ⟨fun w h => good_of_word (List.all_eq_true.mp (by decide +kernel) w h), fun _ h => nomatch h⟩⟩
set_option maxHeartbeats 40000000 in
set_option maxRecDepth 100000 in
theorem k_J6_compare_7cf53 (l : Launch) (hlt : l.stackTraces = false) (dC : Nat → ClassId) (dI : Nat → Nat → Nat) (c0 : Int32) (c1 : Int32) (sz : Nat) : Met l yJ6_compare_7cf53 ow_k_J6_compare_7cf53 ({ frames := 0, cells := 0, slots := 0, locals := 0 }) (va_Pc [.int c0, .int c1] (fun U => U.heap.size = sz ∧ va_P (dC, dI) vwCl [] U.heap ∧ va_K (dC, dI) vwCl [] U ∧ va_D (fun _ => True) [] ∧ nv_E (va_A [] sz) U)) (va_Qi (fun r _ => ((c1 ≤ c0) ∧ (¬ c0 = c1) ∧ r = 1) ∨ ((c1 ≤ c0) ∧ (c0 = c1) ∧ r = 0) ∨ ((¬ c1 ≤ c0) ∧ r = (-1)) ∨ False) (fun (_ : Unit) t => va_P (dC, dI) vwCl [] t.heap ∧ va_K (dC, dI) vwCl [] t ∧ va_D (va_A [] sz) []) (va_A [] sz)) 0 0 (va_A [] sz) := by
  refine Met.ofW (cc := cJ6_compare_7cf53) (maxL := 2) (ret := (some .int)) (by decide) rfl ?_
  intro p e s m args below meth c s₁ B hml hv
  obtain ⟨rfl, hsz, hP, hK, hD0, hN⟩ := hv
  have hx := B.exec
  have hb := B.bytes
  have hr := B.returns
  have hts := atoms_spec (ws := ow_k_J6_compare_7cf53) B.pre
  have hown : s.vm.findClass RJ6 = some m.cls := findClass_of_methodNamed B.named
  have hlocks := B.notSynchronized
  subst hsz
  have hD := hD0.self (sz := s.heap.size)
  generalize hAe : va_A [] s.heap.size = A at hD hN ⊢
  have hA : ∀ q : Nat, s.heap.size ≤ q → A q := fun q h => by rw [← hAe]; exact Or.inr h
  have hS : va_S A s.heap s.heap [] := va_S.rf
  have hl := lv_entry ([.int c0, .int c1]) (n := 2) (Nat.le_of_ble_eq_true rfl)
  rw [lg_entry_eq]
  generalize (lg_sl ([.int c0, .int c1]) ++ List.replicate (2 - (lg_sl ([.int c0, .int c1])).length) Slot.unset).toArray = ls at hl ⊢
  have hl : lv_has ls 2 [(0, .int c0), (1, .int c1)] := hl
  refine lv_iload_n hx hb dJ6_compare_7cf53_0 rfl (lv_at hl 0 rfl) ?_
  refine lv_iload_n hx hb dJ6_compare_7cf53_1 rfl (lv_at hl 1 rfl) ?_
  refine lv_icmp_ge (tgt := 9) hx hb dJ6_compare_7cf53_2 (by decide) (fun c_1 => ?_) (fun c_1 => ?_)
  · refine lv_iload_n hx hb dJ6_compare_7cf53_9 rfl (lv_at hl 0 rfl) ?_
    refine lv_iload_n hx hb dJ6_compare_7cf53_10 rfl (lv_at hl 1 rfl) ?_
    refine lv_icmp_ne (tgt := 18) hx hb dJ6_compare_7cf53_11 (by decide) (fun c_2 => ?_) (fun c_2 => ?_)
    · refine lv_iconst (v := 1) hx hb dJ6_compare_7cf53_18 (by decide) ?_
      refine W.widen (k := 0) (n := 0) (by decide +kernel) (by decide +kernel) ?_
      exact W.iret (v := 1) hx hb hr (fun t ht hW => ⟨⟨1, (), rfl, Or.inl ⟨c_1, c_2, rfl⟩, by rw [ht]; exact hP, va_K.moved hW.alike hK, hD⟩, hS.F ht⟩) hS.2.2 dJ6_compare_7cf53_19
    · refine lv_iconst (v := 0) hx hb dJ6_compare_7cf53_14 (by decide) ?_
      refine lv_goto (tgt := 19) hx hb dJ6_compare_7cf53_15 (by decide) ?_
      refine W.widen (k := 0) (n := 0) (by decide +kernel) (by decide +kernel) ?_
      exact W.iret (v := 0) hx hb hr (fun t ht hW => ⟨⟨0, (), rfl, Or.inr (Or.inl ⟨c_1, c_2, rfl⟩), by rw [ht]; exact hP, va_K.moved hW.alike hK, hD⟩, hS.F ht⟩) hS.2.2 dJ6_compare_7cf53_19
  · refine lv_iconst (v := (-1)) hx hb dJ6_compare_7cf53_5 (by decide) ?_
    refine lv_goto (tgt := 19) hx hb dJ6_compare_7cf53_6 (by decide) ?_
    refine W.widen (k := 0) (n := 0) (by decide +kernel) (by decide +kernel) ?_
    exact W.iret (v := (-1)) hx hb hr (fun t ht hW => ⟨⟨(-1), (), rfl, Or.inr (Or.inr (Or.inl ⟨c_1, rfl⟩)), by rw [ht]; exact hP, va_K.moved hW.alike hK, hD⟩, hS.F ht⟩) hS.2.2 dJ6_compare_7cf53_19
def ow_k_J6_compareUnsigned_7cf53 : List Cond := .code yJ6_compareUnsigned_7cf53 cJ6_compareUnsigned_7cf53 2 (some .int) :: ([.constant RJ6 127 (-2147483648), .methodLink RJ6 259 yJ6_compare_7cf53, .static yJ6_compare_7cf53, .initialized RJ6] ++ (ow_k_J6_compare_7cf53 ++ []))
theorem gd_k_J6_compareUnsigned_7cf53 : ∀ w ∈ ow_k_J6_compareUnsigned_7cf53, (w.onTables && w.keeps) = true ∨ ∃ ty, w = Cond.arrayClass ty := List.forall_mem_cons.mpr ⟨good_of_word rfl, List.forall_mem_append.mpr ⟨fun w h => good_of_word (List.all_eq_true.mp (by decide +kernel) w h), List.forall_mem_append.mpr ⟨gd_k_J6_compare_7cf53, fun _ h => nomatch h⟩⟩⟩
theorem gi_k_J6_compareUnsigned_7cf53_0 : GoodIn ow_k_J6_compareUnsigned_7cf53 (wsS RJ6 259 yJ6_compare_7cf53 ow_k_J6_compare_7cf53) := goodIn_app (goodIn_of _ (by decide +kernel)) (fun w h => ⟨List.mem_cons_of_mem _ (List.mem_append_right _ (List.mem_append_left _ h)), gd_k_J6_compare_7cf53 w h⟩)
set_option maxHeartbeats 40000000 in
set_option maxRecDepth 100000 in
theorem k_J6_compareUnsigned_7cf53 (l : Launch) (hlt : l.stackTraces = false) (dC : Nat → ClassId) (dI : Nat → Nat → Nat) (c0 : Int32) (c1 : Int32) (sz : Nat) : Met l yJ6_compareUnsigned_7cf53 ow_k_J6_compareUnsigned_7cf53 ({ frames := 1, cells := 0, slots := 0, locals := 21 }) (va_Pc [.int c0, .int c1] (fun U => U.heap.size = sz ∧ va_P (dC, dI) vwCl [] U.heap ∧ va_K (dC, dI) vwCl [] U ∧ va_D (fun _ => True) [] ∧ nv_E (va_A [] sz) U)) (va_Qi (fun r _ => (((c1 + (-2147483648)) ≤ (c0 + (-2147483648))) ∧ (¬ (c0 + (-2147483648)) = (c1 + (-2147483648))) ∧ r = 1) ∨ (((c1 + (-2147483648)) ≤ (c0 + (-2147483648))) ∧ ((c0 + (-2147483648)) = (c1 + (-2147483648))) ∧ r = 0) ∨ ((¬ (c1 + (-2147483648)) ≤ (c0 + (-2147483648))) ∧ r = (-1)) ∨ False) (fun (_ : Unit) t => va_P (dC, dI) vwCl [] t.heap ∧ va_K (dC, dI) vwCl [] t ∧ va_D (va_A [] sz) []) (va_A [] sz)) 0 0 (va_A [] sz) := by
  refine Met.ofW (cc := cJ6_compareUnsigned_7cf53) (maxL := 2) (ret := (some .int)) (by decide) rfl ?_
  intro p e s m args below meth c s₁ B hml hv
  obtain ⟨rfl, hsz, hP, hK, hD0, hN⟩ := hv
  have hx := B.exec
  have hb := B.bytes
  have hr := B.returns
  have hts := atoms_spec (ws := ow_k_J6_compareUnsigned_7cf53) B.pre
  have hown : s.vm.findClass RJ6 = some m.cls := findClass_of_methodNamed B.named
  have hlocks := B.notSynchronized
  subst hsz
  have hD := hD0.self (sz := s.heap.size)
  generalize hAe : va_A [] s.heap.size = A at hD hN ⊢
  have hA : ∀ q : Nat, s.heap.size ≤ q → A q := fun q h => by rw [← hAe]; exact Or.inr h
  have hS : va_S A s.heap s.heap [] := va_S.rf
  have hl := lv_entry ([.int c0, .int c1]) (n := 2) (Nat.le_of_ble_eq_true rfl)
  rw [lg_entry_eq]
  generalize (lg_sl ([.int c0, .int c1]) ++ List.replicate (2 - (lg_sl ([.int c0, .int c1])).length) Slot.unset).toArray = ls at hl ⊢
  have hl : lv_has ls 2 [(0, .int c0), (1, .int c1)] := hl
  refine lv_iload_n hx hb dJ6_compareUnsigned_7cf53_0 rfl (lv_at hl 0 rfl) ?_
  refine lv_ldc hx hb hown (hts (.constant RJ6 127 (-2147483648)) (List.mem_of_getElem? (i := 1) rfl)) dJ6_compareUnsigned_7cf53_1 ?_
  refine lv_iadd hx hb dJ6_compareUnsigned_7cf53_3 ?_
  refine lv_iload_n hx hb dJ6_compareUnsigned_7cf53_4 rfl (lv_at hl 1 rfl) ?_
  refine lv_ldc hx hb hown (hts (.constant RJ6 127 (-2147483648)) (List.mem_of_getElem? (i := 1) rfl)) dJ6_compareUnsigned_7cf53_5 ?_
  refine lv_iadd hx hb dJ6_compareUnsigned_7cf53_7 ?_
  have hPc := hP.sub (ws' := []) [] rfl
  have hDc := hD.sub (ws' := []) [] (by decide) rfl
  have hKc := hK.sub (tys' := []) [] rfl
  have hFc := va_free (wc := []) hD hS hA [] rfl
  refine va_calli (va_runS (As := [.int (c0 + (-2147483648)), .int (c1 + (-2147483648))]) (rest := []) ⟨hx, hb, hml, hown, hts⟩ (k_J6_compare_7cf53 l hlt dC dI (c0 + (-2147483648)) (c1 + (-2147483648))  s.heap.size) (cwS 2 hts gi_k_J6_compareUnsigned_7cf53_0 rfl rfl rfl (by decide +kernel) ⟨Nat.le_of_ble_eq_true rfl, Nat.le_of_ble_eq_true rfl⟩) ⟨fun a U g mk q => by obtain ⟨q0, q1, qP, qK, qD, qN⟩ := q; exact ⟨q0, q1, qP, va_K.moved (u := U) (U := U.calling g mk a) (Vm.Alike.refl U.vm) qK, qD, nv_same rfl rfl qN⟩, fun U hU hW => ⟨rfl, by rw [hU], by rw [hU]; exact hPc, va_K.moved hW.alike hKc, hDc.weaken (fun _ _ _ _ => trivial), nv_call hS hFc hU hW hN⟩⟩ rfl rfl hl.1 rfl (lv_room (Nat.le_of_ble_eq_true rfl)) dJ6_compareUnsigned_7cf53_8 ⟨by decide +kernel, by decide +kernel⟩) hS (fun q _ h => hFc q h) hFc (fun r3 u t H1 locs ht hvm hw hB hz1 hk1 hS => ?_)
  obtain ⟨hP1, hK1, hD1⟩ := hB
  rw [ht] at hP1
  have hK1 := va_K.moved hvm.symm hK1
  obtain ⟨hP, hD⟩ := va_join (wr := []) (w1 := []) hP hD [] [] rfl rfl (by decide) (by decide) hk1 hFc hP1 hD1
  have hK := (hK.sub (tys' := []) [] rfl).app hK1
  generalize H1 = H at hP hS ⊢
  have hP : va_P (dC, dI) vwCl [] H := hP
  have hD : va_D A [] := hD
  have hK : va_K (dC, dI) vwCl [] s := hK
  refine W.widen (k := 0) (n := 0) (by decide +kernel) (by decide +kernel) ?_
  rcases hw with ⟨c_1_0, c_1_1, h9⟩ | ⟨c_1_0, c_1_1, h9⟩ | ⟨c_1_0, h9⟩ | h9
  · subst h9
    refine W.widen (k := 0) (n := 0) (by decide +kernel) (by decide +kernel) ?_
    exact W.iret (v := 1) hx hb hr (fun t ht hW => ⟨⟨1, (), rfl, Or.inl ⟨c_1_0, c_1_1, rfl⟩, by rw [ht]; exact hP, va_K.moved hW.alike hK, hD⟩, hS.F ht⟩) hS.2.2 dJ6_compareUnsigned_7cf53_11
  · subst h9
    refine W.widen (k := 0) (n := 0) (by decide +kernel) (by decide +kernel) ?_
    exact W.iret (v := 0) hx hb hr (fun t ht hW => ⟨⟨0, (), rfl, Or.inr (Or.inl ⟨c_1_0, c_1_1, rfl⟩), by rw [ht]; exact hP, va_K.moved hW.alike hK, hD⟩, hS.F ht⟩) hS.2.2 dJ6_compareUnsigned_7cf53_11
  · subst h9
    refine W.widen (k := 0) (n := 0) (by decide +kernel) (by decide +kernel) ?_
    exact W.iret (v := (-1)) hx hb hr (fun t ht hW => ⟨⟨(-1), (), rfl, Or.inr (Or.inr (Or.inl ⟨c_1_0, rfl⟩)), by rw [ht]; exact hP, va_K.moved hW.alike hK, hD⟩, hS.F ht⟩) hS.2.2 dJ6_compareUnsigned_7cf53_11
  · exact h9.elim
def ow_g_X4_reckoned : List Cond := .code yX4_reckoned cX4_reckoned 3 (some .int) :: ([.methodLink RX4 89 yJ6_compareUnsigned_7cf53, .static yJ6_compareUnsigned_7cf53, .initialized RJ6] ++ (ow_k_J6_compareUnsigned_7cf53 ++ []))
theorem gd_g_X4_reckoned : ∀ w ∈ ow_g_X4_reckoned, (w.onTables && w.keeps) = true ∨ ∃ ty, w = Cond.arrayClass ty := List.forall_mem_cons.mpr ⟨good_of_word rfl, List.forall_mem_append.mpr ⟨fun w h => good_of_word (List.all_eq_true.mp (by decide +kernel) w h), List.forall_mem_append.mpr ⟨gd_k_J6_compareUnsigned_7cf53, fun _ h => nomatch h⟩⟩⟩
theorem gi_g_X4_reckoned_0 : GoodIn ow_g_X4_reckoned (va_wsS RX4 89 yJ6_compareUnsigned_7cf53 ow_k_J6_compareUnsigned_7cf53) := goodIn_app (goodIn_of _ (by decide +kernel)) (fun w h => ⟨List.mem_cons_of_mem _ (List.mem_append_right _ (List.mem_append_left _ h)), gd_k_J6_compareUnsigned_7cf53 w h⟩)
set_option maxHeartbeats 40000000 in
set_option maxRecDepth 100000 in
theorem g_X4_reckoned (l : Launch) (hlt : l.stackTraces = false) (dC : Nat → ClassId) (dI : Nat → Nat → Nat) (v0 : Int32) (v1 : Int32) (v2 : Int32) (sz : Nat) : Met l yX4_reckoned ow_g_X4_reckoned ({ frames := 2, cells := 0, slots := 0, locals := 42 }) (va_Pc [.int v0, .int v1, .int v2] (fun U => U.heap.size = sz ∧ va_P (dC, dI) vwCl [] U.heap ∧ va_K (dC, dI) vwCl [] U ∧ va_D (fun _ => True) [] ∧ nv_E (va_A [] sz) U)) (va_Qi (fun r _ => ((v0 = 0) ∧ r = (v1 + v2)) ∨ ((¬ v0 = 0) ∧ (v0 = 1) ∧ r = ((v1 : Int32) <<< (((v2 &&& 31) : Int32) &&& 31))) ∨ ((¬ v0 = 0) ∧ (¬ v0 = 1) ∧ (v0 = 2) ∧ (v2 ≤ v1) ∧ r = 0) ∨ ((¬ v0 = 0) ∧ (¬ v0 = 1) ∧ (v0 = 2) ∧ (¬ v2 ≤ v1) ∧ r = 1) ∨ ((¬ v0 = 0) ∧ (¬ v0 = 1) ∧ (¬ v0 = 2) ∧ (v0 = 3) ∧ ((v2 + (-2147483648)) ≤ (v1 + (-2147483648))) ∧ (¬ (v1 + (-2147483648)) = (v2 + (-2147483648))) ∧ r = 0) ∨ ((¬ v0 = 0) ∧ (¬ v0 = 1) ∧ (¬ v0 = 2) ∧ (v0 = 3) ∧ ((v2 + (-2147483648)) ≤ (v1 + (-2147483648))) ∧ ((v1 + (-2147483648)) = (v2 + (-2147483648))) ∧ r = 0) ∨ ((¬ v0 = 0) ∧ (¬ v0 = 1) ∧ (¬ v0 = 2) ∧ (v0 = 3) ∧ (¬ (v2 + (-2147483648)) ≤ (v1 + (-2147483648))) ∧ r = 1) ∨ ((¬ v0 = 0) ∧ (¬ v0 = 1) ∧ (¬ v0 = 2) ∧ (¬ v0 = 3) ∧ (v0 = 4) ∧ r = (v1 ^^^ v2)) ∨ ((¬ v0 = 0) ∧ (¬ v0 = 1) ∧ (¬ v0 = 2) ∧ (¬ v0 = 3) ∧ (¬ v0 = 4) ∧ (v0 = 5) ∧ r = (((v1 : Int32).toUInt32 >>> (((v2 &&& 31) : Int32).toUInt32 &&& Int32.toUInt32 31)).toInt32)) ∨ ((¬ v0 = 0) ∧ (¬ v0 = 1) ∧ (¬ v0 = 2) ∧ (¬ v0 = 3) ∧ (¬ v0 = 4) ∧ (¬ v0 = 5) ∧ (v0 = 6) ∧ r = (v1 ||| v2)) ∨ ((¬ v0 = 0) ∧ (¬ v0 = 1) ∧ (¬ v0 = 2) ∧ (¬ v0 = 3) ∧ (¬ v0 = 4) ∧ (¬ v0 = 5) ∧ (¬ v0 = 6) ∧ r = (v1 &&& v2)) ∨ False) (fun (_ : Unit) t => va_P (dC, dI) vwCl [] t.heap ∧ va_K (dC, dI) vwCl [] t ∧ va_D (va_A [] sz) []) (va_A [] sz)) 0 0 (va_A [] sz) := by
  refine Met.ofW (cc := cX4_reckoned) (maxL := 3) (ret := (some .int)) (by decide) rfl ?_
  intro p e s m args below meth c s₁ B hml hv
  obtain ⟨rfl, hsz, hP, hK, hD0, hN⟩ := hv
  have hx := B.exec
  have hb := B.bytes
  have hr := B.returns
  have hts := atoms_spec (ws := ow_g_X4_reckoned) B.pre
  have hown : s.vm.findClass RX4 = some m.cls := findClass_of_methodNamed B.named
  have hlocks := B.notSynchronized
  subst hsz
  have hD := hD0.self (sz := s.heap.size)
  generalize hAe : va_A [] s.heap.size = A at hD hN ⊢
  have hA : ∀ q : Nat, s.heap.size ≤ q → A q := fun q h => by rw [← hAe]; exact Or.inr h
  have hS : va_S A s.heap s.heap [] := va_S.rf
  have hl := lv_entry ([.int v0, .int v1, .int v2]) (n := 3) (Nat.le_of_ble_eq_true rfl)
  rw [lg_entry_eq]
  generalize (lg_sl ([.int v0, .int v1, .int v2]) ++ List.replicate (3 - (lg_sl ([.int v0, .int v1, .int v2])).length) Slot.unset).toArray = ls at hl ⊢
  have hl : lv_has ls 3 [(0, .int v0), (1, .int v1), (2, .int v2)] := hl
  refine lv_iload_n hx hb dX4_reckoned_0 rfl (lv_at hl 0 rfl) ?_
  by_cases c_1 : v0 = 0
  · refine lv_tableIn (off := 43) (tgt := 44) hx hb dX4_reckoned_1 (by rw [c_1]; decide) (by rw [c_1]; decide) (by rw [c_1]; decide) (by decide) ?_
    refine lv_iload_n hx hb dX4_reckoned_44 rfl (lv_at hl 1 rfl) ?_
    refine lv_iload_n hx hb dX4_reckoned_45 rfl (lv_at hl 2 rfl) ?_
    refine lv_iadd hx hb dX4_reckoned_46 ?_
    refine W.widen (k := 0) (n := 0) (by decide +kernel) (by decide +kernel) ?_
    exact W.iret (v := (v1 + v2)) hx hb hr (fun t ht hW => ⟨⟨(v1 + v2), (), rfl, Or.inl ⟨c_1, rfl⟩, by rw [ht]; exact hP, va_K.moved hW.alike hK, hD⟩, hS.F ht⟩) hS.2.2 dX4_reckoned_47
  by_cases c_2 : v0 = 1
  · refine lv_tableIn (off := 47) (tgt := 48) hx hb dX4_reckoned_1 (by rw [c_2]; decide) (by rw [c_2]; decide) (by rw [c_2]; decide) (by decide) ?_
    refine lv_iload_n hx hb dX4_reckoned_48 rfl (lv_at hl 1 rfl) ?_
    refine lv_iload_n hx hb dX4_reckoned_49 rfl (lv_at hl 2 rfl) ?_
    refine lv_bipush (v := 31) hx hb dX4_reckoned_50 (by decide) ?_
    refine lv_iand hx hb dX4_reckoned_52 ?_
    refine lv_ishl hx hb dX4_reckoned_53 ?_
    refine W.widen (k := 0) (n := 0) (by decide +kernel) (by decide +kernel) ?_
    exact W.iret (v := ((v1 : Int32) <<< (((v2 &&& 31) : Int32) &&& 31))) hx hb hr (fun t ht hW => ⟨⟨((v1 : Int32) <<< (((v2 &&& 31) : Int32) &&& 31)), (), rfl, Or.inr (Or.inl ⟨c_1, c_2, rfl⟩), by rw [ht]; exact hP, va_K.moved hW.alike hK, hD⟩, hS.F ht⟩) hS.2.2 dX4_reckoned_54
  by_cases c_3 : v0 = 2
  · refine lv_tableIn (off := 54) (tgt := 55) hx hb dX4_reckoned_1 (by rw [c_3]; decide) (by rw [c_3]; decide) (by rw [c_3]; decide) (by decide) ?_
    refine lv_iload_n hx hb dX4_reckoned_55 rfl (lv_at hl 1 rfl) ?_
    refine lv_iload_n hx hb dX4_reckoned_56 rfl (lv_at hl 2 rfl) ?_
    refine lv_icmp_ge (tgt := 64) hx hb dX4_reckoned_57 (by decide) (fun c_4 => ?_) (fun c_4 => ?_)
    · refine lv_iconst (v := 0) hx hb dX4_reckoned_64 (by decide) ?_
      refine W.widen (k := 0) (n := 0) (by decide +kernel) (by decide +kernel) ?_
      exact W.iret (v := 0) hx hb hr (fun t ht hW => ⟨⟨0, (), rfl, Or.inr (Or.inr (Or.inl ⟨c_1, c_2, c_3, c_4, rfl⟩)), by rw [ht]; exact hP, va_K.moved hW.alike hK, hD⟩, hS.F ht⟩) hS.2.2 dX4_reckoned_65
    · refine lv_iconst (v := 1) hx hb dX4_reckoned_60 (by decide) ?_
      refine lv_goto (tgt := 65) hx hb dX4_reckoned_61 (by decide) ?_
      refine W.widen (k := 0) (n := 0) (by decide +kernel) (by decide +kernel) ?_
      exact W.iret (v := 1) hx hb hr (fun t ht hW => ⟨⟨1, (), rfl, Or.inr (Or.inr (Or.inr (Or.inl ⟨c_1, c_2, c_3, c_4, rfl⟩))), by rw [ht]; exact hP, va_K.moved hW.alike hK, hD⟩, hS.F ht⟩) hS.2.2 dX4_reckoned_65
  by_cases c_5 : v0 = 3
  · refine lv_tableIn (off := 65) (tgt := 66) hx hb dX4_reckoned_1 (by rw [c_5]; decide) (by rw [c_5]; decide) (by rw [c_5]; decide) (by decide) ?_
    refine lv_iload_n hx hb dX4_reckoned_66 rfl (lv_at hl 1 rfl) ?_
    refine lv_iload_n hx hb dX4_reckoned_67 rfl (lv_at hl 2 rfl) ?_
    have hPc := hP.sub (ws' := []) [] rfl
    have hDc := hD.sub (ws' := []) [] (by decide) rfl
    have hKc := hK.sub (tys' := []) [] rfl
    have hFc := va_free (wc := []) hD hS hA [] rfl
    refine va_calli (va_runS (As := [.int v1, .int v2]) (rest := []) ⟨hx, hb, hml, hown, hts⟩ (k_J6_compareUnsigned_7cf53 l hlt dC dI v1 v2  s.heap.size) (va_cwS 2 hts gi_g_X4_reckoned_0 rfl rfl rfl (by decide +kernel) ⟨Nat.le_of_ble_eq_true rfl, Nat.le_of_ble_eq_true rfl⟩) ⟨fun a U g mk q => by obtain ⟨q0, q1, qP, qK, qD, qN⟩ := q; exact ⟨q0, q1, qP, va_K.moved (u := U) (U := U.calling g mk a) (Vm.Alike.refl U.vm) qK, qD, nv_same rfl rfl qN⟩, fun U hU hW => ⟨rfl, by rw [hU], by rw [hU]; exact hPc, va_K.moved hW.alike hKc, hDc.weaken (fun _ _ _ _ => trivial), nv_call hS hFc hU hW hN⟩⟩ rfl rfl hl.1 rfl (lv_room (Nat.le_of_ble_eq_true rfl)) dX4_reckoned_68 ⟨by decide +kernel, by decide +kernel⟩) hS (fun q _ h => hFc q h) hFc (fun r1 u t H1 locs ht hvm hw hB hz1 hk1 hS => ?_)
    obtain ⟨hP1, hK1, hD1⟩ := hB
    rw [ht] at hP1
    have hK1 := va_K.moved hvm.symm hK1
    obtain ⟨hP, hD⟩ := va_join (wr := []) (w1 := []) hP hD [] [] rfl rfl (by decide) (by decide) hk1 hFc hP1 hD1
    have hK := (hK.sub (tys' := []) [] rfl).app hK1
    generalize H1 = H at hP hS ⊢
    have hP : va_P (dC, dI) vwCl [] H := hP
    have hD : va_D A [] := hD
    have hK : va_K (dC, dI) vwCl [] s := hK
    refine W.widen (k := 0) (n := 0) (by decide +kernel) (by decide +kernel) ?_
    rcases hw with ⟨c_6_0, c_6_1, h9⟩ | ⟨c_6_0, c_6_1, h9⟩ | ⟨c_6_0, h9⟩ | h9
    · subst h9
      refine lv_if_ge (tgt := 78) hx hb dX4_reckoned_71 (by decide) (fun _ => ?_) (fun h9 => absurd (by decide) h9)
      refine lv_iconst (v := 0) hx hb dX4_reckoned_78 (by decide) ?_
      refine W.widen (k := 0) (n := 0) (by decide +kernel) (by decide +kernel) ?_
      exact W.iret (v := 0) hx hb hr (fun t ht hW => ⟨⟨0, (), rfl, Or.inr (Or.inr (Or.inr (Or.inr (Or.inl ⟨c_1, c_2, c_3, c_5, c_6_0, c_6_1, rfl⟩)))), by rw [ht]; exact hP, va_K.moved hW.alike hK, hD⟩, hS.F ht⟩) hS.2.2 dX4_reckoned_79
    · subst h9
      refine lv_if_ge (tgt := 78) hx hb dX4_reckoned_71 (by decide) (fun _ => ?_) (fun h9 => absurd (by decide) h9)
      refine lv_iconst (v := 0) hx hb dX4_reckoned_78 (by decide) ?_
      refine W.widen (k := 0) (n := 0) (by decide +kernel) (by decide +kernel) ?_
      exact W.iret (v := 0) hx hb hr (fun t ht hW => ⟨⟨0, (), rfl, Or.inr (Or.inr (Or.inr (Or.inr (Or.inr (Or.inl ⟨c_1, c_2, c_3, c_5, c_6_0, c_6_1, rfl⟩))))), by rw [ht]; exact hP, va_K.moved hW.alike hK, hD⟩, hS.F ht⟩) hS.2.2 dX4_reckoned_79
    · subst h9
      refine lv_if_ge (tgt := 78) hx hb dX4_reckoned_71 (by decide) (fun h9 => absurd h9 (by decide)) (fun _ => ?_)
      refine lv_iconst (v := 1) hx hb dX4_reckoned_74 (by decide) ?_
      refine lv_goto (tgt := 79) hx hb dX4_reckoned_75 (by decide) ?_
      refine W.widen (k := 0) (n := 0) (by decide +kernel) (by decide +kernel) ?_
      exact W.iret (v := 1) hx hb hr (fun t ht hW => ⟨⟨1, (), rfl, Or.inr (Or.inr (Or.inr (Or.inr (Or.inr (Or.inr (Or.inl ⟨c_1, c_2, c_3, c_5, c_6_0, rfl⟩)))))), by rw [ht]; exact hP, va_K.moved hW.alike hK, hD⟩, hS.F ht⟩) hS.2.2 dX4_reckoned_79
    · exact h9.elim
  by_cases c_7 : v0 = 4
  · refine lv_tableIn (off := 79) (tgt := 80) hx hb dX4_reckoned_1 (by rw [c_7]; decide) (by rw [c_7]; decide) (by rw [c_7]; decide) (by decide) ?_
    refine lv_iload_n hx hb dX4_reckoned_80 rfl (lv_at hl 1 rfl) ?_
    refine lv_iload_n hx hb dX4_reckoned_81 rfl (lv_at hl 2 rfl) ?_
    refine lv_ixor hx hb dX4_reckoned_82 ?_
    refine W.widen (k := 0) (n := 0) (by decide +kernel) (by decide +kernel) ?_
    exact W.iret (v := (v1 ^^^ v2)) hx hb hr (fun t ht hW => ⟨⟨(v1 ^^^ v2), (), rfl, Or.inr (Or.inr (Or.inr (Or.inr (Or.inr (Or.inr (Or.inr (Or.inl ⟨c_1, c_2, c_3, c_5, c_7, rfl⟩))))))), by rw [ht]; exact hP, va_K.moved hW.alike hK, hD⟩, hS.F ht⟩) hS.2.2 dX4_reckoned_83
  by_cases c_8 : v0 = 5
  · refine lv_tableIn (off := 83) (tgt := 84) hx hb dX4_reckoned_1 (by rw [c_8]; decide) (by rw [c_8]; decide) (by rw [c_8]; decide) (by decide) ?_
    refine lv_iload_n hx hb dX4_reckoned_84 rfl (lv_at hl 1 rfl) ?_
    refine lv_iload_n hx hb dX4_reckoned_85 rfl (lv_at hl 2 rfl) ?_
    refine lv_bipush (v := 31) hx hb dX4_reckoned_86 (by decide) ?_
    refine lv_iand hx hb dX4_reckoned_88 ?_
    refine lv_iushr hx hb dX4_reckoned_89 rfl ?_
    refine W.widen (k := 0) (n := 0) (by decide +kernel) (by decide +kernel) ?_
    exact W.iret (v := (((v1 : Int32).toUInt32 >>> (((v2 &&& 31) : Int32).toUInt32 &&& Int32.toUInt32 31)).toInt32)) hx hb hr (fun t ht hW => ⟨⟨(((v1 : Int32).toUInt32 >>> (((v2 &&& 31) : Int32).toUInt32 &&& Int32.toUInt32 31)).toInt32), (), rfl, Or.inr (Or.inr (Or.inr (Or.inr (Or.inr (Or.inr (Or.inr (Or.inr (Or.inl ⟨c_1, c_2, c_3, c_5, c_7, c_8, rfl⟩)))))))), by rw [ht]; exact hP, va_K.moved hW.alike hK, hD⟩, hS.F ht⟩) hS.2.2 dX4_reckoned_90
  by_cases c_9 : v0 = 6
  · refine lv_tableIn (off := 90) (tgt := 91) hx hb dX4_reckoned_1 (by rw [c_9]; decide) (by rw [c_9]; decide) (by rw [c_9]; decide) (by decide) ?_
    refine lv_iload_n hx hb dX4_reckoned_91 rfl (lv_at hl 1 rfl) ?_
    refine lv_iload_n hx hb dX4_reckoned_92 rfl (lv_at hl 2 rfl) ?_
    refine lv_ior hx hb dX4_reckoned_93 ?_
    refine W.widen (k := 0) (n := 0) (by decide +kernel) (by decide +kernel) ?_
    exact W.iret (v := (v1 ||| v2)) hx hb hr (fun t ht hW => ⟨⟨(v1 ||| v2), (), rfl, Or.inr (Or.inr (Or.inr (Or.inr (Or.inr (Or.inr (Or.inr (Or.inr (Or.inr (Or.inl ⟨c_1, c_2, c_3, c_5, c_7, c_8, c_9, rfl⟩))))))))), by rw [ht]; exact hP, va_K.moved hW.alike hK, hD⟩, hS.F ht⟩) hS.2.2 dX4_reckoned_94
  refine lv_tableOut (tgt := 95) hx hb dX4_reckoned_1 (by have g0 := nv_nei c_1 (k := 0) (by decide); have g1 := nv_nei c_2 (k := 1) (by decide); have g2 := nv_nei c_3 (k := 2) (by decide); have g3 := nv_nei c_5 (k := 3) (by decide); have g4 := nv_nei c_7 (k := 4) (by decide); have g5 := nv_nei c_8 (k := 5) (by decide); have g6 := nv_nei c_9 (k := 6) (by decide); omega) (by decide) ?_
  refine lv_iload_n hx hb dX4_reckoned_95 rfl (lv_at hl 1 rfl) ?_
  refine lv_iload_n hx hb dX4_reckoned_96 rfl (lv_at hl 2 rfl) ?_
  refine lv_iand hx hb dX4_reckoned_97 ?_
  refine W.widen (k := 0) (n := 0) (by decide +kernel) (by decide +kernel) ?_
  exact W.iret (v := (v1 &&& v2)) hx hb hr (fun t ht hW => ⟨⟨(v1 &&& v2), (), rfl, Or.inr (Or.inr (Or.inr (Or.inr (Or.inr (Or.inr (Or.inr (Or.inr (Or.inr (Or.inr (Or.inl ⟨c_1, c_2, c_3, c_5, c_7, c_8, c_9, rfl⟩)))))))))), by rw [ht]; exact hP, va_K.moved hW.alike hK, hD⟩, hS.F ht⟩) hS.2.2 dX4_reckoned_98
def ow_g_X4_isAtomic : List Cond := .code yX4_isAtomic cX4_isAtomic 1 (some .boolean) :: ([] ++ [])
theorem gd_g_X4_isAtomic : ∀ w ∈ ow_g_X4_isAtomic, (w.onTables && w.keeps) = true ∨ ∃ ty, w = Cond.arrayClass ty := List.forall_mem_cons.mpr ⟨good_of_word rfl, List.forall_mem_append.mpr ⟨fun w h => good_of_word (List.all_eq_true.mp (by decide +kernel) w h), fun _ h => nomatch h⟩⟩
set_option maxHeartbeats 40000000 in
set_option maxRecDepth 100000 in
theorem g_X4_isAtomic (l : Launch) (hlt : l.stackTraces = false) (dC : Nat → ClassId) (dI : Nat → Nat → Nat) (v0 : Int32) (sz : Nat) : Met l yX4_isAtomic ow_g_X4_isAtomic ({ frames := 0, cells := 0, slots := 0, locals := 0 }) (va_Pc [.int v0] (fun U => U.heap.size = sz ∧ va_P (dC, dI) vwCl [] U.heap ∧ va_K (dC, dI) vwCl [] U ∧ va_D (fun _ => True) [] ∧ nv_E (va_A [] sz) U)) (va_Qi (fun r _ => ((v0 ≤ 4) ∧ r = 1) ∨ ((¬ v0 ≤ 4) ∧ (¬ (v0 &&& 3) = 0) ∧ r = 0) ∨ ((¬ v0 ≤ 4) ∧ ((v0 &&& 3) = 0) ∧ r = 1) ∨ False) (fun (_ : Unit) t => va_P (dC, dI) vwCl [] t.heap ∧ va_K (dC, dI) vwCl [] t ∧ va_D (va_A [] sz) []) (va_A [] sz)) 0 0 (va_A [] sz) := by
  refine Met.ofW (cc := cX4_isAtomic) (maxL := 1) (ret := (some .boolean)) (by decide) rfl ?_
  intro p e s m args below meth c s₁ B hml hv
  obtain ⟨rfl, hsz, hP, hK, hD0, hN⟩ := hv
  have hx := B.exec
  have hb := B.bytes
  have hr := B.returns
  have hts := atoms_spec (ws := ow_g_X4_isAtomic) B.pre
  have hown : s.vm.findClass RX4 = some m.cls := findClass_of_methodNamed B.named
  have hlocks := B.notSynchronized
  subst hsz
  have hD := hD0.self (sz := s.heap.size)
  generalize hAe : va_A [] s.heap.size = A at hD hN ⊢
  have hA : ∀ q : Nat, s.heap.size ≤ q → A q := fun q h => by rw [← hAe]; exact Or.inr h
  have hS : va_S A s.heap s.heap [] := va_S.rf
  have hl := lv_entry ([.int v0]) (n := 1) (Nat.le_of_ble_eq_true rfl)
  rw [lg_entry_eq]
  generalize (lg_sl ([.int v0]) ++ List.replicate (1 - (lg_sl ([.int v0])).length) Slot.unset).toArray = ls at hl ⊢
  have hl : lv_has ls 1 [(0, .int v0)] := hl
  refine lv_iload_n hx hb dX4_isAtomic_0 rfl (lv_at hl 0 rfl) ?_
  refine lv_iconst (v := 4) hx hb dX4_isAtomic_1 (by decide) ?_
  refine lv_icmp_le (tgt := 11) hx hb dX4_isAtomic_2 (by decide) (fun c_1 => ?_) (fun c_1 => ?_)
  · refine lv_iconst (v := 1) hx hb dX4_isAtomic_11 (by decide) ?_
    refine lv_goto (tgt := 16) hx hb dX4_isAtomic_12 (by decide) ?_
    refine W.widen (k := 0) (n := 0) (by decide +kernel) (by decide +kernel) ?_
    exact W.zret (v := 1) hx hb hr (by first | rfl | decide) (fun t ht hW => ⟨⟨1, (), rfl, Or.inl ⟨c_1, rfl⟩, by rw [ht]; exact hP, va_K.moved hW.alike hK, hD⟩, hS.F ht⟩) hS.2.2 dX4_isAtomic_16
  · refine lv_iload_n hx hb dX4_isAtomic_5 rfl (lv_at hl 0 rfl) ?_
    refine lv_iconst (v := 3) hx hb dX4_isAtomic_6 (by decide) ?_
    refine lv_iand hx hb dX4_isAtomic_7 ?_
    refine lv_if_ne (tgt := 15) hx hb dX4_isAtomic_8 (by decide) (fun c_2 => ?_) (fun c_2 => ?_)
    · refine lv_iconst (v := 0) hx hb dX4_isAtomic_15 (by decide) ?_
      refine W.widen (k := 0) (n := 0) (by decide +kernel) (by decide +kernel) ?_
      exact W.zret (v := 0) hx hb hr (by first | rfl | decide) (fun t ht hW => ⟨⟨0, (), rfl, Or.inr (Or.inl ⟨c_1, c_2, rfl⟩), by rw [ht]; exact hP, va_K.moved hW.alike hK, hD⟩, hS.F ht⟩) hS.2.2 dX4_isAtomic_16
    · refine lv_iconst (v := 1) hx hb dX4_isAtomic_11 (by decide) ?_
      refine lv_goto (tgt := 16) hx hb dX4_isAtomic_12 (by decide) ?_
      refine W.widen (k := 0) (n := 0) (by decide +kernel) (by decide +kernel) ?_
      exact W.zret (v := 1) hx hb hr (by first | rfl | decide) (fun t ht hW => ⟨⟨1, (), rfl, Or.inr (Or.inr (Or.inl ⟨c_1, c_2, rfl⟩)), by rw [ht]; exact hP, va_K.moved hW.alike hK, hD⟩, hS.F ht⟩) hS.2.2 dX4_isAtomic_16
def ow_g_X4_number : List Cond := .code yX4_number cX4_number 4 (some .int) :: ([] ++ [])
theorem gd_g_X4_number : ∀ w ∈ ow_g_X4_number, (w.onTables && w.keeps) = true ∨ ∃ ty, w = Cond.arrayClass ty := List.forall_mem_cons.mpr ⟨good_of_word rfl, List.forall_mem_append.mpr ⟨fun w h => good_of_word (List.all_eq_true.mp (by decide +kernel) w h), fun _ h => nomatch h⟩⟩
set_option maxHeartbeats 40000000 in
set_option maxRecDepth 100000 in
theorem g_X4_number (l : Launch) (hlt : l.stackTraces = false) (dC : Nat → ClassId) (dI : Nat → Nat → Nat) (v0 : Int32) (v1 : Int32) (v2 : Int32) (v3 : Int32) (sz : Nat) : Met l yX4_number ow_g_X4_number ({ frames := 0, cells := 0, slots := 0, locals := 0 }) (va_Pc [.int v0, .int v1, .int v2, .int v3] (fun U => U.heap.size = sz ∧ va_P (dC, dI) vwCl [] U.heap ∧ va_K (dC, dI) vwCl [] U ∧ va_D (fun _ => True) [] ∧ nv_E (va_A [] sz) U)) (va_Qi (fun r _ => (r = ((((((v0 : Int32) <<< ((20 : Int32) &&& 31)) ||| ((v1 : Int32) <<< ((15 : Int32) &&& 31))) ||| ((v2 : Int32) <<< ((12 : Int32) &&& 31))) ||| ((v3 : Int32) <<< ((7 : Int32) &&& 31))) ||| 19)) ∨ False) (fun (_ : Unit) t => va_P (dC, dI) vwCl [] t.heap ∧ va_K (dC, dI) vwCl [] t ∧ va_D (va_A [] sz) []) (va_A [] sz)) 0 0 (va_A [] sz) := by
  refine Met.ofW (cc := cX4_number) (maxL := 4) (ret := (some .int)) (by decide) rfl ?_
  intro p e s m args below meth c s₁ B hml hv
  obtain ⟨rfl, hsz, hP, hK, hD0, hN⟩ := hv
  have hx := B.exec
  have hb := B.bytes
  have hr := B.returns
  have hts := atoms_spec (ws := ow_g_X4_number) B.pre
  have hown : s.vm.findClass RX4 = some m.cls := findClass_of_methodNamed B.named
  have hlocks := B.notSynchronized
  subst hsz
  have hD := hD0.self (sz := s.heap.size)
  generalize hAe : va_A [] s.heap.size = A at hD hN ⊢
  have hA : ∀ q : Nat, s.heap.size ≤ q → A q := fun q h => by rw [← hAe]; exact Or.inr h
  have hS : va_S A s.heap s.heap [] := va_S.rf
  have hl := lv_entry ([.int v0, .int v1, .int v2, .int v3]) (n := 4) (Nat.le_of_ble_eq_true rfl)
  rw [lg_entry_eq]
  generalize (lg_sl ([.int v0, .int v1, .int v2, .int v3]) ++ List.replicate (4 - (lg_sl ([.int v0, .int v1, .int v2, .int v3])).length) Slot.unset).toArray = ls at hl ⊢
  have hl : lv_has ls 4 [(0, .int v0), (1, .int v1), (2, .int v2), (3, .int v3)] := hl
  refine lv_iload_n hx hb dX4_number_0 rfl (lv_at hl 0 rfl) ?_
  refine lv_bipush (v := 20) hx hb dX4_number_1 (by decide) ?_
  refine lv_ishl hx hb dX4_number_3 ?_
  refine lv_iload_n hx hb dX4_number_4 rfl (lv_at hl 1 rfl) ?_
  refine lv_bipush (v := 15) hx hb dX4_number_5 (by decide) ?_
  refine lv_ishl hx hb dX4_number_7 ?_
  refine lv_ior hx hb dX4_number_8 ?_
  refine lv_iload_n hx hb dX4_number_9 rfl (lv_at hl 2 rfl) ?_
  refine lv_bipush (v := 12) hx hb dX4_number_10 (by decide) ?_
  refine lv_ishl hx hb dX4_number_12 ?_
  refine lv_ior hx hb dX4_number_13 ?_
  refine lv_iload_n hx hb dX4_number_14 rfl (lv_at hl 3 rfl) ?_
  refine lv_bipush (v := 7) hx hb dX4_number_15 (by decide) ?_
  refine lv_ishl hx hb dX4_number_17 ?_
  refine lv_ior hx hb dX4_number_18 ?_
  refine lv_bipush (v := 19) hx hb dX4_number_19 (by decide) ?_
  refine lv_ior hx hb dX4_number_21 ?_
  refine W.widen (k := 0) (n := 0) (by decide +kernel) (by decide +kernel) ?_
  exact W.iret (v := ((((((v0 : Int32) <<< ((20 : Int32) &&& 31)) ||| ((v1 : Int32) <<< ((15 : Int32) &&& 31))) ||| ((v2 : Int32) <<< ((12 : Int32) &&& 31))) ||| ((v3 : Int32) <<< ((7 : Int32) &&& 31))) ||| 19)) hx hb hr (fun t ht hW => ⟨⟨((((((v0 : Int32) <<< ((20 : Int32) &&& 31)) ||| ((v1 : Int32) <<< ((15 : Int32) &&& 31))) ||| ((v2 : Int32) <<< ((12 : Int32) &&& 31))) ||| ((v3 : Int32) <<< ((7 : Int32) &&& 31))) ||| 19), (), rfl, Or.inl rfl, by rw [ht]; exact hP, va_K.moved hW.alike hK, hD⟩, hS.F ht⟩) hS.2.2 dX4_number_22
def ow_g_X4_loading : List Cond := .code yX4_loading cX4_loading 3 (some .int) :: ([] ++ [])
theorem gd_g_X4_loading : ∀ w ∈ ow_g_X4_loading, (w.onTables && w.keeps) = true ∨ ∃ ty, w = Cond.arrayClass ty := List.forall_mem_cons.mpr ⟨good_of_word rfl, List.forall_mem_append.mpr ⟨fun w h => good_of_word (List.all_eq_true.mp (by decide +kernel) w h), fun _ h => nomatch h⟩⟩
set_option maxHeartbeats 40000000 in
set_option maxRecDepth 100000 in
theorem g_X4_loading (l : Launch) (hlt : l.stackTraces = false) (dC : Nat → ClassId) (dI : Nat → Nat → Nat) (v0 : Int32) (v1 : Int32) (v2 : Int32) (sz : Nat) : Met l yX4_loading ow_g_X4_loading ({ frames := 0, cells := 0, slots := 0, locals := 0 }) (va_Pc [.int v0, .int v1, .int v2] (fun U => U.heap.size = sz ∧ va_P (dC, dI) vwCl [] U.heap ∧ va_K (dC, dI) vwCl [] U ∧ va_D (fun _ => True) [] ∧ nv_E (va_A [] sz) U)) (va_Qi (fun r _ => (r = ((((((v0 : Int32) <<< ((20 : Int32) &&& 31)) ||| ((v1 : Int32) <<< ((15 : Int32) &&& 31))) ||| 8192) ||| ((v2 : Int32) <<< ((7 : Int32) &&& 31))) ||| 3)) ∨ False) (fun (_ : Unit) t => va_P (dC, dI) vwCl [] t.heap ∧ va_K (dC, dI) vwCl [] t ∧ va_D (va_A [] sz) []) (va_A [] sz)) 0 0 (va_A [] sz) := by
  refine Met.ofW (cc := cX4_loading) (maxL := 3) (ret := (some .int)) (by decide) rfl ?_
  intro p e s m args below meth c s₁ B hml hv
  obtain ⟨rfl, hsz, hP, hK, hD0, hN⟩ := hv
  have hx := B.exec
  have hb := B.bytes
  have hr := B.returns
  have hts := atoms_spec (ws := ow_g_X4_loading) B.pre
  have hown : s.vm.findClass RX4 = some m.cls := findClass_of_methodNamed B.named
  have hlocks := B.notSynchronized
  subst hsz
  have hD := hD0.self (sz := s.heap.size)
  generalize hAe : va_A [] s.heap.size = A at hD hN ⊢
  have hA : ∀ q : Nat, s.heap.size ≤ q → A q := fun q h => by rw [← hAe]; exact Or.inr h
  have hS : va_S A s.heap s.heap [] := va_S.rf
  have hl := lv_entry ([.int v0, .int v1, .int v2]) (n := 3) (Nat.le_of_ble_eq_true rfl)
  rw [lg_entry_eq]
  generalize (lg_sl ([.int v0, .int v1, .int v2]) ++ List.replicate (3 - (lg_sl ([.int v0, .int v1, .int v2])).length) Slot.unset).toArray = ls at hl ⊢
  have hl : lv_has ls 3 [(0, .int v0), (1, .int v1), (2, .int v2)] := hl
  refine lv_iload_n hx hb dX4_loading_0 rfl (lv_at hl 0 rfl) ?_
  refine lv_bipush (v := 20) hx hb dX4_loading_1 (by decide) ?_
  refine lv_ishl hx hb dX4_loading_3 ?_
  refine lv_iload_n hx hb dX4_loading_4 rfl (lv_at hl 1 rfl) ?_
  refine lv_bipush (v := 15) hx hb dX4_loading_5 (by decide) ?_
  refine lv_ishl hx hb dX4_loading_7 ?_
  refine lv_ior hx hb dX4_loading_8 ?_
  refine lv_sipush (v := 8192) hx hb dX4_loading_9 (by decide) ?_
  refine lv_ior hx hb dX4_loading_12 ?_
  refine lv_iload_n hx hb dX4_loading_13 rfl (lv_at hl 2 rfl) ?_
  refine lv_bipush (v := 7) hx hb dX4_loading_14 (by decide) ?_
  refine lv_ishl hx hb dX4_loading_16 ?_
  refine lv_ior hx hb dX4_loading_17 ?_
  refine lv_iconst (v := 3) hx hb dX4_loading_18 (by decide) ?_
  refine lv_ior hx hb dX4_loading_19 ?_
  refine W.widen (k := 0) (n := 0) (by decide +kernel) (by decide +kernel) ?_
  exact W.iret (v := ((((((v0 : Int32) <<< ((20 : Int32) &&& 31)) ||| ((v1 : Int32) <<< ((15 : Int32) &&& 31))) ||| 8192) ||| ((v2 : Int32) <<< ((7 : Int32) &&& 31))) ||| 3)) hx hb hr (fun t ht hW => ⟨⟨((((((v0 : Int32) <<< ((20 : Int32) &&& 31)) ||| ((v1 : Int32) <<< ((15 : Int32) &&& 31))) ||| 8192) ||| ((v2 : Int32) <<< ((7 : Int32) &&& 31))) ||| 3), (), rfl, Or.inl rfl, by rw [ht]; exact hP, va_K.moved hW.alike hK, hD⟩, hS.F ht⟩) hS.2.2 dX4_loading_20
def ow_g_X4_storing : List Cond := .code yX4_storing cX4_storing 3 (some .int) :: ([] ++ [])
theorem gd_g_X4_storing : ∀ w ∈ ow_g_X4_storing, (w.onTables && w.keeps) = true ∨ ∃ ty, w = Cond.arrayClass ty := List.forall_mem_cons.mpr ⟨good_of_word rfl, List.forall_mem_append.mpr ⟨fun w h => good_of_word (List.all_eq_true.mp (by decide +kernel) w h), fun _ h => nomatch h⟩⟩
set_option maxHeartbeats 40000000 in
set_option maxRecDepth 100000 in
theorem g_X4_storing (l : Launch) (hlt : l.stackTraces = false) (dC : Nat → ClassId) (dI : Nat → Nat → Nat) (v0 : Int32) (v1 : Int32) (v2 : Int32) (sz : Nat) : Met l yX4_storing ow_g_X4_storing ({ frames := 0, cells := 0, slots := 0, locals := 0 }) (va_Pc [.int v0, .int v1, .int v2] (fun U => U.heap.size = sz ∧ va_P (dC, dI) vwCl [] U.heap ∧ va_K (dC, dI) vwCl [] U ∧ va_D (fun _ => True) [] ∧ nv_E (va_A [] sz) U)) (va_Qi (fun r _ => (r = (((((((((v0 : Int32) >>> ((5 : Int32) &&& 31)) : Int32) <<< ((25 : Int32) &&& 31)) ||| ((v2 : Int32) <<< ((20 : Int32) &&& 31))) ||| ((v1 : Int32) <<< ((15 : Int32) &&& 31))) ||| 8192) ||| (((v0 &&& 31) : Int32) <<< ((7 : Int32) &&& 31))) ||| 35)) ∨ False) (fun (_ : Unit) t => va_P (dC, dI) vwCl [] t.heap ∧ va_K (dC, dI) vwCl [] t ∧ va_D (va_A [] sz) []) (va_A [] sz)) 0 0 (va_A [] sz) := by
  refine Met.ofW (cc := cX4_storing) (maxL := 3) (ret := (some .int)) (by decide) rfl ?_
  intro p e s m args below meth c s₁ B hml hv
  obtain ⟨rfl, hsz, hP, hK, hD0, hN⟩ := hv
  have hx := B.exec
  have hb := B.bytes
  have hr := B.returns
  have hts := atoms_spec (ws := ow_g_X4_storing) B.pre
  have hown : s.vm.findClass RX4 = some m.cls := findClass_of_methodNamed B.named
  have hlocks := B.notSynchronized
  subst hsz
  have hD := hD0.self (sz := s.heap.size)
  generalize hAe : va_A [] s.heap.size = A at hD hN ⊢
  have hA : ∀ q : Nat, s.heap.size ≤ q → A q := fun q h => by rw [← hAe]; exact Or.inr h
  have hS : va_S A s.heap s.heap [] := va_S.rf
  have hl := lv_entry ([.int v0, .int v1, .int v2]) (n := 3) (Nat.le_of_ble_eq_true rfl)
  rw [lg_entry_eq]
  generalize (lg_sl ([.int v0, .int v1, .int v2]) ++ List.replicate (3 - (lg_sl ([.int v0, .int v1, .int v2])).length) Slot.unset).toArray = ls at hl ⊢
  have hl : lv_has ls 3 [(0, .int v0), (1, .int v1), (2, .int v2)] := hl
  refine lv_iload_n hx hb dX4_storing_0 rfl (lv_at hl 0 rfl) ?_
  refine lv_iconst (v := 5) hx hb dX4_storing_1 (by decide) ?_
  refine lv_ishr hx hb dX4_storing_2 ?_
  refine lv_bipush (v := 25) hx hb dX4_storing_3 (by decide) ?_
  refine lv_ishl hx hb dX4_storing_5 ?_
  refine lv_iload_n hx hb dX4_storing_6 rfl (lv_at hl 2 rfl) ?_
  refine lv_bipush (v := 20) hx hb dX4_storing_7 (by decide) ?_
  refine lv_ishl hx hb dX4_storing_9 ?_
  refine lv_ior hx hb dX4_storing_10 ?_
  refine lv_iload_n hx hb dX4_storing_11 rfl (lv_at hl 1 rfl) ?_
  refine lv_bipush (v := 15) hx hb dX4_storing_12 (by decide) ?_
  refine lv_ishl hx hb dX4_storing_14 ?_
  refine lv_ior hx hb dX4_storing_15 ?_
  refine lv_sipush (v := 8192) hx hb dX4_storing_16 (by decide) ?_
  refine lv_ior hx hb dX4_storing_19 ?_
  refine lv_iload_n hx hb dX4_storing_20 rfl (lv_at hl 0 rfl) ?_
  refine lv_bipush (v := 31) hx hb dX4_storing_21 (by decide) ?_
  refine lv_iand hx hb dX4_storing_23 ?_
  refine lv_bipush (v := 7) hx hb dX4_storing_24 (by decide) ?_
  refine lv_ishl hx hb dX4_storing_26 ?_
  refine lv_ior hx hb dX4_storing_27 ?_
  refine lv_bipush (v := 35) hx hb dX4_storing_28 (by decide) ?_
  refine lv_ior hx hb dX4_storing_30 ?_
  refine W.widen (k := 0) (n := 0) (by decide +kernel) (by decide +kernel) ?_
  exact W.iret (v := (((((((((v0 : Int32) >>> ((5 : Int32) &&& 31)) : Int32) <<< ((25 : Int32) &&& 31)) ||| ((v2 : Int32) <<< ((20 : Int32) &&& 31))) ||| ((v1 : Int32) <<< ((15 : Int32) &&& 31))) ||| 8192) ||| (((v0 &&& 31) : Int32) <<< ((7 : Int32) &&& 31))) ||| 35)) hx hb hr (fun t ht hW => ⟨⟨(((((((((v0 : Int32) >>> ((5 : Int32) &&& 31)) : Int32) <<< ((25 : Int32) &&& 31)) ||| ((v2 : Int32) <<< ((20 : Int32) &&& 31))) ||| ((v1 : Int32) <<< ((15 : Int32) &&& 31))) ||| 8192) ||| (((v0 &&& 31) : Int32) <<< ((7 : Int32) &&& 31))) ||| 35), (), rfl, Or.inl rfl, by rw [ht]; exact hP, va_K.moved hW.alike hK, hD⟩, hS.F ht⟩) hS.2.2 dX4_storing_31
def ow_g_X4_jumping : List Cond := .code yX4_jumping cX4_jumping 1 (some .int) :: ([.constant RX4 152 (-2147483648), .constant RX4 88 (1044480)] ++ [])
theorem gd_g_X4_jumping : ∀ w ∈ ow_g_X4_jumping, (w.onTables && w.keeps) = true ∨ ∃ ty, w = Cond.arrayClass ty := List.forall_mem_cons.mpr ⟨good_of_word rfl, List.forall_mem_append.mpr ⟨fun w h => good_of_word (List.all_eq_true.mp (by decide +kernel) w h), fun _ h => nomatch h⟩⟩
set_option maxHeartbeats 40000000 in
set_option maxRecDepth 100000 in
theorem g_X4_jumping (l : Launch) (hlt : l.stackTraces = false) (dC : Nat → ClassId) (dI : Nat → Nat → Nat) (v0 : Int32) (sz : Nat) : Met l yX4_jumping ow_g_X4_jumping ({ frames := 0, cells := 0, slots := 0, locals := 0 }) (va_Pc [.int v0] (fun U => U.heap.size = sz ∧ va_P (dC, dI) vwCl [] U.heap ∧ va_K (dC, dI) vwCl [] U ∧ va_D (fun _ => True) [] ∧ nv_E (va_A [] sz) U)) (va_Qi (fun r _ => (r = ((((v0 &&& (-2147483648)) ||| (((v0 &&& 2046) : Int32) <<< ((20 : Int32) &&& 31))) ||| (((v0 &&& 2048) : Int32) <<< ((9 : Int32) &&& 31))) ||| (v0 &&& 1044480))) ∨ False) (fun (_ : Unit) t => va_P (dC, dI) vwCl [] t.heap ∧ va_K (dC, dI) vwCl [] t ∧ va_D (va_A [] sz) []) (va_A [] sz)) 0 0 (va_A [] sz) := by
  refine Met.ofW (cc := cX4_jumping) (maxL := 1) (ret := (some .int)) (by decide) rfl ?_
  intro p e s m args below meth c s₁ B hml hv
  obtain ⟨rfl, hsz, hP, hK, hD0, hN⟩ := hv
  have hx := B.exec
  have hb := B.bytes
  have hr := B.returns
  have hts := atoms_spec (ws := ow_g_X4_jumping) B.pre
  have hown : s.vm.findClass RX4 = some m.cls := findClass_of_methodNamed B.named
  have hlocks := B.notSynchronized
  subst hsz
  have hD := hD0.self (sz := s.heap.size)
  generalize hAe : va_A [] s.heap.size = A at hD hN ⊢
  have hA : ∀ q : Nat, s.heap.size ≤ q → A q := fun q h => by rw [← hAe]; exact Or.inr h
  have hS : va_S A s.heap s.heap [] := va_S.rf
  have hl := lv_entry ([.int v0]) (n := 1) (Nat.le_of_ble_eq_true rfl)
  rw [lg_entry_eq]
  generalize (lg_sl ([.int v0]) ++ List.replicate (1 - (lg_sl ([.int v0])).length) Slot.unset).toArray = ls at hl ⊢
  have hl : lv_has ls 1 [(0, .int v0)] := hl
  refine lv_iload_n hx hb dX4_jumping_0 rfl (lv_at hl 0 rfl) ?_
  refine lv_ldc hx hb hown (hts (.constant RX4 152 (-2147483648)) (List.mem_of_getElem? (i := 1) rfl)) dX4_jumping_1 ?_
  refine lv_iand hx hb dX4_jumping_3 ?_
  refine lv_iload_n hx hb dX4_jumping_4 rfl (lv_at hl 0 rfl) ?_
  refine lv_sipush (v := 2046) hx hb dX4_jumping_5 (by decide) ?_
  refine lv_iand hx hb dX4_jumping_8 ?_
  refine lv_bipush (v := 20) hx hb dX4_jumping_9 (by decide) ?_
  refine lv_ishl hx hb dX4_jumping_11 ?_
  refine lv_ior hx hb dX4_jumping_12 ?_
  refine lv_iload_n hx hb dX4_jumping_13 rfl (lv_at hl 0 rfl) ?_
  refine lv_sipush (v := 2048) hx hb dX4_jumping_14 (by decide) ?_
  refine lv_iand hx hb dX4_jumping_17 ?_
  refine lv_bipush (v := 9) hx hb dX4_jumping_18 (by decide) ?_
  refine lv_ishl hx hb dX4_jumping_20 ?_
  refine lv_ior hx hb dX4_jumping_21 ?_
  refine lv_iload_n hx hb dX4_jumping_22 rfl (lv_at hl 0 rfl) ?_
  refine lv_ldc hx hb hown (hts (.constant RX4 88 (1044480)) (List.mem_of_getElem? (i := 2) rfl)) dX4_jumping_23 ?_
  refine lv_iand hx hb dX4_jumping_25 ?_
  refine lv_ior hx hb dX4_jumping_26 ?_
  refine W.widen (k := 0) (n := 0) (by decide +kernel) (by decide +kernel) ?_
  exact W.iret (v := ((((v0 &&& (-2147483648)) ||| (((v0 &&& 2046) : Int32) <<< ((20 : Int32) &&& 31))) ||| (((v0 &&& 2048) : Int32) <<< ((9 : Int32) &&& 31))) ||| (v0 &&& 1044480))) hx hb hr (fun t ht hW => ⟨⟨((((v0 &&& (-2147483648)) ||| (((v0 &&& 2046) : Int32) <<< ((20 : Int32) &&& 31))) ||| (((v0 &&& 2048) : Int32) <<< ((9 : Int32) &&& 31))) ||| (v0 &&& 1044480)), (), rfl, Or.inl rfl, by rw [ht]; exact hP, va_K.moved hW.alike hK, hD⟩, hS.F ht⟩) hS.2.2 dX4_jumping_27
def ow_g_X4_branching : List Cond := .code yX4_branching cX4_branching 1 (some .int) :: ([.constant RX4 152 (-2147483648)] ++ [])
theorem gd_g_X4_branching : ∀ w ∈ ow_g_X4_branching, (w.onTables && w.keeps) = true ∨ ∃ ty, w = Cond.arrayClass ty := List.forall_mem_cons.mpr ⟨good_of_word rfl, List.forall_mem_append.mpr ⟨fun w h => good_of_word (List.all_eq_true.mp (by decide +kernel) w h), fun _ h => nomatch h⟩⟩
set_option maxHeartbeats 40000000 in
set_option maxRecDepth 100000 in
theorem g_X4_branching (l : Launch) (hlt : l.stackTraces = false) (dC : Nat → ClassId) (dI : Nat → Nat → Nat) (v0 : Int32) (sz : Nat) : Met l yX4_branching ow_g_X4_branching ({ frames := 0, cells := 0, slots := 0, locals := 0 }) (va_Pc [.int v0] (fun U => U.heap.size = sz ∧ va_P (dC, dI) vwCl [] U.heap ∧ va_K (dC, dI) vwCl [] U ∧ va_D (fun _ => True) [] ∧ nv_E (va_A [] sz) U)) (va_Qi (fun r _ => (r = ((((v0 &&& (-2147483648)) ||| (((v0 &&& 2016) : Int32) <<< ((20 : Int32) &&& 31))) ||| (((v0 &&& 30) : Int32) <<< ((7 : Int32) &&& 31))) ||| (((v0 &&& 2048) : Int32) >>> ((4 : Int32) &&& 31)))) ∨ False) (fun (_ : Unit) t => va_P (dC, dI) vwCl [] t.heap ∧ va_K (dC, dI) vwCl [] t ∧ va_D (va_A [] sz) []) (va_A [] sz)) 0 0 (va_A [] sz) := by
  refine Met.ofW (cc := cX4_branching) (maxL := 1) (ret := (some .int)) (by decide) rfl ?_
  intro p e s m args below meth c s₁ B hml hv
  obtain ⟨rfl, hsz, hP, hK, hD0, hN⟩ := hv
  have hx := B.exec
  have hb := B.bytes
  have hr := B.returns
  have hts := atoms_spec (ws := ow_g_X4_branching) B.pre
  have hown : s.vm.findClass RX4 = some m.cls := findClass_of_methodNamed B.named
  have hlocks := B.notSynchronized
  subst hsz
  have hD := hD0.self (sz := s.heap.size)
  generalize hAe : va_A [] s.heap.size = A at hD hN ⊢
  have hA : ∀ q : Nat, s.heap.size ≤ q → A q := fun q h => by rw [← hAe]; exact Or.inr h
  have hS : va_S A s.heap s.heap [] := va_S.rf
  have hl := lv_entry ([.int v0]) (n := 1) (Nat.le_of_ble_eq_true rfl)
  rw [lg_entry_eq]
  generalize (lg_sl ([.int v0]) ++ List.replicate (1 - (lg_sl ([.int v0])).length) Slot.unset).toArray = ls at hl ⊢
  have hl : lv_has ls 1 [(0, .int v0)] := hl
  refine lv_iload_n hx hb dX4_branching_0 rfl (lv_at hl 0 rfl) ?_
  refine lv_ldc hx hb hown (hts (.constant RX4 152 (-2147483648)) (List.mem_of_getElem? (i := 1) rfl)) dX4_branching_1 ?_
  refine lv_iand hx hb dX4_branching_3 ?_
  refine lv_iload_n hx hb dX4_branching_4 rfl (lv_at hl 0 rfl) ?_
  refine lv_sipush (v := 2016) hx hb dX4_branching_5 (by decide) ?_
  refine lv_iand hx hb dX4_branching_8 ?_
  refine lv_bipush (v := 20) hx hb dX4_branching_9 (by decide) ?_
  refine lv_ishl hx hb dX4_branching_11 ?_
  refine lv_ior hx hb dX4_branching_12 ?_
  refine lv_iload_n hx hb dX4_branching_13 rfl (lv_at hl 0 rfl) ?_
  refine lv_bipush (v := 30) hx hb dX4_branching_14 (by decide) ?_
  refine lv_iand hx hb dX4_branching_16 ?_
  refine lv_bipush (v := 7) hx hb dX4_branching_17 (by decide) ?_
  refine lv_ishl hx hb dX4_branching_19 ?_
  refine lv_ior hx hb dX4_branching_20 ?_
  refine lv_iload_n hx hb dX4_branching_21 rfl (lv_at hl 0 rfl) ?_
  refine lv_sipush (v := 2048) hx hb dX4_branching_22 (by decide) ?_
  refine lv_iand hx hb dX4_branching_25 ?_
  refine lv_iconst (v := 4) hx hb dX4_branching_26 (by decide) ?_
  refine lv_ishr hx hb dX4_branching_27 ?_
  refine lv_ior hx hb dX4_branching_28 ?_
  refine W.widen (k := 0) (n := 0) (by decide +kernel) (by decide +kernel) ?_
  exact W.iret (v := ((((v0 &&& (-2147483648)) ||| (((v0 &&& 2016) : Int32) <<< ((20 : Int32) &&& 31))) ||| (((v0 &&& 30) : Int32) <<< ((7 : Int32) &&& 31))) ||| (((v0 &&& 2048) : Int32) >>> ((4 : Int32) &&& 31)))) hx hb hr (fun t ht hW => ⟨⟨((((v0 &&& (-2147483648)) ||| (((v0 &&& 2016) : Int32) <<< ((20 : Int32) &&& 31))) ||| (((v0 &&& 30) : Int32) <<< ((7 : Int32) &&& 31))) ||| (((v0 &&& 2048) : Int32) >>> ((4 : Int32) &&& 31))), (), rfl, Or.inl rfl, by rw [ht]; exact hP, va_K.moved hW.alike hK, hD⟩, hS.F ht⟩) hS.2.2 dX4_branching_29
def ow_g_X4_signedNumber : List Cond := .code yX4_signedNumber cX4_signedNumber 1 (some .int) :: ([] ++ [])
theorem gd_g_X4_signedNumber : ∀ w ∈ ow_g_X4_signedNumber, (w.onTables && w.keeps) = true ∨ ∃ ty, w = Cond.arrayClass ty := List.forall_mem_cons.mpr ⟨good_of_word rfl, List.forall_mem_append.mpr ⟨fun w h => good_of_word (List.all_eq_true.mp (by decide +kernel) w h), fun _ h => nomatch h⟩⟩
set_option maxHeartbeats 40000000 in
set_option maxRecDepth 100000 in
theorem g_X4_signedNumber (l : Launch) (hlt : l.stackTraces = false) (dC : Nat → ClassId) (dI : Nat → Nat → Nat) (v0 : Int32) (sz : Nat) : Met l yX4_signedNumber ow_g_X4_signedNumber ({ frames := 0, cells := 0, slots := 0, locals := 0 }) (va_Pc [.int v0] (fun U => U.heap.size = sz ∧ va_P (dC, dI) vwCl [] U.heap ∧ va_K (dC, dI) vwCl [] U ∧ va_D (fun _ => True) [] ∧ nv_E (va_A [] sz) U)) (va_Qi (fun r _ => (r = (((((((v0 : Int32) <<< ((19 : Int32) &&& 31)) : Int32) >>> ((31 : Int32) &&& 31)) : Int32) <<< ((5 : Int32) &&& 31)) ||| (((v0 : Int32) >>> ((2 : Int32) &&& 31)) &&& 31))) ∨ False) (fun (_ : Unit) t => va_P (dC, dI) vwCl [] t.heap ∧ va_K (dC, dI) vwCl [] t ∧ va_D (va_A [] sz) []) (va_A [] sz)) 0 0 (va_A [] sz) := by
  refine Met.ofW (cc := cX4_signedNumber) (maxL := 1) (ret := (some .int)) (by decide) rfl ?_
  intro p e s m args below meth c s₁ B hml hv
  obtain ⟨rfl, hsz, hP, hK, hD0, hN⟩ := hv
  have hx := B.exec
  have hb := B.bytes
  have hr := B.returns
  have hts := atoms_spec (ws := ow_g_X4_signedNumber) B.pre
  have hown : s.vm.findClass RX4 = some m.cls := findClass_of_methodNamed B.named
  have hlocks := B.notSynchronized
  subst hsz
  have hD := hD0.self (sz := s.heap.size)
  generalize hAe : va_A [] s.heap.size = A at hD hN ⊢
  have hA : ∀ q : Nat, s.heap.size ≤ q → A q := fun q h => by rw [← hAe]; exact Or.inr h
  have hS : va_S A s.heap s.heap [] := va_S.rf
  have hl := lv_entry ([.int v0]) (n := 1) (Nat.le_of_ble_eq_true rfl)
  rw [lg_entry_eq]
  generalize (lg_sl ([.int v0]) ++ List.replicate (1 - (lg_sl ([.int v0])).length) Slot.unset).toArray = ls at hl ⊢
  have hl : lv_has ls 1 [(0, .int v0)] := hl
  refine lv_iload_n hx hb dX4_signedNumber_0 rfl (lv_at hl 0 rfl) ?_
  refine lv_bipush (v := 19) hx hb dX4_signedNumber_1 (by decide) ?_
  refine lv_ishl hx hb dX4_signedNumber_3 ?_
  refine lv_bipush (v := 31) hx hb dX4_signedNumber_4 (by decide) ?_
  refine lv_ishr hx hb dX4_signedNumber_6 ?_
  refine lv_iconst (v := 5) hx hb dX4_signedNumber_7 (by decide) ?_
  refine lv_ishl hx hb dX4_signedNumber_8 ?_
  refine lv_iload_n hx hb dX4_signedNumber_9 rfl (lv_at hl 0 rfl) ?_
  refine lv_iconst (v := 2) hx hb dX4_signedNumber_10 (by decide) ?_
  refine lv_ishr hx hb dX4_signedNumber_11 ?_
  refine lv_bipush (v := 31) hx hb dX4_signedNumber_12 (by decide) ?_
  refine lv_iand hx hb dX4_signedNumber_14 ?_
  refine lv_ior hx hb dX4_signedNumber_15 ?_
  refine W.widen (k := 0) (n := 0) (by decide +kernel) (by decide +kernel) ?_
  exact W.iret (v := (((((((v0 : Int32) <<< ((19 : Int32) &&& 31)) : Int32) >>> ((31 : Int32) &&& 31)) : Int32) <<< ((5 : Int32) &&& 31)) ||| (((v0 : Int32) >>> ((2 : Int32) &&& 31)) &&& 31))) hx hb hr (fun t ht hW => ⟨⟨(((((((v0 : Int32) <<< ((19 : Int32) &&& 31)) : Int32) >>> ((31 : Int32) &&& 31)) : Int32) <<< ((5 : Int32) &&& 31)) ||| (((v0 : Int32) >>> ((2 : Int32) &&& 31)) &&& 31)), (), rfl, Or.inl rfl, by rw [ht]; exact hP, va_K.moved hW.alike hK, hD⟩, hS.F ht⟩) hS.2.2 dX4_signedNumber_16
def ow_k_X4_number : List Cond := .code yX4_number cX4_number 4 (some .int) :: ([] ++ [])
theorem gd_k_X4_number : ∀ w ∈ ow_k_X4_number, (w.onTables && w.keeps) = true ∨ ∃ ty, w = Cond.arrayClass ty := List.forall_mem_cons.mpr ⟨good_of_word rfl, List.forall_mem_append.mpr ⟨fun w h => good_of_word (List.all_eq_true.mp (by decide +kernel) w h), fun _ h => nomatch h⟩⟩
set_option maxHeartbeats 40000000 in
set_option maxRecDepth 100000 in
theorem k_X4_number (l : Launch) (hlt : l.stackTraces = false) (dC : Nat → ClassId) (dI : Nat → Nat → Nat) (c0 : Int32) (c1 : Int32) (c2 : Int32) (sz : Nat) : Met l yX4_number ow_k_X4_number ({ frames := 0, cells := 0, slots := 0, locals := 0 }) (va_Pc [.int c0, .int c1, .int 5, .int c2] (fun U => U.heap.size = sz ∧ va_P (dC, dI) vwCl [] U.heap ∧ va_K (dC, dI) vwCl [] U ∧ va_D (fun _ => True) [] ∧ nv_E (va_A [] sz) U)) (va_Qi (fun r _ => (r = ((((((c0 : Int32) <<< ((20 : Int32) &&& 31)) ||| ((c1 : Int32) <<< ((15 : Int32) &&& 31))) ||| 20480) ||| ((c2 : Int32) <<< ((7 : Int32) &&& 31))) ||| 19)) ∨ False) (fun (_ : Unit) t => va_P (dC, dI) vwCl [] t.heap ∧ va_K (dC, dI) vwCl [] t ∧ va_D (va_A [] sz) []) (va_A [] sz)) 0 0 (va_A [] sz) := by
  refine Met.ofW (cc := cX4_number) (maxL := 4) (ret := (some .int)) (by decide) rfl ?_
  intro p e s m args below meth c s₁ B hml hv
  obtain ⟨rfl, hsz, hP, hK, hD0, hN⟩ := hv
  have hx := B.exec
  have hb := B.bytes
  have hr := B.returns
  have hts := atoms_spec (ws := ow_k_X4_number) B.pre
  have hown : s.vm.findClass RX4 = some m.cls := findClass_of_methodNamed B.named
  have hlocks := B.notSynchronized
  subst hsz
  have hD := hD0.self (sz := s.heap.size)
  generalize hAe : va_A [] s.heap.size = A at hD hN ⊢
  have hA : ∀ q : Nat, s.heap.size ≤ q → A q := fun q h => by rw [← hAe]; exact Or.inr h
  have hS : va_S A s.heap s.heap [] := va_S.rf
  have hl := lv_entry ([.int c0, .int c1, .int 5, .int c2]) (n := 4) (Nat.le_of_ble_eq_true rfl)
  rw [lg_entry_eq]
  generalize (lg_sl ([.int c0, .int c1, .int 5, .int c2]) ++ List.replicate (4 - (lg_sl ([.int c0, .int c1, .int 5, .int c2])).length) Slot.unset).toArray = ls at hl ⊢
  have hl : lv_has ls 4 [(0, .int c0), (1, .int c1), (2, .int 5), (3, .int c2)] := hl
  refine lv_iload_n hx hb dX4_number_0 rfl (lv_at hl 0 rfl) ?_
  refine lv_bipush (v := 20) hx hb dX4_number_1 (by decide) ?_
  refine lv_ishl hx hb dX4_number_3 ?_
  refine lv_iload_n hx hb dX4_number_4 rfl (lv_at hl 1 rfl) ?_
  refine lv_bipush (v := 15) hx hb dX4_number_5 (by decide) ?_
  refine lv_ishl hx hb dX4_number_7 ?_
  refine lv_ior hx hb dX4_number_8 ?_
  refine lv_iload_n hx hb dX4_number_9 rfl (lv_at hl 2 rfl) ?_
  refine lv_bipush (v := 12) hx hb dX4_number_10 (by decide) ?_
  refine lv_ishl hx hb dX4_number_12 ?_
  refine lv_topi (fun z1 ez1 => ?_)
  obtain rfl : z1 = 20480 := ez1.trans (by decide)
  refine lv_ior hx hb dX4_number_13 ?_
  refine lv_iload_n hx hb dX4_number_14 rfl (lv_at hl 3 rfl) ?_
  refine lv_bipush (v := 7) hx hb dX4_number_15 (by decide) ?_
  refine lv_ishl hx hb dX4_number_17 ?_
  refine lv_ior hx hb dX4_number_18 ?_
  refine lv_bipush (v := 19) hx hb dX4_number_19 (by decide) ?_
  refine lv_ior hx hb dX4_number_21 ?_
  refine W.widen (k := 0) (n := 0) (by decide +kernel) (by decide +kernel) ?_
  exact W.iret (v := ((((((c0 : Int32) <<< ((20 : Int32) &&& 31)) ||| ((c1 : Int32) <<< ((15 : Int32) &&& 31))) ||| 20480) ||| ((c2 : Int32) <<< ((7 : Int32) &&& 31))) ||| 19)) hx hb hr (fun t ht hW => ⟨⟨((((((c0 : Int32) <<< ((20 : Int32) &&& 31)) ||| ((c1 : Int32) <<< ((15 : Int32) &&& 31))) ||| 20480) ||| ((c2 : Int32) <<< ((7 : Int32) &&& 31))) ||| 19), (), rfl, Or.inl rfl, by rw [ht]; exact hP, va_K.moved hW.alike hK, hD⟩, hS.F ht⟩) hS.2.2 dX4_number_22
def ow_k_X4_signedNumber : List Cond := .code yX4_signedNumber cX4_signedNumber 1 (some .int) :: ([] ++ [])
theorem gd_k_X4_signedNumber : ∀ w ∈ ow_k_X4_signedNumber, (w.onTables && w.keeps) = true ∨ ∃ ty, w = Cond.arrayClass ty := List.forall_mem_cons.mpr ⟨good_of_word rfl, List.forall_mem_append.mpr ⟨fun w h => good_of_word (List.all_eq_true.mp (by decide +kernel) w h), fun _ h => nomatch h⟩⟩
set_option maxHeartbeats 40000000 in
set_option maxRecDepth 100000 in
theorem k_X4_signedNumber (l : Launch) (hlt : l.stackTraces = false) (dC : Nat → ClassId) (dI : Nat → Nat → Nat) (c0 : Int32) (sz : Nat) : Met l yX4_signedNumber ow_k_X4_signedNumber ({ frames := 0, cells := 0, slots := 0, locals := 0 }) (va_Pc [.int c0] (fun U => U.heap.size = sz ∧ va_P (dC, dI) vwCl [] U.heap ∧ va_K (dC, dI) vwCl [] U ∧ va_D (fun _ => True) [] ∧ nv_E (va_A [] sz) U)) (va_Qi (fun r _ => (r = (((((((c0 : Int32) <<< ((19 : Int32) &&& 31)) : Int32) >>> ((31 : Int32) &&& 31)) : Int32) <<< ((5 : Int32) &&& 31)) ||| (((c0 : Int32) >>> ((2 : Int32) &&& 31)) &&& 31))) ∨ False) (fun (_ : Unit) t => va_P (dC, dI) vwCl [] t.heap ∧ va_K (dC, dI) vwCl [] t ∧ va_D (va_A [] sz) []) (va_A [] sz)) 0 0 (va_A [] sz) := by
  refine Met.ofW (cc := cX4_signedNumber) (maxL := 1) (ret := (some .int)) (by decide) rfl ?_
  intro p e s m args below meth c s₁ B hml hv
  obtain ⟨rfl, hsz, hP, hK, hD0, hN⟩ := hv
  have hx := B.exec
  have hb := B.bytes
  have hr := B.returns
  have hts := atoms_spec (ws := ow_k_X4_signedNumber) B.pre
  have hown : s.vm.findClass RX4 = some m.cls := findClass_of_methodNamed B.named
  have hlocks := B.notSynchronized
  subst hsz
  have hD := hD0.self (sz := s.heap.size)
  generalize hAe : va_A [] s.heap.size = A at hD hN ⊢
  have hA : ∀ q : Nat, s.heap.size ≤ q → A q := fun q h => by rw [← hAe]; exact Or.inr h
  have hS : va_S A s.heap s.heap [] := va_S.rf
  have hl := lv_entry ([.int c0]) (n := 1) (Nat.le_of_ble_eq_true rfl)
  rw [lg_entry_eq]
  generalize (lg_sl ([.int c0]) ++ List.replicate (1 - (lg_sl ([.int c0])).length) Slot.unset).toArray = ls at hl ⊢
  have hl : lv_has ls 1 [(0, .int c0)] := hl
  refine lv_iload_n hx hb dX4_signedNumber_0 rfl (lv_at hl 0 rfl) ?_
  refine lv_bipush (v := 19) hx hb dX4_signedNumber_1 (by decide) ?_
  refine lv_ishl hx hb dX4_signedNumber_3 ?_
  refine lv_bipush (v := 31) hx hb dX4_signedNumber_4 (by decide) ?_
  refine lv_ishr hx hb dX4_signedNumber_6 ?_
  refine lv_iconst (v := 5) hx hb dX4_signedNumber_7 (by decide) ?_
  refine lv_ishl hx hb dX4_signedNumber_8 ?_
  refine lv_iload_n hx hb dX4_signedNumber_9 rfl (lv_at hl 0 rfl) ?_
  refine lv_iconst (v := 2) hx hb dX4_signedNumber_10 (by decide) ?_
  refine lv_ishr hx hb dX4_signedNumber_11 ?_
  refine lv_bipush (v := 31) hx hb dX4_signedNumber_12 (by decide) ?_
  refine lv_iand hx hb dX4_signedNumber_14 ?_
  refine lv_ior hx hb dX4_signedNumber_15 ?_
  refine W.widen (k := 0) (n := 0) (by decide +kernel) (by decide +kernel) ?_
  exact W.iret (v := (((((((c0 : Int32) <<< ((19 : Int32) &&& 31)) : Int32) >>> ((31 : Int32) &&& 31)) : Int32) <<< ((5 : Int32) &&& 31)) ||| (((c0 : Int32) >>> ((2 : Int32) &&& 31)) &&& 31))) hx hb hr (fun t ht hW => ⟨⟨(((((((c0 : Int32) <<< ((19 : Int32) &&& 31)) : Int32) >>> ((31 : Int32) &&& 31)) : Int32) <<< ((5 : Int32) &&& 31)) ||| (((c0 : Int32) >>> ((2 : Int32) &&& 31)) &&& 31)), (), rfl, Or.inl rfl, by rw [ht]; exact hP, va_K.moved hW.alike hK, hD⟩, hS.F ht⟩) hS.2.2 dX4_signedNumber_16
def ow_k_X4_number_v1 : List Cond := .code yX4_number cX4_number 4 (some .int) :: ([] ++ [])
theorem gd_k_X4_number_v1 : ∀ w ∈ ow_k_X4_number_v1, (w.onTables && w.keeps) = true ∨ ∃ ty, w = Cond.arrayClass ty := List.forall_mem_cons.mpr ⟨good_of_word rfl, List.forall_mem_append.mpr ⟨fun w h => good_of_word (List.all_eq_true.mp (by decide +kernel) w h), fun _ h => nomatch h⟩⟩
set_option maxHeartbeats 40000000 in
set_option maxRecDepth 100000 in
theorem k_X4_number_v1 (l : Launch) (hlt : l.stackTraces = false) (dC : Nat → ClassId) (dI : Nat → Nat → Nat) (c0 : Int32) (c1 : Int32) (c2 : Int32) (sz : Nat) : Met l yX4_number ow_k_X4_number_v1 ({ frames := 0, cells := 0, slots := 0, locals := 0 }) (va_Pc [.int c0, .int c1, .int 7, .int c2] (fun U => U.heap.size = sz ∧ va_P (dC, dI) vwCl [] U.heap ∧ va_K (dC, dI) vwCl [] U ∧ va_D (fun _ => True) [] ∧ nv_E (va_A [] sz) U)) (va_Qi (fun r _ => (r = ((((((c0 : Int32) <<< ((20 : Int32) &&& 31)) ||| ((c1 : Int32) <<< ((15 : Int32) &&& 31))) ||| 28672) ||| ((c2 : Int32) <<< ((7 : Int32) &&& 31))) ||| 19)) ∨ False) (fun (_ : Unit) t => va_P (dC, dI) vwCl [] t.heap ∧ va_K (dC, dI) vwCl [] t ∧ va_D (va_A [] sz) []) (va_A [] sz)) 0 0 (va_A [] sz) := by
  refine Met.ofW (cc := cX4_number) (maxL := 4) (ret := (some .int)) (by decide) rfl ?_
  intro p e s m args below meth c s₁ B hml hv
  obtain ⟨rfl, hsz, hP, hK, hD0, hN⟩ := hv
  have hx := B.exec
  have hb := B.bytes
  have hr := B.returns
  have hts := atoms_spec (ws := ow_k_X4_number_v1) B.pre
  have hown : s.vm.findClass RX4 = some m.cls := findClass_of_methodNamed B.named
  have hlocks := B.notSynchronized
  subst hsz
  have hD := hD0.self (sz := s.heap.size)
  generalize hAe : va_A [] s.heap.size = A at hD hN ⊢
  have hA : ∀ q : Nat, s.heap.size ≤ q → A q := fun q h => by rw [← hAe]; exact Or.inr h
  have hS : va_S A s.heap s.heap [] := va_S.rf
  have hl := lv_entry ([.int c0, .int c1, .int 7, .int c2]) (n := 4) (Nat.le_of_ble_eq_true rfl)
  rw [lg_entry_eq]
  generalize (lg_sl ([.int c0, .int c1, .int 7, .int c2]) ++ List.replicate (4 - (lg_sl ([.int c0, .int c1, .int 7, .int c2])).length) Slot.unset).toArray = ls at hl ⊢
  have hl : lv_has ls 4 [(0, .int c0), (1, .int c1), (2, .int 7), (3, .int c2)] := hl
  refine lv_iload_n hx hb dX4_number_0 rfl (lv_at hl 0 rfl) ?_
  refine lv_bipush (v := 20) hx hb dX4_number_1 (by decide) ?_
  refine lv_ishl hx hb dX4_number_3 ?_
  refine lv_iload_n hx hb dX4_number_4 rfl (lv_at hl 1 rfl) ?_
  refine lv_bipush (v := 15) hx hb dX4_number_5 (by decide) ?_
  refine lv_ishl hx hb dX4_number_7 ?_
  refine lv_ior hx hb dX4_number_8 ?_
  refine lv_iload_n hx hb dX4_number_9 rfl (lv_at hl 2 rfl) ?_
  refine lv_bipush (v := 12) hx hb dX4_number_10 (by decide) ?_
  refine lv_ishl hx hb dX4_number_12 ?_
  refine lv_topi (fun z1 ez1 => ?_)
  obtain rfl : z1 = 28672 := ez1.trans (by decide)
  refine lv_ior hx hb dX4_number_13 ?_
  refine lv_iload_n hx hb dX4_number_14 rfl (lv_at hl 3 rfl) ?_
  refine lv_bipush (v := 7) hx hb dX4_number_15 (by decide) ?_
  refine lv_ishl hx hb dX4_number_17 ?_
  refine lv_ior hx hb dX4_number_18 ?_
  refine lv_bipush (v := 19) hx hb dX4_number_19 (by decide) ?_
  refine lv_ior hx hb dX4_number_21 ?_
  refine W.widen (k := 0) (n := 0) (by decide +kernel) (by decide +kernel) ?_
  exact W.iret (v := ((((((c0 : Int32) <<< ((20 : Int32) &&& 31)) ||| ((c1 : Int32) <<< ((15 : Int32) &&& 31))) ||| 28672) ||| ((c2 : Int32) <<< ((7 : Int32) &&& 31))) ||| 19)) hx hb hr (fun t ht hW => ⟨⟨((((((c0 : Int32) <<< ((20 : Int32) &&& 31)) ||| ((c1 : Int32) <<< ((15 : Int32) &&& 31))) ||| 28672) ||| ((c2 : Int32) <<< ((7 : Int32) &&& 31))) ||| 19), (), rfl, Or.inl rfl, by rw [ht]; exact hP, va_K.moved hW.alike hK, hD⟩, hS.F ht⟩) hS.2.2 dX4_number_22
def ow_g_X4_expandedSums : List Cond := .code yX4_expandedSums cX4_expandedSums 6 (some .int) :: ([.constant RX4 171 (1073741824), .methodLink RX4 153 yX4_number, .static yX4_number, .initialized RX4, .methodLink RX4 162 yX4_signedNumber, .static yX4_signedNumber] ++ (ow_k_X4_number ++ (ow_k_X4_signedNumber ++ (ow_k_X4_number_v1 ++ []))))
theorem gd_g_X4_expandedSums : ∀ w ∈ ow_g_X4_expandedSums, (w.onTables && w.keeps) = true ∨ ∃ ty, w = Cond.arrayClass ty := List.forall_mem_cons.mpr ⟨good_of_word rfl, List.forall_mem_append.mpr ⟨fun w h => good_of_word (List.all_eq_true.mp (by decide +kernel) w h), List.forall_mem_append.mpr ⟨gd_k_X4_number, List.forall_mem_append.mpr ⟨gd_k_X4_signedNumber, List.forall_mem_append.mpr ⟨gd_k_X4_number_v1, fun _ h => nomatch h⟩⟩⟩⟩⟩
theorem gi_g_X4_expandedSums_0 : GoodIn ow_g_X4_expandedSums (wsS RX4 153 yX4_number ow_k_X4_number) := goodIn_app (goodIn_of _ (by decide +kernel)) (fun w h => ⟨List.mem_cons_of_mem _ (List.mem_append_right _ (List.mem_append_left _ h)), gd_k_X4_number w h⟩)
theorem gi_g_X4_expandedSums_1 : GoodIn ow_g_X4_expandedSums (wsS RX4 162 yX4_signedNumber ow_k_X4_signedNumber) := goodIn_app (goodIn_of _ (by decide +kernel)) (fun w h => ⟨List.mem_cons_of_mem _ (List.mem_append_right _ (List.mem_append_right _ (List.mem_append_left _ h))), gd_k_X4_signedNumber w h⟩)
theorem gi_g_X4_expandedSums_2 : GoodIn ow_g_X4_expandedSums (wsS RX4 153 yX4_number ow_k_X4_number_v1) := goodIn_app (goodIn_of _ (by decide +kernel)) (fun w h => ⟨List.mem_cons_of_mem _ (List.mem_append_right _ (List.mem_append_right _ (List.mem_append_right _ (List.mem_append_left _ h)))), gd_k_X4_number_v1 w h⟩)
set_option maxHeartbeats 40000000 in
set_option maxRecDepth 100000 in
theorem g_X4_expandedSums (l : Launch) (hlt : l.stackTraces = false) (dC : Nat → ClassId) (dI : Nat → Nat → Nat) (v0 : Int32) (sz : Nat) : Met l yX4_expandedSums ow_g_X4_expandedSums ({ frames := 1, cells := 0, slots := 0, locals := 23 }) (va_Pc [.int v0] (fun U => U.heap.size = sz ∧ va_P (dC, dI) vwCl [] U.heap ∧ va_K (dC, dI) vwCl [] U ∧ va_D (fun _ => True) [] ∧ nv_E (va_A [] sz) U)) (va_Qi (fun r _ => (((v0 &&& 4096) = 0) ∧ (¬ (((v0 : Int32) >>> ((10 : Int32) &&& 31)) &&& 3) = 2) ∧ (2 ≤ (((v0 : Int32) >>> ((10 : Int32) &&& 31)) &&& 3)) ∧ ((((v0 : Int32) >>> ((5 : Int32) &&& 31)) &&& 3) = 0) ∧ r = (((((((8 + (((v0 : Int32) >>> ((2 : Int32) &&& 31)) &&& 7)) : Int32) <<< ((20 : Int32) &&& 31)) ||| (((8 + (((v0 : Int32) >>> ((7 : Int32) &&& 31)) &&& 7)) : Int32) <<< ((15 : Int32) &&& 31))) ||| (((8 + (((v0 : Int32) >>> ((7 : Int32) &&& 31)) &&& 7)) : Int32) <<< ((7 : Int32) &&& 31))) ||| 51) ||| 1073741824)) ∨ (((v0 &&& 4096) = 0) ∧ (¬ (((v0 : Int32) >>> ((10 : Int32) &&& 31)) &&& 3) = 2) ∧ (2 ≤ (((v0 : Int32) >>> ((10 : Int32) &&& 31)) &&& 3)) ∧ (¬ (((v0 : Int32) >>> ((5 : Int32) &&& 31)) &&& 3) = 0) ∧ ((((v0 : Int32) >>> ((5 : Int32) &&& 31)) &&& 3) = 1) ∧ r = (((((((8 + (((v0 : Int32) >>> ((2 : Int32) &&& 31)) &&& 7)) : Int32) <<< ((20 : Int32) &&& 31)) ||| (((8 + (((v0 : Int32) >>> ((7 : Int32) &&& 31)) &&& 7)) : Int32) <<< ((15 : Int32) &&& 31))) ||| (((8 + (((v0 : Int32) >>> ((7 : Int32) &&& 31)) &&& 7)) : Int32) <<< ((7 : Int32) &&& 31))) ||| 51) ||| 16384)) ∨ (((v0 &&& 4096) = 0) ∧ (¬ (((v0 : Int32) >>> ((10 : Int32) &&& 31)) &&& 3) = 2) ∧ (2 ≤ (((v0 : Int32) >>> ((10 : Int32) &&& 31)) &&& 3)) ∧ (¬ (((v0 : Int32) >>> ((5 : Int32) &&& 31)) &&& 3) = 0) ∧ (¬ (((v0 : Int32) >>> ((5 : Int32) &&& 31)) &&& 3) = 1) ∧ ((((v0 : Int32) >>> ((5 : Int32) &&& 31)) &&& 3) = 2) ∧ r = (((((((8 + (((v0 : Int32) >>> ((2 : Int32) &&& 31)) &&& 7)) : Int32) <<< ((20 : Int32) &&& 31)) ||| (((8 + (((v0 : Int32) >>> ((7 : Int32) &&& 31)) &&& 7)) : Int32) <<< ((15 : Int32) &&& 31))) ||| (((8 + (((v0 : Int32) >>> ((7 : Int32) &&& 31)) &&& 7)) : Int32) <<< ((7 : Int32) &&& 31))) ||| 51) ||| 24576)) ∨ (((v0 &&& 4096) = 0) ∧ (¬ (((v0 : Int32) >>> ((10 : Int32) &&& 31)) &&& 3) = 2) ∧ (2 ≤ (((v0 : Int32) >>> ((10 : Int32) &&& 31)) &&& 3)) ∧ (¬ (((v0 : Int32) >>> ((5 : Int32) &&& 31)) &&& 3) = 0) ∧ (¬ (((v0 : Int32) >>> ((5 : Int32) &&& 31)) &&& 3) = 1) ∧ (¬ (((v0 : Int32) >>> ((5 : Int32) &&& 31)) &&& 3) = 2) ∧ r = (((((((8 + (((v0 : Int32) >>> ((2 : Int32) &&& 31)) &&& 7)) : Int32) <<< ((20 : Int32) &&& 31)) ||| (((8 + (((v0 : Int32) >>> ((7 : Int32) &&& 31)) &&& 7)) : Int32) <<< ((15 : Int32) &&& 31))) ||| (((8 + (((v0 : Int32) >>> ((7 : Int32) &&& 31)) &&& 7)) : Int32) <<< ((7 : Int32) &&& 31))) ||| 51) ||| 28672)) ∨ (((v0 &&& 4096) = 0) ∧ (¬ (((v0 : Int32) >>> ((10 : Int32) &&& 31)) &&& 3) = 2) ∧ (¬ 2 ≤ (((v0 : Int32) >>> ((10 : Int32) &&& 31)) &&& 3)) ∧ r = ((((((((((v0 : Int32) >>> ((2 : Int32) &&& 31)) &&& 31) ||| (((((v0 : Int32) >>> ((10 : Int32) &&& 31)) &&& 3) : Int32) <<< ((10 : Int32) &&& 31))) : Int32) <<< ((20 : Int32) &&& 31)) ||| (((8 + (((v0 : Int32) >>> ((7 : Int32) &&& 31)) &&& 7)) : Int32) <<< ((15 : Int32) &&& 31))) ||| 20480) ||| (((8 + (((v0 : Int32) >>> ((7 : Int32) &&& 31)) &&& 7)) : Int32) <<< ((7 : Int32) &&& 31))) ||| 19)) ∨ (((v0 &&& 4096) = 0) ∧ ((((v0 : Int32) >>> ((10 : Int32) &&& 31)) &&& 3) = 2) ∧ r = (((((((((((((v0 : Int32) <<< ((19 : Int32) &&& 31)) : Int32) >>> ((31 : Int32) &&& 31)) : Int32) <<< ((5 : Int32) &&& 31)) ||| (((v0 : Int32) >>> ((2 : Int32) &&& 31)) &&& 31)) : Int32) <<< ((20 : Int32) &&& 31)) ||| (((8 + (((v0 : Int32) >>> ((7 : Int32) &&& 31)) &&& 7)) : Int32) <<< ((15 : Int32) &&& 31))) ||| 28672) ||| (((8 + (((v0 : Int32) >>> ((7 : Int32) &&& 31)) &&& 7)) : Int32) <<< ((7 : Int32) &&& 31))) ||| 19)) ∨ ((¬ (v0 &&& 4096) = 0) ∧ (¬ (((v0 : Int32) >>> ((10 : Int32) &&& 31)) &&& 3) = 2) ∧ r = 0) ∨ ((¬ (v0 &&& 4096) = 0) ∧ ((((v0 : Int32) >>> ((10 : Int32) &&& 31)) &&& 3) = 2) ∧ r = (((((((((((((v0 : Int32) <<< ((19 : Int32) &&& 31)) : Int32) >>> ((31 : Int32) &&& 31)) : Int32) <<< ((5 : Int32) &&& 31)) ||| (((v0 : Int32) >>> ((2 : Int32) &&& 31)) &&& 31)) : Int32) <<< ((20 : Int32) &&& 31)) ||| (((8 + (((v0 : Int32) >>> ((7 : Int32) &&& 31)) &&& 7)) : Int32) <<< ((15 : Int32) &&& 31))) ||| 28672) ||| (((8 + (((v0 : Int32) >>> ((7 : Int32) &&& 31)) &&& 7)) : Int32) <<< ((7 : Int32) &&& 31))) ||| 19)) ∨ False) (fun (_ : Unit) t => va_P (dC, dI) vwCl [] t.heap ∧ va_K (dC, dI) vwCl [] t ∧ va_D (va_A [] sz) []) (va_A [] sz)) 0 0 (va_A [] sz) := by
  refine Met.ofW (cc := cX4_expandedSums) (maxL := 6) (ret := (some .int)) (by decide) rfl ?_
  intro p e s m args below meth c s₁ B hml hv
  obtain ⟨rfl, hsz, hP, hK, hD0, hN⟩ := hv
  have hx := B.exec
  have hb := B.bytes
  have hr := B.returns
  have hts := atoms_spec (ws := ow_g_X4_expandedSums) B.pre
  have hown : s.vm.findClass RX4 = some m.cls := findClass_of_methodNamed B.named
  have hlocks := B.notSynchronized
  subst hsz
  have hD := hD0.self (sz := s.heap.size)
  generalize hAe : va_A [] s.heap.size = A at hD hN ⊢
  have hA : ∀ q : Nat, s.heap.size ≤ q → A q := fun q h => by rw [← hAe]; exact Or.inr h
  have hS : va_S A s.heap s.heap [] := va_S.rf
  have hl := lv_entry ([.int v0]) (n := 6) (Nat.le_of_ble_eq_true rfl)
  rw [lg_entry_eq]
  generalize (lg_sl ([.int v0]) ++ List.replicate (6 - (lg_sl ([.int v0])).length) Slot.unset).toArray = ls at hl ⊢
  have hl : lv_has ls 6 [(0, .int v0)] := hl
  refine lv_bipush (v := 8) hx hb dX4_expandedSums_0 (by decide) ?_
  refine lv_iload_n hx hb dX4_expandedSums_2 rfl (lv_at hl 0 rfl) ?_
  refine lv_bipush (v := 7) hx hb dX4_expandedSums_3 (by decide) ?_
  refine lv_ishr hx hb dX4_expandedSums_5 ?_
  refine lv_bipush (v := 7) hx hb dX4_expandedSums_6 (by decide) ?_
  refine lv_iand hx hb dX4_expandedSums_8 ?_
  refine lv_iadd hx hb dX4_expandedSums_9 ?_
  refine lv_istore_n (lv' := [(1, .int (8 + (((v0 : Int32) >>> ((7 : Int32) &&& 31)) &&& 7))), (0, .int v0)]) hx hb dX4_expandedSums_10 rfl hl (by decide) rfl (fun ls hl => ?_)
  refine lv_bipush (v := 8) hx hb dX4_expandedSums_11 (by decide) ?_
  refine lv_iload_n hx hb dX4_expandedSums_13 rfl (lv_at hl 1 rfl) ?_
  refine lv_iconst (v := 2) hx hb dX4_expandedSums_14 (by decide) ?_
  refine lv_ishr hx hb dX4_expandedSums_15 ?_
  refine lv_bipush (v := 7) hx hb dX4_expandedSums_16 (by decide) ?_
  refine lv_iand hx hb dX4_expandedSums_18 ?_
  refine lv_iadd hx hb dX4_expandedSums_19 ?_
  refine lv_istore_n (lv' := [(2, .int (8 + (((v0 : Int32) >>> ((2 : Int32) &&& 31)) &&& 7))), (1, .int (8 + (((v0 : Int32) >>> ((7 : Int32) &&& 31)) &&& 7))), (0, .int v0)]) hx hb dX4_expandedSums_20 rfl hl (by decide) rfl (fun ls hl => ?_)
  refine lv_iload_n hx hb dX4_expandedSums_21 rfl (lv_at hl 2 rfl) ?_
  refine lv_sipush (v := 4096) hx hb dX4_expandedSums_22 (by decide) ?_
  refine lv_iand hx hb dX4_expandedSums_25 ?_
  refine lv_if_eq (tgt := 33) hx hb dX4_expandedSums_26 (by decide) (fun c_1 => ?_) (fun c_1 => ?_)
  · refine lv_iconst (v := 0) hx hb dX4_expandedSums_33 (by decide) ?_
    refine lv_istore_n (lv' := [(3, .int 0), (2, .int (8 + (((v0 : Int32) >>> ((2 : Int32) &&& 31)) &&& 7))), (1, .int (8 + (((v0 : Int32) >>> ((7 : Int32) &&& 31)) &&& 7))), (0, .int v0)]) hx hb dX4_expandedSums_34 rfl hl (by decide) rfl (fun ls hl => ?_)
    refine lv_iload_n hx hb dX4_expandedSums_35 rfl (lv_at hl 3 rfl) ?_
    refine lv_bipush (v := 10) hx hb dX4_expandedSums_36 (by decide) ?_
    refine lv_ishr hx hb dX4_expandedSums_38 ?_
    refine lv_iconst (v := 3) hx hb dX4_expandedSums_39 (by decide) ?_
    refine lv_iand hx hb dX4_expandedSums_40 ?_
    refine lv_istore (lv' := [(4, .int (((v0 : Int32) >>> ((10 : Int32) &&& 31)) &&& 3)), (3, .int 0), (2, .int (8 + (((v0 : Int32) >>> ((2 : Int32) &&& 31)) &&& 7))), (1, .int (8 + (((v0 : Int32) >>> ((7 : Int32) &&& 31)) &&& 7))), (0, .int v0)]) hx hb dX4_expandedSums_41 hl (by decide) rfl (fun ls hl => ?_)
    refine lv_iload hx hb dX4_expandedSums_43 (lv_at hl 0 rfl) ?_
    refine lv_iconst (v := 2) hx hb dX4_expandedSums_45 (by decide) ?_
    refine lv_icmp_ne (tgt := 61) hx hb dX4_expandedSums_46 (by decide) (fun c_2 => ?_) (fun c_2 => ?_)
    · refine lv_iload_n hx hb dX4_expandedSums_61 rfl (lv_at hl 1 rfl) ?_
      refine lv_if_eq (tgt := 67) hx hb dX4_expandedSums_62 (by decide) (fun _ => ?_) (fun h9 => absurd (by decide) h9)
      refine lv_iload hx hb dX4_expandedSums_67 (lv_at hl 0 rfl) ?_
      refine lv_iconst (v := 2) hx hb dX4_expandedSums_69 (by decide) ?_
      refine lv_icmp_ge (tgt := 92) hx hb dX4_expandedSums_70 (by decide) (fun c_3 => ?_) (fun c_3 => ?_)
      · refine lv_iload_n hx hb dX4_expandedSums_92 rfl (lv_at hl 2 rfl) ?_
        refine lv_bipush (v := 20) hx hb dX4_expandedSums_93 (by decide) ?_
        refine lv_ishl hx hb dX4_expandedSums_95 ?_
        refine lv_iload_n hx hb dX4_expandedSums_96 rfl (lv_at hl 3 rfl) ?_
        refine lv_bipush (v := 15) hx hb dX4_expandedSums_97 (by decide) ?_
        refine lv_ishl hx hb dX4_expandedSums_99 ?_
        refine lv_ior hx hb dX4_expandedSums_100 ?_
        refine lv_iload_n hx hb dX4_expandedSums_101 rfl (lv_at hl 3 rfl) ?_
        refine lv_bipush (v := 7) hx hb dX4_expandedSums_102 (by decide) ?_
        refine lv_ishl hx hb dX4_expandedSums_104 ?_
        refine lv_ior hx hb dX4_expandedSums_105 ?_
        refine lv_bipush (v := 51) hx hb dX4_expandedSums_106 (by decide) ?_
        refine lv_ior hx hb dX4_expandedSums_108 ?_
        refine lv_istore (lv' := [(5, .int ((((((8 + (((v0 : Int32) >>> ((2 : Int32) &&& 31)) &&& 7)) : Int32) <<< ((20 : Int32) &&& 31)) ||| (((8 + (((v0 : Int32) >>> ((7 : Int32) &&& 31)) &&& 7)) : Int32) <<< ((15 : Int32) &&& 31))) ||| (((8 + (((v0 : Int32) >>> ((7 : Int32) &&& 31)) &&& 7)) : Int32) <<< ((7 : Int32) &&& 31))) ||| 51)), (4, .int (((v0 : Int32) >>> ((10 : Int32) &&& 31)) &&& 3)), (3, .int 0), (2, .int (8 + (((v0 : Int32) >>> ((2 : Int32) &&& 31)) &&& 7))), (1, .int (8 + (((v0 : Int32) >>> ((7 : Int32) &&& 31)) &&& 7))), (0, .int v0)]) hx hb dX4_expandedSums_109 hl (by decide) rfl (fun ls hl => ?_)
        refine lv_iload_n hx hb dX4_expandedSums_111 rfl (lv_at hl 5 rfl) ?_
        refine lv_iconst (v := 5) hx hb dX4_expandedSums_112 (by decide) ?_
        refine lv_ishr hx hb dX4_expandedSums_113 ?_
        refine lv_iconst (v := 3) hx hb dX4_expandedSums_114 (by decide) ?_
        refine lv_iand hx hb dX4_expandedSums_115 ?_
        by_cases c_4 : (((v0 : Int32) >>> ((5 : Int32) &&& 31)) &&& 3) = 0
        · refine lv_tableIn (off := 28) (tgt := 144) hx hb dX4_expandedSums_116 (by rw [c_4]; decide) (by rw [c_4]; decide) (by rw [c_4]; decide) (by decide) ?_
          refine lv_iload hx hb dX4_expandedSums_144 (lv_at hl 0 rfl) ?_
          refine lv_ldc hx hb hown (hts (.constant RX4 171 (1073741824)) (List.mem_of_getElem? (i := 1) rfl)) dX4_expandedSums_146 ?_
          refine lv_ior hx hb dX4_expandedSums_148 ?_
          refine W.widen (k := 0) (n := 0) (by decide +kernel) (by decide +kernel) ?_
          exact W.iret (v := (((((((8 + (((v0 : Int32) >>> ((2 : Int32) &&& 31)) &&& 7)) : Int32) <<< ((20 : Int32) &&& 31)) ||| (((8 + (((v0 : Int32) >>> ((7 : Int32) &&& 31)) &&& 7)) : Int32) <<< ((15 : Int32) &&& 31))) ||| (((8 + (((v0 : Int32) >>> ((7 : Int32) &&& 31)) &&& 7)) : Int32) <<< ((7 : Int32) &&& 31))) ||| 51) ||| 1073741824)) hx hb hr (fun t ht hW => ⟨⟨(((((((8 + (((v0 : Int32) >>> ((2 : Int32) &&& 31)) &&& 7)) : Int32) <<< ((20 : Int32) &&& 31)) ||| (((8 + (((v0 : Int32) >>> ((7 : Int32) &&& 31)) &&& 7)) : Int32) <<< ((15 : Int32) &&& 31))) ||| (((8 + (((v0 : Int32) >>> ((7 : Int32) &&& 31)) &&& 7)) : Int32) <<< ((7 : Int32) &&& 31))) ||| 51) ||| 1073741824), (), rfl, Or.inl ⟨c_1, c_2, c_3, c_4, rfl⟩, by rw [ht]; exact hP, va_K.moved hW.alike hK, hD⟩, hS.F ht⟩) hS.2.2 dX4_expandedSums_149
        by_cases c_5 : (((v0 : Int32) >>> ((5 : Int32) &&& 31)) &&& 3) = 1
        · refine lv_tableIn (off := 34) (tgt := 150) hx hb dX4_expandedSums_116 (by rw [c_5]; decide) (by rw [c_5]; decide) (by rw [c_5]; decide) (by decide) ?_
          refine lv_iload hx hb dX4_expandedSums_150 (lv_at hl 0 rfl) ?_
          refine lv_sipush (v := 16384) hx hb dX4_expandedSums_152 (by decide) ?_
          refine lv_ior hx hb dX4_expandedSums_155 ?_
          refine W.widen (k := 0) (n := 0) (by decide +kernel) (by decide +kernel) ?_
          exact W.iret (v := (((((((8 + (((v0 : Int32) >>> ((2 : Int32) &&& 31)) &&& 7)) : Int32) <<< ((20 : Int32) &&& 31)) ||| (((8 + (((v0 : Int32) >>> ((7 : Int32) &&& 31)) &&& 7)) : Int32) <<< ((15 : Int32) &&& 31))) ||| (((8 + (((v0 : Int32) >>> ((7 : Int32) &&& 31)) &&& 7)) : Int32) <<< ((7 : Int32) &&& 31))) ||| 51) ||| 16384)) hx hb hr (fun t ht hW => ⟨⟨(((((((8 + (((v0 : Int32) >>> ((2 : Int32) &&& 31)) &&& 7)) : Int32) <<< ((20 : Int32) &&& 31)) ||| (((8 + (((v0 : Int32) >>> ((7 : Int32) &&& 31)) &&& 7)) : Int32) <<< ((15 : Int32) &&& 31))) ||| (((8 + (((v0 : Int32) >>> ((7 : Int32) &&& 31)) &&& 7)) : Int32) <<< ((7 : Int32) &&& 31))) ||| 51) ||| 16384), (), rfl, Or.inr (Or.inl ⟨c_1, c_2, c_3, c_4, c_5, rfl⟩), by rw [ht]; exact hP, va_K.moved hW.alike hK, hD⟩, hS.F ht⟩) hS.2.2 dX4_expandedSums_156
        by_cases c_6 : (((v0 : Int32) >>> ((5 : Int32) &&& 31)) &&& 3) = 2
        · refine lv_tableIn (off := 41) (tgt := 157) hx hb dX4_expandedSums_116 (by rw [c_6]; decide) (by rw [c_6]; decide) (by rw [c_6]; decide) (by decide) ?_
          refine lv_iload hx hb dX4_expandedSums_157 (lv_at hl 0 rfl) ?_
          refine lv_sipush (v := 24576) hx hb dX4_expandedSums_159 (by decide) ?_
          refine lv_ior hx hb dX4_expandedSums_162 ?_
          refine W.widen (k := 0) (n := 0) (by decide +kernel) (by decide +kernel) ?_
          exact W.iret (v := (((((((8 + (((v0 : Int32) >>> ((2 : Int32) &&& 31)) &&& 7)) : Int32) <<< ((20 : Int32) &&& 31)) ||| (((8 + (((v0 : Int32) >>> ((7 : Int32) &&& 31)) &&& 7)) : Int32) <<< ((15 : Int32) &&& 31))) ||| (((8 + (((v0 : Int32) >>> ((7 : Int32) &&& 31)) &&& 7)) : Int32) <<< ((7 : Int32) &&& 31))) ||| 51) ||| 24576)) hx hb hr (fun t ht hW => ⟨⟨(((((((8 + (((v0 : Int32) >>> ((2 : Int32) &&& 31)) &&& 7)) : Int32) <<< ((20 : Int32) &&& 31)) ||| (((8 + (((v0 : Int32) >>> ((7 : Int32) &&& 31)) &&& 7)) : Int32) <<< ((15 : Int32) &&& 31))) ||| (((8 + (((v0 : Int32) >>> ((7 : Int32) &&& 31)) &&& 7)) : Int32) <<< ((7 : Int32) &&& 31))) ||| 51) ||| 24576), (), rfl, Or.inr (Or.inr (Or.inl ⟨c_1, c_2, c_3, c_4, c_5, c_6, rfl⟩)), by rw [ht]; exact hP, va_K.moved hW.alike hK, hD⟩, hS.F ht⟩) hS.2.2 dX4_expandedSums_163
        refine lv_tableOut (tgt := 164) hx hb dX4_expandedSums_116 (by have g0 := nv_nei c_4 (k := 0) (by decide); have g1 := nv_nei c_5 (k := 1) (by decide); have g2 := nv_nei c_6 (k := 2) (by decide); omega) (by decide) ?_
        refine lv_iload hx hb dX4_expandedSums_164 (lv_at hl 0 rfl) ?_
        refine lv_sipush (v := 28672) hx hb dX4_expandedSums_166 (by decide) ?_
        refine lv_ior hx hb dX4_expandedSums_169 ?_
        refine W.widen (k := 0) (n := 0) (by decide +kernel) (by decide +kernel) ?_
        exact W.iret (v := (((((((8 + (((v0 : Int32) >>> ((2 : Int32) &&& 31)) &&& 7)) : Int32) <<< ((20 : Int32) &&& 31)) ||| (((8 + (((v0 : Int32) >>> ((7 : Int32) &&& 31)) &&& 7)) : Int32) <<< ((15 : Int32) &&& 31))) ||| (((8 + (((v0 : Int32) >>> ((7 : Int32) &&& 31)) &&& 7)) : Int32) <<< ((7 : Int32) &&& 31))) ||| 51) ||| 28672)) hx hb hr (fun t ht hW => ⟨⟨(((((((8 + (((v0 : Int32) >>> ((2 : Int32) &&& 31)) &&& 7)) : Int32) <<< ((20 : Int32) &&& 31)) ||| (((8 + (((v0 : Int32) >>> ((7 : Int32) &&& 31)) &&& 7)) : Int32) <<< ((15 : Int32) &&& 31))) ||| (((8 + (((v0 : Int32) >>> ((7 : Int32) &&& 31)) &&& 7)) : Int32) <<< ((7 : Int32) &&& 31))) ||| 51) ||| 28672), (), rfl, Or.inr (Or.inr (Or.inr (Or.inl ⟨c_1, c_2, c_3, c_4, c_5, c_6, rfl⟩))), by rw [ht]; exact hP, va_K.moved hW.alike hK, hD⟩, hS.F ht⟩) hS.2.2 dX4_expandedSums_170
      · refine lv_iload_n hx hb dX4_expandedSums_73 rfl (lv_at hl 4 rfl) ?_
        refine lv_iconst (v := 2) hx hb dX4_expandedSums_74 (by decide) ?_
        refine lv_ishr hx hb dX4_expandedSums_75 ?_
        refine lv_bipush (v := 31) hx hb dX4_expandedSums_76 (by decide) ?_
        refine lv_iand hx hb dX4_expandedSums_78 ?_
        refine lv_iload hx hb dX4_expandedSums_79 (lv_at hl 0 rfl) ?_
        refine lv_bipush (v := 10) hx hb dX4_expandedSums_81 (by decide) ?_
        refine lv_ishl hx hb dX4_expandedSums_83 ?_
        refine lv_ior hx hb dX4_expandedSums_84 ?_
        refine lv_iload_n hx hb dX4_expandedSums_85 rfl (lv_at hl 3 rfl) ?_
        refine lv_iconst (v := 5) hx hb dX4_expandedSums_86 (by decide) ?_
        refine lv_iload_n hx hb dX4_expandedSums_87 rfl (lv_at hl 3 rfl) ?_
        have hPc := hP.sub (ws' := []) [] rfl
        have hDc := hD.sub (ws' := []) [] (by decide) rfl
        have hKc := hK.sub (tys' := []) [] rfl
        have hFc := va_free (wc := []) hD hS hA [] rfl
        refine va_calli (va_runS (As := [.int ((((v0 : Int32) >>> ((2 : Int32) &&& 31)) &&& 31) ||| (((((v0 : Int32) >>> ((10 : Int32) &&& 31)) &&& 3) : Int32) <<< ((10 : Int32) &&& 31))), .int (8 + (((v0 : Int32) >>> ((7 : Int32) &&& 31)) &&& 7)), .int 5, .int (8 + (((v0 : Int32) >>> ((7 : Int32) &&& 31)) &&& 7))]) (rest := []) ⟨hx, hb, hml, hown, hts⟩ (k_X4_number l hlt dC dI ((((v0 : Int32) >>> ((2 : Int32) &&& 31)) &&& 31) ||| (((((v0 : Int32) >>> ((10 : Int32) &&& 31)) &&& 3) : Int32) <<< ((10 : Int32) &&& 31))) (8 + (((v0 : Int32) >>> ((7 : Int32) &&& 31)) &&& 7)) (8 + (((v0 : Int32) >>> ((7 : Int32) &&& 31)) &&& 7))  s.heap.size) (cwS 4 hts gi_g_X4_expandedSums_0 rfl rfl rfl (by decide +kernel) ⟨Nat.le_of_ble_eq_true rfl, Nat.le_of_ble_eq_true rfl⟩) ⟨fun a U g mk q => by obtain ⟨q0, q1, qP, qK, qD, qN⟩ := q; exact ⟨q0, q1, qP, va_K.moved (u := U) (U := U.calling g mk a) (Vm.Alike.refl U.vm) qK, qD, nv_same rfl rfl qN⟩, fun U hU hW => ⟨rfl, by rw [hU], by rw [hU]; exact hPc, va_K.moved hW.alike hKc, hDc.weaken (fun _ _ _ _ => trivial), nv_call hS hFc hU hW hN⟩⟩ rfl rfl hl.1 rfl (lv_room (Nat.le_of_ble_eq_true rfl)) dX4_expandedSums_88 ⟨by decide +kernel, by decide +kernel⟩) hS (fun q _ h => hFc q h) hFc (fun r4 u t H1 locs ht hvm hw hB hz1 hk1 hS => ?_)
        obtain ⟨hP1, hK1, hD1⟩ := hB
        rw [ht] at hP1
        have hK1 := va_K.moved hvm.symm hK1
        obtain ⟨hP, hD⟩ := va_join (wr := []) (w1 := []) hP hD [] [] rfl rfl (by decide) (by decide) hk1 hFc hP1 hD1
        have hK := (hK.sub (tys' := []) [] rfl).app hK1
        generalize H1 = H at hP hS ⊢
        have hP : va_P (dC, dI) vwCl [] H := hP
        have hD : va_D A [] := hD
        have hK : va_K (dC, dI) vwCl [] s := hK
        refine W.widen (k := 0) (n := 0) (by decide +kernel) (by decide +kernel) ?_
        rcases hw with h9 | h9
        · subst h9
          refine W.widen (k := 0) (n := 0) (by decide +kernel) (by decide +kernel) ?_
          exact W.iret (v := ((((((((((v0 : Int32) >>> ((2 : Int32) &&& 31)) &&& 31) ||| (((((v0 : Int32) >>> ((10 : Int32) &&& 31)) &&& 3) : Int32) <<< ((10 : Int32) &&& 31))) : Int32) <<< ((20 : Int32) &&& 31)) ||| (((8 + (((v0 : Int32) >>> ((7 : Int32) &&& 31)) &&& 7)) : Int32) <<< ((15 : Int32) &&& 31))) ||| 20480) ||| (((8 + (((v0 : Int32) >>> ((7 : Int32) &&& 31)) &&& 7)) : Int32) <<< ((7 : Int32) &&& 31))) ||| 19)) hx hb hr (fun t ht hW => ⟨⟨((((((((((v0 : Int32) >>> ((2 : Int32) &&& 31)) &&& 31) ||| (((((v0 : Int32) >>> ((10 : Int32) &&& 31)) &&& 3) : Int32) <<< ((10 : Int32) &&& 31))) : Int32) <<< ((20 : Int32) &&& 31)) ||| (((8 + (((v0 : Int32) >>> ((7 : Int32) &&& 31)) &&& 7)) : Int32) <<< ((15 : Int32) &&& 31))) ||| 20480) ||| (((8 + (((v0 : Int32) >>> ((7 : Int32) &&& 31)) &&& 7)) : Int32) <<< ((7 : Int32) &&& 31))) ||| 19), (), rfl, Or.inr (Or.inr (Or.inr (Or.inr (Or.inl ⟨c_1, c_2, c_3, rfl⟩)))), by rw [ht]; exact hP, va_K.moved hW.alike hK, hD⟩, hS.F ht⟩) hS.2.2 dX4_expandedSums_91
        · exact h9.elim
    · refine lv_iload_n hx hb dX4_expandedSums_49 rfl (lv_at hl 4 rfl) ?_
      have hPc := hP.sub (ws' := []) [] rfl
      have hDc := hD.sub (ws' := []) [] (by decide) rfl
      have hKc := hK.sub (tys' := []) [] rfl
      have hFc := va_free (wc := []) hD hS hA [] rfl
      refine va_calli (va_runS (As := [.int v0]) (rest := []) ⟨hx, hb, hml, hown, hts⟩ (k_X4_signedNumber l hlt dC dI v0  s.heap.size) (cwS 1 hts gi_g_X4_expandedSums_1 rfl rfl rfl (by decide +kernel) ⟨Nat.le_of_ble_eq_true rfl, Nat.le_of_ble_eq_true rfl⟩) ⟨fun a U g mk q => by obtain ⟨q0, q1, qP, qK, qD, qN⟩ := q; exact ⟨q0, q1, qP, va_K.moved (u := U) (U := U.calling g mk a) (Vm.Alike.refl U.vm) qK, qD, nv_same rfl rfl qN⟩, fun U hU hW => ⟨rfl, by rw [hU], by rw [hU]; exact hPc, va_K.moved hW.alike hKc, hDc.weaken (fun _ _ _ _ => trivial), nv_call hS hFc hU hW hN⟩⟩ rfl rfl hl.1 rfl (lv_room (Nat.le_of_ble_eq_true rfl)) dX4_expandedSums_50 ⟨by decide +kernel, by decide +kernel⟩) hS (fun q _ h => hFc q h) hFc (fun r5 u t H1 locs ht hvm hw hB hz1 hk1 hS => ?_)
      obtain ⟨hP1, hK1, hD1⟩ := hB
      rw [ht] at hP1
      have hK1 := va_K.moved hvm.symm hK1
      obtain ⟨hP, hD⟩ := va_join (wr := []) (w1 := []) hP hD [] [] rfl rfl (by decide) (by decide) hk1 hFc hP1 hD1
      have hK := (hK.sub (tys' := []) [] rfl).app hK1
      generalize H1 = H at hP hS ⊢
      have hP : va_P (dC, dI) vwCl [] H := hP
      have hD : va_D A [] := hD
      have hK : va_K (dC, dI) vwCl [] s := hK
      refine W.widen (k := 0) (n := 0) (by decide +kernel) (by decide +kernel) ?_
      rcases hw with h9 | h9
      · subst h9
        refine lv_iload_n hx hb dX4_expandedSums_53 rfl (lv_at hl 3 rfl) ?_
        refine lv_bipush (v := 7) hx hb dX4_expandedSums_54 (by decide) ?_
        refine lv_iload_n hx hb dX4_expandedSums_56 rfl (lv_at hl 3 rfl) ?_
        have hPc := hP.sub (ws' := []) [] rfl
        have hDc := hD.sub (ws' := []) [] (by decide) rfl
        have hKc := hK.sub (tys' := []) [] rfl
        have hFc := va_free (wc := []) hD hS hA [] rfl
        refine va_calli (va_runS (As := [.int (((((((v0 : Int32) <<< ((19 : Int32) &&& 31)) : Int32) >>> ((31 : Int32) &&& 31)) : Int32) <<< ((5 : Int32) &&& 31)) ||| (((v0 : Int32) >>> ((2 : Int32) &&& 31)) &&& 31)), .int (8 + (((v0 : Int32) >>> ((7 : Int32) &&& 31)) &&& 7)), .int 7, .int (8 + (((v0 : Int32) >>> ((7 : Int32) &&& 31)) &&& 7))]) (rest := []) ⟨hx, hb, hml, hown, hts⟩ (k_X4_number_v1 l hlt dC dI (((((((v0 : Int32) <<< ((19 : Int32) &&& 31)) : Int32) >>> ((31 : Int32) &&& 31)) : Int32) <<< ((5 : Int32) &&& 31)) ||| (((v0 : Int32) >>> ((2 : Int32) &&& 31)) &&& 31)) (8 + (((v0 : Int32) >>> ((7 : Int32) &&& 31)) &&& 7)) (8 + (((v0 : Int32) >>> ((7 : Int32) &&& 31)) &&& 7))  H.size) (cwS 4 hts gi_g_X4_expandedSums_2 rfl rfl rfl (by decide +kernel) ⟨Nat.le_of_ble_eq_true rfl, Nat.le_of_ble_eq_true rfl⟩) ⟨fun a U g mk q => by obtain ⟨q0, q1, qP, qK, qD, qN⟩ := q; exact ⟨q0, q1, qP, va_K.moved (u := U) (U := U.calling g mk a) (Vm.Alike.refl U.vm) qK, qD, nv_same rfl rfl qN⟩, fun U hU hW => ⟨rfl, by rw [hU], by rw [hU]; exact hPc, va_K.moved hW.alike hKc, hDc.weaken (fun _ _ _ _ => trivial), nv_call hS hFc hU hW hN⟩⟩ rfl rfl hl.1 rfl (lv_room (Nat.le_of_ble_eq_true rfl)) dX4_expandedSums_57 ⟨by decide +kernel, by decide +kernel⟩) hS (fun q _ h => hFc q h) hFc (fun r9 u t H1 locs ht hvm hw hB hz1 hk1 hS => ?_)
        obtain ⟨hP1, hK1, hD1⟩ := hB
        rw [ht] at hP1
        have hK1 := va_K.moved hvm.symm hK1
        obtain ⟨hP, hD⟩ := va_join (wr := []) (w1 := []) hP hD [] [] rfl rfl (by decide) (by decide) hk1 hFc hP1 hD1
        have hK := (hK.sub (tys' := []) [] rfl).app hK1
        generalize H1 = H at hP hS ⊢
        have hP : va_P (dC, dI) vwCl [] H := hP
        have hD : va_D A [] := hD
        have hK : va_K (dC, dI) vwCl [] s := hK
        refine W.widen (k := 0) (n := 0) (by decide +kernel) (by decide +kernel) ?_
        rcases hw with h9 | h9
        · subst h9
          refine W.widen (k := 0) (n := 0) (by decide +kernel) (by decide +kernel) ?_
          exact W.iret (v := (((((((((((((v0 : Int32) <<< ((19 : Int32) &&& 31)) : Int32) >>> ((31 : Int32) &&& 31)) : Int32) <<< ((5 : Int32) &&& 31)) ||| (((v0 : Int32) >>> ((2 : Int32) &&& 31)) &&& 31)) : Int32) <<< ((20 : Int32) &&& 31)) ||| (((8 + (((v0 : Int32) >>> ((7 : Int32) &&& 31)) &&& 7)) : Int32) <<< ((15 : Int32) &&& 31))) ||| 28672) ||| (((8 + (((v0 : Int32) >>> ((7 : Int32) &&& 31)) &&& 7)) : Int32) <<< ((7 : Int32) &&& 31))) ||| 19)) hx hb hr (fun t ht hW => ⟨⟨(((((((((((((v0 : Int32) <<< ((19 : Int32) &&& 31)) : Int32) >>> ((31 : Int32) &&& 31)) : Int32) <<< ((5 : Int32) &&& 31)) ||| (((v0 : Int32) >>> ((2 : Int32) &&& 31)) &&& 31)) : Int32) <<< ((20 : Int32) &&& 31)) ||| (((8 + (((v0 : Int32) >>> ((7 : Int32) &&& 31)) &&& 7)) : Int32) <<< ((15 : Int32) &&& 31))) ||| 28672) ||| (((8 + (((v0 : Int32) >>> ((7 : Int32) &&& 31)) &&& 7)) : Int32) <<< ((7 : Int32) &&& 31))) ||| 19), (), rfl, Or.inr (Or.inr (Or.inr (Or.inr (Or.inr (Or.inl ⟨c_1, c_2, rfl⟩))))), by rw [ht]; exact hP, va_K.moved hW.alike hK, hD⟩, hS.F ht⟩) hS.2.2 dX4_expandedSums_60
        · exact h9.elim
      · exact h9.elim
  · refine lv_iconst (v := 1) hx hb dX4_expandedSums_29 (by decide) ?_
    refine lv_goto (tgt := 34) hx hb dX4_expandedSums_30 (by decide) ?_
    refine lv_istore_n (lv' := [(3, .int 1), (2, .int (8 + (((v0 : Int32) >>> ((2 : Int32) &&& 31)) &&& 7))), (1, .int (8 + (((v0 : Int32) >>> ((7 : Int32) &&& 31)) &&& 7))), (0, .int v0)]) hx hb dX4_expandedSums_34 rfl hl (by decide) rfl (fun ls hl => ?_)
    refine lv_iload_n hx hb dX4_expandedSums_35 rfl (lv_at hl 3 rfl) ?_
    refine lv_bipush (v := 10) hx hb dX4_expandedSums_36 (by decide) ?_
    refine lv_ishr hx hb dX4_expandedSums_38 ?_
    refine lv_iconst (v := 3) hx hb dX4_expandedSums_39 (by decide) ?_
    refine lv_iand hx hb dX4_expandedSums_40 ?_
    refine lv_istore (lv' := [(4, .int (((v0 : Int32) >>> ((10 : Int32) &&& 31)) &&& 3)), (3, .int 1), (2, .int (8 + (((v0 : Int32) >>> ((2 : Int32) &&& 31)) &&& 7))), (1, .int (8 + (((v0 : Int32) >>> ((7 : Int32) &&& 31)) &&& 7))), (0, .int v0)]) hx hb dX4_expandedSums_41 hl (by decide) rfl (fun ls hl => ?_)
    refine lv_iload hx hb dX4_expandedSums_43 (lv_at hl 0 rfl) ?_
    refine lv_iconst (v := 2) hx hb dX4_expandedSums_45 (by decide) ?_
    refine lv_icmp_ne (tgt := 61) hx hb dX4_expandedSums_46 (by decide) (fun c_10 => ?_) (fun c_10 => ?_)
    · refine lv_iload_n hx hb dX4_expandedSums_61 rfl (lv_at hl 1 rfl) ?_
      refine lv_if_eq (tgt := 67) hx hb dX4_expandedSums_62 (by decide) (fun h9 => absurd h9 (by decide)) (fun _ => ?_)
      refine lv_iconst (v := 0) hx hb dX4_expandedSums_65 (by decide) ?_
      refine W.widen (k := 0) (n := 0) (by decide +kernel) (by decide +kernel) ?_
      exact W.iret (v := 0) hx hb hr (fun t ht hW => ⟨⟨0, (), rfl, Or.inr (Or.inr (Or.inr (Or.inr (Or.inr (Or.inr (Or.inl ⟨c_1, c_10, rfl⟩)))))), by rw [ht]; exact hP, va_K.moved hW.alike hK, hD⟩, hS.F ht⟩) hS.2.2 dX4_expandedSums_66
    · refine lv_iload_n hx hb dX4_expandedSums_49 rfl (lv_at hl 4 rfl) ?_
      have hPc := hP.sub (ws' := []) [] rfl
      have hDc := hD.sub (ws' := []) [] (by decide) rfl
      have hKc := hK.sub (tys' := []) [] rfl
      have hFc := va_free (wc := []) hD hS hA [] rfl
      refine va_calli (va_runS (As := [.int v0]) (rest := []) ⟨hx, hb, hml, hown, hts⟩ (k_X4_signedNumber l hlt dC dI v0  s.heap.size) (cwS 1 hts gi_g_X4_expandedSums_1 rfl rfl rfl (by decide +kernel) ⟨Nat.le_of_ble_eq_true rfl, Nat.le_of_ble_eq_true rfl⟩) ⟨fun a U g mk q => by obtain ⟨q0, q1, qP, qK, qD, qN⟩ := q; exact ⟨q0, q1, qP, va_K.moved (u := U) (U := U.calling g mk a) (Vm.Alike.refl U.vm) qK, qD, nv_same rfl rfl qN⟩, fun U hU hW => ⟨rfl, by rw [hU], by rw [hU]; exact hPc, va_K.moved hW.alike hKc, hDc.weaken (fun _ _ _ _ => trivial), nv_call hS hFc hU hW hN⟩⟩ rfl rfl hl.1 rfl (lv_room (Nat.le_of_ble_eq_true rfl)) dX4_expandedSums_50 ⟨by decide +kernel, by decide +kernel⟩) hS (fun q _ h => hFc q h) hFc (fun r10 u t H1 locs ht hvm hw hB hz1 hk1 hS => ?_)
      obtain ⟨hP1, hK1, hD1⟩ := hB
      rw [ht] at hP1
      have hK1 := va_K.moved hvm.symm hK1
      obtain ⟨hP, hD⟩ := va_join (wr := []) (w1 := []) hP hD [] [] rfl rfl (by decide) (by decide) hk1 hFc hP1 hD1
      have hK := (hK.sub (tys' := []) [] rfl).app hK1
      generalize H1 = H at hP hS ⊢
      have hP : va_P (dC, dI) vwCl [] H := hP
      have hD : va_D A [] := hD
      have hK : va_K (dC, dI) vwCl [] s := hK
      refine W.widen (k := 0) (n := 0) (by decide +kernel) (by decide +kernel) ?_
      rcases hw with h9 | h9
      · subst h9
        refine lv_iload_n hx hb dX4_expandedSums_53 rfl (lv_at hl 3 rfl) ?_
        refine lv_bipush (v := 7) hx hb dX4_expandedSums_54 (by decide) ?_
        refine lv_iload_n hx hb dX4_expandedSums_56 rfl (lv_at hl 3 rfl) ?_
        have hPc := hP.sub (ws' := []) [] rfl
        have hDc := hD.sub (ws' := []) [] (by decide) rfl
        have hKc := hK.sub (tys' := []) [] rfl
        have hFc := va_free (wc := []) hD hS hA [] rfl
        refine va_calli (va_runS (As := [.int (((((((v0 : Int32) <<< ((19 : Int32) &&& 31)) : Int32) >>> ((31 : Int32) &&& 31)) : Int32) <<< ((5 : Int32) &&& 31)) ||| (((v0 : Int32) >>> ((2 : Int32) &&& 31)) &&& 31)), .int (8 + (((v0 : Int32) >>> ((7 : Int32) &&& 31)) &&& 7)), .int 7, .int (8 + (((v0 : Int32) >>> ((7 : Int32) &&& 31)) &&& 7))]) (rest := []) ⟨hx, hb, hml, hown, hts⟩ (k_X4_number_v1 l hlt dC dI (((((((v0 : Int32) <<< ((19 : Int32) &&& 31)) : Int32) >>> ((31 : Int32) &&& 31)) : Int32) <<< ((5 : Int32) &&& 31)) ||| (((v0 : Int32) >>> ((2 : Int32) &&& 31)) &&& 31)) (8 + (((v0 : Int32) >>> ((7 : Int32) &&& 31)) &&& 7)) (8 + (((v0 : Int32) >>> ((7 : Int32) &&& 31)) &&& 7))  H.size) (cwS 4 hts gi_g_X4_expandedSums_2 rfl rfl rfl (by decide +kernel) ⟨Nat.le_of_ble_eq_true rfl, Nat.le_of_ble_eq_true rfl⟩) ⟨fun a U g mk q => by obtain ⟨q0, q1, qP, qK, qD, qN⟩ := q; exact ⟨q0, q1, qP, va_K.moved (u := U) (U := U.calling g mk a) (Vm.Alike.refl U.vm) qK, qD, nv_same rfl rfl qN⟩, fun U hU hW => ⟨rfl, by rw [hU], by rw [hU]; exact hPc, va_K.moved hW.alike hKc, hDc.weaken (fun _ _ _ _ => trivial), nv_call hS hFc hU hW hN⟩⟩ rfl rfl hl.1 rfl (lv_room (Nat.le_of_ble_eq_true rfl)) dX4_expandedSums_57 ⟨by decide +kernel, by decide +kernel⟩) hS (fun q _ h => hFc q h) hFc (fun r14 u t H1 locs ht hvm hw hB hz1 hk1 hS => ?_)
        obtain ⟨hP1, hK1, hD1⟩ := hB
        rw [ht] at hP1
        have hK1 := va_K.moved hvm.symm hK1
        obtain ⟨hP, hD⟩ := va_join (wr := []) (w1 := []) hP hD [] [] rfl rfl (by decide) (by decide) hk1 hFc hP1 hD1
        have hK := (hK.sub (tys' := []) [] rfl).app hK1
        generalize H1 = H at hP hS ⊢
        have hP : va_P (dC, dI) vwCl [] H := hP
        have hD : va_D A [] := hD
        have hK : va_K (dC, dI) vwCl [] s := hK
        refine W.widen (k := 0) (n := 0) (by decide +kernel) (by decide +kernel) ?_
        rcases hw with h9 | h9
        · subst h9
          refine W.widen (k := 0) (n := 0) (by decide +kernel) (by decide +kernel) ?_
          exact W.iret (v := (((((((((((((v0 : Int32) <<< ((19 : Int32) &&& 31)) : Int32) >>> ((31 : Int32) &&& 31)) : Int32) <<< ((5 : Int32) &&& 31)) ||| (((v0 : Int32) >>> ((2 : Int32) &&& 31)) &&& 31)) : Int32) <<< ((20 : Int32) &&& 31)) ||| (((8 + (((v0 : Int32) >>> ((7 : Int32) &&& 31)) &&& 7)) : Int32) <<< ((15 : Int32) &&& 31))) ||| 28672) ||| (((8 + (((v0 : Int32) >>> ((7 : Int32) &&& 31)) &&& 7)) : Int32) <<< ((7 : Int32) &&& 31))) ||| 19)) hx hb hr (fun t ht hW => ⟨⟨(((((((((((((v0 : Int32) <<< ((19 : Int32) &&& 31)) : Int32) >>> ((31 : Int32) &&& 31)) : Int32) <<< ((5 : Int32) &&& 31)) ||| (((v0 : Int32) >>> ((2 : Int32) &&& 31)) &&& 31)) : Int32) <<< ((20 : Int32) &&& 31)) ||| (((8 + (((v0 : Int32) >>> ((7 : Int32) &&& 31)) &&& 7)) : Int32) <<< ((15 : Int32) &&& 31))) ||| 28672) ||| (((8 + (((v0 : Int32) >>> ((7 : Int32) &&& 31)) &&& 7)) : Int32) <<< ((7 : Int32) &&& 31))) ||| 19), (), rfl, Or.inr (Or.inr (Or.inr (Or.inr (Or.inr (Or.inr (Or.inr (Or.inl ⟨c_1, c_10, rfl⟩))))))), by rw [ht]; exact hP, va_K.moved hW.alike hK, hD⟩, hS.F ht⟩) hS.2.2 dX4_expandedSums_60
        · exact h9.elim
      · exact h9.elim
def ow_k_X4_number_v2 : List Cond := .code yX4_number cX4_number 4 (some .int) :: ([] ++ [])
theorem gd_k_X4_number_v2 : ∀ w ∈ ow_k_X4_number_v2, (w.onTables && w.keeps) = true ∨ ∃ ty, w = Cond.arrayClass ty := List.forall_mem_cons.mpr ⟨good_of_word rfl, List.forall_mem_append.mpr ⟨fun w h => good_of_word (List.all_eq_true.mp (by decide +kernel) w h), fun _ h => nomatch h⟩⟩
set_option maxHeartbeats 40000000 in
set_option maxRecDepth 100000 in
theorem k_X4_number_v2 (l : Launch) (hlt : l.stackTraces = false) (dC : Nat → ClassId) (dI : Nat → Nat → Nat) (c0 : Int32) (c1 : Int32) (c2 : Int32) (sz : Nat) : Met l yX4_number ow_k_X4_number_v2 ({ frames := 0, cells := 0, slots := 0, locals := 0 }) (va_Pc [.int c0, .int c1, .int 1, .int c2] (fun U => U.heap.size = sz ∧ va_P (dC, dI) vwCl [] U.heap ∧ va_K (dC, dI) vwCl [] U ∧ va_D (fun _ => True) [] ∧ nv_E (va_A [] sz) U)) (va_Qi (fun r _ => (r = ((((((c0 : Int32) <<< ((20 : Int32) &&& 31)) ||| ((c1 : Int32) <<< ((15 : Int32) &&& 31))) ||| 4096) ||| ((c2 : Int32) <<< ((7 : Int32) &&& 31))) ||| 19)) ∨ False) (fun (_ : Unit) t => va_P (dC, dI) vwCl [] t.heap ∧ va_K (dC, dI) vwCl [] t ∧ va_D (va_A [] sz) []) (va_A [] sz)) 0 0 (va_A [] sz) := by
  refine Met.ofW (cc := cX4_number) (maxL := 4) (ret := (some .int)) (by decide) rfl ?_
  intro p e s m args below meth c s₁ B hml hv
  obtain ⟨rfl, hsz, hP, hK, hD0, hN⟩ := hv
  have hx := B.exec
  have hb := B.bytes
  have hr := B.returns
  have hts := atoms_spec (ws := ow_k_X4_number_v2) B.pre
  have hown : s.vm.findClass RX4 = some m.cls := findClass_of_methodNamed B.named
  have hlocks := B.notSynchronized
  subst hsz
  have hD := hD0.self (sz := s.heap.size)
  generalize hAe : va_A [] s.heap.size = A at hD hN ⊢
  have hA : ∀ q : Nat, s.heap.size ≤ q → A q := fun q h => by rw [← hAe]; exact Or.inr h
  have hS : va_S A s.heap s.heap [] := va_S.rf
  have hl := lv_entry ([.int c0, .int c1, .int 1, .int c2]) (n := 4) (Nat.le_of_ble_eq_true rfl)
  rw [lg_entry_eq]
  generalize (lg_sl ([.int c0, .int c1, .int 1, .int c2]) ++ List.replicate (4 - (lg_sl ([.int c0, .int c1, .int 1, .int c2])).length) Slot.unset).toArray = ls at hl ⊢
  have hl : lv_has ls 4 [(0, .int c0), (1, .int c1), (2, .int 1), (3, .int c2)] := hl
  refine lv_iload_n hx hb dX4_number_0 rfl (lv_at hl 0 rfl) ?_
  refine lv_bipush (v := 20) hx hb dX4_number_1 (by decide) ?_
  refine lv_ishl hx hb dX4_number_3 ?_
  refine lv_iload_n hx hb dX4_number_4 rfl (lv_at hl 1 rfl) ?_
  refine lv_bipush (v := 15) hx hb dX4_number_5 (by decide) ?_
  refine lv_ishl hx hb dX4_number_7 ?_
  refine lv_ior hx hb dX4_number_8 ?_
  refine lv_iload_n hx hb dX4_number_9 rfl (lv_at hl 2 rfl) ?_
  refine lv_bipush (v := 12) hx hb dX4_number_10 (by decide) ?_
  refine lv_ishl hx hb dX4_number_12 ?_
  refine lv_topi (fun z1 ez1 => ?_)
  obtain rfl : z1 = 4096 := ez1.trans (by decide)
  refine lv_ior hx hb dX4_number_13 ?_
  refine lv_iload_n hx hb dX4_number_14 rfl (lv_at hl 3 rfl) ?_
  refine lv_bipush (v := 7) hx hb dX4_number_15 (by decide) ?_
  refine lv_ishl hx hb dX4_number_17 ?_
  refine lv_ior hx hb dX4_number_18 ?_
  refine lv_bipush (v := 19) hx hb dX4_number_19 (by decide) ?_
  refine lv_ior hx hb dX4_number_21 ?_
  refine W.widen (k := 0) (n := 0) (by decide +kernel) (by decide +kernel) ?_
  exact W.iret (v := ((((((c0 : Int32) <<< ((20 : Int32) &&& 31)) ||| ((c1 : Int32) <<< ((15 : Int32) &&& 31))) ||| 4096) ||| ((c2 : Int32) <<< ((7 : Int32) &&& 31))) ||| 19)) hx hb hr (fun t ht hW => ⟨⟨((((((c0 : Int32) <<< ((20 : Int32) &&& 31)) ||| ((c1 : Int32) <<< ((15 : Int32) &&& 31))) ||| 4096) ||| ((c2 : Int32) <<< ((7 : Int32) &&& 31))) ||| 19), (), rfl, Or.inl rfl, by rw [ht]; exact hP, va_K.moved hW.alike hK, hD⟩, hS.F ht⟩) hS.2.2 dX4_number_22
def ow_k_X4_loading : List Cond := .code yX4_loading cX4_loading 3 (some .int) :: ([] ++ [])
theorem gd_k_X4_loading : ∀ w ∈ ow_k_X4_loading, (w.onTables && w.keeps) = true ∨ ∃ ty, w = Cond.arrayClass ty := List.forall_mem_cons.mpr ⟨good_of_word rfl, List.forall_mem_append.mpr ⟨fun w h => good_of_word (List.all_eq_true.mp (by decide +kernel) w h), fun _ h => nomatch h⟩⟩
set_option maxHeartbeats 40000000 in
set_option maxRecDepth 100000 in
theorem k_X4_loading (l : Launch) (hlt : l.stackTraces = false) (dC : Nat → ClassId) (dI : Nat → Nat → Nat) (c0 : Int32) (c1 : Int32) (sz : Nat) : Met l yX4_loading ow_k_X4_loading ({ frames := 0, cells := 0, slots := 0, locals := 0 }) (va_Pc [.int c0, .int 2, .int c1] (fun U => U.heap.size = sz ∧ va_P (dC, dI) vwCl [] U.heap ∧ va_K (dC, dI) vwCl [] U ∧ va_D (fun _ => True) [] ∧ nv_E (va_A [] sz) U)) (va_Qi (fun r _ => (r = ((((((c0 : Int32) <<< ((20 : Int32) &&& 31)) ||| 65536) ||| 8192) ||| ((c1 : Int32) <<< ((7 : Int32) &&& 31))) ||| 3)) ∨ False) (fun (_ : Unit) t => va_P (dC, dI) vwCl [] t.heap ∧ va_K (dC, dI) vwCl [] t ∧ va_D (va_A [] sz) []) (va_A [] sz)) 0 0 (va_A [] sz) := by
  refine Met.ofW (cc := cX4_loading) (maxL := 3) (ret := (some .int)) (by decide) rfl ?_
  intro p e s m args below meth c s₁ B hml hv
  obtain ⟨rfl, hsz, hP, hK, hD0, hN⟩ := hv
  have hx := B.exec
  have hb := B.bytes
  have hr := B.returns
  have hts := atoms_spec (ws := ow_k_X4_loading) B.pre
  have hown : s.vm.findClass RX4 = some m.cls := findClass_of_methodNamed B.named
  have hlocks := B.notSynchronized
  subst hsz
  have hD := hD0.self (sz := s.heap.size)
  generalize hAe : va_A [] s.heap.size = A at hD hN ⊢
  have hA : ∀ q : Nat, s.heap.size ≤ q → A q := fun q h => by rw [← hAe]; exact Or.inr h
  have hS : va_S A s.heap s.heap [] := va_S.rf
  have hl := lv_entry ([.int c0, .int 2, .int c1]) (n := 3) (Nat.le_of_ble_eq_true rfl)
  rw [lg_entry_eq]
  generalize (lg_sl ([.int c0, .int 2, .int c1]) ++ List.replicate (3 - (lg_sl ([.int c0, .int 2, .int c1])).length) Slot.unset).toArray = ls at hl ⊢
  have hl : lv_has ls 3 [(0, .int c0), (1, .int 2), (2, .int c1)] := hl
  refine lv_iload_n hx hb dX4_loading_0 rfl (lv_at hl 0 rfl) ?_
  refine lv_bipush (v := 20) hx hb dX4_loading_1 (by decide) ?_
  refine lv_ishl hx hb dX4_loading_3 ?_
  refine lv_iload_n hx hb dX4_loading_4 rfl (lv_at hl 1 rfl) ?_
  refine lv_bipush (v := 15) hx hb dX4_loading_5 (by decide) ?_
  refine lv_ishl hx hb dX4_loading_7 ?_
  refine lv_topi (fun z1 ez1 => ?_)
  obtain rfl : z1 = 65536 := ez1.trans (by decide)
  refine lv_ior hx hb dX4_loading_8 ?_
  refine lv_sipush (v := 8192) hx hb dX4_loading_9 (by decide) ?_
  refine lv_ior hx hb dX4_loading_12 ?_
  refine lv_iload_n hx hb dX4_loading_13 rfl (lv_at hl 2 rfl) ?_
  refine lv_bipush (v := 7) hx hb dX4_loading_14 (by decide) ?_
  refine lv_ishl hx hb dX4_loading_16 ?_
  refine lv_ior hx hb dX4_loading_17 ?_
  refine lv_iconst (v := 3) hx hb dX4_loading_18 (by decide) ?_
  refine lv_ior hx hb dX4_loading_19 ?_
  refine W.widen (k := 0) (n := 0) (by decide +kernel) (by decide +kernel) ?_
  exact W.iret (v := ((((((c0 : Int32) <<< ((20 : Int32) &&& 31)) ||| 65536) ||| 8192) ||| ((c1 : Int32) <<< ((7 : Int32) &&& 31))) ||| 3)) hx hb hr (fun t ht hW => ⟨⟨((((((c0 : Int32) <<< ((20 : Int32) &&& 31)) ||| 65536) ||| 8192) ||| ((c1 : Int32) <<< ((7 : Int32) &&& 31))) ||| 3), (), rfl, Or.inl rfl, by rw [ht]; exact hP, va_K.moved hW.alike hK, hD⟩, hS.F ht⟩) hS.2.2 dX4_loading_20
def ow_k_X4_storing : List Cond := .code yX4_storing cX4_storing 3 (some .int) :: ([] ++ [])
theorem gd_k_X4_storing : ∀ w ∈ ow_k_X4_storing, (w.onTables && w.keeps) = true ∨ ∃ ty, w = Cond.arrayClass ty := List.forall_mem_cons.mpr ⟨good_of_word rfl, List.forall_mem_append.mpr ⟨fun w h => good_of_word (List.all_eq_true.mp (by decide +kernel) w h), fun _ h => nomatch h⟩⟩
set_option maxHeartbeats 40000000 in
set_option maxRecDepth 100000 in
theorem k_X4_storing (l : Launch) (hlt : l.stackTraces = false) (dC : Nat → ClassId) (dI : Nat → Nat → Nat) (c0 : Int32) (c1 : Int32) (sz : Nat) : Met l yX4_storing ow_k_X4_storing ({ frames := 0, cells := 0, slots := 0, locals := 0 }) (va_Pc [.int c0, .int 2, .int c1] (fun U => U.heap.size = sz ∧ va_P (dC, dI) vwCl [] U.heap ∧ va_K (dC, dI) vwCl [] U ∧ va_D (fun _ => True) [] ∧ nv_E (va_A [] sz) U)) (va_Qi (fun r _ => (r = (((((((((c0 : Int32) >>> ((5 : Int32) &&& 31)) : Int32) <<< ((25 : Int32) &&& 31)) ||| ((c1 : Int32) <<< ((20 : Int32) &&& 31))) ||| 65536) ||| 8192) ||| (((c0 &&& 31) : Int32) <<< ((7 : Int32) &&& 31))) ||| 35)) ∨ False) (fun (_ : Unit) t => va_P (dC, dI) vwCl [] t.heap ∧ va_K (dC, dI) vwCl [] t ∧ va_D (va_A [] sz) []) (va_A [] sz)) 0 0 (va_A [] sz) := by
  refine Met.ofW (cc := cX4_storing) (maxL := 3) (ret := (some .int)) (by decide) rfl ?_
  intro p e s m args below meth c s₁ B hml hv
  obtain ⟨rfl, hsz, hP, hK, hD0, hN⟩ := hv
  have hx := B.exec
  have hb := B.bytes
  have hr := B.returns
  have hts := atoms_spec (ws := ow_k_X4_storing) B.pre
  have hown : s.vm.findClass RX4 = some m.cls := findClass_of_methodNamed B.named
  have hlocks := B.notSynchronized
  subst hsz
  have hD := hD0.self (sz := s.heap.size)
  generalize hAe : va_A [] s.heap.size = A at hD hN ⊢
  have hA : ∀ q : Nat, s.heap.size ≤ q → A q := fun q h => by rw [← hAe]; exact Or.inr h
  have hS : va_S A s.heap s.heap [] := va_S.rf
  have hl := lv_entry ([.int c0, .int 2, .int c1]) (n := 3) (Nat.le_of_ble_eq_true rfl)
  rw [lg_entry_eq]
  generalize (lg_sl ([.int c0, .int 2, .int c1]) ++ List.replicate (3 - (lg_sl ([.int c0, .int 2, .int c1])).length) Slot.unset).toArray = ls at hl ⊢
  have hl : lv_has ls 3 [(0, .int c0), (1, .int 2), (2, .int c1)] := hl
  refine lv_iload_n hx hb dX4_storing_0 rfl (lv_at hl 0 rfl) ?_
  refine lv_iconst (v := 5) hx hb dX4_storing_1 (by decide) ?_
  refine lv_ishr hx hb dX4_storing_2 ?_
  refine lv_bipush (v := 25) hx hb dX4_storing_3 (by decide) ?_
  refine lv_ishl hx hb dX4_storing_5 ?_
  refine lv_iload_n hx hb dX4_storing_6 rfl (lv_at hl 2 rfl) ?_
  refine lv_bipush (v := 20) hx hb dX4_storing_7 (by decide) ?_
  refine lv_ishl hx hb dX4_storing_9 ?_
  refine lv_ior hx hb dX4_storing_10 ?_
  refine lv_iload_n hx hb dX4_storing_11 rfl (lv_at hl 1 rfl) ?_
  refine lv_bipush (v := 15) hx hb dX4_storing_12 (by decide) ?_
  refine lv_ishl hx hb dX4_storing_14 ?_
  refine lv_topi (fun z1 ez1 => ?_)
  obtain rfl : z1 = 65536 := ez1.trans (by decide)
  refine lv_ior hx hb dX4_storing_15 ?_
  refine lv_sipush (v := 8192) hx hb dX4_storing_16 (by decide) ?_
  refine lv_ior hx hb dX4_storing_19 ?_
  refine lv_iload_n hx hb dX4_storing_20 rfl (lv_at hl 0 rfl) ?_
  refine lv_bipush (v := 31) hx hb dX4_storing_21 (by decide) ?_
  refine lv_iand hx hb dX4_storing_23 ?_
  refine lv_bipush (v := 7) hx hb dX4_storing_24 (by decide) ?_
  refine lv_ishl hx hb dX4_storing_26 ?_
  refine lv_ior hx hb dX4_storing_27 ?_
  refine lv_bipush (v := 35) hx hb dX4_storing_28 (by decide) ?_
  refine lv_ior hx hb dX4_storing_30 ?_
  refine W.widen (k := 0) (n := 0) (by decide +kernel) (by decide +kernel) ?_
  exact W.iret (v := (((((((((c0 : Int32) >>> ((5 : Int32) &&& 31)) : Int32) <<< ((25 : Int32) &&& 31)) ||| ((c1 : Int32) <<< ((20 : Int32) &&& 31))) ||| 65536) ||| 8192) ||| (((c0 &&& 31) : Int32) <<< ((7 : Int32) &&& 31))) ||| 35)) hx hb hr (fun t ht hW => ⟨⟨(((((((((c0 : Int32) >>> ((5 : Int32) &&& 31)) : Int32) <<< ((25 : Int32) &&& 31)) ||| ((c1 : Int32) <<< ((20 : Int32) &&& 31))) ||| 65536) ||| 8192) ||| (((c0 &&& 31) : Int32) <<< ((7 : Int32) &&& 31))) ||| 35), (), rfl, Or.inl rfl, by rw [ht]; exact hP, va_K.moved hW.alike hK, hD⟩, hS.F ht⟩) hS.2.2 dX4_storing_31
def ow_g_X4_expandedThird : List Cond := .code yX4_expandedThird cX4_expandedThird 4 (some .int) :: ([.methodLink RX4 153 yX4_number, .static yX4_number, .initialized RX4, .methodLink RX4 156 yX4_loading, .static yX4_loading, .methodLink RX4 159 yX4_storing, .static yX4_storing, .constant RX4 136 (1048691)] ++ (ow_k_X4_number_v2 ++ (ow_k_X4_loading ++ (ow_k_X4_storing ++ []))))
theorem gd_g_X4_expandedThird : ∀ w ∈ ow_g_X4_expandedThird, (w.onTables && w.keeps) = true ∨ ∃ ty, w = Cond.arrayClass ty := List.forall_mem_cons.mpr ⟨good_of_word rfl, List.forall_mem_append.mpr ⟨fun w h => good_of_word (List.all_eq_true.mp (by decide +kernel) w h), List.forall_mem_append.mpr ⟨gd_k_X4_number_v2, List.forall_mem_append.mpr ⟨gd_k_X4_loading, List.forall_mem_append.mpr ⟨gd_k_X4_storing, fun _ h => nomatch h⟩⟩⟩⟩⟩
theorem gi_g_X4_expandedThird_0 : GoodIn ow_g_X4_expandedThird (wsS RX4 153 yX4_number ow_k_X4_number_v2) := goodIn_app (goodIn_of _ (by decide +kernel)) (fun w h => ⟨List.mem_cons_of_mem _ (List.mem_append_right _ (List.mem_append_left _ h)), gd_k_X4_number_v2 w h⟩)
theorem gi_g_X4_expandedThird_1 : GoodIn ow_g_X4_expandedThird (wsS RX4 156 yX4_loading ow_k_X4_loading) := goodIn_app (goodIn_of _ (by decide +kernel)) (fun w h => ⟨List.mem_cons_of_mem _ (List.mem_append_right _ (List.mem_append_right _ (List.mem_append_left _ h))), gd_k_X4_loading w h⟩)
theorem gi_g_X4_expandedThird_2 : GoodIn ow_g_X4_expandedThird (wsS RX4 159 yX4_storing ow_k_X4_storing) := goodIn_app (goodIn_of _ (by decide +kernel)) (fun w h => ⟨List.mem_cons_of_mem _ (List.mem_append_right _ (List.mem_append_right _ (List.mem_append_right _ (List.mem_append_left _ h)))), gd_k_X4_storing w h⟩)
