set_option maxHeartbeats 40000000 in
set_option maxRecDepth 100000 in
theorem g_X4_expandedThird (l : Launch) (hlt : l.stackTraces = false) (dC : Nat → ClassId) (dI : Nat → Nat → Nat) (v0 : Int32) (sz : Nat) : Met l yX4_expandedThird ow_g_X4_expandedThird ({ frames := 1, cells := 0, slots := 0, locals := 23 }) (va_Pc [.int v0] (fun U => U.heap.size = sz ∧ va_P (dC, dI) vwCl [] U.heap ∧ va_K (dC, dI) vwCl [] U ∧ va_D (fun _ => True) [] ∧ nv_E (va_A [] sz) U)) (va_Qi (fun r _ => (((v0 &&& 4096) = 0) ∧ (((v0 : Int32) >>> ((13 : Int32) &&& 31)) = 0) ∧ r = (((((((((v0 : Int32) >>> ((2 : Int32) &&& 31)) &&& 31) : Int32) <<< ((20 : Int32) &&& 31)) ||| (((((v0 : Int32) >>> ((7 : Int32) &&& 31)) &&& 31) : Int32) <<< ((15 : Int32) &&& 31))) ||| 4096) ||| (((((v0 : Int32) >>> ((7 : Int32) &&& 31)) &&& 31) : Int32) <<< ((7 : Int32) &&& 31))) ||| 19)) ∨ (((v0 &&& 4096) = 0) ∧ (¬ ((v0 : Int32) >>> ((13 : Int32) &&& 31)) = 0) ∧ (((v0 : Int32) >>> ((13 : Int32) &&& 31)) = 1) ∧ r = 0) ∨ (((v0 &&& 4096) = 0) ∧ (¬ ((v0 : Int32) >>> ((13 : Int32) &&& 31)) = 0) ∧ (¬ ((v0 : Int32) >>> ((13 : Int32) &&& 31)) = 1) ∧ (((v0 : Int32) >>> ((13 : Int32) &&& 31)) = 2) ∧ (¬ (((v0 : Int32) >>> ((7 : Int32) &&& 31)) &&& 31) = 0) ∧ r = (((((((((((v0 : Int32) >>> ((7 : Int32) &&& 31)) &&& 32) ||| (((v0 : Int32) >>> ((2 : Int32) &&& 31)) &&& 28)) ||| (((v0 : Int32) <<< ((4 : Int32) &&& 31)) &&& 192)) : Int32) <<< ((20 : Int32) &&& 31)) ||| 65536) ||| 8192) ||| (((((v0 : Int32) >>> ((7 : Int32) &&& 31)) &&& 31) : Int32) <<< ((7 : Int32) &&& 31))) ||| 3)) ∨ (((v0 &&& 4096) = 0) ∧ (¬ ((v0 : Int32) >>> ((13 : Int32) &&& 31)) = 0) ∧ (¬ ((v0 : Int32) >>> ((13 : Int32) &&& 31)) = 1) ∧ (((v0 : Int32) >>> ((13 : Int32) &&& 31)) = 2) ∧ ((((v0 : Int32) >>> ((7 : Int32) &&& 31)) &&& 31) = 0) ∧ r = 0) ∨ (((v0 &&& 4096) = 0) ∧ (¬ ((v0 : Int32) >>> ((13 : Int32) &&& 31)) = 0) ∧ (¬ ((v0 : Int32) >>> ((13 : Int32) &&& 31)) = 1) ∧ (¬ ((v0 : Int32) >>> ((13 : Int32) &&& 31)) = 2) ∧ (((v0 : Int32) >>> ((13 : Int32) &&& 31)) = 3) ∧ r = 0) ∨ (((v0 &&& 4096) = 0) ∧ (¬ ((v0 : Int32) >>> ((13 : Int32) &&& 31)) = 0) ∧ (¬ ((v0 : Int32) >>> ((13 : Int32) &&& 31)) = 1) ∧ (¬ ((v0 : Int32) >>> ((13 : Int32) &&& 31)) = 2) ∧ (¬ ((v0 : Int32) >>> ((13 : Int32) &&& 31)) = 3) ∧ (((v0 : Int32) >>> ((13 : Int32) &&& 31)) = 4) ∧ ((((v0 : Int32) >>> ((2 : Int32) &&& 31)) &&& 31) = 0) ∧ (¬ (((v0 : Int32) >>> ((7 : Int32) &&& 31)) &&& 31) = 0) ∧ r = (((((((v0 : Int32) >>> ((7 : Int32) &&& 31)) &&& 31) : Int32) <<< ((15 : Int32) &&& 31)) ||| 0) ||| 103)) ∨ (((v0 &&& 4096) = 0) ∧ (¬ ((v0 : Int32) >>> ((13 : Int32) &&& 31)) = 0) ∧ (¬ ((v0 : Int32) >>> ((13 : Int32) &&& 31)) = 1) ∧ (¬ ((v0 : Int32) >>> ((13 : Int32) &&& 31)) = 2) ∧ (¬ ((v0 : Int32) >>> ((13 : Int32) &&& 31)) = 3) ∧ (((v0 : Int32) >>> ((13 : Int32) &&& 31)) = 4) ∧ ((((v0 : Int32) >>> ((2 : Int32) &&& 31)) &&& 31) = 0) ∧ ((((v0 : Int32) >>> ((7 : Int32) &&& 31)) &&& 31) = 0) ∧ r = 0) ∨ (((v0 &&& 4096) = 0) ∧ (¬ ((v0 : Int32) >>> ((13 : Int32) &&& 31)) = 0) ∧ (¬ ((v0 : Int32) >>> ((13 : Int32) &&& 31)) = 1) ∧ (¬ ((v0 : Int32) >>> ((13 : Int32) &&& 31)) = 2) ∧ (¬ ((v0 : Int32) >>> ((13 : Int32) &&& 31)) = 3) ∧ (((v0 : Int32) >>> ((13 : Int32) &&& 31)) = 4) ∧ (¬ (((v0 : Int32) >>> ((2 : Int32) &&& 31)) &&& 31) = 0) ∧ r = ((((((((v0 : Int32) >>> ((2 : Int32) &&& 31)) &&& 31) : Int32) <<< ((20 : Int32) &&& 31)) ||| 0) ||| (((((v0 : Int32) >>> ((7 : Int32) &&& 31)) &&& 31) : Int32) <<< ((7 : Int32) &&& 31))) ||| 51)) ∨ (((v0 &&& 4096) = 0) ∧ (¬ ((v0 : Int32) >>> ((13 : Int32) &&& 31)) = 0) ∧ (¬ ((v0 : Int32) >>> ((13 : Int32) &&& 31)) = 1) ∧ (¬ ((v0 : Int32) >>> ((13 : Int32) &&& 31)) = 2) ∧ (¬ ((v0 : Int32) >>> ((13 : Int32) &&& 31)) = 3) ∧ (¬ ((v0 : Int32) >>> ((13 : Int32) &&& 31)) = 4) ∧ (((v0 : Int32) >>> ((13 : Int32) &&& 31)) = 5) ∧ r = 0) ∨ (((v0 &&& 4096) = 0) ∧ (¬ ((v0 : Int32) >>> ((13 : Int32) &&& 31)) = 0) ∧ (¬ ((v0 : Int32) >>> ((13 : Int32) &&& 31)) = 1) ∧ (¬ ((v0 : Int32) >>> ((13 : Int32) &&& 31)) = 2) ∧ (¬ ((v0 : Int32) >>> ((13 : Int32) &&& 31)) = 3) ∧ (¬ ((v0 : Int32) >>> ((13 : Int32) &&& 31)) = 4) ∧ (¬ ((v0 : Int32) >>> ((13 : Int32) &&& 31)) = 5) ∧ (((v0 : Int32) >>> ((13 : Int32) &&& 31)) = 6) ∧ r = (((((((((((((v0 : Int32) >>> ((7 : Int32) &&& 31)) &&& 60) ||| (((v0 : Int32) >>> ((1 : Int32) &&& 31)) &&& 192)) : Int32) >>> ((5 : Int32) &&& 31)) : Int32) <<< ((25 : Int32) &&& 31)) ||| (((((v0 : Int32) >>> ((2 : Int32) &&& 31)) &&& 31) : Int32) <<< ((20 : Int32) &&& 31))) ||| 65536) ||| 8192) ||| (((((((v0 : Int32) >>> ((7 : Int32) &&& 31)) &&& 60) ||| (((v0 : Int32) >>> ((1 : Int32) &&& 31)) &&& 192)) &&& 31) : Int32) <<< ((7 : Int32) &&& 31))) ||| 35)) ∨ (((v0 &&& 4096) = 0) ∧ (¬ ((v0 : Int32) >>> ((13 : Int32) &&& 31)) = 0) ∧ (¬ ((v0 : Int32) >>> ((13 : Int32) &&& 31)) = 1) ∧ (¬ ((v0 : Int32) >>> ((13 : Int32) &&& 31)) = 2) ∧ (¬ ((v0 : Int32) >>> ((13 : Int32) &&& 31)) = 3) ∧ (¬ ((v0 : Int32) >>> ((13 : Int32) &&& 31)) = 4) ∧ (¬ ((v0 : Int32) >>> ((13 : Int32) &&& 31)) = 5) ∧ (¬ ((v0 : Int32) >>> ((13 : Int32) &&& 31)) = 6) ∧ r = 0) ∨ ((¬ (v0 &&& 4096) = 0) ∧ (((v0 : Int32) >>> ((13 : Int32) &&& 31)) = 0) ∧ r = 0) ∨ ((¬ (v0 &&& 4096) = 0) ∧ (¬ ((v0 : Int32) >>> ((13 : Int32) &&& 31)) = 0) ∧ (((v0 : Int32) >>> ((13 : Int32) &&& 31)) = 1) ∧ r = 0) ∨ ((¬ (v0 &&& 4096) = 0) ∧ (¬ ((v0 : Int32) >>> ((13 : Int32) &&& 31)) = 0) ∧ (¬ ((v0 : Int32) >>> ((13 : Int32) &&& 31)) = 1) ∧ (((v0 : Int32) >>> ((13 : Int32) &&& 31)) = 2) ∧ (¬ (((v0 : Int32) >>> ((7 : Int32) &&& 31)) &&& 31) = 0) ∧ r = (((((((((((v0 : Int32) >>> ((7 : Int32) &&& 31)) &&& 32) ||| (((v0 : Int32) >>> ((2 : Int32) &&& 31)) &&& 28)) ||| (((v0 : Int32) <<< ((4 : Int32) &&& 31)) &&& 192)) : Int32) <<< ((20 : Int32) &&& 31)) ||| 65536) ||| 8192) ||| (((((v0 : Int32) >>> ((7 : Int32) &&& 31)) &&& 31) : Int32) <<< ((7 : Int32) &&& 31))) ||| 3)) ∨ ((¬ (v0 &&& 4096) = 0) ∧ (¬ ((v0 : Int32) >>> ((13 : Int32) &&& 31)) = 0) ∧ (¬ ((v0 : Int32) >>> ((13 : Int32) &&& 31)) = 1) ∧ (((v0 : Int32) >>> ((13 : Int32) &&& 31)) = 2) ∧ ((((v0 : Int32) >>> ((7 : Int32) &&& 31)) &&& 31) = 0) ∧ r = 0) ∨ ((¬ (v0 &&& 4096) = 0) ∧ (¬ ((v0 : Int32) >>> ((13 : Int32) &&& 31)) = 0) ∧ (¬ ((v0 : Int32) >>> ((13 : Int32) &&& 31)) = 1) ∧ (¬ ((v0 : Int32) >>> ((13 : Int32) &&& 31)) = 2) ∧ (((v0 : Int32) >>> ((13 : Int32) &&& 31)) = 3) ∧ r = 0) ∨ ((¬ (v0 &&& 4096) = 0) ∧ (¬ ((v0 : Int32) >>> ((13 : Int32) &&& 31)) = 0) ∧ (¬ ((v0 : Int32) >>> ((13 : Int32) &&& 31)) = 1) ∧ (¬ ((v0 : Int32) >>> ((13 : Int32) &&& 31)) = 2) ∧ (¬ ((v0 : Int32) >>> ((13 : Int32) &&& 31)) = 3) ∧ (((v0 : Int32) >>> ((13 : Int32) &&& 31)) = 4) ∧ ((((v0 : Int32) >>> ((2 : Int32) &&& 31)) &&& 31) = 0) ∧ (¬ (((v0 : Int32) >>> ((7 : Int32) &&& 31)) &&& 31) = 0) ∧ r = (((((((v0 : Int32) >>> ((7 : Int32) &&& 31)) &&& 31) : Int32) <<< ((15 : Int32) &&& 31)) ||| 128) ||| 103)) ∨ ((¬ (v0 &&& 4096) = 0) ∧ (¬ ((v0 : Int32) >>> ((13 : Int32) &&& 31)) = 0) ∧ (¬ ((v0 : Int32) >>> ((13 : Int32) &&& 31)) = 1) ∧ (¬ ((v0 : Int32) >>> ((13 : Int32) &&& 31)) = 2) ∧ (¬ ((v0 : Int32) >>> ((13 : Int32) &&& 31)) = 3) ∧ (((v0 : Int32) >>> ((13 : Int32) &&& 31)) = 4) ∧ ((((v0 : Int32) >>> ((2 : Int32) &&& 31)) &&& 31) = 0) ∧ ((((v0 : Int32) >>> ((7 : Int32) &&& 31)) &&& 31) = 0) ∧ r = 1048691) ∨ ((¬ (v0 &&& 4096) = 0) ∧ (¬ ((v0 : Int32) >>> ((13 : Int32) &&& 31)) = 0) ∧ (¬ ((v0 : Int32) >>> ((13 : Int32) &&& 31)) = 1) ∧ (¬ ((v0 : Int32) >>> ((13 : Int32) &&& 31)) = 2) ∧ (¬ ((v0 : Int32) >>> ((13 : Int32) &&& 31)) = 3) ∧ (((v0 : Int32) >>> ((13 : Int32) &&& 31)) = 4) ∧ (¬ (((v0 : Int32) >>> ((2 : Int32) &&& 31)) &&& 31) = 0) ∧ r = ((((((((v0 : Int32) >>> ((2 : Int32) &&& 31)) &&& 31) : Int32) <<< ((20 : Int32) &&& 31)) ||| (((((v0 : Int32) >>> ((7 : Int32) &&& 31)) &&& 31) : Int32) <<< ((15 : Int32) &&& 31))) ||| (((((v0 : Int32) >>> ((7 : Int32) &&& 31)) &&& 31) : Int32) <<< ((7 : Int32) &&& 31))) ||| 51)) ∨ ((¬ (v0 &&& 4096) = 0) ∧ (¬ ((v0 : Int32) >>> ((13 : Int32) &&& 31)) = 0) ∧ (¬ ((v0 : Int32) >>> ((13 : Int32) &&& 31)) = 1) ∧ (¬ ((v0 : Int32) >>> ((13 : Int32) &&& 31)) = 2) ∧ (¬ ((v0 : Int32) >>> ((13 : Int32) &&& 31)) = 3) ∧ (¬ ((v0 : Int32) >>> ((13 : Int32) &&& 31)) = 4) ∧ (((v0 : Int32) >>> ((13 : Int32) &&& 31)) = 5) ∧ r = 0) ∨ ((¬ (v0 &&& 4096) = 0) ∧ (¬ ((v0 : Int32) >>> ((13 : Int32) &&& 31)) = 0) ∧ (¬ ((v0 : Int32) >>> ((13 : Int32) &&& 31)) = 1) ∧ (¬ ((v0 : Int32) >>> ((13 : Int32) &&& 31)) = 2) ∧ (¬ ((v0 : Int32) >>> ((13 : Int32) &&& 31)) = 3) ∧ (¬ ((v0 : Int32) >>> ((13 : Int32) &&& 31)) = 4) ∧ (¬ ((v0 : Int32) >>> ((13 : Int32) &&& 31)) = 5) ∧ (((v0 : Int32) >>> ((13 : Int32) &&& 31)) = 6) ∧ r = (((((((((((((v0 : Int32) >>> ((7 : Int32) &&& 31)) &&& 60) ||| (((v0 : Int32) >>> ((1 : Int32) &&& 31)) &&& 192)) : Int32) >>> ((5 : Int32) &&& 31)) : Int32) <<< ((25 : Int32) &&& 31)) ||| (((((v0 : Int32) >>> ((2 : Int32) &&& 31)) &&& 31) : Int32) <<< ((20 : Int32) &&& 31))) ||| 65536) ||| 8192) ||| (((((((v0 : Int32) >>> ((7 : Int32) &&& 31)) &&& 60) ||| (((v0 : Int32) >>> ((1 : Int32) &&& 31)) &&& 192)) &&& 31) : Int32) <<< ((7 : Int32) &&& 31))) ||| 35)) ∨ ((¬ (v0 &&& 4096) = 0) ∧ (¬ ((v0 : Int32) >>> ((13 : Int32) &&& 31)) = 0) ∧ (¬ ((v0 : Int32) >>> ((13 : Int32) &&& 31)) = 1) ∧ (¬ ((v0 : Int32) >>> ((13 : Int32) &&& 31)) = 2) ∧ (¬ ((v0 : Int32) >>> ((13 : Int32) &&& 31)) = 3) ∧ (¬ ((v0 : Int32) >>> ((13 : Int32) &&& 31)) = 4) ∧ (¬ ((v0 : Int32) >>> ((13 : Int32) &&& 31)) = 5) ∧ (¬ ((v0 : Int32) >>> ((13 : Int32) &&& 31)) = 6) ∧ r = 0) ∨ False) (fun (_ : Unit) t => va_P (dC, dI) vwCl [] t.heap ∧ va_K (dC, dI) vwCl [] t ∧ va_D (va_A [] sz) []) (va_A [] sz)) 0 0 (va_A [] sz) := by
  refine Met.ofW (cc := cX4_expandedThird) (maxL := 4) (ret := (some .int)) (by decide) rfl ?_
  intro p e s m args below meth c s₁ B hml hv
  obtain ⟨rfl, hsz, hP, hK, hD0, hN⟩ := hv
  have hx := B.exec
  have hb := B.bytes
  have hr := B.returns
  have hts := atoms_spec (ws := ow_g_X4_expandedThird) B.pre
  have hown : s.vm.findClass RX4 = some m.cls := findClass_of_methodNamed B.named
  have hlocks := B.notSynchronized
  subst hsz
  have hD := hD0.self (sz := s.heap.size)
  generalize hAe : va_A [] s.heap.size = A at hD hN ⊢
  have hA : ∀ q : Nat, s.heap.size ≤ q → A q := fun q h => by rw [← hAe]; exact Or.inr h
  have hS : va_S A s.heap s.heap [] := va_S.rf
  have hl := lv_entry ([.int v0]) (n := 4) (Nat.le_of_ble_eq_true rfl)
  rw [lg_entry_eq]
  generalize (lg_sl ([.int v0]) ++ List.replicate (4 - (lg_sl ([.int v0])).length) Slot.unset).toArray = ls at hl ⊢
  have hl : lv_has ls 4 [(0, .int v0)] := hl
  refine lv_iload_n hx hb dX4_expandedThird_0 rfl (lv_at hl 0 rfl) ?_
  refine lv_bipush (v := 7) hx hb dX4_expandedThird_1 (by decide) ?_
  refine lv_ishr hx hb dX4_expandedThird_3 ?_
  refine lv_bipush (v := 31) hx hb dX4_expandedThird_4 (by decide) ?_
  refine lv_iand hx hb dX4_expandedThird_6 ?_
  refine lv_istore_n (lv' := [(1, .int (((v0 : Int32) >>> ((7 : Int32) &&& 31)) &&& 31)), (0, .int v0)]) hx hb dX4_expandedThird_7 rfl hl (by decide) rfl (fun ls hl => ?_)
  refine lv_iload_n hx hb dX4_expandedThird_8 rfl (lv_at hl 1 rfl) ?_
  refine lv_iconst (v := 2) hx hb dX4_expandedThird_9 (by decide) ?_
  refine lv_ishr hx hb dX4_expandedThird_10 ?_
  refine lv_bipush (v := 31) hx hb dX4_expandedThird_11 (by decide) ?_
  refine lv_iand hx hb dX4_expandedThird_13 ?_
  refine lv_istore_n (lv' := [(2, .int (((v0 : Int32) >>> ((2 : Int32) &&& 31)) &&& 31)), (1, .int (((v0 : Int32) >>> ((7 : Int32) &&& 31)) &&& 31)), (0, .int v0)]) hx hb dX4_expandedThird_14 rfl hl (by decide) rfl (fun ls hl => ?_)
  refine lv_iload_n hx hb dX4_expandedThird_15 rfl (lv_at hl 2 rfl) ?_
  refine lv_sipush (v := 4096) hx hb dX4_expandedThird_16 (by decide) ?_
  refine lv_iand hx hb dX4_expandedThird_19 ?_
  refine lv_if_eq (tgt := 27) hx hb dX4_expandedThird_20 (by decide) (fun c_1 => ?_) (fun c_1 => ?_)
  · refine lv_iconst (v := 0) hx hb dX4_expandedThird_27 (by decide) ?_
    refine lv_istore_n (lv' := [(3, .int 0), (2, .int (((v0 : Int32) >>> ((2 : Int32) &&& 31)) &&& 31)), (1, .int (((v0 : Int32) >>> ((7 : Int32) &&& 31)) &&& 31)), (0, .int v0)]) hx hb dX4_expandedThird_28 rfl hl (by decide) rfl (fun ls hl => ?_)
    refine lv_iload_n hx hb dX4_expandedThird_29 rfl (lv_at hl 3 rfl) ?_
    refine lv_bipush (v := 13) hx hb dX4_expandedThird_30 (by decide) ?_
    refine lv_ishr hx hb dX4_expandedThird_32 ?_
    by_cases c_2 : ((v0 : Int32) >>> ((13 : Int32) &&& 31)) = 0
    · refine lv_tableIn (off := 43) (tgt := 76) hx hb dX4_expandedThird_33 (by rw [c_2]; decide) (by rw [c_2]; decide) (by rw [c_2]; decide) (by decide) ?_
      refine lv_iload_n hx hb dX4_expandedThird_76 rfl (lv_at hl 0 rfl) ?_
      refine lv_if_eq (tgt := 84) hx hb dX4_expandedThird_77 (by decide) (fun _ => ?_) (fun h9 => absurd (by decide) h9)
      refine lv_iload_n hx hb dX4_expandedThird_84 rfl (lv_at hl 1 rfl) ?_
      refine lv_iload_n hx hb dX4_expandedThird_85 rfl (lv_at hl 2 rfl) ?_
      refine lv_iconst (v := 1) hx hb dX4_expandedThird_86 (by decide) ?_
      refine lv_iload_n hx hb dX4_expandedThird_87 rfl (lv_at hl 2 rfl) ?_
      have hPc := hP.sub (ws' := []) [] rfl
      have hDc := hD.sub (ws' := []) [] (by decide) rfl
      have hKc := hK.sub (tys' := []) [] rfl
      have hFc := va_free (wc := []) hD hS hA [] rfl
      refine va_calli (va_runS (As := [.int (((v0 : Int32) >>> ((2 : Int32) &&& 31)) &&& 31), .int (((v0 : Int32) >>> ((7 : Int32) &&& 31)) &&& 31), .int 1, .int (((v0 : Int32) >>> ((7 : Int32) &&& 31)) &&& 31)]) (rest := []) ⟨hx, hb, hml, hown, hts⟩ (k_X4_number_v2 l hlt dC dI (((v0 : Int32) >>> ((2 : Int32) &&& 31)) &&& 31) (((v0 : Int32) >>> ((7 : Int32) &&& 31)) &&& 31) (((v0 : Int32) >>> ((7 : Int32) &&& 31)) &&& 31)  s.heap.size) (cwS 4 hts gi_g_X4_expandedThird_0 rfl rfl rfl (by decide +kernel) ⟨Nat.le_of_ble_eq_true rfl, Nat.le_of_ble_eq_true rfl⟩) ⟨fun a U g mk q => by obtain ⟨q0, q1, qP, qK, qD, qN⟩ := q; exact ⟨q0, q1, qP, va_K.moved (u := U) (U := U.calling g mk a) (Vm.Alike.refl U.vm) qK, qD, nv_same rfl rfl qN⟩, fun U hU hW => ⟨rfl, by rw [hU], by rw [hU]; exact hPc, va_K.moved hW.alike hKc, hDc.weaken (fun _ _ _ _ => trivial), nv_call hS hFc hU hW hN⟩⟩ rfl rfl hl.1 rfl (lv_room (Nat.le_of_ble_eq_true rfl)) dX4_expandedThird_88 ⟨by decide +kernel, by decide +kernel⟩) hS (fun q _ h => hFc q h) hFc (fun r4 u t H1 locs ht hvm hw hB hz1 hk1 hS => ?_)
      obtain ⟨hP1, hK1, hD1⟩ := hB
      rw [ht] at hP1
      have hK1 := va_K.moved hvm.symm hK1
      obtain ⟨hP, hD⟩ := va_join (wr := []) (w1 := []) hP hD [] [] rfl rfl (by decide) (by decide) hk1 hFc hP1 hD1
      have hK := (hK.sub (tys' := []) [] rfl).app hK1
      generalize H1 = H at hP hS ⊢
      have hP : va_P (dC, dI) vwCl [] H := hP
      have hD : va_D A [] := hD
      have hK : va_K (dC, dI) vwCl [] s := hK
      refine W.widen (k := 0) (n := 0) (by decide +kernel) (by decide +kernel) ?_
      rcases hw with h9 | h9
      · subst h9
        refine W.widen (k := 0) (n := 0) (by decide +kernel) (by decide +kernel) ?_
        exact W.iret (v := (((((((((v0 : Int32) >>> ((2 : Int32) &&& 31)) &&& 31) : Int32) <<< ((20 : Int32) &&& 31)) ||| (((((v0 : Int32) >>> ((7 : Int32) &&& 31)) &&& 31) : Int32) <<< ((15 : Int32) &&& 31))) ||| 4096) ||| (((((v0 : Int32) >>> ((7 : Int32) &&& 31)) &&& 31) : Int32) <<< ((7 : Int32) &&& 31))) ||| 19)) hx hb hr (fun t ht hW => ⟨⟨(((((((((v0 : Int32) >>> ((2 : Int32) &&& 31)) &&& 31) : Int32) <<< ((20 : Int32) &&& 31)) ||| (((((v0 : Int32) >>> ((7 : Int32) &&& 31)) &&& 31) : Int32) <<< ((15 : Int32) &&& 31))) ||| 4096) ||| (((((v0 : Int32) >>> ((7 : Int32) &&& 31)) &&& 31) : Int32) <<< ((7 : Int32) &&& 31))) ||| 19), (), rfl, Or.inl ⟨c_1, c_2, rfl⟩, by rw [ht]; exact hP, va_K.moved hW.alike hK, hD⟩, hS.F ht⟩) hS.2.2 dX4_expandedThird_91
      · exact h9.elim
    by_cases c_4 : ((v0 : Int32) >>> ((13 : Int32) &&& 31)) = 1
    · refine lv_tableIn (off := 182) (tgt := 215) hx hb dX4_expandedThird_33 (by rw [c_4]; decide) (by rw [c_4]; decide) (by rw [c_4]; decide) (by decide) ?_
      refine lv_iconst (v := 0) hx hb dX4_expandedThird_215 (by decide) ?_
      refine W.widen (k := 0) (n := 0) (by decide +kernel) (by decide +kernel) ?_
      exact W.iret (v := 0) hx hb hr (fun t ht hW => ⟨⟨0, (), rfl, Or.inr (Or.inl ⟨c_1, c_2, c_4, rfl⟩), by rw [ht]; exact hP, va_K.moved hW.alike hK, hD⟩, hS.F ht⟩) hS.2.2 dX4_expandedThird_216
    by_cases c_5 : ((v0 : Int32) >>> ((13 : Int32) &&& 31)) = 2
    · refine lv_tableIn (off := 59) (tgt := 92) hx hb dX4_expandedThird_33 (by rw [c_5]; decide) (by rw [c_5]; decide) (by rw [c_5]; decide) (by decide) ?_
      refine lv_iload_n hx hb dX4_expandedThird_92 rfl (lv_at hl 2 rfl) ?_
      refine lv_if_ne (tgt := 100) hx hb dX4_expandedThird_93 (by decide) (fun c_6 => ?_) (fun c_6 => ?_)
      · refine lv_iload_n hx hb dX4_expandedThird_100 rfl (lv_at hl 3 rfl) ?_
        refine lv_bipush (v := 7) hx hb dX4_expandedThird_101 (by decide) ?_
        refine lv_ishr hx hb dX4_expandedThird_103 ?_
        refine lv_bipush (v := 32) hx hb dX4_expandedThird_104 (by decide) ?_
        refine lv_iand hx hb dX4_expandedThird_106 ?_
        refine lv_iload_n hx hb dX4_expandedThird_107 rfl (lv_at hl 3 rfl) ?_
        refine lv_iconst (v := 2) hx hb dX4_expandedThird_108 (by decide) ?_
        refine lv_ishr hx hb dX4_expandedThird_109 ?_
        refine lv_bipush (v := 28) hx hb dX4_expandedThird_110 (by decide) ?_
        refine lv_iand hx hb dX4_expandedThird_112 ?_
        refine lv_ior hx hb dX4_expandedThird_113 ?_
        refine lv_iload_n hx hb dX4_expandedThird_114 rfl (lv_at hl 3 rfl) ?_
        refine lv_iconst (v := 4) hx hb dX4_expandedThird_115 (by decide) ?_
        refine lv_ishl hx hb dX4_expandedThird_116 ?_
        refine lv_sipush (v := 192) hx hb dX4_expandedThird_117 (by decide) ?_
        refine lv_iand hx hb dX4_expandedThird_120 ?_
        refine lv_ior hx hb dX4_expandedThird_121 ?_
        refine lv_iconst (v := 2) hx hb dX4_expandedThird_122 (by decide) ?_
        refine lv_iload_n hx hb dX4_expandedThird_123 rfl (lv_at hl 2 rfl) ?_
        have hPc := hP.sub (ws' := []) [] rfl
        have hDc := hD.sub (ws' := []) [] (by decide) rfl
        have hKc := hK.sub (tys' := []) [] rfl
        have hFc := va_free (wc := []) hD hS hA [] rfl
        refine va_calli (va_runS (As := [.int (((((v0 : Int32) >>> ((7 : Int32) &&& 31)) &&& 32) ||| (((v0 : Int32) >>> ((2 : Int32) &&& 31)) &&& 28)) ||| (((v0 : Int32) <<< ((4 : Int32) &&& 31)) &&& 192)), .int 2, .int (((v0 : Int32) >>> ((7 : Int32) &&& 31)) &&& 31)]) (rest := []) ⟨hx, hb, hml, hown, hts⟩ (k_X4_loading l hlt dC dI (((((v0 : Int32) >>> ((7 : Int32) &&& 31)) &&& 32) ||| (((v0 : Int32) >>> ((2 : Int32) &&& 31)) &&& 28)) ||| (((v0 : Int32) <<< ((4 : Int32) &&& 31)) &&& 192)) (((v0 : Int32) >>> ((7 : Int32) &&& 31)) &&& 31)  s.heap.size) (cwS 3 hts gi_g_X4_expandedThird_1 rfl rfl rfl (by decide +kernel) ⟨Nat.le_of_ble_eq_true rfl, Nat.le_of_ble_eq_true rfl⟩) ⟨fun a U g mk q => by obtain ⟨q0, q1, qP, qK, qD, qN⟩ := q; exact ⟨q0, q1, qP, va_K.moved (u := U) (U := U.calling g mk a) (Vm.Alike.refl U.vm) qK, qD, nv_same rfl rfl qN⟩, fun U hU hW => ⟨rfl, by rw [hU], by rw [hU]; exact hPc, va_K.moved hW.alike hKc, hDc.weaken (fun _ _ _ _ => trivial), nv_call hS hFc hU hW hN⟩⟩ rfl rfl hl.1 rfl (lv_room (Nat.le_of_ble_eq_true rfl)) dX4_expandedThird_124 ⟨by decide +kernel, by decide +kernel⟩) hS (fun q _ h => hFc q h) hFc (fun r7 u t H1 locs ht hvm hw hB hz1 hk1 hS => ?_)
        obtain ⟨hP1, hK1, hD1⟩ := hB
        rw [ht] at hP1
        have hK1 := va_K.moved hvm.symm hK1
        obtain ⟨hP, hD⟩ := va_join (wr := []) (w1 := []) hP hD [] [] rfl rfl (by decide) (by decide) hk1 hFc hP1 hD1
        have hK := (hK.sub (tys' := []) [] rfl).app hK1
        generalize H1 = H at hP hS ⊢
        have hP : va_P (dC, dI) vwCl [] H := hP
        have hD : va_D A [] := hD
        have hK : va_K (dC, dI) vwCl [] s := hK
        refine W.widen (k := 0) (n := 0) (by decide +kernel) (by decide +kernel) ?_
        rcases hw with h9 | h9
        · subst h9
          refine W.widen (k := 0) (n := 0) (by decide +kernel) (by decide +kernel) ?_
          exact W.iret (v := (((((((((((v0 : Int32) >>> ((7 : Int32) &&& 31)) &&& 32) ||| (((v0 : Int32) >>> ((2 : Int32) &&& 31)) &&& 28)) ||| (((v0 : Int32) <<< ((4 : Int32) &&& 31)) &&& 192)) : Int32) <<< ((20 : Int32) &&& 31)) ||| 65536) ||| 8192) ||| (((((v0 : Int32) >>> ((7 : Int32) &&& 31)) &&& 31) : Int32) <<< ((7 : Int32) &&& 31))) ||| 3)) hx hb hr (fun t ht hW => ⟨⟨(((((((((((v0 : Int32) >>> ((7 : Int32) &&& 31)) &&& 32) ||| (((v0 : Int32) >>> ((2 : Int32) &&& 31)) &&& 28)) ||| (((v0 : Int32) <<< ((4 : Int32) &&& 31)) &&& 192)) : Int32) <<< ((20 : Int32) &&& 31)) ||| 65536) ||| 8192) ||| (((((v0 : Int32) >>> ((7 : Int32) &&& 31)) &&& 31) : Int32) <<< ((7 : Int32) &&& 31))) ||| 3), (), rfl, Or.inr (Or.inr (Or.inl ⟨c_1, c_2, c_4, c_5, c_6, rfl⟩)), by rw [ht]; exact hP, va_K.moved hW.alike hK, hD⟩, hS.F ht⟩) hS.2.2 dX4_expandedThird_127
        · exact h9.elim
      · refine lv_iconst (v := 0) hx hb dX4_expandedThird_96 (by decide) ?_
        refine lv_goto (tgt := 127) hx hb dX4_expandedThird_97 (by decide) ?_
        refine W.widen (k := 0) (n := 0) (by decide +kernel) (by decide +kernel) ?_
        exact W.iret (v := 0) hx hb hr (fun t ht hW => ⟨⟨0, (), rfl, Or.inr (Or.inr (Or.inr (Or.inl ⟨c_1, c_2, c_4, c_5, c_6, rfl⟩))), by rw [ht]; exact hP, va_K.moved hW.alike hK, hD⟩, hS.F ht⟩) hS.2.2 dX4_expandedThird_127
    by_cases c_8 : ((v0 : Int32) >>> ((13 : Int32) &&& 31)) = 3
    · refine lv_tableIn (off := 182) (tgt := 215) hx hb dX4_expandedThird_33 (by rw [c_8]; decide) (by rw [c_8]; decide) (by rw [c_8]; decide) (by decide) ?_
      refine lv_iconst (v := 0) hx hb dX4_expandedThird_215 (by decide) ?_
      refine W.widen (k := 0) (n := 0) (by decide +kernel) (by decide +kernel) ?_
      exact W.iret (v := 0) hx hb hr (fun t ht hW => ⟨⟨0, (), rfl, Or.inr (Or.inr (Or.inr (Or.inr (Or.inl ⟨c_1, c_2, c_4, c_5, c_8, rfl⟩)))), by rw [ht]; exact hP, va_K.moved hW.alike hK, hD⟩, hS.F ht⟩) hS.2.2 dX4_expandedThird_216
    by_cases c_9 : ((v0 : Int32) >>> ((13 : Int32) &&& 31)) = 4
    · refine lv_tableIn (off := 95) (tgt := 128) hx hb dX4_expandedThird_33 (by rw [c_9]; decide) (by rw [c_9]; decide) (by rw [c_9]; decide) (by decide) ?_
      refine lv_iload_n hx hb dX4_expandedThird_128 rfl (lv_at hl 1 rfl) ?_
      refine lv_if_eq (tgt := 158) hx hb dX4_expandedThird_129 (by decide) (fun c_10 => ?_) (fun c_10 => ?_)
      · refine lv_iload_n hx hb dX4_expandedThird_158 rfl (lv_at hl 2 rfl) ?_
        refine lv_if_ne (tgt := 173) hx hb dX4_expandedThird_159 (by decide) (fun c_11 => ?_) (fun c_11 => ?_)
        · refine lv_iload_n hx hb dX4_expandedThird_173 rfl (lv_at hl 2 rfl) ?_
          refine lv_bipush (v := 15) hx hb dX4_expandedThird_174 (by decide) ?_
          refine lv_ishl hx hb dX4_expandedThird_176 ?_
          refine lv_iload_n hx hb dX4_expandedThird_177 rfl (lv_at hl 0 rfl) ?_
          refine lv_if_eq (tgt := 185) hx hb dX4_expandedThird_178 (by decide) (fun _ => ?_) (fun h9 => absurd (by decide) h9)
          refine lv_iconst (v := 0) hx hb dX4_expandedThird_185 (by decide) ?_
          refine lv_bipush (v := 7) hx hb dX4_expandedThird_186 (by decide) ?_
          refine lv_ishl hx hb dX4_expandedThird_188 ?_
          refine lv_topi (fun z8 ez8 => ?_)
          obtain rfl : z8 = 0 := ez8.trans (by decide)
          refine lv_ior hx hb dX4_expandedThird_189 ?_
          refine lv_bipush (v := 103) hx hb dX4_expandedThird_190 (by decide) ?_
          refine lv_ior hx hb dX4_expandedThird_192 ?_
          refine W.widen (k := 0) (n := 0) (by decide +kernel) (by decide +kernel) ?_
          exact W.iret (v := (((((((v0 : Int32) >>> ((7 : Int32) &&& 31)) &&& 31) : Int32) <<< ((15 : Int32) &&& 31)) ||| 0) ||| 103)) hx hb hr (fun t ht hW => ⟨⟨(((((((v0 : Int32) >>> ((7 : Int32) &&& 31)) &&& 31) : Int32) <<< ((15 : Int32) &&& 31)) ||| 0) ||| 103), (), rfl, Or.inr (Or.inr (Or.inr (Or.inr (Or.inr (Or.inl ⟨c_1, c_2, c_4, c_5, c_8, c_9, c_10, c_11, rfl⟩))))), by rw [ht]; exact hP, va_K.moved hW.alike hK, hD⟩, hS.F ht⟩) hS.2.2 dX4_expandedThird_193
        · refine lv_iload_n hx hb dX4_expandedThird_162 rfl (lv_at hl 0 rfl) ?_
          refine lv_if_eq (tgt := 171) hx hb dX4_expandedThird_163 (by decide) (fun _ => ?_) (fun h9 => absurd (by decide) h9)
          refine lv_iconst (v := 0) hx hb dX4_expandedThird_171 (by decide) ?_
          refine W.widen (k := 0) (n := 0) (by decide +kernel) (by decide +kernel) ?_
          exact W.iret (v := 0) hx hb hr (fun t ht hW => ⟨⟨0, (), rfl, Or.inr (Or.inr (Or.inr (Or.inr (Or.inr (Or.inr (Or.inl ⟨c_1, c_2, c_4, c_5, c_8, c_9, c_10, c_11, rfl⟩)))))), by rw [ht]; exact hP, va_K.moved hW.alike hK, hD⟩, hS.F ht⟩) hS.2.2 dX4_expandedThird_172
      · refine lv_iload_n hx hb dX4_expandedThird_132 rfl (lv_at hl 1 rfl) ?_
        refine lv_bipush (v := 20) hx hb dX4_expandedThird_133 (by decide) ?_
        refine lv_ishl hx hb dX4_expandedThird_135 ?_
        refine lv_iload_n hx hb dX4_expandedThird_136 rfl (lv_at hl 0 rfl) ?_
        refine lv_if_eq (tgt := 144) hx hb dX4_expandedThird_137 (by decide) (fun _ => ?_) (fun h9 => absurd (by decide) h9)
        refine lv_iconst (v := 0) hx hb dX4_expandedThird_144 (by decide) ?_
        refine lv_bipush (v := 15) hx hb dX4_expandedThird_145 (by decide) ?_
        refine lv_ishl hx hb dX4_expandedThird_147 ?_
        refine lv_topi (fun z9 ez9 => ?_)
        obtain rfl : z9 = 0 := ez9.trans (by decide)
        refine lv_ior hx hb dX4_expandedThird_148 ?_
        refine lv_iload_n hx hb dX4_expandedThird_149 rfl (lv_at hl 2 rfl) ?_
        refine lv_bipush (v := 7) hx hb dX4_expandedThird_150 (by decide) ?_
        refine lv_ishl hx hb dX4_expandedThird_152 ?_
        refine lv_ior hx hb dX4_expandedThird_153 ?_
        refine lv_bipush (v := 51) hx hb dX4_expandedThird_154 (by decide) ?_
        refine lv_ior hx hb dX4_expandedThird_156 ?_
        refine W.widen (k := 0) (n := 0) (by decide +kernel) (by decide +kernel) ?_
        exact W.iret (v := ((((((((v0 : Int32) >>> ((2 : Int32) &&& 31)) &&& 31) : Int32) <<< ((20 : Int32) &&& 31)) ||| 0) ||| (((((v0 : Int32) >>> ((7 : Int32) &&& 31)) &&& 31) : Int32) <<< ((7 : Int32) &&& 31))) ||| 51)) hx hb hr (fun t ht hW => ⟨⟨((((((((v0 : Int32) >>> ((2 : Int32) &&& 31)) &&& 31) : Int32) <<< ((20 : Int32) &&& 31)) ||| 0) ||| (((((v0 : Int32) >>> ((7 : Int32) &&& 31)) &&& 31) : Int32) <<< ((7 : Int32) &&& 31))) ||| 51), (), rfl, Or.inr (Or.inr (Or.inr (Or.inr (Or.inr (Or.inr (Or.inr (Or.inl ⟨c_1, c_2, c_4, c_5, c_8, c_9, c_10, rfl⟩))))))), by rw [ht]; exact hP, va_K.moved hW.alike hK, hD⟩, hS.F ht⟩) hS.2.2 dX4_expandedThird_157
    by_cases c_12 : ((v0 : Int32) >>> ((13 : Int32) &&& 31)) = 5
    · refine lv_tableIn (off := 182) (tgt := 215) hx hb dX4_expandedThird_33 (by rw [c_12]; decide) (by rw [c_12]; decide) (by rw [c_12]; decide) (by decide) ?_
      refine lv_iconst (v := 0) hx hb dX4_expandedThird_215 (by decide) ?_
      refine W.widen (k := 0) (n := 0) (by decide +kernel) (by decide +kernel) ?_
      exact W.iret (v := 0) hx hb hr (fun t ht hW => ⟨⟨0, (), rfl, Or.inr (Or.inr (Or.inr (Or.inr (Or.inr (Or.inr (Or.inr (Or.inr (Or.inl ⟨c_1, c_2, c_4, c_5, c_8, c_9, c_12, rfl⟩)))))))), by rw [ht]; exact hP, va_K.moved hW.alike hK, hD⟩, hS.F ht⟩) hS.2.2 dX4_expandedThird_216
    by_cases c_13 : ((v0 : Int32) >>> ((13 : Int32) &&& 31)) = 6
    · refine lv_tableIn (off := 161) (tgt := 194) hx hb dX4_expandedThird_33 (by rw [c_13]; decide) (by rw [c_13]; decide) (by rw [c_13]; decide) (by decide) ?_
      refine lv_iload_n hx hb dX4_expandedThird_194 rfl (lv_at hl 3 rfl) ?_
      refine lv_bipush (v := 7) hx hb dX4_expandedThird_195 (by decide) ?_
      refine lv_ishr hx hb dX4_expandedThird_197 ?_
      refine lv_bipush (v := 60) hx hb dX4_expandedThird_198 (by decide) ?_
      refine lv_iand hx hb dX4_expandedThird_200 ?_
      refine lv_iload_n hx hb dX4_expandedThird_201 rfl (lv_at hl 3 rfl) ?_
      refine lv_iconst (v := 1) hx hb dX4_expandedThird_202 (by decide) ?_
      refine lv_ishr hx hb dX4_expandedThird_203 ?_
      refine lv_sipush (v := 192) hx hb dX4_expandedThird_204 (by decide) ?_
      refine lv_iand hx hb dX4_expandedThird_207 ?_
      refine lv_ior hx hb dX4_expandedThird_208 ?_
      refine lv_iconst (v := 2) hx hb dX4_expandedThird_209 (by decide) ?_
      refine lv_iload_n hx hb dX4_expandedThird_210 rfl (lv_at hl 1 rfl) ?_
      have hPc := hP.sub (ws' := []) [] rfl
      have hDc := hD.sub (ws' := []) [] (by decide) rfl
      have hKc := hK.sub (tys' := []) [] rfl
      have hFc := va_free (wc := []) hD hS hA [] rfl
      refine va_calli (va_runS (As := [.int ((((v0 : Int32) >>> ((7 : Int32) &&& 31)) &&& 60) ||| (((v0 : Int32) >>> ((1 : Int32) &&& 31)) &&& 192)), .int 2, .int (((v0 : Int32) >>> ((2 : Int32) &&& 31)) &&& 31)]) (rest := []) ⟨hx, hb, hml, hown, hts⟩ (k_X4_storing l hlt dC dI ((((v0 : Int32) >>> ((7 : Int32) &&& 31)) &&& 60) ||| (((v0 : Int32) >>> ((1 : Int32) &&& 31)) &&& 192)) (((v0 : Int32) >>> ((2 : Int32) &&& 31)) &&& 31)  s.heap.size) (cwS 3 hts gi_g_X4_expandedThird_2 rfl rfl rfl (by decide +kernel) ⟨Nat.le_of_ble_eq_true rfl, Nat.le_of_ble_eq_true rfl⟩) ⟨fun a U g mk q => by obtain ⟨q0, q1, qP, qK, qD, qN⟩ := q; exact ⟨q0, q1, qP, va_K.moved (u := U) (U := U.calling g mk a) (Vm.Alike.refl U.vm) qK, qD, nv_same rfl rfl qN⟩, fun U hU hW => ⟨rfl, by rw [hU], by rw [hU]; exact hPc, va_K.moved hW.alike hKc, hDc.weaken (fun _ _ _ _ => trivial), nv_call hS hFc hU hW hN⟩⟩ rfl rfl hl.1 rfl (lv_room (Nat.le_of_ble_eq_true rfl)) dX4_expandedThird_211 ⟨by decide +kernel, by decide +kernel⟩) hS (fun q _ h => hFc q h) hFc (fun r12 u t H1 locs ht hvm hw hB hz1 hk1 hS => ?_)
      obtain ⟨hP1, hK1, hD1⟩ := hB
      rw [ht] at hP1
      have hK1 := va_K.moved hvm.symm hK1
      obtain ⟨hP, hD⟩ := va_join (wr := []) (w1 := []) hP hD [] [] rfl rfl (by decide) (by decide) hk1 hFc hP1 hD1
      have hK := (hK.sub (tys' := []) [] rfl).app hK1
      generalize H1 = H at hP hS ⊢
      have hP : va_P (dC, dI) vwCl [] H := hP
      have hD : va_D A [] := hD
      have hK : va_K (dC, dI) vwCl [] s := hK
      refine W.widen (k := 0) (n := 0) (by decide +kernel) (by decide +kernel) ?_
      rcases hw with h9 | h9
      · subst h9
        refine W.widen (k := 0) (n := 0) (by decide +kernel) (by decide +kernel) ?_
        exact W.iret (v := (((((((((((((v0 : Int32) >>> ((7 : Int32) &&& 31)) &&& 60) ||| (((v0 : Int32) >>> ((1 : Int32) &&& 31)) &&& 192)) : Int32) >>> ((5 : Int32) &&& 31)) : Int32) <<< ((25 : Int32) &&& 31)) ||| (((((v0 : Int32) >>> ((2 : Int32) &&& 31)) &&& 31) : Int32) <<< ((20 : Int32) &&& 31))) ||| 65536) ||| 8192) ||| (((((((v0 : Int32) >>> ((7 : Int32) &&& 31)) &&& 60) ||| (((v0 : Int32) >>> ((1 : Int32) &&& 31)) &&& 192)) &&& 31) : Int32) <<< ((7 : Int32) &&& 31))) ||| 35)) hx hb hr (fun t ht hW => ⟨⟨(((((((((((((v0 : Int32) >>> ((7 : Int32) &&& 31)) &&& 60) ||| (((v0 : Int32) >>> ((1 : Int32) &&& 31)) &&& 192)) : Int32) >>> ((5 : Int32) &&& 31)) : Int32) <<< ((25 : Int32) &&& 31)) ||| (((((v0 : Int32) >>> ((2 : Int32) &&& 31)) &&& 31) : Int32) <<< ((20 : Int32) &&& 31))) ||| 65536) ||| 8192) ||| (((((((v0 : Int32) >>> ((7 : Int32) &&& 31)) &&& 60) ||| (((v0 : Int32) >>> ((1 : Int32) &&& 31)) &&& 192)) &&& 31) : Int32) <<< ((7 : Int32) &&& 31))) ||| 35), (), rfl, Or.inr (Or.inr (Or.inr (Or.inr (Or.inr (Or.inr (Or.inr (Or.inr (Or.inr (Or.inl ⟨c_1, c_2, c_4, c_5, c_8, c_9, c_12, c_13, rfl⟩))))))))), by rw [ht]; exact hP, va_K.moved hW.alike hK, hD⟩, hS.F ht⟩) hS.2.2 dX4_expandedThird_214
      · exact h9.elim
    refine lv_tableOut (tgt := 215) hx hb dX4_expandedThird_33 (by have g0 := nv_nei c_2 (k := 0) (by decide); have g1 := nv_nei c_4 (k := 1) (by decide); have g2 := nv_nei c_5 (k := 2) (by decide); have g3 := nv_nei c_8 (k := 3) (by decide); have g4 := nv_nei c_9 (k := 4) (by decide); have g5 := nv_nei c_12 (k := 5) (by decide); have g6 := nv_nei c_13 (k := 6) (by decide); omega) (by decide) ?_
    refine lv_iconst (v := 0) hx hb dX4_expandedThird_215 (by decide) ?_
    refine W.widen (k := 0) (n := 0) (by decide +kernel) (by decide +kernel) ?_
    exact W.iret (v := 0) hx hb hr (fun t ht hW => ⟨⟨0, (), rfl, Or.inr (Or.inr (Or.inr (Or.inr (Or.inr (Or.inr (Or.inr (Or.inr (Or.inr (Or.inr (Or.inl ⟨c_1, c_2, c_4, c_5, c_8, c_9, c_12, c_13, rfl⟩)))))))))), by rw [ht]; exact hP, va_K.moved hW.alike hK, hD⟩, hS.F ht⟩) hS.2.2 dX4_expandedThird_216
  · refine lv_iconst (v := 1) hx hb dX4_expandedThird_23 (by decide) ?_
    refine lv_goto (tgt := 28) hx hb dX4_expandedThird_24 (by decide) ?_
    refine lv_istore_n (lv' := [(3, .int 1), (2, .int (((v0 : Int32) >>> ((2 : Int32) &&& 31)) &&& 31)), (1, .int (((v0 : Int32) >>> ((7 : Int32) &&& 31)) &&& 31)), (0, .int v0)]) hx hb dX4_expandedThird_28 rfl hl (by decide) rfl (fun ls hl => ?_)
    refine lv_iload_n hx hb dX4_expandedThird_29 rfl (lv_at hl 3 rfl) ?_
    refine lv_bipush (v := 13) hx hb dX4_expandedThird_30 (by decide) ?_
    refine lv_ishr hx hb dX4_expandedThird_32 ?_
    by_cases c_15 : ((v0 : Int32) >>> ((13 : Int32) &&& 31)) = 0
    · refine lv_tableIn (off := 43) (tgt := 76) hx hb dX4_expandedThird_33 (by rw [c_15]; decide) (by rw [c_15]; decide) (by rw [c_15]; decide) (by decide) ?_
      refine lv_iload_n hx hb dX4_expandedThird_76 rfl (lv_at hl 0 rfl) ?_
      refine lv_if_eq (tgt := 84) hx hb dX4_expandedThird_77 (by decide) (fun h9 => absurd h9 (by decide)) (fun _ => ?_)
      refine lv_iconst (v := 0) hx hb dX4_expandedThird_80 (by decide) ?_
      refine lv_goto (tgt := 91) hx hb dX4_expandedThird_81 (by decide) ?_
      refine W.widen (k := 0) (n := 0) (by decide +kernel) (by decide +kernel) ?_
      exact W.iret (v := 0) hx hb hr (fun t ht hW => ⟨⟨0, (), rfl, Or.inr (Or.inr (Or.inr (Or.inr (Or.inr (Or.inr (Or.inr (Or.inr (Or.inr (Or.inr (Or.inr (Or.inl ⟨c_1, c_15, rfl⟩))))))))))), by rw [ht]; exact hP, va_K.moved hW.alike hK, hD⟩, hS.F ht⟩) hS.2.2 dX4_expandedThird_91
    by_cases c_16 : ((v0 : Int32) >>> ((13 : Int32) &&& 31)) = 1
    · refine lv_tableIn (off := 182) (tgt := 215) hx hb dX4_expandedThird_33 (by rw [c_16]; decide) (by rw [c_16]; decide) (by rw [c_16]; decide) (by decide) ?_
      refine lv_iconst (v := 0) hx hb dX4_expandedThird_215 (by decide) ?_
      refine W.widen (k := 0) (n := 0) (by decide +kernel) (by decide +kernel) ?_
      exact W.iret (v := 0) hx hb hr (fun t ht hW => ⟨⟨0, (), rfl, Or.inr (Or.inr (Or.inr (Or.inr (Or.inr (Or.inr (Or.inr (Or.inr (Or.inr (Or.inr (Or.inr (Or.inr (Or.inl ⟨c_1, c_15, c_16, rfl⟩)))))))))))), by rw [ht]; exact hP, va_K.moved hW.alike hK, hD⟩, hS.F ht⟩) hS.2.2 dX4_expandedThird_216
    by_cases c_17 : ((v0 : Int32) >>> ((13 : Int32) &&& 31)) = 2
    · refine lv_tableIn (off := 59) (tgt := 92) hx hb dX4_expandedThird_33 (by rw [c_17]; decide) (by rw [c_17]; decide) (by rw [c_17]; decide) (by decide) ?_
      refine lv_iload_n hx hb dX4_expandedThird_92 rfl (lv_at hl 2 rfl) ?_
      refine lv_if_ne (tgt := 100) hx hb dX4_expandedThird_93 (by decide) (fun c_18 => ?_) (fun c_18 => ?_)
      · refine lv_iload_n hx hb dX4_expandedThird_100 rfl (lv_at hl 3 rfl) ?_
        refine lv_bipush (v := 7) hx hb dX4_expandedThird_101 (by decide) ?_
        refine lv_ishr hx hb dX4_expandedThird_103 ?_
        refine lv_bipush (v := 32) hx hb dX4_expandedThird_104 (by decide) ?_
        refine lv_iand hx hb dX4_expandedThird_106 ?_
        refine lv_iload_n hx hb dX4_expandedThird_107 rfl (lv_at hl 3 rfl) ?_
        refine lv_iconst (v := 2) hx hb dX4_expandedThird_108 (by decide) ?_
        refine lv_ishr hx hb dX4_expandedThird_109 ?_
        refine lv_bipush (v := 28) hx hb dX4_expandedThird_110 (by decide) ?_
        refine lv_iand hx hb dX4_expandedThird_112 ?_
        refine lv_ior hx hb dX4_expandedThird_113 ?_
        refine lv_iload_n hx hb dX4_expandedThird_114 rfl (lv_at hl 3 rfl) ?_
        refine lv_iconst (v := 4) hx hb dX4_expandedThird_115 (by decide) ?_
        refine lv_ishl hx hb dX4_expandedThird_116 ?_
        refine lv_sipush (v := 192) hx hb dX4_expandedThird_117 (by decide) ?_
        refine lv_iand hx hb dX4_expandedThird_120 ?_
        refine lv_ior hx hb dX4_expandedThird_121 ?_
        refine lv_iconst (v := 2) hx hb dX4_expandedThird_122 (by decide) ?_
        refine lv_iload_n hx hb dX4_expandedThird_123 rfl (lv_at hl 2 rfl) ?_
        have hPc := hP.sub (ws' := []) [] rfl
        have hDc := hD.sub (ws' := []) [] (by decide) rfl
        have hKc := hK.sub (tys' := []) [] rfl
        have hFc := va_free (wc := []) hD hS hA [] rfl
        refine va_calli (va_runS (As := [.int (((((v0 : Int32) >>> ((7 : Int32) &&& 31)) &&& 32) ||| (((v0 : Int32) >>> ((2 : Int32) &&& 31)) &&& 28)) ||| (((v0 : Int32) <<< ((4 : Int32) &&& 31)) &&& 192)), .int 2, .int (((v0 : Int32) >>> ((7 : Int32) &&& 31)) &&& 31)]) (rest := []) ⟨hx, hb, hml, hown, hts⟩ (k_X4_loading l hlt dC dI (((((v0 : Int32) >>> ((7 : Int32) &&& 31)) &&& 32) ||| (((v0 : Int32) >>> ((2 : Int32) &&& 31)) &&& 28)) ||| (((v0 : Int32) <<< ((4 : Int32) &&& 31)) &&& 192)) (((v0 : Int32) >>> ((7 : Int32) &&& 31)) &&& 31)  s.heap.size) (cwS 3 hts gi_g_X4_expandedThird_1 rfl rfl rfl (by decide +kernel) ⟨Nat.le_of_ble_eq_true rfl, Nat.le_of_ble_eq_true rfl⟩) ⟨fun a U g mk q => by obtain ⟨q0, q1, qP, qK, qD, qN⟩ := q; exact ⟨q0, q1, qP, va_K.moved (u := U) (U := U.calling g mk a) (Vm.Alike.refl U.vm) qK, qD, nv_same rfl rfl qN⟩, fun U hU hW => ⟨rfl, by rw [hU], by rw [hU]; exact hPc, va_K.moved hW.alike hKc, hDc.weaken (fun _ _ _ _ => trivial), nv_call hS hFc hU hW hN⟩⟩ rfl rfl hl.1 rfl (lv_room (Nat.le_of_ble_eq_true rfl)) dX4_expandedThird_124 ⟨by decide +kernel, by decide +kernel⟩) hS (fun q _ h => hFc q h) hFc (fun r15 u t H1 locs ht hvm hw hB hz1 hk1 hS => ?_)
        obtain ⟨hP1, hK1, hD1⟩ := hB
        rw [ht] at hP1
        have hK1 := va_K.moved hvm.symm hK1
        obtain ⟨hP, hD⟩ := va_join (wr := []) (w1 := []) hP hD [] [] rfl rfl (by decide) (by decide) hk1 hFc hP1 hD1
        have hK := (hK.sub (tys' := []) [] rfl).app hK1
        generalize H1 = H at hP hS ⊢
        have hP : va_P (dC, dI) vwCl [] H := hP
        have hD : va_D A [] := hD
        have hK : va_K (dC, dI) vwCl [] s := hK
        refine W.widen (k := 0) (n := 0) (by decide +kernel) (by decide +kernel) ?_
        rcases hw with h9 | h9
        · subst h9
          refine W.widen (k := 0) (n := 0) (by decide +kernel) (by decide +kernel) ?_
          exact W.iret (v := (((((((((((v0 : Int32) >>> ((7 : Int32) &&& 31)) &&& 32) ||| (((v0 : Int32) >>> ((2 : Int32) &&& 31)) &&& 28)) ||| (((v0 : Int32) <<< ((4 : Int32) &&& 31)) &&& 192)) : Int32) <<< ((20 : Int32) &&& 31)) ||| 65536) ||| 8192) ||| (((((v0 : Int32) >>> ((7 : Int32) &&& 31)) &&& 31) : Int32) <<< ((7 : Int32) &&& 31))) ||| 3)) hx hb hr (fun t ht hW => ⟨⟨(((((((((((v0 : Int32) >>> ((7 : Int32) &&& 31)) &&& 32) ||| (((v0 : Int32) >>> ((2 : Int32) &&& 31)) &&& 28)) ||| (((v0 : Int32) <<< ((4 : Int32) &&& 31)) &&& 192)) : Int32) <<< ((20 : Int32) &&& 31)) ||| 65536) ||| 8192) ||| (((((v0 : Int32) >>> ((7 : Int32) &&& 31)) &&& 31) : Int32) <<< ((7 : Int32) &&& 31))) ||| 3), (), rfl, Or.inr (Or.inr (Or.inr (Or.inr (Or.inr (Or.inr (Or.inr (Or.inr (Or.inr (Or.inr (Or.inr (Or.inr (Or.inr (Or.inl ⟨c_1, c_15, c_16, c_17, c_18, rfl⟩))))))))))))), by rw [ht]; exact hP, va_K.moved hW.alike hK, hD⟩, hS.F ht⟩) hS.2.2 dX4_expandedThird_127
        · exact h9.elim
      · refine lv_iconst (v := 0) hx hb dX4_expandedThird_96 (by decide) ?_
        refine lv_goto (tgt := 127) hx hb dX4_expandedThird_97 (by decide) ?_
        refine W.widen (k := 0) (n := 0) (by decide +kernel) (by decide +kernel) ?_
        exact W.iret (v := 0) hx hb hr (fun t ht hW => ⟨⟨0, (), rfl, Or.inr (Or.inr (Or.inr (Or.inr (Or.inr (Or.inr (Or.inr (Or.inr (Or.inr (Or.inr (Or.inr (Or.inr (Or.inr (Or.inr (Or.inl ⟨c_1, c_15, c_16, c_17, c_18, rfl⟩)))))))))))))), by rw [ht]; exact hP, va_K.moved hW.alike hK, hD⟩, hS.F ht⟩) hS.2.2 dX4_expandedThird_127
    by_cases c_20 : ((v0 : Int32) >>> ((13 : Int32) &&& 31)) = 3
    · refine lv_tableIn (off := 182) (tgt := 215) hx hb dX4_expandedThird_33 (by rw [c_20]; decide) (by rw [c_20]; decide) (by rw [c_20]; decide) (by decide) ?_
      refine lv_iconst (v := 0) hx hb dX4_expandedThird_215 (by decide) ?_
      refine W.widen (k := 0) (n := 0) (by decide +kernel) (by decide +kernel) ?_
      exact W.iret (v := 0) hx hb hr (fun t ht hW => ⟨⟨0, (), rfl, Or.inr (Or.inr (Or.inr (Or.inr (Or.inr (Or.inr (Or.inr (Or.inr (Or.inr (Or.inr (Or.inr (Or.inr (Or.inr (Or.inr (Or.inr (Or.inl ⟨c_1, c_15, c_16, c_17, c_20, rfl⟩))))))))))))))), by rw [ht]; exact hP, va_K.moved hW.alike hK, hD⟩, hS.F ht⟩) hS.2.2 dX4_expandedThird_216
    by_cases c_21 : ((v0 : Int32) >>> ((13 : Int32) &&& 31)) = 4
    · refine lv_tableIn (off := 95) (tgt := 128) hx hb dX4_expandedThird_33 (by rw [c_21]; decide) (by rw [c_21]; decide) (by rw [c_21]; decide) (by decide) ?_
      refine lv_iload_n hx hb dX4_expandedThird_128 rfl (lv_at hl 1 rfl) ?_
      refine lv_if_eq (tgt := 158) hx hb dX4_expandedThird_129 (by decide) (fun c_22 => ?_) (fun c_22 => ?_)
      · refine lv_iload_n hx hb dX4_expandedThird_158 rfl (lv_at hl 2 rfl) ?_
        refine lv_if_ne (tgt := 173) hx hb dX4_expandedThird_159 (by decide) (fun c_23 => ?_) (fun c_23 => ?_)
        · refine lv_iload_n hx hb dX4_expandedThird_173 rfl (lv_at hl 2 rfl) ?_
          refine lv_bipush (v := 15) hx hb dX4_expandedThird_174 (by decide) ?_
          refine lv_ishl hx hb dX4_expandedThird_176 ?_
          refine lv_iload_n hx hb dX4_expandedThird_177 rfl (lv_at hl 0 rfl) ?_
          refine lv_if_eq (tgt := 185) hx hb dX4_expandedThird_178 (by decide) (fun h9 => absurd h9 (by decide)) (fun _ => ?_)
          refine lv_iconst (v := 1) hx hb dX4_expandedThird_181 (by decide) ?_
          refine lv_goto (tgt := 186) hx hb dX4_expandedThird_182 (by decide) ?_
          refine lv_bipush (v := 7) hx hb dX4_expandedThird_186 (by decide) ?_
          refine lv_ishl hx hb dX4_expandedThird_188 ?_
          refine lv_topi (fun z16 ez16 => ?_)
          obtain rfl : z16 = 128 := ez16.trans (by decide)
          refine lv_ior hx hb dX4_expandedThird_189 ?_
          refine lv_bipush (v := 103) hx hb dX4_expandedThird_190 (by decide) ?_
          refine lv_ior hx hb dX4_expandedThird_192 ?_
          refine W.widen (k := 0) (n := 0) (by decide +kernel) (by decide +kernel) ?_
          exact W.iret (v := (((((((v0 : Int32) >>> ((7 : Int32) &&& 31)) &&& 31) : Int32) <<< ((15 : Int32) &&& 31)) ||| 128) ||| 103)) hx hb hr (fun t ht hW => ⟨⟨(((((((v0 : Int32) >>> ((7 : Int32) &&& 31)) &&& 31) : Int32) <<< ((15 : Int32) &&& 31)) ||| 128) ||| 103), (), rfl, Or.inr (Or.inr (Or.inr (Or.inr (Or.inr (Or.inr (Or.inr (Or.inr (Or.inr (Or.inr (Or.inr (Or.inr (Or.inr (Or.inr (Or.inr (Or.inr (Or.inl ⟨c_1, c_15, c_16, c_17, c_20, c_21, c_22, c_23, rfl⟩)))))))))))))))), by rw [ht]; exact hP, va_K.moved hW.alike hK, hD⟩, hS.F ht⟩) hS.2.2 dX4_expandedThird_193
        · refine lv_iload_n hx hb dX4_expandedThird_162 rfl (lv_at hl 0 rfl) ?_
          refine lv_if_eq (tgt := 171) hx hb dX4_expandedThird_163 (by decide) (fun h9 => absurd h9 (by decide)) (fun _ => ?_)
          refine lv_ldc hx hb hown (hts (.constant RX4 136 (1048691)) (List.mem_of_getElem? (i := 8) rfl)) dX4_expandedThird_166 ?_
          refine lv_goto (tgt := 172) hx hb dX4_expandedThird_168 (by decide) ?_
          refine W.widen (k := 0) (n := 0) (by decide +kernel) (by decide +kernel) ?_
          exact W.iret (v := 1048691) hx hb hr (fun t ht hW => ⟨⟨1048691, (), rfl, Or.inr (Or.inr (Or.inr (Or.inr (Or.inr (Or.inr (Or.inr (Or.inr (Or.inr (Or.inr (Or.inr (Or.inr (Or.inr (Or.inr (Or.inr (Or.inr (Or.inr (Or.inl ⟨c_1, c_15, c_16, c_17, c_20, c_21, c_22, c_23, rfl⟩))))))))))))))))), by rw [ht]; exact hP, va_K.moved hW.alike hK, hD⟩, hS.F ht⟩) hS.2.2 dX4_expandedThird_172
      · refine lv_iload_n hx hb dX4_expandedThird_132 rfl (lv_at hl 1 rfl) ?_
        refine lv_bipush (v := 20) hx hb dX4_expandedThird_133 (by decide) ?_
        refine lv_ishl hx hb dX4_expandedThird_135 ?_
        refine lv_iload_n hx hb dX4_expandedThird_136 rfl (lv_at hl 0 rfl) ?_
        refine lv_if_eq (tgt := 144) hx hb dX4_expandedThird_137 (by decide) (fun h9 => absurd h9 (by decide)) (fun _ => ?_)
        refine lv_iload_n hx hb dX4_expandedThird_140 rfl (lv_at hl 2 rfl) ?_
        refine lv_goto (tgt := 145) hx hb dX4_expandedThird_141 (by decide) ?_
        refine lv_bipush (v := 15) hx hb dX4_expandedThird_145 (by decide) ?_
        refine lv_ishl hx hb dX4_expandedThird_147 ?_
        refine lv_ior hx hb dX4_expandedThird_148 ?_
        refine lv_iload_n hx hb dX4_expandedThird_149 rfl (lv_at hl 2 rfl) ?_
        refine lv_bipush (v := 7) hx hb dX4_expandedThird_150 (by decide) ?_
        refine lv_ishl hx hb dX4_expandedThird_152 ?_
        refine lv_ior hx hb dX4_expandedThird_153 ?_
        refine lv_bipush (v := 51) hx hb dX4_expandedThird_154 (by decide) ?_
        refine lv_ior hx hb dX4_expandedThird_156 ?_
        refine W.widen (k := 0) (n := 0) (by decide +kernel) (by decide +kernel) ?_
        exact W.iret (v := ((((((((v0 : Int32) >>> ((2 : Int32) &&& 31)) &&& 31) : Int32) <<< ((20 : Int32) &&& 31)) ||| (((((v0 : Int32) >>> ((7 : Int32) &&& 31)) &&& 31) : Int32) <<< ((15 : Int32) &&& 31))) ||| (((((v0 : Int32) >>> ((7 : Int32) &&& 31)) &&& 31) : Int32) <<< ((7 : Int32) &&& 31))) ||| 51)) hx hb hr (fun t ht hW => ⟨⟨((((((((v0 : Int32) >>> ((2 : Int32) &&& 31)) &&& 31) : Int32) <<< ((20 : Int32) &&& 31)) ||| (((((v0 : Int32) >>> ((7 : Int32) &&& 31)) &&& 31) : Int32) <<< ((15 : Int32) &&& 31))) ||| (((((v0 : Int32) >>> ((7 : Int32) &&& 31)) &&& 31) : Int32) <<< ((7 : Int32) &&& 31))) ||| 51), (), rfl, Or.inr (Or.inr (Or.inr (Or.inr (Or.inr (Or.inr (Or.inr (Or.inr (Or.inr (Or.inr (Or.inr (Or.inr (Or.inr (Or.inr (Or.inr (Or.inr (Or.inr (Or.inr (Or.inl ⟨c_1, c_15, c_16, c_17, c_20, c_21, c_22, rfl⟩)))))))))))))))))), by rw [ht]; exact hP, va_K.moved hW.alike hK, hD⟩, hS.F ht⟩) hS.2.2 dX4_expandedThird_157
    by_cases c_24 : ((v0 : Int32) >>> ((13 : Int32) &&& 31)) = 5
    · refine lv_tableIn (off := 182) (tgt := 215) hx hb dX4_expandedThird_33 (by rw [c_24]; decide) (by rw [c_24]; decide) (by rw [c_24]; decide) (by decide) ?_
      refine lv_iconst (v := 0) hx hb dX4_expandedThird_215 (by decide) ?_
      refine W.widen (k := 0) (n := 0) (by decide +kernel) (by decide +kernel) ?_
      exact W.iret (v := 0) hx hb hr (fun t ht hW => ⟨⟨0, (), rfl, Or.inr (Or.inr (Or.inr (Or.inr (Or.inr (Or.inr (Or.inr (Or.inr (Or.inr (Or.inr (Or.inr (Or.inr (Or.inr (Or.inr (Or.inr (Or.inr (Or.inr (Or.inr (Or.inr (Or.inl ⟨c_1, c_15, c_16, c_17, c_20, c_21, c_24, rfl⟩))))))))))))))))))), by rw [ht]; exact hP, va_K.moved hW.alike hK, hD⟩, hS.F ht⟩) hS.2.2 dX4_expandedThird_216
    by_cases c_25 : ((v0 : Int32) >>> ((13 : Int32) &&& 31)) = 6
    · refine lv_tableIn (off := 161) (tgt := 194) hx hb dX4_expandedThird_33 (by rw [c_25]; decide) (by rw [c_25]; decide) (by rw [c_25]; decide) (by decide) ?_
      refine lv_iload_n hx hb dX4_expandedThird_194 rfl (lv_at hl 3 rfl) ?_
      refine lv_bipush (v := 7) hx hb dX4_expandedThird_195 (by decide) ?_
      refine lv_ishr hx hb dX4_expandedThird_197 ?_
      refine lv_bipush (v := 60) hx hb dX4_expandedThird_198 (by decide) ?_
      refine lv_iand hx hb dX4_expandedThird_200 ?_
      refine lv_iload_n hx hb dX4_expandedThird_201 rfl (lv_at hl 3 rfl) ?_
      refine lv_iconst (v := 1) hx hb dX4_expandedThird_202 (by decide) ?_
      refine lv_ishr hx hb dX4_expandedThird_203 ?_
      refine lv_sipush (v := 192) hx hb dX4_expandedThird_204 (by decide) ?_
      refine lv_iand hx hb dX4_expandedThird_207 ?_
      refine lv_ior hx hb dX4_expandedThird_208 ?_
      refine lv_iconst (v := 2) hx hb dX4_expandedThird_209 (by decide) ?_
      refine lv_iload_n hx hb dX4_expandedThird_210 rfl (lv_at hl 1 rfl) ?_
      have hPc := hP.sub (ws' := []) [] rfl
      have hDc := hD.sub (ws' := []) [] (by decide) rfl
      have hKc := hK.sub (tys' := []) [] rfl
      have hFc := va_free (wc := []) hD hS hA [] rfl
      refine va_calli (va_runS (As := [.int ((((v0 : Int32) >>> ((7 : Int32) &&& 31)) &&& 60) ||| (((v0 : Int32) >>> ((1 : Int32) &&& 31)) &&& 192)), .int 2, .int (((v0 : Int32) >>> ((2 : Int32) &&& 31)) &&& 31)]) (rest := []) ⟨hx, hb, hml, hown, hts⟩ (k_X4_storing l hlt dC dI ((((v0 : Int32) >>> ((7 : Int32) &&& 31)) &&& 60) ||| (((v0 : Int32) >>> ((1 : Int32) &&& 31)) &&& 192)) (((v0 : Int32) >>> ((2 : Int32) &&& 31)) &&& 31)  s.heap.size) (cwS 3 hts gi_g_X4_expandedThird_2 rfl rfl rfl (by decide +kernel) ⟨Nat.le_of_ble_eq_true rfl, Nat.le_of_ble_eq_true rfl⟩) ⟨fun a U g mk q => by obtain ⟨q0, q1, qP, qK, qD, qN⟩ := q; exact ⟨q0, q1, qP, va_K.moved (u := U) (U := U.calling g mk a) (Vm.Alike.refl U.vm) qK, qD, nv_same rfl rfl qN⟩, fun U hU hW => ⟨rfl, by rw [hU], by rw [hU]; exact hPc, va_K.moved hW.alike hKc, hDc.weaken (fun _ _ _ _ => trivial), nv_call hS hFc hU hW hN⟩⟩ rfl rfl hl.1 rfl (lv_room (Nat.le_of_ble_eq_true rfl)) dX4_expandedThird_211 ⟨by decide +kernel, by decide +kernel⟩) hS (fun q _ h => hFc q h) hFc (fun r19 u t H1 locs ht hvm hw hB hz1 hk1 hS => ?_)
      obtain ⟨hP1, hK1, hD1⟩ := hB
      rw [ht] at hP1
      have hK1 := va_K.moved hvm.symm hK1
      obtain ⟨hP, hD⟩ := va_join (wr := []) (w1 := []) hP hD [] [] rfl rfl (by decide) (by decide) hk1 hFc hP1 hD1
      have hK := (hK.sub (tys' := []) [] rfl).app hK1
      generalize H1 = H at hP hS ⊢
      have hP : va_P (dC, dI) vwCl [] H := hP
      have hD : va_D A [] := hD
      have hK : va_K (dC, dI) vwCl [] s := hK
      refine W.widen (k := 0) (n := 0) (by decide +kernel) (by decide +kernel) ?_
      rcases hw with h9 | h9
      · subst h9
        refine W.widen (k := 0) (n := 0) (by decide +kernel) (by decide +kernel) ?_
        exact W.iret (v := (((((((((((((v0 : Int32) >>> ((7 : Int32) &&& 31)) &&& 60) ||| (((v0 : Int32) >>> ((1 : Int32) &&& 31)) &&& 192)) : Int32) >>> ((5 : Int32) &&& 31)) : Int32) <<< ((25 : Int32) &&& 31)) ||| (((((v0 : Int32) >>> ((2 : Int32) &&& 31)) &&& 31) : Int32) <<< ((20 : Int32) &&& 31))) ||| 65536) ||| 8192) ||| (((((((v0 : Int32) >>> ((7 : Int32) &&& 31)) &&& 60) ||| (((v0 : Int32) >>> ((1 : Int32) &&& 31)) &&& 192)) &&& 31) : Int32) <<< ((7 : Int32) &&& 31))) ||| 35)) hx hb hr (fun t ht hW => ⟨⟨(((((((((((((v0 : Int32) >>> ((7 : Int32) &&& 31)) &&& 60) ||| (((v0 : Int32) >>> ((1 : Int32) &&& 31)) &&& 192)) : Int32) >>> ((5 : Int32) &&& 31)) : Int32) <<< ((25 : Int32) &&& 31)) ||| (((((v0 : Int32) >>> ((2 : Int32) &&& 31)) &&& 31) : Int32) <<< ((20 : Int32) &&& 31))) ||| 65536) ||| 8192) ||| (((((((v0 : Int32) >>> ((7 : Int32) &&& 31)) &&& 60) ||| (((v0 : Int32) >>> ((1 : Int32) &&& 31)) &&& 192)) &&& 31) : Int32) <<< ((7 : Int32) &&& 31))) ||| 35), (), rfl, Or.inr (Or.inr (Or.inr (Or.inr (Or.inr (Or.inr (Or.inr (Or.inr (Or.inr (Or.inr (Or.inr (Or.inr (Or.inr (Or.inr (Or.inr (Or.inr (Or.inr (Or.inr (Or.inr (Or.inr (Or.inl ⟨c_1, c_15, c_16, c_17, c_20, c_21, c_24, c_25, rfl⟩)))))))))))))))))))), by rw [ht]; exact hP, va_K.moved hW.alike hK, hD⟩, hS.F ht⟩) hS.2.2 dX4_expandedThird_214
      · exact h9.elim
    refine lv_tableOut (tgt := 215) hx hb dX4_expandedThird_33 (by have g0 := nv_nei c_15 (k := 0) (by decide); have g1 := nv_nei c_16 (k := 1) (by decide); have g2 := nv_nei c_17 (k := 2) (by decide); have g3 := nv_nei c_20 (k := 3) (by decide); have g4 := nv_nei c_21 (k := 4) (by decide); have g5 := nv_nei c_24 (k := 5) (by decide); have g6 := nv_nei c_25 (k := 6) (by decide); omega) (by decide) ?_
    refine lv_iconst (v := 0) hx hb dX4_expandedThird_215 (by decide) ?_
    refine W.widen (k := 0) (n := 0) (by decide +kernel) (by decide +kernel) ?_
    exact W.iret (v := 0) hx hb hr (fun t ht hW => ⟨⟨0, (), rfl, Or.inr (Or.inr (Or.inr (Or.inr (Or.inr (Or.inr (Or.inr (Or.inr (Or.inr (Or.inr (Or.inr (Or.inr (Or.inr (Or.inr (Or.inr (Or.inr (Or.inr (Or.inr (Or.inr (Or.inr (Or.inr (Or.inl ⟨c_1, c_15, c_16, c_17, c_20, c_21, c_24, c_25, rfl⟩))))))))))))))))))))), by rw [ht]; exact hP, va_K.moved hW.alike hK, hD⟩, hS.F ht⟩) hS.2.2 dX4_expandedThird_216
def ow_g_X7_isTarget : List Cond := .code yX7_isTarget cX7_isTarget 1 (some .boolean) :: ([] ++ [])
theorem gd_g_X7_isTarget : ∀ w ∈ ow_g_X7_isTarget, (w.onTables && w.keeps) = true ∨ ∃ ty, w = Cond.arrayClass ty := List.forall_mem_cons.mpr ⟨good_of_word rfl, List.forall_mem_append.mpr ⟨fun w h => good_of_word (List.all_eq_true.mp (by decide +kernel) w h), fun _ h => nomatch h⟩⟩
set_option maxHeartbeats 40000000 in
set_option maxRecDepth 100000 in
theorem g_X7_isTarget (l : Launch) (hlt : l.stackTraces = false) (dC : Nat → ClassId) (dI : Nat → Nat → Nat) (v0 : Int32) (sz : Nat) : Met l yX7_isTarget ow_g_X7_isTarget ({ frames := 0, cells := 0, slots := 0, locals := 0 }) (va_Pc [.int v0] (fun U => U.heap.size = sz ∧ va_P (dC, dI) vwCl [] U.heap ∧ va_K (dC, dI) vwCl [] U ∧ va_D (fun _ => True) [] ∧ nv_E (va_A [] sz) U)) (va_Qi (fun r _ => ((v0 = 84) ∧ r = 1) ∨ ((¬ v0 = 84) ∧ (v0 = 74) ∧ r = 1) ∨ ((¬ v0 = 84) ∧ (¬ v0 = 74) ∧ (v0 = 75) ∧ r = 1) ∨ ((¬ v0 = 84) ∧ (¬ v0 = 74) ∧ (¬ v0 = 75) ∧ (¬ v0 = 76) ∧ r = 0) ∨ ((¬ v0 = 84) ∧ (¬ v0 = 74) ∧ (¬ v0 = 75) ∧ (v0 = 76) ∧ r = 1) ∨ False) (fun (_ : Unit) t => va_P (dC, dI) vwCl [] t.heap ∧ va_K (dC, dI) vwCl [] t ∧ va_D (va_A [] sz) []) (va_A [] sz)) 0 0 (va_A [] sz) := by
  refine Met.ofW (cc := cX7_isTarget) (maxL := 1) (ret := (some .boolean)) (by decide) rfl ?_
  intro p e s m args below meth c s₁ B hml hv
  obtain ⟨rfl, hsz, hP, hK, hD0, hN⟩ := hv
  have hx := B.exec
  have hb := B.bytes
  have hr := B.returns
  have hts := atoms_spec (ws := ow_g_X7_isTarget) B.pre
  have hown : s.vm.findClass RX7 = some m.cls := findClass_of_methodNamed B.named
  have hlocks := B.notSynchronized
  subst hsz
  have hD := hD0.self (sz := s.heap.size)
  generalize hAe : va_A [] s.heap.size = A at hD hN ⊢
  have hA : ∀ q : Nat, s.heap.size ≤ q → A q := fun q h => by rw [← hAe]; exact Or.inr h
  have hS : va_S A s.heap s.heap [] := va_S.rf
  have hl := lv_entry ([.int v0]) (n := 1) (Nat.le_of_ble_eq_true rfl)
  rw [lg_entry_eq]
  generalize (lg_sl ([.int v0]) ++ List.replicate (1 - (lg_sl ([.int v0])).length) Slot.unset).toArray = ls at hl ⊢
  have hl : lv_has ls 1 [(0, .int v0)] := hl
  refine lv_iload_n hx hb dX7_isTarget_0 rfl (lv_at hl 0 rfl) ?_
  refine lv_bipush (v := 84) hx hb dX7_isTarget_1 (by decide) ?_
  refine lv_icmp_eq (tgt := 24) hx hb dX7_isTarget_3 (by decide) (fun c_1 => ?_) (fun c_1 => ?_)
  · refine lv_iconst (v := 1) hx hb dX7_isTarget_24 (by decide) ?_
    refine lv_goto (tgt := 29) hx hb dX7_isTarget_25 (by decide) ?_
    refine W.widen (k := 0) (n := 0) (by decide +kernel) (by decide +kernel) ?_
    exact W.zret (v := 1) hx hb hr (by first | rfl | decide) (fun t ht hW => ⟨⟨1, (), rfl, Or.inl ⟨c_1, rfl⟩, by rw [ht]; exact hP, va_K.moved hW.alike hK, hD⟩, hS.F ht⟩) hS.2.2 dX7_isTarget_29
  · refine lv_iload_n hx hb dX7_isTarget_6 rfl (lv_at hl 0 rfl) ?_
    refine lv_bipush (v := 74) hx hb dX7_isTarget_7 (by decide) ?_
    refine lv_icmp_eq (tgt := 24) hx hb dX7_isTarget_9 (by decide) (fun c_2 => ?_) (fun c_2 => ?_)
    · refine lv_iconst (v := 1) hx hb dX7_isTarget_24 (by decide) ?_
      refine lv_goto (tgt := 29) hx hb dX7_isTarget_25 (by decide) ?_
      refine W.widen (k := 0) (n := 0) (by decide +kernel) (by decide +kernel) ?_
      exact W.zret (v := 1) hx hb hr (by first | rfl | decide) (fun t ht hW => ⟨⟨1, (), rfl, Or.inr (Or.inl ⟨c_1, c_2, rfl⟩), by rw [ht]; exact hP, va_K.moved hW.alike hK, hD⟩, hS.F ht⟩) hS.2.2 dX7_isTarget_29
    · refine lv_iload_n hx hb dX7_isTarget_12 rfl (lv_at hl 0 rfl) ?_
      refine lv_bipush (v := 75) hx hb dX7_isTarget_13 (by decide) ?_
      refine lv_icmp_eq (tgt := 24) hx hb dX7_isTarget_15 (by decide) (fun c_3 => ?_) (fun c_3 => ?_)
      · refine lv_iconst (v := 1) hx hb dX7_isTarget_24 (by decide) ?_
        refine lv_goto (tgt := 29) hx hb dX7_isTarget_25 (by decide) ?_
        refine W.widen (k := 0) (n := 0) (by decide +kernel) (by decide +kernel) ?_
        exact W.zret (v := 1) hx hb hr (by first | rfl | decide) (fun t ht hW => ⟨⟨1, (), rfl, Or.inr (Or.inr (Or.inl ⟨c_1, c_2, c_3, rfl⟩)), by rw [ht]; exact hP, va_K.moved hW.alike hK, hD⟩, hS.F ht⟩) hS.2.2 dX7_isTarget_29
      · refine lv_iload_n hx hb dX7_isTarget_18 rfl (lv_at hl 0 rfl) ?_
        refine lv_bipush (v := 76) hx hb dX7_isTarget_19 (by decide) ?_
        refine lv_icmp_ne (tgt := 28) hx hb dX7_isTarget_21 (by decide) (fun c_4 => ?_) (fun c_4 => ?_)
        · refine lv_iconst (v := 0) hx hb dX7_isTarget_28 (by decide) ?_
          refine W.widen (k := 0) (n := 0) (by decide +kernel) (by decide +kernel) ?_
          exact W.zret (v := 0) hx hb hr (by first | rfl | decide) (fun t ht hW => ⟨⟨0, (), rfl, Or.inr (Or.inr (Or.inr (Or.inl ⟨c_1, c_2, c_3, c_4, rfl⟩))), by rw [ht]; exact hP, va_K.moved hW.alike hK, hD⟩, hS.F ht⟩) hS.2.2 dX7_isTarget_29
        · refine lv_iconst (v := 1) hx hb dX7_isTarget_24 (by decide) ?_
          refine lv_goto (tgt := 29) hx hb dX7_isTarget_25 (by decide) ?_
          refine W.widen (k := 0) (n := 0) (by decide +kernel) (by decide +kernel) ?_
          exact W.zret (v := 1) hx hb hr (by first | rfl | decide) (fun t ht hW => ⟨⟨1, (), rfl, Or.inr (Or.inr (Or.inr (Or.inr (Or.inl ⟨c_1, c_2, c_3, c_4, rfl⟩)))), by rw [ht]; exact hP, va_K.moved hW.alike hK, hD⟩, hS.F ht⟩) hS.2.2 dX7_isTarget_29
def ow_g_X7_part : List Cond := .code yX7_part cX7_part 4 (some .int) :: ([] ++ [])
theorem gd_g_X7_part : ∀ w ∈ ow_g_X7_part, (w.onTables && w.keeps) = true ∨ ∃ ty, w = Cond.arrayClass ty := List.forall_mem_cons.mpr ⟨good_of_word rfl, List.forall_mem_append.mpr ⟨fun w h => good_of_word (List.all_eq_true.mp (by decide +kernel) w h), fun _ h => nomatch h⟩⟩
set_option maxHeartbeats 40000000 in
set_option maxRecDepth 100000 in
theorem g_X7_part (l : Launch) (hlt : l.stackTraces = false) (dC : Nat → ClassId) (dI : Nat → Nat → Nat) (v0 : Int32) (v1 : Int32) (v2 : Int32) (v3 : Int32) (sz : Nat) : Met l yX7_part ow_g_X7_part ({ frames := 0, cells := 0, slots := 0, locals := 0 }) (va_Pc [.int v0, .int v1, .int v2, .int v3] (fun U => U.heap.size = sz ∧ va_P (dC, dI) vwCl [] U.heap ∧ va_K (dC, dI) vwCl [] U ∧ va_D (fun _ => True) [] ∧ nv_E (va_A [] sz) U)) (va_Qi (fun r _ => (r = (((((v0 : Int32) >>> ((v1 : Int32) &&& 31)) &&& (((1 : Int32) <<< ((v2 : Int32) &&& 31)) - 1)) : Int32) <<< ((v3 : Int32) &&& 31))) ∨ False) (fun (_ : Unit) t => va_P (dC, dI) vwCl [] t.heap ∧ va_K (dC, dI) vwCl [] t ∧ va_D (va_A [] sz) []) (va_A [] sz)) 0 0 (va_A [] sz) := by
  refine Met.ofW (cc := cX7_part) (maxL := 4) (ret := (some .int)) (by decide) rfl ?_
  intro p e s m args below meth c s₁ B hml hv
  obtain ⟨rfl, hsz, hP, hK, hD0, hN⟩ := hv
  have hx := B.exec
  have hb := B.bytes
  have hr := B.returns
  have hts := atoms_spec (ws := ow_g_X7_part) B.pre
  have hown : s.vm.findClass RX7 = some m.cls := findClass_of_methodNamed B.named
  have hlocks := B.notSynchronized
  subst hsz
  have hD := hD0.self (sz := s.heap.size)
  generalize hAe : va_A [] s.heap.size = A at hD hN ⊢
  have hA : ∀ q : Nat, s.heap.size ≤ q → A q := fun q h => by rw [← hAe]; exact Or.inr h
  have hS : va_S A s.heap s.heap [] := va_S.rf
  have hl := lv_entry ([.int v0, .int v1, .int v2, .int v3]) (n := 4) (Nat.le_of_ble_eq_true rfl)
  rw [lg_entry_eq]
  generalize (lg_sl ([.int v0, .int v1, .int v2, .int v3]) ++ List.replicate (4 - (lg_sl ([.int v0, .int v1, .int v2, .int v3])).length) Slot.unset).toArray = ls at hl ⊢
  have hl : lv_has ls 4 [(0, .int v0), (1, .int v1), (2, .int v2), (3, .int v3)] := hl
  refine lv_iload_n hx hb dX7_part_0 rfl (lv_at hl 0 rfl) ?_
  refine lv_iload_n hx hb dX7_part_1 rfl (lv_at hl 1 rfl) ?_
  refine lv_ishr hx hb dX7_part_2 ?_
  refine lv_iconst (v := 1) hx hb dX7_part_3 (by decide) ?_
  refine lv_iload_n hx hb dX7_part_4 rfl (lv_at hl 2 rfl) ?_
  refine lv_ishl hx hb dX7_part_5 ?_
  refine lv_iconst (v := 1) hx hb dX7_part_6 (by decide) ?_
  refine lv_isub hx hb dX7_part_7 ?_
  refine lv_iand hx hb dX7_part_8 ?_
  refine lv_iload_n hx hb dX7_part_9 rfl (lv_at hl 3 rfl) ?_
  refine lv_ishl hx hb dX7_part_10 ?_
  refine W.widen (k := 0) (n := 0) (by decide +kernel) (by decide +kernel) ?_
  exact W.iret (v := (((((v0 : Int32) >>> ((v1 : Int32) &&& 31)) &&& (((1 : Int32) <<< ((v2 : Int32) &&& 31)) - 1)) : Int32) <<< ((v3 : Int32) &&& 31))) hx hb hr (fun t ht hW => ⟨⟨(((((v0 : Int32) >>> ((v1 : Int32) &&& 31)) &&& (((1 : Int32) <<< ((v2 : Int32) &&& 31)) - 1)) : Int32) <<< ((v3 : Int32) &&& 31)), (), rfl, Or.inl rfl, by rw [ht]; exact hP, va_K.moved hW.alike hK, hD⟩, hS.F ht⟩) hS.2.2 dX7_part_11
def ow_g_X9_isInName : List Cond := .code yX9_isInName cX9_isInName 1 (some .boolean) :: ([] ++ [])
theorem gd_g_X9_isInName : ∀ w ∈ ow_g_X9_isInName, (w.onTables && w.keeps) = true ∨ ∃ ty, w = Cond.arrayClass ty := List.forall_mem_cons.mpr ⟨good_of_word rfl, List.forall_mem_append.mpr ⟨fun w h => good_of_word (List.all_eq_true.mp (by decide +kernel) w h), fun _ h => nomatch h⟩⟩
set_option maxHeartbeats 40000000 in
set_option maxRecDepth 100000 in
theorem g_X9_isInName (l : Launch) (hlt : l.stackTraces = false) (dC : Nat → ClassId) (dI : Nat → Nat → Nat) (v0 : Int32) (sz : Nat) : Met l yX9_isInName ow_g_X9_isInName ({ frames := 0, cells := 0, slots := 0, locals := 0 }) (va_Pc [.int v0] (fun U => U.heap.size = sz ∧ va_P (dC, dI) vwCl [] U.heap ∧ va_K (dC, dI) vwCl [] U ∧ va_D (fun _ => True) [] ∧ nv_E (va_A [] sz) U)) (va_Qi (fun r _ => ((v0 < 97) ∧ (v0 < 65) ∧ (v0 < 48) ∧ (v0 = 95) ∧ r = 1) ∨ ((v0 < 97) ∧ (v0 < 65) ∧ (v0 < 48) ∧ (¬ v0 = 95) ∧ (v0 = 46) ∧ r = 1) ∨ ((v0 < 97) ∧ (v0 < 65) ∧ (v0 < 48) ∧ (¬ v0 = 95) ∧ (¬ v0 = 46) ∧ (¬ v0 = 36) ∧ r = 0) ∨ ((v0 < 97) ∧ (v0 < 65) ∧ (v0 < 48) ∧ (¬ v0 = 95) ∧ (¬ v0 = 46) ∧ (v0 = 36) ∧ r = 1) ∨ ((v0 < 97) ∧ (v0 < 65) ∧ (¬ v0 < 48) ∧ (v0 ≤ 57) ∧ r = 1) ∨ ((v0 < 97) ∧ (v0 < 65) ∧ (¬ v0 < 48) ∧ (¬ v0 ≤ 57) ∧ (v0 = 95) ∧ r = 1) ∨ ((v0 < 97) ∧ (v0 < 65) ∧ (¬ v0 < 48) ∧ (¬ v0 ≤ 57) ∧ (¬ v0 = 95) ∧ (v0 = 46) ∧ r = 1) ∨ ((v0 < 97) ∧ (v0 < 65) ∧ (¬ v0 < 48) ∧ (¬ v0 ≤ 57) ∧ (¬ v0 = 95) ∧ (¬ v0 = 46) ∧ (¬ v0 = 36) ∧ r = 0) ∨ ((v0 < 97) ∧ (v0 < 65) ∧ (¬ v0 < 48) ∧ (¬ v0 ≤ 57) ∧ (¬ v0 = 95) ∧ (¬ v0 = 46) ∧ (v0 = 36) ∧ r = 1) ∨ ((v0 < 97) ∧ (¬ v0 < 65) ∧ (v0 ≤ 90) ∧ r = 1) ∨ ((v0 < 97) ∧ (¬ v0 < 65) ∧ (¬ v0 ≤ 90) ∧ (v0 < 48) ∧ (v0 = 95) ∧ r = 1) ∨ ((v0 < 97) ∧ (¬ v0 < 65) ∧ (¬ v0 ≤ 90) ∧ (v0 < 48) ∧ (¬ v0 = 95) ∧ (v0 = 46) ∧ r = 1) ∨ ((v0 < 97) ∧ (¬ v0 < 65) ∧ (¬ v0 ≤ 90) ∧ (v0 < 48) ∧ (¬ v0 = 95) ∧ (¬ v0 = 46) ∧ (¬ v0 = 36) ∧ r = 0) ∨ ((v0 < 97) ∧ (¬ v0 < 65) ∧ (¬ v0 ≤ 90) ∧ (v0 < 48) ∧ (¬ v0 = 95) ∧ (¬ v0 = 46) ∧ (v0 = 36) ∧ r = 1) ∨ ((v0 < 97) ∧ (¬ v0 < 65) ∧ (¬ v0 ≤ 90) ∧ (¬ v0 < 48) ∧ (v0 ≤ 57) ∧ r = 1) ∨ ((v0 < 97) ∧ (¬ v0 < 65) ∧ (¬ v0 ≤ 90) ∧ (¬ v0 < 48) ∧ (¬ v0 ≤ 57) ∧ (v0 = 95) ∧ r = 1) ∨ ((v0 < 97) ∧ (¬ v0 < 65) ∧ (¬ v0 ≤ 90) ∧ (¬ v0 < 48) ∧ (¬ v0 ≤ 57) ∧ (¬ v0 = 95) ∧ (v0 = 46) ∧ r = 1) ∨ ((v0 < 97) ∧ (¬ v0 < 65) ∧ (¬ v0 ≤ 90) ∧ (¬ v0 < 48) ∧ (¬ v0 ≤ 57) ∧ (¬ v0 = 95) ∧ (¬ v0 = 46) ∧ (¬ v0 = 36) ∧ r = 0) ∨ ((v0 < 97) ∧ (¬ v0 < 65) ∧ (¬ v0 ≤ 90) ∧ (¬ v0 < 48) ∧ (¬ v0 ≤ 57) ∧ (¬ v0 = 95) ∧ (¬ v0 = 46) ∧ (v0 = 36) ∧ r = 1) ∨ ((¬ v0 < 97) ∧ (v0 ≤ 122) ∧ r = 1) ∨ ((¬ v0 < 97) ∧ (¬ v0 ≤ 122) ∧ (v0 < 65) ∧ (v0 < 48) ∧ (v0 = 95) ∧ r = 1) ∨ ((¬ v0 < 97) ∧ (¬ v0 ≤ 122) ∧ (v0 < 65) ∧ (v0 < 48) ∧ (¬ v0 = 95) ∧ (v0 = 46) ∧ r = 1) ∨ ((¬ v0 < 97) ∧ (¬ v0 ≤ 122) ∧ (v0 < 65) ∧ (v0 < 48) ∧ (¬ v0 = 95) ∧ (¬ v0 = 46) ∧ (¬ v0 = 36) ∧ r = 0) ∨ ((¬ v0 < 97) ∧ (¬ v0 ≤ 122) ∧ (v0 < 65) ∧ (v0 < 48) ∧ (¬ v0 = 95) ∧ (¬ v0 = 46) ∧ (v0 = 36) ∧ r = 1) ∨ ((¬ v0 < 97) ∧ (¬ v0 ≤ 122) ∧ (v0 < 65) ∧ (¬ v0 < 48) ∧ (v0 ≤ 57) ∧ r = 1) ∨ ((¬ v0 < 97) ∧ (¬ v0 ≤ 122) ∧ (v0 < 65) ∧ (¬ v0 < 48) ∧ (¬ v0 ≤ 57) ∧ (v0 = 95) ∧ r = 1) ∨ ((¬ v0 < 97) ∧ (¬ v0 ≤ 122) ∧ (v0 < 65) ∧ (¬ v0 < 48) ∧ (¬ v0 ≤ 57) ∧ (¬ v0 = 95) ∧ (v0 = 46) ∧ r = 1) ∨ ((¬ v0 < 97) ∧ (¬ v0 ≤ 122) ∧ (v0 < 65) ∧ (¬ v0 < 48) ∧ (¬ v0 ≤ 57) ∧ (¬ v0 = 95) ∧ (¬ v0 = 46) ∧ (¬ v0 = 36) ∧ r = 0) ∨ ((¬ v0 < 97) ∧ (¬ v0 ≤ 122) ∧ (v0 < 65) ∧ (¬ v0 < 48) ∧ (¬ v0 ≤ 57) ∧ (¬ v0 = 95) ∧ (¬ v0 = 46) ∧ (v0 = 36) ∧ r = 1) ∨ ((¬ v0 < 97) ∧ (¬ v0 ≤ 122) ∧ (¬ v0 < 65) ∧ (v0 ≤ 90) ∧ r = 1) ∨ ((¬ v0 < 97) ∧ (¬ v0 ≤ 122) ∧ (¬ v0 < 65) ∧ (¬ v0 ≤ 90) ∧ (v0 < 48) ∧ (v0 = 95) ∧ r = 1) ∨ ((¬ v0 < 97) ∧ (¬ v0 ≤ 122) ∧ (¬ v0 < 65) ∧ (¬ v0 ≤ 90) ∧ (v0 < 48) ∧ (¬ v0 = 95) ∧ (v0 = 46) ∧ r = 1) ∨ ((¬ v0 < 97) ∧ (¬ v0 ≤ 122) ∧ (¬ v0 < 65) ∧ (¬ v0 ≤ 90) ∧ (v0 < 48) ∧ (¬ v0 = 95) ∧ (¬ v0 = 46) ∧ (¬ v0 = 36) ∧ r = 0) ∨ ((¬ v0 < 97) ∧ (¬ v0 ≤ 122) ∧ (¬ v0 < 65) ∧ (¬ v0 ≤ 90) ∧ (v0 < 48) ∧ (¬ v0 = 95) ∧ (¬ v0 = 46) ∧ (v0 = 36) ∧ r = 1) ∨ ((¬ v0 < 97) ∧ (¬ v0 ≤ 122) ∧ (¬ v0 < 65) ∧ (¬ v0 ≤ 90) ∧ (¬ v0 < 48) ∧ (v0 ≤ 57) ∧ r = 1) ∨ ((¬ v0 < 97) ∧ (¬ v0 ≤ 122) ∧ (¬ v0 < 65) ∧ (¬ v0 ≤ 90) ∧ (¬ v0 < 48) ∧ (¬ v0 ≤ 57) ∧ (v0 = 95) ∧ r = 1) ∨ ((¬ v0 < 97) ∧ (¬ v0 ≤ 122) ∧ (¬ v0 < 65) ∧ (¬ v0 ≤ 90) ∧ (¬ v0 < 48) ∧ (¬ v0 ≤ 57) ∧ (¬ v0 = 95) ∧ (v0 = 46) ∧ r = 1) ∨ ((¬ v0 < 97) ∧ (¬ v0 ≤ 122) ∧ (¬ v0 < 65) ∧ (¬ v0 ≤ 90) ∧ (¬ v0 < 48) ∧ (¬ v0 ≤ 57) ∧ (¬ v0 = 95) ∧ (¬ v0 = 46) ∧ (¬ v0 = 36) ∧ r = 0) ∨ ((¬ v0 < 97) ∧ (¬ v0 ≤ 122) ∧ (¬ v0 < 65) ∧ (¬ v0 ≤ 90) ∧ (¬ v0 < 48) ∧ (¬ v0 ≤ 57) ∧ (¬ v0 = 95) ∧ (¬ v0 = 46) ∧ (v0 = 36) ∧ r = 1) ∨ False) (fun (_ : Unit) t => va_P (dC, dI) vwCl [] t.heap ∧ va_K (dC, dI) vwCl [] t ∧ va_D (va_A [] sz) []) (va_A [] sz)) 0 0 (va_A [] sz) := by
  refine Met.ofW (cc := cX9_isInName) (maxL := 1) (ret := (some .boolean)) (by decide) rfl ?_
  intro p e s m args below meth c s₁ B hml hv
  obtain ⟨rfl, hsz, hP, hK, hD0, hN⟩ := hv
  have hx := B.exec
  have hb := B.bytes
  have hr := B.returns
  have hts := atoms_spec (ws := ow_g_X9_isInName) B.pre
  have hown : s.vm.findClass RX9 = some m.cls := findClass_of_methodNamed B.named
  have hlocks := B.notSynchronized
  subst hsz
  have hD := hD0.self (sz := s.heap.size)
  generalize hAe : va_A [] s.heap.size = A at hD hN ⊢
  have hA : ∀ q : Nat, s.heap.size ≤ q → A q := fun q h => by rw [← hAe]; exact Or.inr h
  have hS : va_S A s.heap s.heap [] := va_S.rf
  have hl := lv_entry ([.int v0]) (n := 1) (Nat.le_of_ble_eq_true rfl)
  rw [lg_entry_eq]
  generalize (lg_sl ([.int v0]) ++ List.replicate (1 - (lg_sl ([.int v0])).length) Slot.unset).toArray = ls at hl ⊢
  have hl : lv_has ls 1 [(0, .int v0)] := hl
  refine lv_iload_n hx hb dX9_isInName_0 rfl (lv_at hl 0 rfl) ?_
  refine lv_bipush (v := 97) hx hb dX9_isInName_1 (by decide) ?_
  refine lv_icmp_lt (tgt := 12) hx hb dX9_isInName_3 (by decide) (fun c_1 => ?_) (fun c_1 => ?_)
  · refine lv_iload_n hx hb dX9_isInName_12 rfl (lv_at hl 0 rfl) ?_
    refine lv_bipush (v := 65) hx hb dX9_isInName_13 (by decide) ?_
    refine lv_icmp_lt (tgt := 24) hx hb dX9_isInName_15 (by decide) (fun c_2 => ?_) (fun c_2 => ?_)
    · refine lv_iload_n hx hb dX9_isInName_24 rfl (lv_at hl 0 rfl) ?_
      refine lv_bipush (v := 48) hx hb dX9_isInName_25 (by decide) ?_
      refine lv_icmp_lt (tgt := 36) hx hb dX9_isInName_27 (by decide) (fun c_3 => ?_) (fun c_3 => ?_)
      · refine lv_iload_n hx hb dX9_isInName_36 rfl (lv_at hl 0 rfl) ?_
        refine lv_bipush (v := 95) hx hb dX9_isInName_37 (by decide) ?_
        refine lv_icmp_eq (tgt := 54) hx hb dX9_isInName_39 (by decide) (fun c_4 => ?_) (fun c_4 => ?_)
        · refine lv_iconst (v := 1) hx hb dX9_isInName_54 (by decide) ?_
          refine lv_goto (tgt := 59) hx hb dX9_isInName_55 (by decide) ?_
          refine W.widen (k := 0) (n := 0) (by decide +kernel) (by decide +kernel) ?_
          exact W.zret (v := 1) hx hb hr (by first | rfl | decide) (fun t ht hW => ⟨⟨1, (), rfl, Or.inl ⟨c_1, c_2, c_3, c_4, rfl⟩, by rw [ht]; exact hP, va_K.moved hW.alike hK, hD⟩, hS.F ht⟩) hS.2.2 dX9_isInName_59
        · refine lv_iload_n hx hb dX9_isInName_42 rfl (lv_at hl 0 rfl) ?_
          refine lv_bipush (v := 46) hx hb dX9_isInName_43 (by decide) ?_
          refine lv_icmp_eq (tgt := 54) hx hb dX9_isInName_45 (by decide) (fun c_5 => ?_) (fun c_5 => ?_)
          · refine lv_iconst (v := 1) hx hb dX9_isInName_54 (by decide) ?_
            refine lv_goto (tgt := 59) hx hb dX9_isInName_55 (by decide) ?_
            refine W.widen (k := 0) (n := 0) (by decide +kernel) (by decide +kernel) ?_
            exact W.zret (v := 1) hx hb hr (by first | rfl | decide) (fun t ht hW => ⟨⟨1, (), rfl, Or.inr (Or.inl ⟨c_1, c_2, c_3, c_4, c_5, rfl⟩), by rw [ht]; exact hP, va_K.moved hW.alike hK, hD⟩, hS.F ht⟩) hS.2.2 dX9_isInName_59
          · refine lv_iload_n hx hb dX9_isInName_48 rfl (lv_at hl 0 rfl) ?_
            refine lv_bipush (v := 36) hx hb dX9_isInName_49 (by decide) ?_
            refine lv_icmp_ne (tgt := 58) hx hb dX9_isInName_51 (by decide) (fun c_6 => ?_) (fun c_6 => ?_)
            · refine lv_iconst (v := 0) hx hb dX9_isInName_58 (by decide) ?_
              refine W.widen (k := 0) (n := 0) (by decide +kernel) (by decide +kernel) ?_
              exact W.zret (v := 0) hx hb hr (by first | rfl | decide) (fun t ht hW => ⟨⟨0, (), rfl, Or.inr (Or.inr (Or.inl ⟨c_1, c_2, c_3, c_4, c_5, c_6, rfl⟩)), by rw [ht]; exact hP, va_K.moved hW.alike hK, hD⟩, hS.F ht⟩) hS.2.2 dX9_isInName_59
            · refine lv_iconst (v := 1) hx hb dX9_isInName_54 (by decide) ?_
              refine lv_goto (tgt := 59) hx hb dX9_isInName_55 (by decide) ?_
              refine W.widen (k := 0) (n := 0) (by decide +kernel) (by decide +kernel) ?_
              exact W.zret (v := 1) hx hb hr (by first | rfl | decide) (fun t ht hW => ⟨⟨1, (), rfl, Or.inr (Or.inr (Or.inr (Or.inl ⟨c_1, c_2, c_3, c_4, c_5, c_6, rfl⟩))), by rw [ht]; exact hP, va_K.moved hW.alike hK, hD⟩, hS.F ht⟩) hS.2.2 dX9_isInName_59
      · refine lv_iload_n hx hb dX9_isInName_30 rfl (lv_at hl 0 rfl) ?_
        refine lv_bipush (v := 57) hx hb dX9_isInName_31 (by decide) ?_
        refine lv_icmp_le (tgt := 54) hx hb dX9_isInName_33 (by decide) (fun c_7 => ?_) (fun c_7 => ?_)
        · refine lv_iconst (v := 1) hx hb dX9_isInName_54 (by decide) ?_
          refine lv_goto (tgt := 59) hx hb dX9_isInName_55 (by decide) ?_
          refine W.widen (k := 0) (n := 0) (by decide +kernel) (by decide +kernel) ?_
          exact W.zret (v := 1) hx hb hr (by first | rfl | decide) (fun t ht hW => ⟨⟨1, (), rfl, Or.inr (Or.inr (Or.inr (Or.inr (Or.inl ⟨c_1, c_2, c_3, c_7, rfl⟩)))), by rw [ht]; exact hP, va_K.moved hW.alike hK, hD⟩, hS.F ht⟩) hS.2.2 dX9_isInName_59
        · refine lv_iload_n hx hb dX9_isInName_36 rfl (lv_at hl 0 rfl) ?_
          refine lv_bipush (v := 95) hx hb dX9_isInName_37 (by decide) ?_
          refine lv_icmp_eq (tgt := 54) hx hb dX9_isInName_39 (by decide) (fun c_8 => ?_) (fun c_8 => ?_)
          · refine lv_iconst (v := 1) hx hb dX9_isInName_54 (by decide) ?_
            refine lv_goto (tgt := 59) hx hb dX9_isInName_55 (by decide) ?_
            refine W.widen (k := 0) (n := 0) (by decide +kernel) (by decide +kernel) ?_
            exact W.zret (v := 1) hx hb hr (by first | rfl | decide) (fun t ht hW => ⟨⟨1, (), rfl, Or.inr (Or.inr (Or.inr (Or.inr (Or.inr (Or.inl ⟨c_1, c_2, c_3, c_7, c_8, rfl⟩))))), by rw [ht]; exact hP, va_K.moved hW.alike hK, hD⟩, hS.F ht⟩) hS.2.2 dX9_isInName_59
          · refine lv_iload_n hx hb dX9_isInName_42 rfl (lv_at hl 0 rfl) ?_
            refine lv_bipush (v := 46) hx hb dX9_isInName_43 (by decide) ?_
            refine lv_icmp_eq (tgt := 54) hx hb dX9_isInName_45 (by decide) (fun c_9 => ?_) (fun c_9 => ?_)
            · refine lv_iconst (v := 1) hx hb dX9_isInName_54 (by decide) ?_
              refine lv_goto (tgt := 59) hx hb dX9_isInName_55 (by decide) ?_
              refine W.widen (k := 0) (n := 0) (by decide +kernel) (by decide +kernel) ?_
              exact W.zret (v := 1) hx hb hr (by first | rfl | decide) (fun t ht hW => ⟨⟨1, (), rfl, Or.inr (Or.inr (Or.inr (Or.inr (Or.inr (Or.inr (Or.inl ⟨c_1, c_2, c_3, c_7, c_8, c_9, rfl⟩)))))), by rw [ht]; exact hP, va_K.moved hW.alike hK, hD⟩, hS.F ht⟩) hS.2.2 dX9_isInName_59
            · refine lv_iload_n hx hb dX9_isInName_48 rfl (lv_at hl 0 rfl) ?_
              refine lv_bipush (v := 36) hx hb dX9_isInName_49 (by decide) ?_
              refine lv_icmp_ne (tgt := 58) hx hb dX9_isInName_51 (by decide) (fun c_10 => ?_) (fun c_10 => ?_)
              · refine lv_iconst (v := 0) hx hb dX9_isInName_58 (by decide) ?_
                refine W.widen (k := 0) (n := 0) (by decide +kernel) (by decide +kernel) ?_
                exact W.zret (v := 0) hx hb hr (by first | rfl | decide) (fun t ht hW => ⟨⟨0, (), rfl, Or.inr (Or.inr (Or.inr (Or.inr (Or.inr (Or.inr (Or.inr (Or.inl ⟨c_1, c_2, c_3, c_7, c_8, c_9, c_10, rfl⟩))))))), by rw [ht]; exact hP, va_K.moved hW.alike hK, hD⟩, hS.F ht⟩) hS.2.2 dX9_isInName_59
              · refine lv_iconst (v := 1) hx hb dX9_isInName_54 (by decide) ?_
                refine lv_goto (tgt := 59) hx hb dX9_isInName_55 (by decide) ?_
                refine W.widen (k := 0) (n := 0) (by decide +kernel) (by decide +kernel) ?_
                exact W.zret (v := 1) hx hb hr (by first | rfl | decide) (fun t ht hW => ⟨⟨1, (), rfl, Or.inr (Or.inr (Or.inr (Or.inr (Or.inr (Or.inr (Or.inr (Or.inr (Or.inl ⟨c_1, c_2, c_3, c_7, c_8, c_9, c_10, rfl⟩)))))))), by rw [ht]; exact hP, va_K.moved hW.alike hK, hD⟩, hS.F ht⟩) hS.2.2 dX9_isInName_59
    · refine lv_iload_n hx hb dX9_isInName_18 rfl (lv_at hl 0 rfl) ?_
      refine lv_bipush (v := 90) hx hb dX9_isInName_19 (by decide) ?_
      refine lv_icmp_le (tgt := 54) hx hb dX9_isInName_21 (by decide) (fun c_11 => ?_) (fun c_11 => ?_)
      · refine lv_iconst (v := 1) hx hb dX9_isInName_54 (by decide) ?_
        refine lv_goto (tgt := 59) hx hb dX9_isInName_55 (by decide) ?_
        refine W.widen (k := 0) (n := 0) (by decide +kernel) (by decide +kernel) ?_
        exact W.zret (v := 1) hx hb hr (by first | rfl | decide) (fun t ht hW => ⟨⟨1, (), rfl, Or.inr (Or.inr (Or.inr (Or.inr (Or.inr (Or.inr (Or.inr (Or.inr (Or.inr (Or.inl ⟨c_1, c_2, c_11, rfl⟩))))))))), by rw [ht]; exact hP, va_K.moved hW.alike hK, hD⟩, hS.F ht⟩) hS.2.2 dX9_isInName_59
      · refine lv_iload_n hx hb dX9_isInName_24 rfl (lv_at hl 0 rfl) ?_
        refine lv_bipush (v := 48) hx hb dX9_isInName_25 (by decide) ?_
        refine lv_icmp_lt (tgt := 36) hx hb dX9_isInName_27 (by decide) (fun c_12 => ?_) (fun c_12 => ?_)
        · refine lv_iload_n hx hb dX9_isInName_36 rfl (lv_at hl 0 rfl) ?_
          refine lv_bipush (v := 95) hx hb dX9_isInName_37 (by decide) ?_
          refine lv_icmp_eq (tgt := 54) hx hb dX9_isInName_39 (by decide) (fun c_13 => ?_) (fun c_13 => ?_)
          · refine lv_iconst (v := 1) hx hb dX9_isInName_54 (by decide) ?_
            refine lv_goto (tgt := 59) hx hb dX9_isInName_55 (by decide) ?_
            refine W.widen (k := 0) (n := 0) (by decide +kernel) (by decide +kernel) ?_
            exact W.zret (v := 1) hx hb hr (by first | rfl | decide) (fun t ht hW => ⟨⟨1, (), rfl, Or.inr (Or.inr (Or.inr (Or.inr (Or.inr (Or.inr (Or.inr (Or.inr (Or.inr (Or.inr (Or.inl ⟨c_1, c_2, c_11, c_12, c_13, rfl⟩)))))))))), by rw [ht]; exact hP, va_K.moved hW.alike hK, hD⟩, hS.F ht⟩) hS.2.2 dX9_isInName_59
          · refine lv_iload_n hx hb dX9_isInName_42 rfl (lv_at hl 0 rfl) ?_
            refine lv_bipush (v := 46) hx hb dX9_isInName_43 (by decide) ?_
            refine lv_icmp_eq (tgt := 54) hx hb dX9_isInName_45 (by decide) (fun c_14 => ?_) (fun c_14 => ?_)
            · refine lv_iconst (v := 1) hx hb dX9_isInName_54 (by decide) ?_
              refine lv_goto (tgt := 59) hx hb dX9_isInName_55 (by decide) ?_
              refine W.widen (k := 0) (n := 0) (by decide +kernel) (by decide +kernel) ?_
              exact W.zret (v := 1) hx hb hr (by first | rfl | decide) (fun t ht hW => ⟨⟨1, (), rfl, Or.inr (Or.inr (Or.inr (Or.inr (Or.inr (Or.inr (Or.inr (Or.inr (Or.inr (Or.inr (Or.inr (Or.inl ⟨c_1, c_2, c_11, c_12, c_13, c_14, rfl⟩))))))))))), by rw [ht]; exact hP, va_K.moved hW.alike hK, hD⟩, hS.F ht⟩) hS.2.2 dX9_isInName_59
            · refine lv_iload_n hx hb dX9_isInName_48 rfl (lv_at hl 0 rfl) ?_
              refine lv_bipush (v := 36) hx hb dX9_isInName_49 (by decide) ?_
              refine lv_icmp_ne (tgt := 58) hx hb dX9_isInName_51 (by decide) (fun c_15 => ?_) (fun c_15 => ?_)
              · refine lv_iconst (v := 0) hx hb dX9_isInName_58 (by decide) ?_
                refine W.widen (k := 0) (n := 0) (by decide +kernel) (by decide +kernel) ?_
                exact W.zret (v := 0) hx hb hr (by first | rfl | decide) (fun t ht hW => ⟨⟨0, (), rfl, Or.inr (Or.inr (Or.inr (Or.inr (Or.inr (Or.inr (Or.inr (Or.inr (Or.inr (Or.inr (Or.inr (Or.inr (Or.inl ⟨c_1, c_2, c_11, c_12, c_13, c_14, c_15, rfl⟩)))))))))))), by rw [ht]; exact hP, va_K.moved hW.alike hK, hD⟩, hS.F ht⟩) hS.2.2 dX9_isInName_59
              · refine lv_iconst (v := 1) hx hb dX9_isInName_54 (by decide) ?_
                refine lv_goto (tgt := 59) hx hb dX9_isInName_55 (by decide) ?_
                refine W.widen (k := 0) (n := 0) (by decide +kernel) (by decide +kernel) ?_
                exact W.zret (v := 1) hx hb hr (by first | rfl | decide) (fun t ht hW => ⟨⟨1, (), rfl, Or.inr (Or.inr (Or.inr (Or.inr (Or.inr (Or.inr (Or.inr (Or.inr (Or.inr (Or.inr (Or.inr (Or.inr (Or.inr (Or.inl ⟨c_1, c_2, c_11, c_12, c_13, c_14, c_15, rfl⟩))))))))))))), by rw [ht]; exact hP, va_K.moved hW.alike hK, hD⟩, hS.F ht⟩) hS.2.2 dX9_isInName_59
        · refine lv_iload_n hx hb dX9_isInName_30 rfl (lv_at hl 0 rfl) ?_
          refine lv_bipush (v := 57) hx hb dX9_isInName_31 (by decide) ?_
          refine lv_icmp_le (tgt := 54) hx hb dX9_isInName_33 (by decide) (fun c_16 => ?_) (fun c_16 => ?_)
          · refine lv_iconst (v := 1) hx hb dX9_isInName_54 (by decide) ?_
            refine lv_goto (tgt := 59) hx hb dX9_isInName_55 (by decide) ?_
            refine W.widen (k := 0) (n := 0) (by decide +kernel) (by decide +kernel) ?_
            exact W.zret (v := 1) hx hb hr (by first | rfl | decide) (fun t ht hW => ⟨⟨1, (), rfl, Or.inr (Or.inr (Or.inr (Or.inr (Or.inr (Or.inr (Or.inr (Or.inr (Or.inr (Or.inr (Or.inr (Or.inr (Or.inr (Or.inr (Or.inl ⟨c_1, c_2, c_11, c_12, c_16, rfl⟩)))))))))))))), by rw [ht]; exact hP, va_K.moved hW.alike hK, hD⟩, hS.F ht⟩) hS.2.2 dX9_isInName_59
          · refine lv_iload_n hx hb dX9_isInName_36 rfl (lv_at hl 0 rfl) ?_
            refine lv_bipush (v := 95) hx hb dX9_isInName_37 (by decide) ?_
            refine lv_icmp_eq (tgt := 54) hx hb dX9_isInName_39 (by decide) (fun c_17 => ?_) (fun c_17 => ?_)
            · refine lv_iconst (v := 1) hx hb dX9_isInName_54 (by decide) ?_
              refine lv_goto (tgt := 59) hx hb dX9_isInName_55 (by decide) ?_
              refine W.widen (k := 0) (n := 0) (by decide +kernel) (by decide +kernel) ?_
              exact W.zret (v := 1) hx hb hr (by first | rfl | decide) (fun t ht hW => ⟨⟨1, (), rfl, Or.inr (Or.inr (Or.inr (Or.inr (Or.inr (Or.inr (Or.inr (Or.inr (Or.inr (Or.inr (Or.inr (Or.inr (Or.inr (Or.inr (Or.inr (Or.inl ⟨c_1, c_2, c_11, c_12, c_16, c_17, rfl⟩))))))))))))))), by rw [ht]; exact hP, va_K.moved hW.alike hK, hD⟩, hS.F ht⟩) hS.2.2 dX9_isInName_59
            · refine lv_iload_n hx hb dX9_isInName_42 rfl (lv_at hl 0 rfl) ?_
              refine lv_bipush (v := 46) hx hb dX9_isInName_43 (by decide) ?_
              refine lv_icmp_eq (tgt := 54) hx hb dX9_isInName_45 (by decide) (fun c_18 => ?_) (fun c_18 => ?_)
              · refine lv_iconst (v := 1) hx hb dX9_isInName_54 (by decide) ?_
                refine lv_goto (tgt := 59) hx hb dX9_isInName_55 (by decide) ?_
                refine W.widen (k := 0) (n := 0) (by decide +kernel) (by decide +kernel) ?_
                exact W.zret (v := 1) hx hb hr (by first | rfl | decide) (fun t ht hW => ⟨⟨1, (), rfl, Or.inr (Or.inr (Or.inr (Or.inr (Or.inr (Or.inr (Or.inr (Or.inr (Or.inr (Or.inr (Or.inr (Or.inr (Or.inr (Or.inr (Or.inr (Or.inr (Or.inl ⟨c_1, c_2, c_11, c_12, c_16, c_17, c_18, rfl⟩)))))))))))))))), by rw [ht]; exact hP, va_K.moved hW.alike hK, hD⟩, hS.F ht⟩) hS.2.2 dX9_isInName_59
              · refine lv_iload_n hx hb dX9_isInName_48 rfl (lv_at hl 0 rfl) ?_
                refine lv_bipush (v := 36) hx hb dX9_isInName_49 (by decide) ?_
                refine lv_icmp_ne (tgt := 58) hx hb dX9_isInName_51 (by decide) (fun c_19 => ?_) (fun c_19 => ?_)
                · refine lv_iconst (v := 0) hx hb dX9_isInName_58 (by decide) ?_
                  refine W.widen (k := 0) (n := 0) (by decide +kernel) (by decide +kernel) ?_
                  exact W.zret (v := 0) hx hb hr (by first | rfl | decide) (fun t ht hW => ⟨⟨0, (), rfl, Or.inr (Or.inr (Or.inr (Or.inr (Or.inr (Or.inr (Or.inr (Or.inr (Or.inr (Or.inr (Or.inr (Or.inr (Or.inr (Or.inr (Or.inr (Or.inr (Or.inr (Or.inl ⟨c_1, c_2, c_11, c_12, c_16, c_17, c_18, c_19, rfl⟩))))))))))))))))), by rw [ht]; exact hP, va_K.moved hW.alike hK, hD⟩, hS.F ht⟩) hS.2.2 dX9_isInName_59
                · refine lv_iconst (v := 1) hx hb dX9_isInName_54 (by decide) ?_
                  refine lv_goto (tgt := 59) hx hb dX9_isInName_55 (by decide) ?_
                  refine W.widen (k := 0) (n := 0) (by decide +kernel) (by decide +kernel) ?_
                  exact W.zret (v := 1) hx hb hr (by first | rfl | decide) (fun t ht hW => ⟨⟨1, (), rfl, Or.inr (Or.inr (Or.inr (Or.inr (Or.inr (Or.inr (Or.inr (Or.inr (Or.inr (Or.inr (Or.inr (Or.inr (Or.inr (Or.inr (Or.inr (Or.inr (Or.inr (Or.inr (Or.inl ⟨c_1, c_2, c_11, c_12, c_16, c_17, c_18, c_19, rfl⟩)))))))))))))))))), by rw [ht]; exact hP, va_K.moved hW.alike hK, hD⟩, hS.F ht⟩) hS.2.2 dX9_isInName_59
  · refine lv_iload_n hx hb dX9_isInName_6 rfl (lv_at hl 0 rfl) ?_
    refine lv_bipush (v := 122) hx hb dX9_isInName_7 (by decide) ?_
    refine lv_icmp_le (tgt := 54) hx hb dX9_isInName_9 (by decide) (fun c_20 => ?_) (fun c_20 => ?_)
    · refine lv_iconst (v := 1) hx hb dX9_isInName_54 (by decide) ?_
      refine lv_goto (tgt := 59) hx hb dX9_isInName_55 (by decide) ?_
      refine W.widen (k := 0) (n := 0) (by decide +kernel) (by decide +kernel) ?_
      exact W.zret (v := 1) hx hb hr (by first | rfl | decide) (fun t ht hW => ⟨⟨1, (), rfl, Or.inr (Or.inr (Or.inr (Or.inr (Or.inr (Or.inr (Or.inr (Or.inr (Or.inr (Or.inr (Or.inr (Or.inr (Or.inr (Or.inr (Or.inr (Or.inr (Or.inr (Or.inr (Or.inr (Or.inl ⟨c_1, c_20, rfl⟩))))))))))))))))))), by rw [ht]; exact hP, va_K.moved hW.alike hK, hD⟩, hS.F ht⟩) hS.2.2 dX9_isInName_59
    · refine lv_iload_n hx hb dX9_isInName_12 rfl (lv_at hl 0 rfl) ?_
      refine lv_bipush (v := 65) hx hb dX9_isInName_13 (by decide) ?_
      refine lv_icmp_lt (tgt := 24) hx hb dX9_isInName_15 (by decide) (fun c_21 => ?_) (fun c_21 => ?_)
      · refine lv_iload_n hx hb dX9_isInName_24 rfl (lv_at hl 0 rfl) ?_
        refine lv_bipush (v := 48) hx hb dX9_isInName_25 (by decide) ?_
        refine lv_icmp_lt (tgt := 36) hx hb dX9_isInName_27 (by decide) (fun c_22 => ?_) (fun c_22 => ?_)
        · refine lv_iload_n hx hb dX9_isInName_36 rfl (lv_at hl 0 rfl) ?_
          refine lv_bipush (v := 95) hx hb dX9_isInName_37 (by decide) ?_
          refine lv_icmp_eq (tgt := 54) hx hb dX9_isInName_39 (by decide) (fun c_23 => ?_) (fun c_23 => ?_)
          · refine lv_iconst (v := 1) hx hb dX9_isInName_54 (by decide) ?_
            refine lv_goto (tgt := 59) hx hb dX9_isInName_55 (by decide) ?_
            refine W.widen (k := 0) (n := 0) (by decide +kernel) (by decide +kernel) ?_
            exact W.zret (v := 1) hx hb hr (by first | rfl | decide) (fun t ht hW => ⟨⟨1, (), rfl, Or.inr (Or.inr (Or.inr (Or.inr (Or.inr (Or.inr (Or.inr (Or.inr (Or.inr (Or.inr (Or.inr (Or.inr (Or.inr (Or.inr (Or.inr (Or.inr (Or.inr (Or.inr (Or.inr (Or.inr (Or.inl ⟨c_1, c_20, c_21, c_22, c_23, rfl⟩)))))))))))))))))))), by rw [ht]; exact hP, va_K.moved hW.alike hK, hD⟩, hS.F ht⟩) hS.2.2 dX9_isInName_59
          · refine lv_iload_n hx hb dX9_isInName_42 rfl (lv_at hl 0 rfl) ?_
            refine lv_bipush (v := 46) hx hb dX9_isInName_43 (by decide) ?_
            refine lv_icmp_eq (tgt := 54) hx hb dX9_isInName_45 (by decide) (fun c_24 => ?_) (fun c_24 => ?_)
            · refine lv_iconst (v := 1) hx hb dX9_isInName_54 (by decide) ?_
              refine lv_goto (tgt := 59) hx hb dX9_isInName_55 (by decide) ?_
              refine W.widen (k := 0) (n := 0) (by decide +kernel) (by decide +kernel) ?_
              exact W.zret (v := 1) hx hb hr (by first | rfl | decide) (fun t ht hW => ⟨⟨1, (), rfl, Or.inr (Or.inr (Or.inr (Or.inr (Or.inr (Or.inr (Or.inr (Or.inr (Or.inr (Or.inr (Or.inr (Or.inr (Or.inr (Or.inr (Or.inr (Or.inr (Or.inr (Or.inr (Or.inr (Or.inr (Or.inr (Or.inl ⟨c_1, c_20, c_21, c_22, c_23, c_24, rfl⟩))))))))))))))))))))), by rw [ht]; exact hP, va_K.moved hW.alike hK, hD⟩, hS.F ht⟩) hS.2.2 dX9_isInName_59
            · refine lv_iload_n hx hb dX9_isInName_48 rfl (lv_at hl 0 rfl) ?_
              refine lv_bipush (v := 36) hx hb dX9_isInName_49 (by decide) ?_
              refine lv_icmp_ne (tgt := 58) hx hb dX9_isInName_51 (by decide) (fun c_25 => ?_) (fun c_25 => ?_)
              · refine lv_iconst (v := 0) hx hb dX9_isInName_58 (by decide) ?_
                refine W.widen (k := 0) (n := 0) (by decide +kernel) (by decide +kernel) ?_
                exact W.zret (v := 0) hx hb hr (by first | rfl | decide) (fun t ht hW => ⟨⟨0, (), rfl, Or.inr (Or.inr (Or.inr (Or.inr (Or.inr (Or.inr (Or.inr (Or.inr (Or.inr (Or.inr (Or.inr (Or.inr (Or.inr (Or.inr (Or.inr (Or.inr (Or.inr (Or.inr (Or.inr (Or.inr (Or.inr (Or.inr (Or.inl ⟨c_1, c_20, c_21, c_22, c_23, c_24, c_25, rfl⟩)))))))))))))))))))))), by rw [ht]; exact hP, va_K.moved hW.alike hK, hD⟩, hS.F ht⟩) hS.2.2 dX9_isInName_59
              · refine lv_iconst (v := 1) hx hb dX9_isInName_54 (by decide) ?_
                refine lv_goto (tgt := 59) hx hb dX9_isInName_55 (by decide) ?_
                refine W.widen (k := 0) (n := 0) (by decide +kernel) (by decide +kernel) ?_
                exact W.zret (v := 1) hx hb hr (by first | rfl | decide) (fun t ht hW => ⟨⟨1, (), rfl, Or.inr (Or.inr (Or.inr (Or.inr (Or.inr (Or.inr (Or.inr (Or.inr (Or.inr (Or.inr (Or.inr (Or.inr (Or.inr (Or.inr (Or.inr (Or.inr (Or.inr (Or.inr (Or.inr (Or.inr (Or.inr (Or.inr (Or.inr (Or.inl ⟨c_1, c_20, c_21, c_22, c_23, c_24, c_25, rfl⟩))))))))))))))))))))))), by rw [ht]; exact hP, va_K.moved hW.alike hK, hD⟩, hS.F ht⟩) hS.2.2 dX9_isInName_59
        · refine lv_iload_n hx hb dX9_isInName_30 rfl (lv_at hl 0 rfl) ?_
          refine lv_bipush (v := 57) hx hb dX9_isInName_31 (by decide) ?_
          refine lv_icmp_le (tgt := 54) hx hb dX9_isInName_33 (by decide) (fun c_26 => ?_) (fun c_26 => ?_)
          · refine lv_iconst (v := 1) hx hb dX9_isInName_54 (by decide) ?_
            refine lv_goto (tgt := 59) hx hb dX9_isInName_55 (by decide) ?_
            refine W.widen (k := 0) (n := 0) (by decide +kernel) (by decide +kernel) ?_
            exact W.zret (v := 1) hx hb hr (by first | rfl | decide) (fun t ht hW => ⟨⟨1, (), rfl, Or.inr (Or.inr (Or.inr (Or.inr (Or.inr (Or.inr (Or.inr (Or.inr (Or.inr (Or.inr (Or.inr (Or.inr (Or.inr (Or.inr (Or.inr (Or.inr (Or.inr (Or.inr (Or.inr (Or.inr (Or.inr (Or.inr (Or.inr (Or.inr (Or.inl ⟨c_1, c_20, c_21, c_22, c_26, rfl⟩)))))))))))))))))))))))), by rw [ht]; exact hP, va_K.moved hW.alike hK, hD⟩, hS.F ht⟩) hS.2.2 dX9_isInName_59
          · refine lv_iload_n hx hb dX9_isInName_36 rfl (lv_at hl 0 rfl) ?_
            refine lv_bipush (v := 95) hx hb dX9_isInName_37 (by decide) ?_
            refine lv_icmp_eq (tgt := 54) hx hb dX9_isInName_39 (by decide) (fun c_27 => ?_) (fun c_27 => ?_)
            · refine lv_iconst (v := 1) hx hb dX9_isInName_54 (by decide) ?_
              refine lv_goto (tgt := 59) hx hb dX9_isInName_55 (by decide) ?_
              refine W.widen (k := 0) (n := 0) (by decide +kernel) (by decide +kernel) ?_
              exact W.zret (v := 1) hx hb hr (by first | rfl | decide) (fun t ht hW => ⟨⟨1, (), rfl, Or.inr (Or.inr (Or.inr (Or.inr (Or.inr (Or.inr (Or.inr (Or.inr (Or.inr (Or.inr (Or.inr (Or.inr (Or.inr (Or.inr (Or.inr (Or.inr (Or.inr (Or.inr (Or.inr (Or.inr (Or.inr (Or.inr (Or.inr (Or.inr (Or.inr (Or.inl ⟨c_1, c_20, c_21, c_22, c_26, c_27, rfl⟩))))))))))))))))))))))))), by rw [ht]; exact hP, va_K.moved hW.alike hK, hD⟩, hS.F ht⟩) hS.2.2 dX9_isInName_59
            · refine lv_iload_n hx hb dX9_isInName_42 rfl (lv_at hl 0 rfl) ?_
              refine lv_bipush (v := 46) hx hb dX9_isInName_43 (by decide) ?_
              refine lv_icmp_eq (tgt := 54) hx hb dX9_isInName_45 (by decide) (fun c_28 => ?_) (fun c_28 => ?_)
              · refine lv_iconst (v := 1) hx hb dX9_isInName_54 (by decide) ?_
                refine lv_goto (tgt := 59) hx hb dX9_isInName_55 (by decide) ?_
                refine W.widen (k := 0) (n := 0) (by decide +kernel) (by decide +kernel) ?_
                exact W.zret (v := 1) hx hb hr (by first | rfl | decide) (fun t ht hW => ⟨⟨1, (), rfl, Or.inr (Or.inr (Or.inr (Or.inr (Or.inr (Or.inr (Or.inr (Or.inr (Or.inr (Or.inr (Or.inr (Or.inr (Or.inr (Or.inr (Or.inr (Or.inr (Or.inr (Or.inr (Or.inr (Or.inr (Or.inr (Or.inr (Or.inr (Or.inr (Or.inr (Or.inr (Or.inl ⟨c_1, c_20, c_21, c_22, c_26, c_27, c_28, rfl⟩)))))))))))))))))))))))))), by rw [ht]; exact hP, va_K.moved hW.alike hK, hD⟩, hS.F ht⟩) hS.2.2 dX9_isInName_59
              · refine lv_iload_n hx hb dX9_isInName_48 rfl (lv_at hl 0 rfl) ?_
                refine lv_bipush (v := 36) hx hb dX9_isInName_49 (by decide) ?_
                refine lv_icmp_ne (tgt := 58) hx hb dX9_isInName_51 (by decide) (fun c_29 => ?_) (fun c_29 => ?_)
                · refine lv_iconst (v := 0) hx hb dX9_isInName_58 (by decide) ?_
                  refine W.widen (k := 0) (n := 0) (by decide +kernel) (by decide +kernel) ?_
                  exact W.zret (v := 0) hx hb hr (by first | rfl | decide) (fun t ht hW => ⟨⟨0, (), rfl, Or.inr (Or.inr (Or.inr (Or.inr (Or.inr (Or.inr (Or.inr (Or.inr (Or.inr (Or.inr (Or.inr (Or.inr (Or.inr (Or.inr (Or.inr (Or.inr (Or.inr (Or.inr (Or.inr (Or.inr (Or.inr (Or.inr (Or.inr (Or.inr (Or.inr (Or.inr (Or.inr (Or.inl ⟨c_1, c_20, c_21, c_22, c_26, c_27, c_28, c_29, rfl⟩))))))))))))))))))))))))))), by rw [ht]; exact hP, va_K.moved hW.alike hK, hD⟩, hS.F ht⟩) hS.2.2 dX9_isInName_59
                · refine lv_iconst (v := 1) hx hb dX9_isInName_54 (by decide) ?_
                  refine lv_goto (tgt := 59) hx hb dX9_isInName_55 (by decide) ?_
                  refine W.widen (k := 0) (n := 0) (by decide +kernel) (by decide +kernel) ?_
                  exact W.zret (v := 1) hx hb hr (by first | rfl | decide) (fun t ht hW => ⟨⟨1, (), rfl, Or.inr (Or.inr (Or.inr (Or.inr (Or.inr (Or.inr (Or.inr (Or.inr (Or.inr (Or.inr (Or.inr (Or.inr (Or.inr (Or.inr (Or.inr (Or.inr (Or.inr (Or.inr (Or.inr (Or.inr (Or.inr (Or.inr (Or.inr (Or.inr (Or.inr (Or.inr (Or.inr (Or.inr (Or.inl ⟨c_1, c_20, c_21, c_22, c_26, c_27, c_28, c_29, rfl⟩)))))))))))))))))))))))))))), by rw [ht]; exact hP, va_K.moved hW.alike hK, hD⟩, hS.F ht⟩) hS.2.2 dX9_isInName_59
      · refine lv_iload_n hx hb dX9_isInName_18 rfl (lv_at hl 0 rfl) ?_
        refine lv_bipush (v := 90) hx hb dX9_isInName_19 (by decide) ?_
        refine lv_icmp_le (tgt := 54) hx hb dX9_isInName_21 (by decide) (fun c_30 => ?_) (fun c_30 => ?_)
        · refine lv_iconst (v := 1) hx hb dX9_isInName_54 (by decide) ?_
          refine lv_goto (tgt := 59) hx hb dX9_isInName_55 (by decide) ?_
          refine W.widen (k := 0) (n := 0) (by decide +kernel) (by decide +kernel) ?_
          exact W.zret (v := 1) hx hb hr (by first | rfl | decide) (fun t ht hW => ⟨⟨1, (), rfl, Or.inr (Or.inr (Or.inr (Or.inr (Or.inr (Or.inr (Or.inr (Or.inr (Or.inr (Or.inr (Or.inr (Or.inr (Or.inr (Or.inr (Or.inr (Or.inr (Or.inr (Or.inr (Or.inr (Or.inr (Or.inr (Or.inr (Or.inr (Or.inr (Or.inr (Or.inr (Or.inr (Or.inr (Or.inr (Or.inl ⟨c_1, c_20, c_21, c_30, rfl⟩))))))))))))))))))))))))))))), by rw [ht]; exact hP, va_K.moved hW.alike hK, hD⟩, hS.F ht⟩) hS.2.2 dX9_isInName_59
        · refine lv_iload_n hx hb dX9_isInName_24 rfl (lv_at hl 0 rfl) ?_
          refine lv_bipush (v := 48) hx hb dX9_isInName_25 (by decide) ?_
          refine lv_icmp_lt (tgt := 36) hx hb dX9_isInName_27 (by decide) (fun c_31 => ?_) (fun c_31 => ?_)
          · refine lv_iload_n hx hb dX9_isInName_36 rfl (lv_at hl 0 rfl) ?_
            refine lv_bipush (v := 95) hx hb dX9_isInName_37 (by decide) ?_
            refine lv_icmp_eq (tgt := 54) hx hb dX9_isInName_39 (by decide) (fun c_32 => ?_) (fun c_32 => ?_)
            · refine lv_iconst (v := 1) hx hb dX9_isInName_54 (by decide) ?_
              refine lv_goto (tgt := 59) hx hb dX9_isInName_55 (by decide) ?_
              refine W.widen (k := 0) (n := 0) (by decide +kernel) (by decide +kernel) ?_
              exact W.zret (v := 1) hx hb hr (by first | rfl | decide) (fun t ht hW => ⟨⟨1, (), rfl, Or.inr (Or.inr (Or.inr (Or.inr (Or.inr (Or.inr (Or.inr (Or.inr (Or.inr (Or.inr (Or.inr (Or.inr (Or.inr (Or.inr (Or.inr (Or.inr (Or.inr (Or.inr (Or.inr (Or.inr (Or.inr (Or.inr (Or.inr (Or.inr (Or.inr (Or.inr (Or.inr (Or.inr (Or.inr (Or.inr (Or.inl ⟨c_1, c_20, c_21, c_30, c_31, c_32, rfl⟩)))))))))))))))))))))))))))))), by rw [ht]; exact hP, va_K.moved hW.alike hK, hD⟩, hS.F ht⟩) hS.2.2 dX9_isInName_59
            · refine lv_iload_n hx hb dX9_isInName_42 rfl (lv_at hl 0 rfl) ?_
              refine lv_bipush (v := 46) hx hb dX9_isInName_43 (by decide) ?_
              refine lv_icmp_eq (tgt := 54) hx hb dX9_isInName_45 (by decide) (fun c_33 => ?_) (fun c_33 => ?_)
              · refine lv_iconst (v := 1) hx hb dX9_isInName_54 (by decide) ?_
                refine lv_goto (tgt := 59) hx hb dX9_isInName_55 (by decide) ?_
                refine W.widen (k := 0) (n := 0) (by decide +kernel) (by decide +kernel) ?_
                exact W.zret (v := 1) hx hb hr (by first | rfl | decide) (fun t ht hW => ⟨⟨1, (), rfl, Or.inr (Or.inr (Or.inr (Or.inr (Or.inr (Or.inr (Or.inr (Or.inr (Or.inr (Or.inr (Or.inr (Or.inr (Or.inr (Or.inr (Or.inr (Or.inr (Or.inr (Or.inr (Or.inr (Or.inr (Or.inr (Or.inr (Or.inr (Or.inr (Or.inr (Or.inr (Or.inr (Or.inr (Or.inr (Or.inr (Or.inr (Or.inl ⟨c_1, c_20, c_21, c_30, c_31, c_32, c_33, rfl⟩))))))))))))))))))))))))))))))), by rw [ht]; exact hP, va_K.moved hW.alike hK, hD⟩, hS.F ht⟩) hS.2.2 dX9_isInName_59
              · refine lv_iload_n hx hb dX9_isInName_48 rfl (lv_at hl 0 rfl) ?_
                refine lv_bipush (v := 36) hx hb dX9_isInName_49 (by decide) ?_
                refine lv_icmp_ne (tgt := 58) hx hb dX9_isInName_51 (by decide) (fun c_34 => ?_) (fun c_34 => ?_)
                · refine lv_iconst (v := 0) hx hb dX9_isInName_58 (by decide) ?_
                  refine W.widen (k := 0) (n := 0) (by decide +kernel) (by decide +kernel) ?_
                  exact W.zret (v := 0) hx hb hr (by first | rfl | decide) (fun t ht hW => ⟨⟨0, (), rfl, Or.inr (Or.inr (Or.inr (Or.inr (Or.inr (Or.inr (Or.inr (Or.inr (Or.inr (Or.inr (Or.inr (Or.inr (Or.inr (Or.inr (Or.inr (Or.inr (Or.inr (Or.inr (Or.inr (Or.inr (Or.inr (Or.inr (Or.inr (Or.inr (Or.inr (Or.inr (Or.inr (Or.inr (Or.inr (Or.inr (Or.inr (Or.inr (Or.inl ⟨c_1, c_20, c_21, c_30, c_31, c_32, c_33, c_34, rfl⟩)))))))))))))))))))))))))))))))), by rw [ht]; exact hP, va_K.moved hW.alike hK, hD⟩, hS.F ht⟩) hS.2.2 dX9_isInName_59
                · refine lv_iconst (v := 1) hx hb dX9_isInName_54 (by decide) ?_
                  refine lv_goto (tgt := 59) hx hb dX9_isInName_55 (by decide) ?_
                  refine W.widen (k := 0) (n := 0) (by decide +kernel) (by decide +kernel) ?_
                  exact W.zret (v := 1) hx hb hr (by first | rfl | decide) (fun t ht hW => ⟨⟨1, (), rfl, Or.inr (Or.inr (Or.inr (Or.inr (Or.inr (Or.inr (Or.inr (Or.inr (Or.inr (Or.inr (Or.inr (Or.inr (Or.inr (Or.inr (Or.inr (Or.inr (Or.inr (Or.inr (Or.inr (Or.inr (Or.inr (Or.inr (Or.inr (Or.inr (Or.inr (Or.inr (Or.inr (Or.inr (Or.inr (Or.inr (Or.inr (Or.inr (Or.inr (Or.inl ⟨c_1, c_20, c_21, c_30, c_31, c_32, c_33, c_34, rfl⟩))))))))))))))))))))))))))))))))), by rw [ht]; exact hP, va_K.moved hW.alike hK, hD⟩, hS.F ht⟩) hS.2.2 dX9_isInName_59
          · refine lv_iload_n hx hb dX9_isInName_30 rfl (lv_at hl 0 rfl) ?_
            refine lv_bipush (v := 57) hx hb dX9_isInName_31 (by decide) ?_
            refine lv_icmp_le (tgt := 54) hx hb dX9_isInName_33 (by decide) (fun c_35 => ?_) (fun c_35 => ?_)
            · refine lv_iconst (v := 1) hx hb dX9_isInName_54 (by decide) ?_
              refine lv_goto (tgt := 59) hx hb dX9_isInName_55 (by decide) ?_
              refine W.widen (k := 0) (n := 0) (by decide +kernel) (by decide +kernel) ?_
              exact W.zret (v := 1) hx hb hr (by first | rfl | decide) (fun t ht hW => ⟨⟨1, (), rfl, Or.inr (Or.inr (Or.inr (Or.inr (Or.inr (Or.inr (Or.inr (Or.inr (Or.inr (Or.inr (Or.inr (Or.inr (Or.inr (Or.inr (Or.inr (Or.inr (Or.inr (Or.inr (Or.inr (Or.inr (Or.inr (Or.inr (Or.inr (Or.inr (Or.inr (Or.inr (Or.inr (Or.inr (Or.inr (Or.inr (Or.inr (Or.inr (Or.inr (Or.inr (Or.inl ⟨c_1, c_20, c_21, c_30, c_31, c_35, rfl⟩)))))))))))))))))))))))))))))))))), by rw [ht]; exact hP, va_K.moved hW.alike hK, hD⟩, hS.F ht⟩) hS.2.2 dX9_isInName_59
            · refine lv_iload_n hx hb dX9_isInName_36 rfl (lv_at hl 0 rfl) ?_
              refine lv_bipush (v := 95) hx hb dX9_isInName_37 (by decide) ?_
              refine lv_icmp_eq (tgt := 54) hx hb dX9_isInName_39 (by decide) (fun c_36 => ?_) (fun c_36 => ?_)
              · refine lv_iconst (v := 1) hx hb dX9_isInName_54 (by decide) ?_
                refine lv_goto (tgt := 59) hx hb dX9_isInName_55 (by decide) ?_
                refine W.widen (k := 0) (n := 0) (by decide +kernel) (by decide +kernel) ?_
                exact W.zret (v := 1) hx hb hr (by first | rfl | decide) (fun t ht hW => ⟨⟨1, (), rfl, Or.inr (Or.inr (Or.inr (Or.inr (Or.inr (Or.inr (Or.inr (Or.inr (Or.inr (Or.inr (Or.inr (Or.inr (Or.inr (Or.inr (Or.inr (Or.inr (Or.inr (Or.inr (Or.inr (Or.inr (Or.inr (Or.inr (Or.inr (Or.inr (Or.inr (Or.inr (Or.inr (Or.inr (Or.inr (Or.inr (Or.inr (Or.inr (Or.inr (Or.inr (Or.inr (Or.inl ⟨c_1, c_20, c_21, c_30, c_31, c_35, c_36, rfl⟩))))))))))))))))))))))))))))))))))), by rw [ht]; exact hP, va_K.moved hW.alike hK, hD⟩, hS.F ht⟩) hS.2.2 dX9_isInName_59
              · refine lv_iload_n hx hb dX9_isInName_42 rfl (lv_at hl 0 rfl) ?_
                refine lv_bipush (v := 46) hx hb dX9_isInName_43 (by decide) ?_
                refine lv_icmp_eq (tgt := 54) hx hb dX9_isInName_45 (by decide) (fun c_37 => ?_) (fun c_37 => ?_)
                · refine lv_iconst (v := 1) hx hb dX9_isInName_54 (by decide) ?_
                  refine lv_goto (tgt := 59) hx hb dX9_isInName_55 (by decide) ?_
                  refine W.widen (k := 0) (n := 0) (by decide +kernel) (by decide +kernel) ?_
                  exact W.zret (v := 1) hx hb hr (by first | rfl | decide) (fun t ht hW => ⟨⟨1, (), rfl, Or.inr (Or.inr (Or.inr (Or.inr (Or.inr (Or.inr (Or.inr (Or.inr (Or.inr (Or.inr (Or.inr (Or.inr (Or.inr (Or.inr (Or.inr (Or.inr (Or.inr (Or.inr (Or.inr (Or.inr (Or.inr (Or.inr (Or.inr (Or.inr (Or.inr (Or.inr (Or.inr (Or.inr (Or.inr (Or.inr (Or.inr (Or.inr (Or.inr (Or.inr (Or.inr (Or.inr (Or.inl ⟨c_1, c_20, c_21, c_30, c_31, c_35, c_36, c_37, rfl⟩)))))))))))))))))))))))))))))))))))), by rw [ht]; exact hP, va_K.moved hW.alike hK, hD⟩, hS.F ht⟩) hS.2.2 dX9_isInName_59
                · refine lv_iload_n hx hb dX9_isInName_48 rfl (lv_at hl 0 rfl) ?_
                  refine lv_bipush (v := 36) hx hb dX9_isInName_49 (by decide) ?_
                  refine lv_icmp_ne (tgt := 58) hx hb dX9_isInName_51 (by decide) (fun c_38 => ?_) (fun c_38 => ?_)
                  · refine lv_iconst (v := 0) hx hb dX9_isInName_58 (by decide) ?_
                    refine W.widen (k := 0) (n := 0) (by decide +kernel) (by decide +kernel) ?_
                    exact W.zret (v := 0) hx hb hr (by first | rfl | decide) (fun t ht hW => ⟨⟨0, (), rfl, Or.inr (Or.inr (Or.inr (Or.inr (Or.inr (Or.inr (Or.inr (Or.inr (Or.inr (Or.inr (Or.inr (Or.inr (Or.inr (Or.inr (Or.inr (Or.inr (Or.inr (Or.inr (Or.inr (Or.inr (Or.inr (Or.inr (Or.inr (Or.inr (Or.inr (Or.inr (Or.inr (Or.inr (Or.inr (Or.inr (Or.inr (Or.inr (Or.inr (Or.inr (Or.inr (Or.inr (Or.inr (Or.inl ⟨c_1, c_20, c_21, c_30, c_31, c_35, c_36, c_37, c_38, rfl⟩))))))))))))))))))))))))))))))))))))), by rw [ht]; exact hP, va_K.moved hW.alike hK, hD⟩, hS.F ht⟩) hS.2.2 dX9_isInName_59
                  · refine lv_iconst (v := 1) hx hb dX9_isInName_54 (by decide) ?_
                    refine lv_goto (tgt := 59) hx hb dX9_isInName_55 (by decide) ?_
                    refine W.widen (k := 0) (n := 0) (by decide +kernel) (by decide +kernel) ?_
                    exact W.zret (v := 1) hx hb hr (by first | rfl | decide) (fun t ht hW => ⟨⟨1, (), rfl, Or.inr (Or.inr (Or.inr (Or.inr (Or.inr (Or.inr (Or.inr (Or.inr (Or.inr (Or.inr (Or.inr (Or.inr (Or.inr (Or.inr (Or.inr (Or.inr (Or.inr (Or.inr (Or.inr (Or.inr (Or.inr (Or.inr (Or.inr (Or.inr (Or.inr (Or.inr (Or.inr (Or.inr (Or.inr (Or.inr (Or.inr (Or.inr (Or.inr (Or.inr (Or.inr (Or.inr (Or.inr (Or.inr (Or.inl ⟨c_1, c_20, c_21, c_30, c_31, c_35, c_36, c_37, c_38, rfl⟩)))))))))))))))))))))))))))))))))))))), by rw [ht]; exact hP, va_K.moved hW.alike hK, hD⟩, hS.F ht⟩) hS.2.2 dX9_isInName_59
def ow_k_X9_high : List Cond := .code yX9_high cX9_high 1 (some .int) :: ([] ++ [])
theorem gd_k_X9_high : ∀ w ∈ ow_k_X9_high, (w.onTables && w.keeps) = true ∨ ∃ ty, w = Cond.arrayClass ty := List.forall_mem_cons.mpr ⟨good_of_word rfl, List.forall_mem_append.mpr ⟨fun w h => good_of_word (List.all_eq_true.mp (by decide +kernel) w h), fun _ h => nomatch h⟩⟩
set_option maxHeartbeats 40000000 in
set_option maxRecDepth 100000 in
theorem k_X9_high (l : Launch) (hlt : l.stackTraces = false) (dC : Nat → ClassId) (dI : Nat → Nat → Nat) (c0 : Int32) (sz : Nat) : Met l yX9_high ow_k_X9_high ({ frames := 0, cells := 0, slots := 0, locals := 0 }) (va_Pc [.int c0] (fun U => U.heap.size = sz ∧ va_P (dC, dI) vwCl [] U.heap ∧ va_K (dC, dI) vwCl [] U ∧ va_D (fun _ => True) [] ∧ nv_E (va_A [] sz) U)) (va_Qi (fun r _ => (r = ((((c0 + 2048) : Int32).toUInt32 >>> ((12 : Int32).toUInt32 &&& Int32.toUInt32 31)).toInt32)) ∨ False) (fun (_ : Unit) t => va_P (dC, dI) vwCl [] t.heap ∧ va_K (dC, dI) vwCl [] t ∧ va_D (va_A [] sz) []) (va_A [] sz)) 0 0 (va_A [] sz) := by
  refine Met.ofW (cc := cX9_high) (maxL := 1) (ret := (some .int)) (by decide) rfl ?_
  intro p e s m args below meth c s₁ B hml hv
  obtain ⟨rfl, hsz, hP, hK, hD0, hN⟩ := hv
  have hx := B.exec
  have hb := B.bytes
  have hr := B.returns
  have hts := atoms_spec (ws := ow_k_X9_high) B.pre
  have hown : s.vm.findClass RX9 = some m.cls := findClass_of_methodNamed B.named
  have hlocks := B.notSynchronized
  subst hsz
  have hD := hD0.self (sz := s.heap.size)
  generalize hAe : va_A [] s.heap.size = A at hD hN ⊢
  have hA : ∀ q : Nat, s.heap.size ≤ q → A q := fun q h => by rw [← hAe]; exact Or.inr h
  have hS : va_S A s.heap s.heap [] := va_S.rf
  have hl := lv_entry ([.int c0]) (n := 1) (Nat.le_of_ble_eq_true rfl)
  rw [lg_entry_eq]
  generalize (lg_sl ([.int c0]) ++ List.replicate (1 - (lg_sl ([.int c0])).length) Slot.unset).toArray = ls at hl ⊢
  have hl : lv_has ls 1 [(0, .int c0)] := hl
  refine lv_iload_n hx hb dX9_high_0 rfl (lv_at hl 0 rfl) ?_
  refine lv_sipush (v := 2048) hx hb dX9_high_1 (by decide) ?_
  refine lv_iadd hx hb dX9_high_4 ?_
  refine lv_bipush (v := 12) hx hb dX9_high_5 (by decide) ?_
  refine lv_iushr hx hb dX9_high_7 rfl ?_
  refine W.widen (k := 0) (n := 0) (by decide +kernel) (by decide +kernel) ?_
  exact W.iret (v := ((((c0 + 2048) : Int32).toUInt32 >>> ((12 : Int32).toUInt32 &&& Int32.toUInt32 31)).toInt32)) hx hb hr (fun t ht hW => ⟨⟨((((c0 + 2048) : Int32).toUInt32 >>> ((12 : Int32).toUInt32 &&& Int32.toUInt32 31)).toInt32), (), rfl, Or.inl rfl, by rw [ht]; exact hP, va_K.moved hW.alike hK, hD⟩, hS.F ht⟩) hS.2.2 dX9_high_8
def ow_k_X9_low : List Cond := .code yX9_low cX9_low 1 (some .int) :: ([] ++ [])
theorem gd_k_X9_low : ∀ w ∈ ow_k_X9_low, (w.onTables && w.keeps) = true ∨ ∃ ty, w = Cond.arrayClass ty := List.forall_mem_cons.mpr ⟨good_of_word rfl, List.forall_mem_append.mpr ⟨fun w h => good_of_word (List.all_eq_true.mp (by decide +kernel) w h), fun _ h => nomatch h⟩⟩
set_option maxHeartbeats 40000000 in
set_option maxRecDepth 100000 in
theorem k_X9_low (l : Launch) (hlt : l.stackTraces = false) (dC : Nat → ClassId) (dI : Nat → Nat → Nat) (c0 : Int32) (sz : Nat) : Met l yX9_low ow_k_X9_low ({ frames := 0, cells := 0, slots := 0, locals := 0 }) (va_Pc [.int c0] (fun U => U.heap.size = sz ∧ va_P (dC, dI) vwCl [] U.heap ∧ va_K (dC, dI) vwCl [] U ∧ va_D (fun _ => True) [] ∧ nv_E (va_A [] sz) U)) (va_Qi (fun r _ => (r = ((((c0 : Int32) <<< ((20 : Int32) &&& 31)) : Int32) >>> ((20 : Int32) &&& 31))) ∨ False) (fun (_ : Unit) t => va_P (dC, dI) vwCl [] t.heap ∧ va_K (dC, dI) vwCl [] t ∧ va_D (va_A [] sz) []) (va_A [] sz)) 0 0 (va_A [] sz) := by
  refine Met.ofW (cc := cX9_low) (maxL := 1) (ret := (some .int)) (by decide) rfl ?_
  intro p e s m args below meth c s₁ B hml hv
  obtain ⟨rfl, hsz, hP, hK, hD0, hN⟩ := hv
  have hx := B.exec
  have hb := B.bytes
  have hr := B.returns
  have hts := atoms_spec (ws := ow_k_X9_low) B.pre
  have hown : s.vm.findClass RX9 = some m.cls := findClass_of_methodNamed B.named
  have hlocks := B.notSynchronized
  subst hsz
  have hD := hD0.self (sz := s.heap.size)
  generalize hAe : va_A [] s.heap.size = A at hD hN ⊢
  have hA : ∀ q : Nat, s.heap.size ≤ q → A q := fun q h => by rw [← hAe]; exact Or.inr h
  have hS : va_S A s.heap s.heap [] := va_S.rf
  have hl := lv_entry ([.int c0]) (n := 1) (Nat.le_of_ble_eq_true rfl)
  rw [lg_entry_eq]
  generalize (lg_sl ([.int c0]) ++ List.replicate (1 - (lg_sl ([.int c0])).length) Slot.unset).toArray = ls at hl ⊢
  have hl : lv_has ls 1 [(0, .int c0)] := hl
  refine lv_iload_n hx hb dX9_low_0 rfl (lv_at hl 0 rfl) ?_
  refine lv_bipush (v := 20) hx hb dX9_low_1 (by decide) ?_
  refine lv_ishl hx hb dX9_low_3 ?_
  refine lv_bipush (v := 20) hx hb dX9_low_4 (by decide) ?_
  refine lv_ishr hx hb dX9_low_6 ?_
  refine W.widen (k := 0) (n := 0) (by decide +kernel) (by decide +kernel) ?_
  exact W.iret (v := ((((c0 : Int32) <<< ((20 : Int32) &&& 31)) : Int32) >>> ((20 : Int32) &&& 31))) hx hb hr (fun t ht hW => ⟨⟨((((c0 : Int32) <<< ((20 : Int32) &&& 31)) : Int32) >>> ((20 : Int32) &&& 31)), (), rfl, Or.inl rfl, by rw [ht]; exact hP, va_K.moved hW.alike hK, hD⟩, hS.F ht⟩) hS.2.2 dX9_low_7
def ow_g_X9_single : List Cond := .code yX9_single cX9_single 2 (some .int) :: ([.methodLink RX9 182 yX9_high, .static yX9_high, .initialized RX9, .methodLink RX9 185 yX9_low, .static yX9_low] ++ (ow_k_X9_high ++ (ow_k_X9_low ++ [])))
theorem gd_g_X9_single : ∀ w ∈ ow_g_X9_single, (w.onTables && w.keeps) = true ∨ ∃ ty, w = Cond.arrayClass ty := List.forall_mem_cons.mpr ⟨good_of_word rfl, List.forall_mem_append.mpr ⟨fun w h => good_of_word (List.all_eq_true.mp (by decide +kernel) w h), List.forall_mem_append.mpr ⟨gd_k_X9_high, List.forall_mem_append.mpr ⟨gd_k_X9_low, fun _ h => nomatch h⟩⟩⟩⟩
theorem gi_g_X9_single_0 : GoodIn ow_g_X9_single (wsS RX9 182 yX9_high ow_k_X9_high) := goodIn_app (goodIn_of _ (by decide +kernel)) (fun w h => ⟨List.mem_cons_of_mem _ (List.mem_append_right _ (List.mem_append_left _ h)), gd_k_X9_high w h⟩)
theorem gi_g_X9_single_1 : GoodIn ow_g_X9_single (wsS RX9 185 yX9_low ow_k_X9_low) := goodIn_app (goodIn_of _ (by decide +kernel)) (fun w h => ⟨List.mem_cons_of_mem _ (List.mem_append_right _ (List.mem_append_right _ (List.mem_append_left _ h))), gd_k_X9_low w h⟩)
set_option maxHeartbeats 40000000 in
set_option maxRecDepth 100000 in
theorem g_X9_single (l : Launch) (hlt : l.stackTraces = false) (dC : Nat → ClassId) (dI : Nat → Nat → Nat) (v0 : Int32) (v1 : Int32) (sz : Nat) : Met l yX9_single ow_g_X9_single ({ frames := 1, cells := 0, slots := 0, locals := 20 }) (va_Pc [.int v0, .int v1] (fun U => U.heap.size = sz ∧ va_P (dC, dI) vwCl [] U.heap ∧ va_K (dC, dI) vwCl [] U ∧ va_D (fun _ => True) [] ∧ nv_E (va_A [] sz) U)) (va_Qi (fun r _ => ((v0 = 11) ∧ r = (-v1)) ∨ ((¬ v0 = 11) ∧ (v0 = 12) ∧ r = (v1 ^^^ (-1))) ∨ ((¬ v0 = 11) ∧ (¬ v0 = 12) ∧ (v0 = 13) ∧ r = ((((v1 + 2048) : Int32).toUInt32 >>> ((12 : Int32).toUInt32 &&& Int32.toUInt32 31)).toInt32)) ∨ ((¬ v0 = 11) ∧ (¬ v0 = 12) ∧ (¬ v0 = 13) ∧ r = ((((v1 : Int32) <<< ((20 : Int32) &&& 31)) : Int32) >>> ((20 : Int32) &&& 31))) ∨ False) (fun (_ : Unit) t => va_P (dC, dI) vwCl [] t.heap ∧ va_K (dC, dI) vwCl [] t ∧ va_D (va_A [] sz) []) (va_A [] sz)) 0 0 (va_A [] sz) := by
  refine Met.ofW (cc := cX9_single) (maxL := 2) (ret := (some .int)) (by decide) rfl ?_
  intro p e s m args below meth c s₁ B hml hv
  obtain ⟨rfl, hsz, hP, hK, hD0, hN⟩ := hv
  have hx := B.exec
  have hb := B.bytes
  have hr := B.returns
  have hts := atoms_spec (ws := ow_g_X9_single) B.pre
  have hown : s.vm.findClass RX9 = some m.cls := findClass_of_methodNamed B.named
  have hlocks := B.notSynchronized
  subst hsz
  have hD := hD0.self (sz := s.heap.size)
  generalize hAe : va_A [] s.heap.size = A at hD hN ⊢
  have hA : ∀ q : Nat, s.heap.size ≤ q → A q := fun q h => by rw [← hAe]; exact Or.inr h
  have hS : va_S A s.heap s.heap [] := va_S.rf
  have hl := lv_entry ([.int v0, .int v1]) (n := 2) (Nat.le_of_ble_eq_true rfl)
  rw [lg_entry_eq]
  generalize (lg_sl ([.int v0, .int v1]) ++ List.replicate (2 - (lg_sl ([.int v0, .int v1])).length) Slot.unset).toArray = ls at hl ⊢
  have hl : lv_has ls 2 [(0, .int v0), (1, .int v1)] := hl
  refine lv_iload_n hx hb dX9_single_0 rfl (lv_at hl 0 rfl) ?_
  by_cases c_1 : v0 = 11
  · refine lv_tableIn (off := 27) (tgt := 28) hx hb dX9_single_1 (by rw [c_1]; decide) (by rw [c_1]; decide) (by rw [c_1]; decide) (by decide) ?_
    refine lv_iload_n hx hb dX9_single_28 rfl (lv_at hl 1 rfl) ?_
    refine lv_ineg hx hb dX9_single_29 ?_
    refine W.widen (k := 0) (n := 0) (by decide +kernel) (by decide +kernel) ?_
    exact W.iret (v := (-v1)) hx hb hr (fun t ht hW => ⟨⟨(-v1), (), rfl, Or.inl ⟨c_1, rfl⟩, by rw [ht]; exact hP, va_K.moved hW.alike hK, hD⟩, hS.F ht⟩) hS.2.2 dX9_single_30
  by_cases c_2 : v0 = 12
  · refine lv_tableIn (off := 30) (tgt := 31) hx hb dX9_single_1 (by rw [c_2]; decide) (by rw [c_2]; decide) (by rw [c_2]; decide) (by decide) ?_
    refine lv_iload_n hx hb dX9_single_31 rfl (lv_at hl 1 rfl) ?_
    refine lv_iconst (v := (-1)) hx hb dX9_single_32 (by decide) ?_
    refine lv_ixor hx hb dX9_single_33 ?_
    refine W.widen (k := 0) (n := 0) (by decide +kernel) (by decide +kernel) ?_
    exact W.iret (v := (v1 ^^^ (-1))) hx hb hr (fun t ht hW => ⟨⟨(v1 ^^^ (-1)), (), rfl, Or.inr (Or.inl ⟨c_1, c_2, rfl⟩), by rw [ht]; exact hP, va_K.moved hW.alike hK, hD⟩, hS.F ht⟩) hS.2.2 dX9_single_34
  by_cases c_3 : v0 = 13
  · refine lv_tableIn (off := 34) (tgt := 35) hx hb dX9_single_1 (by rw [c_3]; decide) (by rw [c_3]; decide) (by rw [c_3]; decide) (by decide) ?_
    refine lv_iload_n hx hb dX9_single_35 rfl (lv_at hl 1 rfl) ?_
    have hPc := hP.sub (ws' := []) [] rfl
    have hDc := hD.sub (ws' := []) [] (by decide) rfl
    have hKc := hK.sub (tys' := []) [] rfl
    have hFc := va_free (wc := []) hD hS hA [] rfl
    refine va_calli (va_runS (As := [.int v1]) (rest := []) ⟨hx, hb, hml, hown, hts⟩ (k_X9_high l hlt dC dI v1  s.heap.size) (cwS 1 hts gi_g_X9_single_0 rfl rfl rfl (by decide +kernel) ⟨Nat.le_of_ble_eq_true rfl, Nat.le_of_ble_eq_true rfl⟩) ⟨fun a U g mk q => by obtain ⟨q0, q1, qP, qK, qD, qN⟩ := q; exact ⟨q0, q1, qP, va_K.moved (u := U) (U := U.calling g mk a) (Vm.Alike.refl U.vm) qK, qD, nv_same rfl rfl qN⟩, fun U hU hW => ⟨rfl, by rw [hU], by rw [hU]; exact hPc, va_K.moved hW.alike hKc, hDc.weaken (fun _ _ _ _ => trivial), nv_call hS hFc hU hW hN⟩⟩ rfl rfl hl.1 rfl (lv_room (Nat.le_of_ble_eq_true rfl)) dX9_single_36 ⟨by decide +kernel, by decide +kernel⟩) hS (fun q _ h => hFc q h) hFc (fun r1 u t H1 locs ht hvm hw hB hz1 hk1 hS => ?_)
    obtain ⟨hP1, hK1, hD1⟩ := hB
    rw [ht] at hP1
    have hK1 := va_K.moved hvm.symm hK1
    obtain ⟨hP, hD⟩ := va_join (wr := []) (w1 := []) hP hD [] [] rfl rfl (by decide) (by decide) hk1 hFc hP1 hD1
    have hK := (hK.sub (tys' := []) [] rfl).app hK1
    generalize H1 = H at hP hS ⊢
    have hP : va_P (dC, dI) vwCl [] H := hP
    have hD : va_D A [] := hD
    have hK : va_K (dC, dI) vwCl [] s := hK
    refine W.widen (k := 0) (n := 0) (by decide +kernel) (by decide +kernel) ?_
    rcases hw with h9 | h9
    · subst h9
      refine W.widen (k := 0) (n := 0) (by decide +kernel) (by decide +kernel) ?_
      exact W.iret (v := ((((v1 + 2048) : Int32).toUInt32 >>> ((12 : Int32).toUInt32 &&& Int32.toUInt32 31)).toInt32)) hx hb hr (fun t ht hW => ⟨⟨((((v1 + 2048) : Int32).toUInt32 >>> ((12 : Int32).toUInt32 &&& Int32.toUInt32 31)).toInt32), (), rfl, Or.inr (Or.inr (Or.inl ⟨c_1, c_2, c_3, rfl⟩)), by rw [ht]; exact hP, va_K.moved hW.alike hK, hD⟩, hS.F ht⟩) hS.2.2 dX9_single_39
    · exact h9.elim
  refine lv_tableOut (tgt := 40) hx hb dX9_single_1 (by have g0 := nv_nei c_1 (k := 11) (by decide); have g1 := nv_nei c_2 (k := 12) (by decide); have g2 := nv_nei c_3 (k := 13) (by decide); omega) (by decide) ?_
  refine lv_iload_n hx hb dX9_single_40 rfl (lv_at hl 1 rfl) ?_
  have hPc := hP.sub (ws' := []) [] rfl
  have hDc := hD.sub (ws' := []) [] (by decide) rfl
  have hKc := hK.sub (tys' := []) [] rfl
  have hFc := va_free (wc := []) hD hS hA [] rfl
  refine va_calli (va_runS (As := [.int v1]) (rest := []) ⟨hx, hb, hml, hown, hts⟩ (k_X9_low l hlt dC dI v1  s.heap.size) (cwS 1 hts gi_g_X9_single_1 rfl rfl rfl (by decide +kernel) ⟨Nat.le_of_ble_eq_true rfl, Nat.le_of_ble_eq_true rfl⟩) ⟨fun a U g mk q => by obtain ⟨q0, q1, qP, qK, qD, qN⟩ := q; exact ⟨q0, q1, qP, va_K.moved (u := U) (U := U.calling g mk a) (Vm.Alike.refl U.vm) qK, qD, nv_same rfl rfl qN⟩, fun U hU hW => ⟨rfl, by rw [hU], by rw [hU]; exact hPc, va_K.moved hW.alike hKc, hDc.weaken (fun _ _ _ _ => trivial), nv_call hS hFc hU hW hN⟩⟩ rfl rfl hl.1 rfl (lv_room (Nat.le_of_ble_eq_true rfl)) dX9_single_41 ⟨by decide +kernel, by decide +kernel⟩) hS (fun q _ h => hFc q h) hFc (fun r2 u t H1 locs ht hvm hw hB hz1 hk1 hS => ?_)
  obtain ⟨hP1, hK1, hD1⟩ := hB
  rw [ht] at hP1
  have hK1 := va_K.moved hvm.symm hK1
  obtain ⟨hP, hD⟩ := va_join (wr := []) (w1 := []) hP hD [] [] rfl rfl (by decide) (by decide) hk1 hFc hP1 hD1
  have hK := (hK.sub (tys' := []) [] rfl).app hK1
  generalize H1 = H at hP hS ⊢
  have hP : va_P (dC, dI) vwCl [] H := hP
  have hD : va_D A [] := hD
  have hK : va_K (dC, dI) vwCl [] s := hK
  refine W.widen (k := 0) (n := 0) (by decide +kernel) (by decide +kernel) ?_
  rcases hw with h9 | h9
  · subst h9
    refine W.widen (k := 0) (n := 0) (by decide +kernel) (by decide +kernel) ?_
    exact W.iret (v := ((((v1 : Int32) <<< ((20 : Int32) &&& 31)) : Int32) >>> ((20 : Int32) &&& 31))) hx hb hr (fun t ht hW => ⟨⟨((((v1 : Int32) <<< ((20 : Int32) &&& 31)) : Int32) >>> ((20 : Int32) &&& 31)), (), rfl, Or.inr (Or.inr (Or.inr (Or.inl ⟨c_1, c_2, c_3, rfl⟩))), by rw [ht]; exact hP, va_K.moved hW.alike hK, hD⟩, hS.F ht⟩) hS.2.2 dX9_single_44
  · exact h9.elim
def ow_g_X9_high : List Cond := .code yX9_high cX9_high 1 (some .int) :: ([] ++ [])
theorem gd_g_X9_high : ∀ w ∈ ow_g_X9_high, (w.onTables && w.keeps) = true ∨ ∃ ty, w = Cond.arrayClass ty := List.forall_mem_cons.mpr ⟨good_of_word rfl, List.forall_mem_append.mpr ⟨fun w h => good_of_word (List.all_eq_true.mp (by decide +kernel) w h), fun _ h => nomatch h⟩⟩
set_option maxHeartbeats 40000000 in
set_option maxRecDepth 100000 in
theorem g_X9_high (l : Launch) (hlt : l.stackTraces = false) (dC : Nat → ClassId) (dI : Nat → Nat → Nat) (v0 : Int32) (sz : Nat) : Met l yX9_high ow_g_X9_high ({ frames := 0, cells := 0, slots := 0, locals := 0 }) (va_Pc [.int v0] (fun U => U.heap.size = sz ∧ va_P (dC, dI) vwCl [] U.heap ∧ va_K (dC, dI) vwCl [] U ∧ va_D (fun _ => True) [] ∧ nv_E (va_A [] sz) U)) (va_Qi (fun r _ => (r = ((((v0 + 2048) : Int32).toUInt32 >>> ((12 : Int32).toUInt32 &&& Int32.toUInt32 31)).toInt32)) ∨ False) (fun (_ : Unit) t => va_P (dC, dI) vwCl [] t.heap ∧ va_K (dC, dI) vwCl [] t ∧ va_D (va_A [] sz) []) (va_A [] sz)) 0 0 (va_A [] sz) := by
  refine Met.ofW (cc := cX9_high) (maxL := 1) (ret := (some .int)) (by decide) rfl ?_
  intro p e s m args below meth c s₁ B hml hv
  obtain ⟨rfl, hsz, hP, hK, hD0, hN⟩ := hv
  have hx := B.exec
  have hb := B.bytes
  have hr := B.returns
  have hts := atoms_spec (ws := ow_g_X9_high) B.pre
  have hown : s.vm.findClass RX9 = some m.cls := findClass_of_methodNamed B.named
  have hlocks := B.notSynchronized
  subst hsz
  have hD := hD0.self (sz := s.heap.size)
  generalize hAe : va_A [] s.heap.size = A at hD hN ⊢
  have hA : ∀ q : Nat, s.heap.size ≤ q → A q := fun q h => by rw [← hAe]; exact Or.inr h
  have hS : va_S A s.heap s.heap [] := va_S.rf
  have hl := lv_entry ([.int v0]) (n := 1) (Nat.le_of_ble_eq_true rfl)
  rw [lg_entry_eq]
  generalize (lg_sl ([.int v0]) ++ List.replicate (1 - (lg_sl ([.int v0])).length) Slot.unset).toArray = ls at hl ⊢
  have hl : lv_has ls 1 [(0, .int v0)] := hl
  refine lv_iload_n hx hb dX9_high_0 rfl (lv_at hl 0 rfl) ?_
  refine lv_sipush (v := 2048) hx hb dX9_high_1 (by decide) ?_
  refine lv_iadd hx hb dX9_high_4 ?_
  refine lv_bipush (v := 12) hx hb dX9_high_5 (by decide) ?_
  refine lv_iushr hx hb dX9_high_7 rfl ?_
  refine W.widen (k := 0) (n := 0) (by decide +kernel) (by decide +kernel) ?_
  exact W.iret (v := ((((v0 + 2048) : Int32).toUInt32 >>> ((12 : Int32).toUInt32 &&& Int32.toUInt32 31)).toInt32)) hx hb hr (fun t ht hW => ⟨⟨((((v0 + 2048) : Int32).toUInt32 >>> ((12 : Int32).toUInt32 &&& Int32.toUInt32 31)).toInt32), (), rfl, Or.inl rfl, by rw [ht]; exact hP, va_K.moved hW.alike hK, hD⟩, hS.F ht⟩) hS.2.2 dX9_high_8
def ow_g_X9_low : List Cond := .code yX9_low cX9_low 1 (some .int) :: ([] ++ [])
theorem gd_g_X9_low : ∀ w ∈ ow_g_X9_low, (w.onTables && w.keeps) = true ∨ ∃ ty, w = Cond.arrayClass ty := List.forall_mem_cons.mpr ⟨good_of_word rfl, List.forall_mem_append.mpr ⟨fun w h => good_of_word (List.all_eq_true.mp (by decide +kernel) w h), fun _ h => nomatch h⟩⟩
set_option maxHeartbeats 40000000 in
set_option maxRecDepth 100000 in
theorem g_X9_low (l : Launch) (hlt : l.stackTraces = false) (dC : Nat → ClassId) (dI : Nat → Nat → Nat) (v0 : Int32) (sz : Nat) : Met l yX9_low ow_g_X9_low ({ frames := 0, cells := 0, slots := 0, locals := 0 }) (va_Pc [.int v0] (fun U => U.heap.size = sz ∧ va_P (dC, dI) vwCl [] U.heap ∧ va_K (dC, dI) vwCl [] U ∧ va_D (fun _ => True) [] ∧ nv_E (va_A [] sz) U)) (va_Qi (fun r _ => (r = ((((v0 : Int32) <<< ((20 : Int32) &&& 31)) : Int32) >>> ((20 : Int32) &&& 31))) ∨ False) (fun (_ : Unit) t => va_P (dC, dI) vwCl [] t.heap ∧ va_K (dC, dI) vwCl [] t ∧ va_D (va_A [] sz) []) (va_A [] sz)) 0 0 (va_A [] sz) := by
  refine Met.ofW (cc := cX9_low) (maxL := 1) (ret := (some .int)) (by decide) rfl ?_
  intro p e s m args below meth c s₁ B hml hv
  obtain ⟨rfl, hsz, hP, hK, hD0, hN⟩ := hv
  have hx := B.exec
  have hb := B.bytes
  have hr := B.returns
  have hts := atoms_spec (ws := ow_g_X9_low) B.pre
  have hown : s.vm.findClass RX9 = some m.cls := findClass_of_methodNamed B.named
  have hlocks := B.notSynchronized
  subst hsz
  have hD := hD0.self (sz := s.heap.size)
  generalize hAe : va_A [] s.heap.size = A at hD hN ⊢
  have hA : ∀ q : Nat, s.heap.size ≤ q → A q := fun q h => by rw [← hAe]; exact Or.inr h
  have hS : va_S A s.heap s.heap [] := va_S.rf
  have hl := lv_entry ([.int v0]) (n := 1) (Nat.le_of_ble_eq_true rfl)
  rw [lg_entry_eq]
  generalize (lg_sl ([.int v0]) ++ List.replicate (1 - (lg_sl ([.int v0])).length) Slot.unset).toArray = ls at hl ⊢
  have hl : lv_has ls 1 [(0, .int v0)] := hl
  refine lv_iload_n hx hb dX9_low_0 rfl (lv_at hl 0 rfl) ?_
  refine lv_bipush (v := 20) hx hb dX9_low_1 (by decide) ?_
  refine lv_ishl hx hb dX9_low_3 ?_
  refine lv_bipush (v := 20) hx hb dX9_low_4 (by decide) ?_
  refine lv_ishr hx hb dX9_low_6 ?_
  refine W.widen (k := 0) (n := 0) (by decide +kernel) (by decide +kernel) ?_
  exact W.iret (v := ((((v0 : Int32) <<< ((20 : Int32) &&& 31)) : Int32) >>> ((20 : Int32) &&& 31))) hx hb hr (fun t ht hW => ⟨⟨((((v0 : Int32) <<< ((20 : Int32) &&& 31)) : Int32) >>> ((20 : Int32) &&& 31)), (), rfl, Or.inl rfl, by rw [ht]; exact hP, va_K.moved hW.alike hK, hD⟩, hS.F ht⟩) hS.2.2 dX9_low_7
def ow_g_X13_isDigit : List Cond := .code yX13_isDigit cX13_isDigit 1 (some .boolean) :: ([] ++ [])
theorem gd_g_X13_isDigit : ∀ w ∈ ow_g_X13_isDigit, (w.onTables && w.keeps) = true ∨ ∃ ty, w = Cond.arrayClass ty := List.forall_mem_cons.mpr ⟨good_of_word rfl, List.forall_mem_append.mpr ⟨fun w h => good_of_word (List.all_eq_true.mp (by decide +kernel) w h), fun _ h => nomatch h⟩⟩
set_option maxHeartbeats 40000000 in
set_option maxRecDepth 100000 in
theorem g_X13_isDigit (l : Launch) (hlt : l.stackTraces = false) (dC : Nat → ClassId) (dI : Nat → Nat → Nat) (v0 : Int32) (sz : Nat) : Met l yX13_isDigit ow_g_X13_isDigit ({ frames := 0, cells := 0, slots := 0, locals := 0 }) (va_Pc [.int v0] (fun U => U.heap.size = sz ∧ va_P (dC, dI) vwCl [] U.heap ∧ va_K (dC, dI) vwCl [] U ∧ va_D (fun _ => True) [] ∧ nv_E (va_A [] sz) U)) (va_Qi (fun r _ => ((v0 < 48) ∧ r = 0) ∨ ((¬ v0 < 48) ∧ (57 < v0) ∧ r = 0) ∨ ((¬ v0 < 48) ∧ (¬ 57 < v0) ∧ r = 1) ∨ False) (fun (_ : Unit) t => va_P (dC, dI) vwCl [] t.heap ∧ va_K (dC, dI) vwCl [] t ∧ va_D (va_A [] sz) []) (va_A [] sz)) 0 0 (va_A [] sz) := by
  refine Met.ofW (cc := cX13_isDigit) (maxL := 1) (ret := (some .boolean)) (by decide) rfl ?_
  intro p e s m args below meth c s₁ B hml hv
  obtain ⟨rfl, hsz, hP, hK, hD0, hN⟩ := hv
  have hx := B.exec
  have hb := B.bytes
  have hr := B.returns
  have hts := atoms_spec (ws := ow_g_X13_isDigit) B.pre
  have hown : s.vm.findClass RX13 = some m.cls := findClass_of_methodNamed B.named
  have hlocks := B.notSynchronized
  subst hsz
  have hD := hD0.self (sz := s.heap.size)
  generalize hAe : va_A [] s.heap.size = A at hD hN ⊢
  have hA : ∀ q : Nat, s.heap.size ≤ q → A q := fun q h => by rw [← hAe]; exact Or.inr h
  have hS : va_S A s.heap s.heap [] := va_S.rf
  have hl := lv_entry ([.int v0]) (n := 1) (Nat.le_of_ble_eq_true rfl)
  rw [lg_entry_eq]
  generalize (lg_sl ([.int v0]) ++ List.replicate (1 - (lg_sl ([.int v0])).length) Slot.unset).toArray = ls at hl ⊢
  have hl : lv_has ls 1 [(0, .int v0)] := hl
  refine lv_iload_n hx hb dX13_isDigit_0 rfl (lv_at hl 0 rfl) ?_
  refine lv_bipush (v := 48) hx hb dX13_isDigit_1 (by decide) ?_
  refine lv_icmp_lt (tgt := 16) hx hb dX13_isDigit_3 (by decide) (fun c_1 => ?_) (fun c_1 => ?_)
  · refine lv_iconst (v := 0) hx hb dX13_isDigit_16 (by decide) ?_
    refine W.widen (k := 0) (n := 0) (by decide +kernel) (by decide +kernel) ?_
    exact W.zret (v := 0) hx hb hr (by first | rfl | decide) (fun t ht hW => ⟨⟨0, (), rfl, Or.inl ⟨c_1, rfl⟩, by rw [ht]; exact hP, va_K.moved hW.alike hK, hD⟩, hS.F ht⟩) hS.2.2 dX13_isDigit_17
  · refine lv_iload_n hx hb dX13_isDigit_6 rfl (lv_at hl 0 rfl) ?_
    refine lv_bipush (v := 57) hx hb dX13_isDigit_7 (by decide) ?_
    refine lv_icmp_gt (tgt := 16) hx hb dX13_isDigit_9 (by decide) (fun c_2 => ?_) (fun c_2 => ?_)
    · refine lv_iconst (v := 0) hx hb dX13_isDigit_16 (by decide) ?_
      refine W.widen (k := 0) (n := 0) (by decide +kernel) (by decide +kernel) ?_
      exact W.zret (v := 0) hx hb hr (by first | rfl | decide) (fun t ht hW => ⟨⟨0, (), rfl, Or.inr (Or.inl ⟨c_1, c_2, rfl⟩), by rw [ht]; exact hP, va_K.moved hW.alike hK, hD⟩, hS.F ht⟩) hS.2.2 dX13_isDigit_17
    · refine lv_iconst (v := 1) hx hb dX13_isDigit_12 (by decide) ?_
      refine lv_goto (tgt := 17) hx hb dX13_isDigit_13 (by decide) ?_
      refine W.widen (k := 0) (n := 0) (by decide +kernel) (by decide +kernel) ?_
      exact W.zret (v := 1) hx hb hr (by first | rfl | decide) (fun t ht hW => ⟨⟨1, (), rfl, Or.inr (Or.inr (Or.inl ⟨c_1, c_2, rfl⟩)), by rw [ht]; exact hP, va_K.moved hW.alike hK, hD⟩, hS.F ht⟩) hS.2.2 dX13_isDigit_17
def ow_g_X13_isLetter : List Cond := .code yX13_isLetter cX13_isLetter 1 (some .boolean) :: ([] ++ [])
theorem gd_g_X13_isLetter : ∀ w ∈ ow_g_X13_isLetter, (w.onTables && w.keeps) = true ∨ ∃ ty, w = Cond.arrayClass ty := List.forall_mem_cons.mpr ⟨good_of_word rfl, List.forall_mem_append.mpr ⟨fun w h => good_of_word (List.all_eq_true.mp (by decide +kernel) w h), fun _ h => nomatch h⟩⟩
set_option maxHeartbeats 40000000 in
set_option maxRecDepth 100000 in
theorem g_X13_isLetter (l : Launch) (hlt : l.stackTraces = false) (dC : Nat → ClassId) (dI : Nat → Nat → Nat) (v0 : Int32) (sz : Nat) : Met l yX13_isLetter ow_g_X13_isLetter ({ frames := 0, cells := 0, slots := 0, locals := 0 }) (va_Pc [.int v0] (fun U => U.heap.size = sz ∧ va_P (dC, dI) vwCl [] U.heap ∧ va_K (dC, dI) vwCl [] U ∧ va_D (fun _ => True) [] ∧ nv_E (va_A [] sz) U)) (va_Qi (fun r _ => ((v0 < 97) ∧ (v0 < 65) ∧ r = 0) ∨ ((v0 < 97) ∧ (¬ v0 < 65) ∧ (90 < v0) ∧ r = 0) ∨ ((v0 < 97) ∧ (¬ v0 < 65) ∧ (¬ 90 < v0) ∧ r = 1) ∨ ((¬ v0 < 97) ∧ (v0 ≤ 122) ∧ r = 1) ∨ ((¬ v0 < 97) ∧ (¬ v0 ≤ 122) ∧ (v0 < 65) ∧ r = 0) ∨ ((¬ v0 < 97) ∧ (¬ v0 ≤ 122) ∧ (¬ v0 < 65) ∧ (90 < v0) ∧ r = 0) ∨ ((¬ v0 < 97) ∧ (¬ v0 ≤ 122) ∧ (¬ v0 < 65) ∧ (¬ 90 < v0) ∧ r = 1) ∨ False) (fun (_ : Unit) t => va_P (dC, dI) vwCl [] t.heap ∧ va_K (dC, dI) vwCl [] t ∧ va_D (va_A [] sz) []) (va_A [] sz)) 0 0 (va_A [] sz) := by
  refine Met.ofW (cc := cX13_isLetter) (maxL := 1) (ret := (some .boolean)) (by decide) rfl ?_
  intro p e s m args below meth c s₁ B hml hv
  obtain ⟨rfl, hsz, hP, hK, hD0, hN⟩ := hv
  have hx := B.exec
  have hb := B.bytes
  have hr := B.returns
  have hts := atoms_spec (ws := ow_g_X13_isLetter) B.pre
  have hown : s.vm.findClass RX13 = some m.cls := findClass_of_methodNamed B.named
  have hlocks := B.notSynchronized
  subst hsz
  have hD := hD0.self (sz := s.heap.size)
  generalize hAe : va_A [] s.heap.size = A at hD hN ⊢
  have hA : ∀ q : Nat, s.heap.size ≤ q → A q := fun q h => by rw [← hAe]; exact Or.inr h
  have hS : va_S A s.heap s.heap [] := va_S.rf
  have hl := lv_entry ([.int v0]) (n := 1) (Nat.le_of_ble_eq_true rfl)
  rw [lg_entry_eq]
  generalize (lg_sl ([.int v0]) ++ List.replicate (1 - (lg_sl ([.int v0])).length) Slot.unset).toArray = ls at hl ⊢
  have hl : lv_has ls 1 [(0, .int v0)] := hl
  refine lv_iload_n hx hb dX13_isLetter_0 rfl (lv_at hl 0 rfl) ?_
  refine lv_bipush (v := 97) hx hb dX13_isLetter_1 (by decide) ?_
  refine lv_icmp_lt (tgt := 12) hx hb dX13_isLetter_3 (by decide) (fun c_1 => ?_) (fun c_1 => ?_)
  · refine lv_iload_n hx hb dX13_isLetter_12 rfl (lv_at hl 0 rfl) ?_
    refine lv_bipush (v := 65) hx hb dX13_isLetter_13 (by decide) ?_
    refine lv_icmp_lt (tgt := 28) hx hb dX13_isLetter_15 (by decide) (fun c_2 => ?_) (fun c_2 => ?_)
    · refine lv_iconst (v := 0) hx hb dX13_isLetter_28 (by decide) ?_
      refine W.widen (k := 0) (n := 0) (by decide +kernel) (by decide +kernel) ?_
      exact W.zret (v := 0) hx hb hr (by first | rfl | decide) (fun t ht hW => ⟨⟨0, (), rfl, Or.inl ⟨c_1, c_2, rfl⟩, by rw [ht]; exact hP, va_K.moved hW.alike hK, hD⟩, hS.F ht⟩) hS.2.2 dX13_isLetter_29
    · refine lv_iload_n hx hb dX13_isLetter_18 rfl (lv_at hl 0 rfl) ?_
      refine lv_bipush (v := 90) hx hb dX13_isLetter_19 (by decide) ?_
      refine lv_icmp_gt (tgt := 28) hx hb dX13_isLetter_21 (by decide) (fun c_3 => ?_) (fun c_3 => ?_)
      · refine lv_iconst (v := 0) hx hb dX13_isLetter_28 (by decide) ?_
        refine W.widen (k := 0) (n := 0) (by decide +kernel) (by decide +kernel) ?_
        exact W.zret (v := 0) hx hb hr (by first | rfl | decide) (fun t ht hW => ⟨⟨0, (), rfl, Or.inr (Or.inl ⟨c_1, c_2, c_3, rfl⟩), by rw [ht]; exact hP, va_K.moved hW.alike hK, hD⟩, hS.F ht⟩) hS.2.2 dX13_isLetter_29
      · refine lv_iconst (v := 1) hx hb dX13_isLetter_24 (by decide) ?_
        refine lv_goto (tgt := 29) hx hb dX13_isLetter_25 (by decide) ?_
        refine W.widen (k := 0) (n := 0) (by decide +kernel) (by decide +kernel) ?_
        exact W.zret (v := 1) hx hb hr (by first | rfl | decide) (fun t ht hW => ⟨⟨1, (), rfl, Or.inr (Or.inr (Or.inl ⟨c_1, c_2, c_3, rfl⟩)), by rw [ht]; exact hP, va_K.moved hW.alike hK, hD⟩, hS.F ht⟩) hS.2.2 dX13_isLetter_29
  · refine lv_iload_n hx hb dX13_isLetter_6 rfl (lv_at hl 0 rfl) ?_
    refine lv_bipush (v := 122) hx hb dX13_isLetter_7 (by decide) ?_
    refine lv_icmp_le (tgt := 24) hx hb dX13_isLetter_9 (by decide) (fun c_4 => ?_) (fun c_4 => ?_)
    · refine lv_iconst (v := 1) hx hb dX13_isLetter_24 (by decide) ?_
      refine lv_goto (tgt := 29) hx hb dX13_isLetter_25 (by decide) ?_
      refine W.widen (k := 0) (n := 0) (by decide +kernel) (by decide +kernel) ?_
      exact W.zret (v := 1) hx hb hr (by first | rfl | decide) (fun t ht hW => ⟨⟨1, (), rfl, Or.inr (Or.inr (Or.inr (Or.inl ⟨c_1, c_4, rfl⟩))), by rw [ht]; exact hP, va_K.moved hW.alike hK, hD⟩, hS.F ht⟩) hS.2.2 dX13_isLetter_29
    · refine lv_iload_n hx hb dX13_isLetter_12 rfl (lv_at hl 0 rfl) ?_
      refine lv_bipush (v := 65) hx hb dX13_isLetter_13 (by decide) ?_
      refine lv_icmp_lt (tgt := 28) hx hb dX13_isLetter_15 (by decide) (fun c_5 => ?_) (fun c_5 => ?_)
      · refine lv_iconst (v := 0) hx hb dX13_isLetter_28 (by decide) ?_
        refine W.widen (k := 0) (n := 0) (by decide +kernel) (by decide +kernel) ?_
        exact W.zret (v := 0) hx hb hr (by first | rfl | decide) (fun t ht hW => ⟨⟨0, (), rfl, Or.inr (Or.inr (Or.inr (Or.inr (Or.inl ⟨c_1, c_4, c_5, rfl⟩)))), by rw [ht]; exact hP, va_K.moved hW.alike hK, hD⟩, hS.F ht⟩) hS.2.2 dX13_isLetter_29
      · refine lv_iload_n hx hb dX13_isLetter_18 rfl (lv_at hl 0 rfl) ?_
        refine lv_bipush (v := 90) hx hb dX13_isLetter_19 (by decide) ?_
        refine lv_icmp_gt (tgt := 28) hx hb dX13_isLetter_21 (by decide) (fun c_6 => ?_) (fun c_6 => ?_)
        · refine lv_iconst (v := 0) hx hb dX13_isLetter_28 (by decide) ?_
          refine W.widen (k := 0) (n := 0) (by decide +kernel) (by decide +kernel) ?_
          exact W.zret (v := 0) hx hb hr (by first | rfl | decide) (fun t ht hW => ⟨⟨0, (), rfl, Or.inr (Or.inr (Or.inr (Or.inr (Or.inr (Or.inl ⟨c_1, c_4, c_5, c_6, rfl⟩))))), by rw [ht]; exact hP, va_K.moved hW.alike hK, hD⟩, hS.F ht⟩) hS.2.2 dX13_isLetter_29
        · refine lv_iconst (v := 1) hx hb dX13_isLetter_24 (by decide) ?_
          refine lv_goto (tgt := 29) hx hb dX13_isLetter_25 (by decide) ?_
          refine W.widen (k := 0) (n := 0) (by decide +kernel) (by decide +kernel) ?_
          exact W.zret (v := 1) hx hb hr (by first | rfl | decide) (fun t ht hW => ⟨⟨1, (), rfl, Or.inr (Or.inr (Or.inr (Or.inr (Or.inr (Or.inr (Or.inl ⟨c_1, c_4, c_5, c_6, rfl⟩)))))), by rw [ht]; exact hP, va_K.moved hW.alike hK, hD⟩, hS.F ht⟩) hS.2.2 dX13_isLetter_29
def ow_k_X13_isDigit : List Cond := .code yX13_isDigit cX13_isDigit 1 (some .boolean) :: ([] ++ [])
theorem gd_k_X13_isDigit : ∀ w ∈ ow_k_X13_isDigit, (w.onTables && w.keeps) = true ∨ ∃ ty, w = Cond.arrayClass ty := List.forall_mem_cons.mpr ⟨good_of_word rfl, List.forall_mem_append.mpr ⟨fun w h => good_of_word (List.all_eq_true.mp (by decide +kernel) w h), fun _ h => nomatch h⟩⟩
set_option maxHeartbeats 40000000 in
set_option maxRecDepth 100000 in
theorem k_X13_isDigit (l : Launch) (hlt : l.stackTraces = false) (dC : Nat → ClassId) (dI : Nat → Nat → Nat) (c0 : Int32) (sz : Nat) : Met l yX13_isDigit ow_k_X13_isDigit ({ frames := 0, cells := 0, slots := 0, locals := 0 }) (va_Pc [.int c0] (fun U => U.heap.size = sz ∧ va_P (dC, dI) vwCl [] U.heap ∧ va_K (dC, dI) vwCl [] U ∧ va_D (fun _ => True) [] ∧ nv_E (va_A [] sz) U)) (va_Qi (fun r _ => ((c0 < 48) ∧ r = 0) ∨ ((¬ c0 < 48) ∧ (57 < c0) ∧ r = 0) ∨ ((¬ c0 < 48) ∧ (¬ 57 < c0) ∧ r = 1) ∨ False) (fun (_ : Unit) t => va_P (dC, dI) vwCl [] t.heap ∧ va_K (dC, dI) vwCl [] t ∧ va_D (va_A [] sz) []) (va_A [] sz)) 0 0 (va_A [] sz) := by
  refine Met.ofW (cc := cX13_isDigit) (maxL := 1) (ret := (some .boolean)) (by decide) rfl ?_
  intro p e s m args below meth c s₁ B hml hv
  obtain ⟨rfl, hsz, hP, hK, hD0, hN⟩ := hv
  have hx := B.exec
  have hb := B.bytes
  have hr := B.returns
  have hts := atoms_spec (ws := ow_k_X13_isDigit) B.pre
  have hown : s.vm.findClass RX13 = some m.cls := findClass_of_methodNamed B.named
  have hlocks := B.notSynchronized
  subst hsz
  have hD := hD0.self (sz := s.heap.size)
  generalize hAe : va_A [] s.heap.size = A at hD hN ⊢
  have hA : ∀ q : Nat, s.heap.size ≤ q → A q := fun q h => by rw [← hAe]; exact Or.inr h
  have hS : va_S A s.heap s.heap [] := va_S.rf
  have hl := lv_entry ([.int c0]) (n := 1) (Nat.le_of_ble_eq_true rfl)
  rw [lg_entry_eq]
  generalize (lg_sl ([.int c0]) ++ List.replicate (1 - (lg_sl ([.int c0])).length) Slot.unset).toArray = ls at hl ⊢
  have hl : lv_has ls 1 [(0, .int c0)] := hl
  refine lv_iload_n hx hb dX13_isDigit_0 rfl (lv_at hl 0 rfl) ?_
  refine lv_bipush (v := 48) hx hb dX13_isDigit_1 (by decide) ?_
  refine lv_icmp_lt (tgt := 16) hx hb dX13_isDigit_3 (by decide) (fun c_1 => ?_) (fun c_1 => ?_)
  · refine lv_iconst (v := 0) hx hb dX13_isDigit_16 (by decide) ?_
    refine W.widen (k := 0) (n := 0) (by decide +kernel) (by decide +kernel) ?_
    exact W.zret (v := 0) hx hb hr (by first | rfl | decide) (fun t ht hW => ⟨⟨0, (), rfl, Or.inl ⟨c_1, rfl⟩, by rw [ht]; exact hP, va_K.moved hW.alike hK, hD⟩, hS.F ht⟩) hS.2.2 dX13_isDigit_17
  · refine lv_iload_n hx hb dX13_isDigit_6 rfl (lv_at hl 0 rfl) ?_
    refine lv_bipush (v := 57) hx hb dX13_isDigit_7 (by decide) ?_
    refine lv_icmp_gt (tgt := 16) hx hb dX13_isDigit_9 (by decide) (fun c_2 => ?_) (fun c_2 => ?_)
    · refine lv_iconst (v := 0) hx hb dX13_isDigit_16 (by decide) ?_
      refine W.widen (k := 0) (n := 0) (by decide +kernel) (by decide +kernel) ?_
      exact W.zret (v := 0) hx hb hr (by first | rfl | decide) (fun t ht hW => ⟨⟨0, (), rfl, Or.inr (Or.inl ⟨c_1, c_2, rfl⟩), by rw [ht]; exact hP, va_K.moved hW.alike hK, hD⟩, hS.F ht⟩) hS.2.2 dX13_isDigit_17
    · refine lv_iconst (v := 1) hx hb dX13_isDigit_12 (by decide) ?_
      refine lv_goto (tgt := 17) hx hb dX13_isDigit_13 (by decide) ?_
      refine W.widen (k := 0) (n := 0) (by decide +kernel) (by decide +kernel) ?_
      exact W.zret (v := 1) hx hb hr (by first | rfl | decide) (fun t ht hW => ⟨⟨1, (), rfl, Or.inr (Or.inr (Or.inl ⟨c_1, c_2, rfl⟩)), by rw [ht]; exact hP, va_K.moved hW.alike hK, hD⟩, hS.F ht⟩) hS.2.2 dX13_isDigit_17
def ow_k_X13_isLetter : List Cond := .code yX13_isLetter cX13_isLetter 1 (some .boolean) :: ([] ++ [])
theorem gd_k_X13_isLetter : ∀ w ∈ ow_k_X13_isLetter, (w.onTables && w.keeps) = true ∨ ∃ ty, w = Cond.arrayClass ty := List.forall_mem_cons.mpr ⟨good_of_word rfl, List.forall_mem_append.mpr ⟨fun w h => good_of_word (List.all_eq_true.mp (by decide +kernel) w h), fun _ h => nomatch h⟩⟩
set_option maxHeartbeats 40000000 in
set_option maxRecDepth 100000 in
theorem k_X13_isLetter (l : Launch) (hlt : l.stackTraces = false) (dC : Nat → ClassId) (dI : Nat → Nat → Nat) (c0 : Int32) (sz : Nat) : Met l yX13_isLetter ow_k_X13_isLetter ({ frames := 0, cells := 0, slots := 0, locals := 0 }) (va_Pc [.int c0] (fun U => U.heap.size = sz ∧ va_P (dC, dI) vwCl [] U.heap ∧ va_K (dC, dI) vwCl [] U ∧ va_D (fun _ => True) [] ∧ nv_E (va_A [] sz) U)) (va_Qi (fun r _ => ((c0 < 97) ∧ (c0 < 65) ∧ r = 0) ∨ ((c0 < 97) ∧ (¬ c0 < 65) ∧ (90 < c0) ∧ r = 0) ∨ ((c0 < 97) ∧ (¬ c0 < 65) ∧ (¬ 90 < c0) ∧ r = 1) ∨ ((¬ c0 < 97) ∧ (c0 ≤ 122) ∧ r = 1) ∨ ((¬ c0 < 97) ∧ (¬ c0 ≤ 122) ∧ (c0 < 65) ∧ r = 0) ∨ ((¬ c0 < 97) ∧ (¬ c0 ≤ 122) ∧ (¬ c0 < 65) ∧ (90 < c0) ∧ r = 0) ∨ ((¬ c0 < 97) ∧ (¬ c0 ≤ 122) ∧ (¬ c0 < 65) ∧ (¬ 90 < c0) ∧ r = 1) ∨ False) (fun (_ : Unit) t => va_P (dC, dI) vwCl [] t.heap ∧ va_K (dC, dI) vwCl [] t ∧ va_D (va_A [] sz) []) (va_A [] sz)) 0 0 (va_A [] sz) := by
  refine Met.ofW (cc := cX13_isLetter) (maxL := 1) (ret := (some .boolean)) (by decide) rfl ?_
  intro p e s m args below meth c s₁ B hml hv
  obtain ⟨rfl, hsz, hP, hK, hD0, hN⟩ := hv
  have hx := B.exec
  have hb := B.bytes
  have hr := B.returns
  have hts := atoms_spec (ws := ow_k_X13_isLetter) B.pre
  have hown : s.vm.findClass RX13 = some m.cls := findClass_of_methodNamed B.named
  have hlocks := B.notSynchronized
  subst hsz
  have hD := hD0.self (sz := s.heap.size)
  generalize hAe : va_A [] s.heap.size = A at hD hN ⊢
  have hA : ∀ q : Nat, s.heap.size ≤ q → A q := fun q h => by rw [← hAe]; exact Or.inr h
  have hS : va_S A s.heap s.heap [] := va_S.rf
  have hl := lv_entry ([.int c0]) (n := 1) (Nat.le_of_ble_eq_true rfl)
  rw [lg_entry_eq]
  generalize (lg_sl ([.int c0]) ++ List.replicate (1 - (lg_sl ([.int c0])).length) Slot.unset).toArray = ls at hl ⊢
  have hl : lv_has ls 1 [(0, .int c0)] := hl
  refine lv_iload_n hx hb dX13_isLetter_0 rfl (lv_at hl 0 rfl) ?_
  refine lv_bipush (v := 97) hx hb dX13_isLetter_1 (by decide) ?_
  refine lv_icmp_lt (tgt := 12) hx hb dX13_isLetter_3 (by decide) (fun c_1 => ?_) (fun c_1 => ?_)
  · refine lv_iload_n hx hb dX13_isLetter_12 rfl (lv_at hl 0 rfl) ?_
    refine lv_bipush (v := 65) hx hb dX13_isLetter_13 (by decide) ?_
    refine lv_icmp_lt (tgt := 28) hx hb dX13_isLetter_15 (by decide) (fun c_2 => ?_) (fun c_2 => ?_)
    · refine lv_iconst (v := 0) hx hb dX13_isLetter_28 (by decide) ?_
      refine W.widen (k := 0) (n := 0) (by decide +kernel) (by decide +kernel) ?_
      exact W.zret (v := 0) hx hb hr (by first | rfl | decide) (fun t ht hW => ⟨⟨0, (), rfl, Or.inl ⟨c_1, c_2, rfl⟩, by rw [ht]; exact hP, va_K.moved hW.alike hK, hD⟩, hS.F ht⟩) hS.2.2 dX13_isLetter_29
    · refine lv_iload_n hx hb dX13_isLetter_18 rfl (lv_at hl 0 rfl) ?_
      refine lv_bipush (v := 90) hx hb dX13_isLetter_19 (by decide) ?_
      refine lv_icmp_gt (tgt := 28) hx hb dX13_isLetter_21 (by decide) (fun c_3 => ?_) (fun c_3 => ?_)
      · refine lv_iconst (v := 0) hx hb dX13_isLetter_28 (by decide) ?_
        refine W.widen (k := 0) (n := 0) (by decide +kernel) (by decide +kernel) ?_
        exact W.zret (v := 0) hx hb hr (by first | rfl | decide) (fun t ht hW => ⟨⟨0, (), rfl, Or.inr (Or.inl ⟨c_1, c_2, c_3, rfl⟩), by rw [ht]; exact hP, va_K.moved hW.alike hK, hD⟩, hS.F ht⟩) hS.2.2 dX13_isLetter_29
      · refine lv_iconst (v := 1) hx hb dX13_isLetter_24 (by decide) ?_
        refine lv_goto (tgt := 29) hx hb dX13_isLetter_25 (by decide) ?_
        refine W.widen (k := 0) (n := 0) (by decide +kernel) (by decide +kernel) ?_
        exact W.zret (v := 1) hx hb hr (by first | rfl | decide) (fun t ht hW => ⟨⟨1, (), rfl, Or.inr (Or.inr (Or.inl ⟨c_1, c_2, c_3, rfl⟩)), by rw [ht]; exact hP, va_K.moved hW.alike hK, hD⟩, hS.F ht⟩) hS.2.2 dX13_isLetter_29
  · refine lv_iload_n hx hb dX13_isLetter_6 rfl (lv_at hl 0 rfl) ?_
    refine lv_bipush (v := 122) hx hb dX13_isLetter_7 (by decide) ?_
    refine lv_icmp_le (tgt := 24) hx hb dX13_isLetter_9 (by decide) (fun c_4 => ?_) (fun c_4 => ?_)
    · refine lv_iconst (v := 1) hx hb dX13_isLetter_24 (by decide) ?_
      refine lv_goto (tgt := 29) hx hb dX13_isLetter_25 (by decide) ?_
      refine W.widen (k := 0) (n := 0) (by decide +kernel) (by decide +kernel) ?_
      exact W.zret (v := 1) hx hb hr (by first | rfl | decide) (fun t ht hW => ⟨⟨1, (), rfl, Or.inr (Or.inr (Or.inr (Or.inl ⟨c_1, c_4, rfl⟩))), by rw [ht]; exact hP, va_K.moved hW.alike hK, hD⟩, hS.F ht⟩) hS.2.2 dX13_isLetter_29
    · refine lv_iload_n hx hb dX13_isLetter_12 rfl (lv_at hl 0 rfl) ?_
      refine lv_bipush (v := 65) hx hb dX13_isLetter_13 (by decide) ?_
      refine lv_icmp_lt (tgt := 28) hx hb dX13_isLetter_15 (by decide) (fun c_5 => ?_) (fun c_5 => ?_)
      · refine lv_iconst (v := 0) hx hb dX13_isLetter_28 (by decide) ?_
        refine W.widen (k := 0) (n := 0) (by decide +kernel) (by decide +kernel) ?_
        exact W.zret (v := 0) hx hb hr (by first | rfl | decide) (fun t ht hW => ⟨⟨0, (), rfl, Or.inr (Or.inr (Or.inr (Or.inr (Or.inl ⟨c_1, c_4, c_5, rfl⟩)))), by rw [ht]; exact hP, va_K.moved hW.alike hK, hD⟩, hS.F ht⟩) hS.2.2 dX13_isLetter_29
      · refine lv_iload_n hx hb dX13_isLetter_18 rfl (lv_at hl 0 rfl) ?_
        refine lv_bipush (v := 90) hx hb dX13_isLetter_19 (by decide) ?_
        refine lv_icmp_gt (tgt := 28) hx hb dX13_isLetter_21 (by decide) (fun c_6 => ?_) (fun c_6 => ?_)
        · refine lv_iconst (v := 0) hx hb dX13_isLetter_28 (by decide) ?_
          refine W.widen (k := 0) (n := 0) (by decide +kernel) (by decide +kernel) ?_
          exact W.zret (v := 0) hx hb hr (by first | rfl | decide) (fun t ht hW => ⟨⟨0, (), rfl, Or.inr (Or.inr (Or.inr (Or.inr (Or.inr (Or.inl ⟨c_1, c_4, c_5, c_6, rfl⟩))))), by rw [ht]; exact hP, va_K.moved hW.alike hK, hD⟩, hS.F ht⟩) hS.2.2 dX13_isLetter_29
        · refine lv_iconst (v := 1) hx hb dX13_isLetter_24 (by decide) ?_
          refine lv_goto (tgt := 29) hx hb dX13_isLetter_25 (by decide) ?_
          refine W.widen (k := 0) (n := 0) (by decide +kernel) (by decide +kernel) ?_
          exact W.zret (v := 1) hx hb hr (by first | rfl | decide) (fun t ht hW => ⟨⟨1, (), rfl, Or.inr (Or.inr (Or.inr (Or.inr (Or.inr (Or.inr (Or.inl ⟨c_1, c_4, c_5, c_6, rfl⟩)))))), by rw [ht]; exact hP, va_K.moved hW.alike hK, hD⟩, hS.F ht⟩) hS.2.2 dX13_isLetter_29
theorem cz_0 (x : Int32) (h0 : x < 48) (h1 : x < 97) (h2 : ¬ x < 65) (h3 : 90 < x) : False := by
  have i0 : (x.toInt < (48 : Int32).toInt) := Int32.lt_iff_toInt_lt.mp h0
  have i1 : (x.toInt < (97 : Int32).toInt) := Int32.lt_iff_toInt_lt.mp h1
  have i2 : ¬ (x.toInt < (65 : Int32).toInt) := (not_congr Int32.lt_iff_toInt_lt).mp h2
  have i3 : ((90 : Int32).toInt < x.toInt) := Int32.lt_iff_toInt_lt.mp h3
  have e0 : (48 : Int32).toInt = 48 := by decide
  have e1 : (65 : Int32).toInt = 65 := by decide
  have e2 : (90 : Int32).toInt = 90 := by decide
  have e3 : (97 : Int32).toInt = 97 := by decide
  omega
theorem cz_1 (x : Int32) (h0 : x < 48) (h1 : x < 97) (h2 : ¬ x < 65) (h3 : ¬ 90 < x) : False := by
  have i0 : (x.toInt < (48 : Int32).toInt) := Int32.lt_iff_toInt_lt.mp h0
  have i1 : (x.toInt < (97 : Int32).toInt) := Int32.lt_iff_toInt_lt.mp h1
  have i2 : ¬ (x.toInt < (65 : Int32).toInt) := (not_congr Int32.lt_iff_toInt_lt).mp h2
  have i3 : ¬ ((90 : Int32).toInt < x.toInt) := (not_congr Int32.lt_iff_toInt_lt).mp h3
  have e0 : (48 : Int32).toInt = 48 := by decide
  have e1 : (65 : Int32).toInt = 65 := by decide
  have e2 : (90 : Int32).toInt = 90 := by decide
  have e3 : (97 : Int32).toInt = 97 := by decide
  omega
theorem cz_2 (x : Int32) (h0 : x < 48) (h1 : ¬ x < 97) (h2 : x ≤ 122) : False := by
  have i0 : (x.toInt < (48 : Int32).toInt) := Int32.lt_iff_toInt_lt.mp h0
  have i1 : ¬ (x.toInt < (97 : Int32).toInt) := (not_congr Int32.lt_iff_toInt_lt).mp h1
  have i2 : (x.toInt ≤ (122 : Int32).toInt) := Int32.le_iff_toInt_le.mp h2
  have e0 : (48 : Int32).toInt = 48 := by decide
  have e1 : (97 : Int32).toInt = 97 := by decide
  have e2 : (122 : Int32).toInt = 122 := by decide
  omega
theorem cz_3 (x : Int32) (h0 : x < 48) (h1 : ¬ x < 97) (h2 : ¬ x ≤ 122) (h3 : x < 65) : False := by
  have i0 : (x.toInt < (48 : Int32).toInt) := Int32.lt_iff_toInt_lt.mp h0
  have i1 : ¬ (x.toInt < (97 : Int32).toInt) := (not_congr Int32.lt_iff_toInt_lt).mp h1
  have i2 : ¬ (x.toInt ≤ (122 : Int32).toInt) := (not_congr Int32.le_iff_toInt_le).mp h2
  have i3 : (x.toInt < (65 : Int32).toInt) := Int32.lt_iff_toInt_lt.mp h3
  have e0 : (48 : Int32).toInt = 48 := by decide
  have e1 : (65 : Int32).toInt = 65 := by decide
  have e2 : (97 : Int32).toInt = 97 := by decide
  have e3 : (122 : Int32).toInt = 122 := by decide
  omega
theorem cz_4 (x : Int32) (h0 : x < 48) (h1 : ¬ x < 97) (h2 : ¬ x ≤ 122) (h3 : ¬ x < 65) (h4 : 90 < x) : False := by
  have i0 : (x.toInt < (48 : Int32).toInt) := Int32.lt_iff_toInt_lt.mp h0
  have i1 : ¬ (x.toInt < (97 : Int32).toInt) := (not_congr Int32.lt_iff_toInt_lt).mp h1
  have i2 : ¬ (x.toInt ≤ (122 : Int32).toInt) := (not_congr Int32.le_iff_toInt_le).mp h2
  have i3 : ¬ (x.toInt < (65 : Int32).toInt) := (not_congr Int32.lt_iff_toInt_lt).mp h3
  have i4 : ((90 : Int32).toInt < x.toInt) := Int32.lt_iff_toInt_lt.mp h4
  have e0 : (48 : Int32).toInt = 48 := by decide
  have e1 : (65 : Int32).toInt = 65 := by decide
  have e2 : (90 : Int32).toInt = 90 := by decide
  have e3 : (97 : Int32).toInt = 97 := by decide
  have e4 : (122 : Int32).toInt = 122 := by decide
  omega
theorem cz_5 (x : Int32) (h0 : x < 48) (h1 : ¬ x < 97) (h2 : ¬ x ≤ 122) (h3 : ¬ x < 65) (h4 : ¬ 90 < x) : False := by
  have i0 : (x.toInt < (48 : Int32).toInt) := Int32.lt_iff_toInt_lt.mp h0
  have i1 : ¬ (x.toInt < (97 : Int32).toInt) := (not_congr Int32.lt_iff_toInt_lt).mp h1
  have i2 : ¬ (x.toInt ≤ (122 : Int32).toInt) := (not_congr Int32.le_iff_toInt_le).mp h2
  have i3 : ¬ (x.toInt < (65 : Int32).toInt) := (not_congr Int32.lt_iff_toInt_lt).mp h3
  have i4 : ¬ ((90 : Int32).toInt < x.toInt) := (not_congr Int32.lt_iff_toInt_lt).mp h4
  have e0 : (48 : Int32).toInt = 48 := by decide
  have e1 : (65 : Int32).toInt = 65 := by decide
  have e2 : (90 : Int32).toInt = 90 := by decide
  have e3 : (97 : Int32).toInt = 97 := by decide
  have e4 : (122 : Int32).toInt = 122 := by decide
  omega
theorem cz_6 (x : Int32) (h0 : ¬ x < 48) (h1 : 57 < x) (h2 : ¬ x < 97) (h3 : ¬ x ≤ 122) (h4 : x < 65) : False := by
  have i0 : ¬ (x.toInt < (48 : Int32).toInt) := (not_congr Int32.lt_iff_toInt_lt).mp h0
  have i1 : ((57 : Int32).toInt < x.toInt) := Int32.lt_iff_toInt_lt.mp h1
  have i2 : ¬ (x.toInt < (97 : Int32).toInt) := (not_congr Int32.lt_iff_toInt_lt).mp h2
  have i3 : ¬ (x.toInt ≤ (122 : Int32).toInt) := (not_congr Int32.le_iff_toInt_le).mp h3
  have i4 : (x.toInt < (65 : Int32).toInt) := Int32.lt_iff_toInt_lt.mp h4
  have e0 : (48 : Int32).toInt = 48 := by decide
  have e1 : (57 : Int32).toInt = 57 := by decide
  have e2 : (65 : Int32).toInt = 65 := by decide
  have e3 : (97 : Int32).toInt = 97 := by decide
  have e4 : (122 : Int32).toInt = 122 := by decide
  omega
theorem cz_7 (x : Int32) (h0 : ¬ x < 48) (h1 : 57 < x) (h2 : ¬ x < 97) (h3 : ¬ x ≤ 122) (h4 : ¬ x < 65) (h5 : ¬ 90 < x) : False := by
  have i0 : ¬ (x.toInt < (48 : Int32).toInt) := (not_congr Int32.lt_iff_toInt_lt).mp h0
  have i1 : ((57 : Int32).toInt < x.toInt) := Int32.lt_iff_toInt_lt.mp h1
  have i2 : ¬ (x.toInt < (97 : Int32).toInt) := (not_congr Int32.lt_iff_toInt_lt).mp h2
  have i3 : ¬ (x.toInt ≤ (122 : Int32).toInt) := (not_congr Int32.le_iff_toInt_le).mp h3
  have i4 : ¬ (x.toInt < (65 : Int32).toInt) := (not_congr Int32.lt_iff_toInt_lt).mp h4
  have i5 : ¬ ((90 : Int32).toInt < x.toInt) := (not_congr Int32.lt_iff_toInt_lt).mp h5
  have e0 : (48 : Int32).toInt = 48 := by decide
  have e1 : (57 : Int32).toInt = 57 := by decide
  have e2 : (65 : Int32).toInt = 65 := by decide
  have e3 : (90 : Int32).toInt = 90 := by decide
  have e4 : (97 : Int32).toInt = 97 := by decide
  have e5 : (122 : Int32).toInt = 122 := by decide
  omega
def ow_g_X13_isPlain : List Cond := .code yX13_isPlain cX13_isPlain 1 (some .boolean) :: ([.methodLink RX13 351 yX13_isDigit, .static yX13_isDigit, .initialized RX13, .methodLink RX13 355 yX13_isLetter, .static yX13_isLetter] ++ (ow_k_X13_isDigit ++ (ow_k_X13_isLetter ++ [])))
theorem gd_g_X13_isPlain : ∀ w ∈ ow_g_X13_isPlain, (w.onTables && w.keeps) = true ∨ ∃ ty, w = Cond.arrayClass ty := List.forall_mem_cons.mpr ⟨good_of_word rfl, List.forall_mem_append.mpr ⟨fun w h => good_of_word (List.all_eq_true.mp (by decide +kernel) w h), List.forall_mem_append.mpr ⟨gd_k_X13_isDigit, List.forall_mem_append.mpr ⟨gd_k_X13_isLetter, fun _ h => nomatch h⟩⟩⟩⟩
theorem gi_g_X13_isPlain_0 : GoodIn ow_g_X13_isPlain (wsS RX13 351 yX13_isDigit ow_k_X13_isDigit) := goodIn_app (goodIn_of _ (by decide +kernel)) (fun w h => ⟨List.mem_cons_of_mem _ (List.mem_append_right _ (List.mem_append_left _ h)), gd_k_X13_isDigit w h⟩)
theorem gi_g_X13_isPlain_1 : GoodIn ow_g_X13_isPlain (wsS RX13 355 yX13_isLetter ow_k_X13_isLetter) := goodIn_app (goodIn_of _ (by decide +kernel)) (fun w h => ⟨List.mem_cons_of_mem _ (List.mem_append_right _ (List.mem_append_right _ (List.mem_append_left _ h))), gd_k_X13_isLetter w h⟩)
