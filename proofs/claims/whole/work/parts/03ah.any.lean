set_option maxHeartbeats 40000000 in
set_option maxRecDepth 100000 in
theorem g_X4_expandedSecond (l : Launch) (hlt : l.stackTraces = false) (dC : Nat → ClassId) (dI : Nat → Nat → Nat) (v0 : Int32) (sz : Nat) : Met l yX4_expandedSecond ow_g_X4_expandedSecond ({ frames := 1, cells := 0, slots := 0, locals := 23 }) (va_Pc [.int v0] (fun U => U.heap.size = sz ∧ va_P (dC, dI) vwCl [] U.heap ∧ va_K (dC, dI) vwCl [] U ∧ va_D (fun _ => True) [] ∧ nv_E (va_A [] sz) U)) (va_Qi (fun r _ => ((((v0 : Int32) >>> ((13 : Int32) &&& 31)) = 0) ∧ r = (((((((((((((v0 : Int32) <<< ((19 : Int32) &&& 31)) : Int32) >>> ((31 : Int32) &&& 31)) : Int32) <<< ((5 : Int32) &&& 31)) ||| (((v0 : Int32) >>> ((2 : Int32) &&& 31)) &&& 31)) : Int32) <<< ((20 : Int32) &&& 31)) ||| (((((v0 : Int32) >>> ((7 : Int32) &&& 31)) &&& 31) : Int32) <<< ((15 : Int32) &&& 31))) ||| 0) ||| (((((v0 : Int32) >>> ((7 : Int32) &&& 31)) &&& 31) : Int32) <<< ((7 : Int32) &&& 31))) ||| 19)) ∨ ((¬ ((v0 : Int32) >>> ((13 : Int32) &&& 31)) = 0) ∧ (((v0 : Int32) >>> ((13 : Int32) &&& 31)) = 1) ∧ r = (239 ||| (((((((((((((((((v0 : Int32) <<< ((19 : Int32) &&& 31)) : Int32) >>> ((31 : Int32) &&& 31)) : Int32) <<< ((11 : Int32) &&& 31)) ||| (((v0 : Int32) >>> ((7 : Int32) &&& 31)) &&& 16)) ||| (((v0 : Int32) >>> ((1 : Int32) &&& 31)) &&& 768)) ||| (((v0 : Int32) <<< ((2 : Int32) &&& 31)) &&& 1024)) ||| (((v0 : Int32) >>> ((1 : Int32) &&& 31)) &&& 64)) ||| (((v0 : Int32) <<< ((1 : Int32) &&& 31)) &&& 128)) ||| (((v0 : Int32) >>> ((2 : Int32) &&& 31)) &&& 14)) ||| (((v0 : Int32) <<< ((3 : Int32) &&& 31)) &&& 32)) &&& (-2147483648)) ||| ((((((((((((((((v0 : Int32) <<< ((19 : Int32) &&& 31)) : Int32) >>> ((31 : Int32) &&& 31)) : Int32) <<< ((11 : Int32) &&& 31)) ||| (((v0 : Int32) >>> ((7 : Int32) &&& 31)) &&& 16)) ||| (((v0 : Int32) >>> ((1 : Int32) &&& 31)) &&& 768)) ||| (((v0 : Int32) <<< ((2 : Int32) &&& 31)) &&& 1024)) ||| (((v0 : Int32) >>> ((1 : Int32) &&& 31)) &&& 64)) ||| (((v0 : Int32) <<< ((1 : Int32) &&& 31)) &&& 128)) ||| (((v0 : Int32) >>> ((2 : Int32) &&& 31)) &&& 14)) ||| (((v0 : Int32) <<< ((3 : Int32) &&& 31)) &&& 32)) &&& 2046) : Int32) <<< ((20 : Int32) &&& 31))) ||| ((((((((((((((((v0 : Int32) <<< ((19 : Int32) &&& 31)) : Int32) >>> ((31 : Int32) &&& 31)) : Int32) <<< ((11 : Int32) &&& 31)) ||| (((v0 : Int32) >>> ((7 : Int32) &&& 31)) &&& 16)) ||| (((v0 : Int32) >>> ((1 : Int32) &&& 31)) &&& 768)) ||| (((v0 : Int32) <<< ((2 : Int32) &&& 31)) &&& 1024)) ||| (((v0 : Int32) >>> ((1 : Int32) &&& 31)) &&& 64)) ||| (((v0 : Int32) <<< ((1 : Int32) &&& 31)) &&& 128)) ||| (((v0 : Int32) >>> ((2 : Int32) &&& 31)) &&& 14)) ||| (((v0 : Int32) <<< ((3 : Int32) &&& 31)) &&& 32)) &&& 2048) : Int32) <<< ((9 : Int32) &&& 31))) ||| ((((((((((((((v0 : Int32) <<< ((19 : Int32) &&& 31)) : Int32) >>> ((31 : Int32) &&& 31)) : Int32) <<< ((11 : Int32) &&& 31)) ||| (((v0 : Int32) >>> ((7 : Int32) &&& 31)) &&& 16)) ||| (((v0 : Int32) >>> ((1 : Int32) &&& 31)) &&& 768)) ||| (((v0 : Int32) <<< ((2 : Int32) &&& 31)) &&& 1024)) ||| (((v0 : Int32) >>> ((1 : Int32) &&& 31)) &&& 64)) ||| (((v0 : Int32) <<< ((1 : Int32) &&& 31)) &&& 128)) ||| (((v0 : Int32) >>> ((2 : Int32) &&& 31)) &&& 14)) ||| (((v0 : Int32) <<< ((3 : Int32) &&& 31)) &&& 32)) &&& 1044480)))) ∨ ((¬ ((v0 : Int32) >>> ((13 : Int32) &&& 31)) = 0) ∧ (¬ ((v0 : Int32) >>> ((13 : Int32) &&& 31)) = 1) ∧ (((v0 : Int32) >>> ((13 : Int32) &&& 31)) = 2) ∧ r = (((((((((((((v0 : Int32) <<< ((19 : Int32) &&& 31)) : Int32) >>> ((31 : Int32) &&& 31)) : Int32) <<< ((5 : Int32) &&& 31)) ||| (((v0 : Int32) >>> ((2 : Int32) &&& 31)) &&& 31)) : Int32) <<< ((20 : Int32) &&& 31)) ||| 0) ||| 0) ||| (((((v0 : Int32) >>> ((7 : Int32) &&& 31)) &&& 31) : Int32) <<< ((7 : Int32) &&& 31))) ||| 19)) ∨ ((¬ ((v0 : Int32) >>> ((13 : Int32) &&& 31)) = 0) ∧ (¬ ((v0 : Int32) >>> ((13 : Int32) &&& 31)) = 1) ∧ (¬ ((v0 : Int32) >>> ((13 : Int32) &&& 31)) = 2) ∧ (((v0 : Int32) >>> ((13 : Int32) &&& 31)) = 3) ∧ ((((v0 : Int32) >>> ((7 : Int32) &&& 31)) &&& 31) = 2) ∧ (¬ ((((((((((v0 : Int32) <<< ((19 : Int32) &&& 31)) : Int32) >>> ((31 : Int32) &&& 31)) : Int32) <<< ((9 : Int32) &&& 31)) ||| (((v0 : Int32) >>> ((2 : Int32) &&& 31)) &&& 16)) ||| (((v0 : Int32) <<< ((1 : Int32) &&& 31)) &&& 64)) ||| (((v0 : Int32) <<< ((4 : Int32) &&& 31)) &&& 384)) ||| (((v0 : Int32) <<< ((3 : Int32) &&& 31)) &&& 32)) = 0) ∧ r = ((((((((((((((((v0 : Int32) <<< ((19 : Int32) &&& 31)) : Int32) >>> ((31 : Int32) &&& 31)) : Int32) <<< ((9 : Int32) &&& 31)) ||| (((v0 : Int32) >>> ((2 : Int32) &&& 31)) &&& 16)) ||| (((v0 : Int32) <<< ((1 : Int32) &&& 31)) &&& 64)) ||| (((v0 : Int32) <<< ((4 : Int32) &&& 31)) &&& 384)) ||| (((v0 : Int32) <<< ((3 : Int32) &&& 31)) &&& 32)) : Int32) <<< ((20 : Int32) &&& 31)) ||| 65536) ||| 0) ||| 256) ||| 19)) ∨ ((¬ ((v0 : Int32) >>> ((13 : Int32) &&& 31)) = 0) ∧ (¬ ((v0 : Int32) >>> ((13 : Int32) &&& 31)) = 1) ∧ (¬ ((v0 : Int32) >>> ((13 : Int32) &&& 31)) = 2) ∧ (((v0 : Int32) >>> ((13 : Int32) &&& 31)) = 3) ∧ ((((v0 : Int32) >>> ((7 : Int32) &&& 31)) &&& 31) = 2) ∧ (((((((((((v0 : Int32) <<< ((19 : Int32) &&& 31)) : Int32) >>> ((31 : Int32) &&& 31)) : Int32) <<< ((9 : Int32) &&& 31)) ||| (((v0 : Int32) >>> ((2 : Int32) &&& 31)) &&& 16)) ||| (((v0 : Int32) <<< ((1 : Int32) &&& 31)) &&& 64)) ||| (((v0 : Int32) <<< ((4 : Int32) &&& 31)) &&& 384)) ||| (((v0 : Int32) <<< ((3 : Int32) &&& 31)) &&& 32)) = 0) ∧ r = 0) ∨ ((¬ ((v0 : Int32) >>> ((13 : Int32) &&& 31)) = 0) ∧ (¬ ((v0 : Int32) >>> ((13 : Int32) &&& 31)) = 1) ∧ (¬ ((v0 : Int32) >>> ((13 : Int32) &&& 31)) = 2) ∧ (((v0 : Int32) >>> ((13 : Int32) &&& 31)) = 3) ∧ (¬ (((v0 : Int32) >>> ((7 : Int32) &&& 31)) &&& 31) = 2) ∧ (¬ (((((((v0 : Int32) <<< ((19 : Int32) &&& 31)) : Int32) >>> ((31 : Int32) &&& 31)) : Int32) <<< ((5 : Int32) &&& 31)) ||| (((v0 : Int32) >>> ((2 : Int32) &&& 31)) &&& 31)) = 0) ∧ r = (((((((((((v0 : Int32) <<< ((19 : Int32) &&& 31)) : Int32) >>> ((31 : Int32) &&& 31)) : Int32) <<< ((5 : Int32) &&& 31)) ||| (((v0 : Int32) >>> ((2 : Int32) &&& 31)) &&& 31)) : Int32) <<< ((12 : Int32) &&& 31)) ||| (((((v0 : Int32) >>> ((7 : Int32) &&& 31)) &&& 31) : Int32) <<< ((7 : Int32) &&& 31))) ||| 55)) ∨ ((¬ ((v0 : Int32) >>> ((13 : Int32) &&& 31)) = 0) ∧ (¬ ((v0 : Int32) >>> ((13 : Int32) &&& 31)) = 1) ∧ (¬ ((v0 : Int32) >>> ((13 : Int32) &&& 31)) = 2) ∧ (((v0 : Int32) >>> ((13 : Int32) &&& 31)) = 3) ∧ (¬ (((v0 : Int32) >>> ((7 : Int32) &&& 31)) &&& 31) = 2) ∧ ((((((((v0 : Int32) <<< ((19 : Int32) &&& 31)) : Int32) >>> ((31 : Int32) &&& 31)) : Int32) <<< ((5 : Int32) &&& 31)) ||| (((v0 : Int32) >>> ((2 : Int32) &&& 31)) &&& 31)) = 0) ∧ r = 0) ∨ ((¬ ((v0 : Int32) >>> ((13 : Int32) &&& 31)) = 0) ∧ (¬ ((v0 : Int32) >>> ((13 : Int32) &&& 31)) = 1) ∧ (¬ ((v0 : Int32) >>> ((13 : Int32) &&& 31)) = 2) ∧ (¬ ((v0 : Int32) >>> ((13 : Int32) &&& 31)) = 3) ∧ (((v0 : Int32) >>> ((13 : Int32) &&& 31)) = 4) ∧ r = (((99 ||| (((((v0 : Int32) >>> ((13 : Int32) &&& 31)) : Int32) <<< ((12 : Int32) &&& 31)) &&& 4096)) ||| (((8 + (((v0 : Int32) >>> ((7 : Int32) &&& 31)) &&& 7)) : Int32) <<< ((15 : Int32) &&& 31))) ||| ((((((((((((((v0 : Int32) <<< ((19 : Int32) &&& 31)) : Int32) >>> ((31 : Int32) &&& 31)) : Int32) <<< ((8 : Int32) &&& 31)) ||| (((v0 : Int32) >>> ((7 : Int32) &&& 31)) &&& 24)) ||| (((v0 : Int32) <<< ((1 : Int32) &&& 31)) &&& 192)) ||| (((v0 : Int32) >>> ((2 : Int32) &&& 31)) &&& 6)) ||| (((v0 : Int32) <<< ((3 : Int32) &&& 31)) &&& 32)) &&& (-2147483648)) ||| (((((((((((((v0 : Int32) <<< ((19 : Int32) &&& 31)) : Int32) >>> ((31 : Int32) &&& 31)) : Int32) <<< ((8 : Int32) &&& 31)) ||| (((v0 : Int32) >>> ((7 : Int32) &&& 31)) &&& 24)) ||| (((v0 : Int32) <<< ((1 : Int32) &&& 31)) &&& 192)) ||| (((v0 : Int32) >>> ((2 : Int32) &&& 31)) &&& 6)) ||| (((v0 : Int32) <<< ((3 : Int32) &&& 31)) &&& 32)) &&& 2016) : Int32) <<< ((20 : Int32) &&& 31))) ||| (((((((((((((v0 : Int32) <<< ((19 : Int32) &&& 31)) : Int32) >>> ((31 : Int32) &&& 31)) : Int32) <<< ((8 : Int32) &&& 31)) ||| (((v0 : Int32) >>> ((7 : Int32) &&& 31)) &&& 24)) ||| (((v0 : Int32) <<< ((1 : Int32) &&& 31)) &&& 192)) ||| (((v0 : Int32) >>> ((2 : Int32) &&& 31)) &&& 6)) ||| (((v0 : Int32) <<< ((3 : Int32) &&& 31)) &&& 32)) &&& 30) : Int32) <<< ((7 : Int32) &&& 31))) ||| (((((((((((((v0 : Int32) <<< ((19 : Int32) &&& 31)) : Int32) >>> ((31 : Int32) &&& 31)) : Int32) <<< ((8 : Int32) &&& 31)) ||| (((v0 : Int32) >>> ((7 : Int32) &&& 31)) &&& 24)) ||| (((v0 : Int32) <<< ((1 : Int32) &&& 31)) &&& 192)) ||| (((v0 : Int32) >>> ((2 : Int32) &&& 31)) &&& 6)) ||| (((v0 : Int32) <<< ((3 : Int32) &&& 31)) &&& 32)) &&& 2048) : Int32) >>> ((4 : Int32) &&& 31))))) ∨ ((¬ ((v0 : Int32) >>> ((13 : Int32) &&& 31)) = 0) ∧ (¬ ((v0 : Int32) >>> ((13 : Int32) &&& 31)) = 1) ∧ (¬ ((v0 : Int32) >>> ((13 : Int32) &&& 31)) = 2) ∧ (¬ ((v0 : Int32) >>> ((13 : Int32) &&& 31)) = 3) ∧ (¬ ((v0 : Int32) >>> ((13 : Int32) &&& 31)) = 4) ∧ (((v0 : Int32) >>> ((13 : Int32) &&& 31)) = 5) ∧ r = (111 ||| (((((((((((((((((v0 : Int32) <<< ((19 : Int32) &&& 31)) : Int32) >>> ((31 : Int32) &&& 31)) : Int32) <<< ((11 : Int32) &&& 31)) ||| (((v0 : Int32) >>> ((7 : Int32) &&& 31)) &&& 16)) ||| (((v0 : Int32) >>> ((1 : Int32) &&& 31)) &&& 768)) ||| (((v0 : Int32) <<< ((2 : Int32) &&& 31)) &&& 1024)) ||| (((v0 : Int32) >>> ((1 : Int32) &&& 31)) &&& 64)) ||| (((v0 : Int32) <<< ((1 : Int32) &&& 31)) &&& 128)) ||| (((v0 : Int32) >>> ((2 : Int32) &&& 31)) &&& 14)) ||| (((v0 : Int32) <<< ((3 : Int32) &&& 31)) &&& 32)) &&& (-2147483648)) ||| ((((((((((((((((v0 : Int32) <<< ((19 : Int32) &&& 31)) : Int32) >>> ((31 : Int32) &&& 31)) : Int32) <<< ((11 : Int32) &&& 31)) ||| (((v0 : Int32) >>> ((7 : Int32) &&& 31)) &&& 16)) ||| (((v0 : Int32) >>> ((1 : Int32) &&& 31)) &&& 768)) ||| (((v0 : Int32) <<< ((2 : Int32) &&& 31)) &&& 1024)) ||| (((v0 : Int32) >>> ((1 : Int32) &&& 31)) &&& 64)) ||| (((v0 : Int32) <<< ((1 : Int32) &&& 31)) &&& 128)) ||| (((v0 : Int32) >>> ((2 : Int32) &&& 31)) &&& 14)) ||| (((v0 : Int32) <<< ((3 : Int32) &&& 31)) &&& 32)) &&& 2046) : Int32) <<< ((20 : Int32) &&& 31))) ||| ((((((((((((((((v0 : Int32) <<< ((19 : Int32) &&& 31)) : Int32) >>> ((31 : Int32) &&& 31)) : Int32) <<< ((11 : Int32) &&& 31)) ||| (((v0 : Int32) >>> ((7 : Int32) &&& 31)) &&& 16)) ||| (((v0 : Int32) >>> ((1 : Int32) &&& 31)) &&& 768)) ||| (((v0 : Int32) <<< ((2 : Int32) &&& 31)) &&& 1024)) ||| (((v0 : Int32) >>> ((1 : Int32) &&& 31)) &&& 64)) ||| (((v0 : Int32) <<< ((1 : Int32) &&& 31)) &&& 128)) ||| (((v0 : Int32) >>> ((2 : Int32) &&& 31)) &&& 14)) ||| (((v0 : Int32) <<< ((3 : Int32) &&& 31)) &&& 32)) &&& 2048) : Int32) <<< ((9 : Int32) &&& 31))) ||| ((((((((((((((v0 : Int32) <<< ((19 : Int32) &&& 31)) : Int32) >>> ((31 : Int32) &&& 31)) : Int32) <<< ((11 : Int32) &&& 31)) ||| (((v0 : Int32) >>> ((7 : Int32) &&& 31)) &&& 16)) ||| (((v0 : Int32) >>> ((1 : Int32) &&& 31)) &&& 768)) ||| (((v0 : Int32) <<< ((2 : Int32) &&& 31)) &&& 1024)) ||| (((v0 : Int32) >>> ((1 : Int32) &&& 31)) &&& 64)) ||| (((v0 : Int32) <<< ((1 : Int32) &&& 31)) &&& 128)) ||| (((v0 : Int32) >>> ((2 : Int32) &&& 31)) &&& 14)) ||| (((v0 : Int32) <<< ((3 : Int32) &&& 31)) &&& 32)) &&& 1044480)))) ∨ ((¬ ((v0 : Int32) >>> ((13 : Int32) &&& 31)) = 0) ∧ (¬ ((v0 : Int32) >>> ((13 : Int32) &&& 31)) = 1) ∧ (¬ ((v0 : Int32) >>> ((13 : Int32) &&& 31)) = 2) ∧ (¬ ((v0 : Int32) >>> ((13 : Int32) &&& 31)) = 3) ∧ (¬ ((v0 : Int32) >>> ((13 : Int32) &&& 31)) = 4) ∧ (¬ ((v0 : Int32) >>> ((13 : Int32) &&& 31)) = 5) ∧ r = (((99 ||| (((((v0 : Int32) >>> ((13 : Int32) &&& 31)) : Int32) <<< ((12 : Int32) &&& 31)) &&& 4096)) ||| (((8 + (((v0 : Int32) >>> ((7 : Int32) &&& 31)) &&& 7)) : Int32) <<< ((15 : Int32) &&& 31))) ||| ((((((((((((((v0 : Int32) <<< ((19 : Int32) &&& 31)) : Int32) >>> ((31 : Int32) &&& 31)) : Int32) <<< ((8 : Int32) &&& 31)) ||| (((v0 : Int32) >>> ((7 : Int32) &&& 31)) &&& 24)) ||| (((v0 : Int32) <<< ((1 : Int32) &&& 31)) &&& 192)) ||| (((v0 : Int32) >>> ((2 : Int32) &&& 31)) &&& 6)) ||| (((v0 : Int32) <<< ((3 : Int32) &&& 31)) &&& 32)) &&& (-2147483648)) ||| (((((((((((((v0 : Int32) <<< ((19 : Int32) &&& 31)) : Int32) >>> ((31 : Int32) &&& 31)) : Int32) <<< ((8 : Int32) &&& 31)) ||| (((v0 : Int32) >>> ((7 : Int32) &&& 31)) &&& 24)) ||| (((v0 : Int32) <<< ((1 : Int32) &&& 31)) &&& 192)) ||| (((v0 : Int32) >>> ((2 : Int32) &&& 31)) &&& 6)) ||| (((v0 : Int32) <<< ((3 : Int32) &&& 31)) &&& 32)) &&& 2016) : Int32) <<< ((20 : Int32) &&& 31))) ||| (((((((((((((v0 : Int32) <<< ((19 : Int32) &&& 31)) : Int32) >>> ((31 : Int32) &&& 31)) : Int32) <<< ((8 : Int32) &&& 31)) ||| (((v0 : Int32) >>> ((7 : Int32) &&& 31)) &&& 24)) ||| (((v0 : Int32) <<< ((1 : Int32) &&& 31)) &&& 192)) ||| (((v0 : Int32) >>> ((2 : Int32) &&& 31)) &&& 6)) ||| (((v0 : Int32) <<< ((3 : Int32) &&& 31)) &&& 32)) &&& 30) : Int32) <<< ((7 : Int32) &&& 31))) ||| (((((((((((((v0 : Int32) <<< ((19 : Int32) &&& 31)) : Int32) >>> ((31 : Int32) &&& 31)) : Int32) <<< ((8 : Int32) &&& 31)) ||| (((v0 : Int32) >>> ((7 : Int32) &&& 31)) &&& 24)) ||| (((v0 : Int32) <<< ((1 : Int32) &&& 31)) &&& 192)) ||| (((v0 : Int32) >>> ((2 : Int32) &&& 31)) &&& 6)) ||| (((v0 : Int32) <<< ((3 : Int32) &&& 31)) &&& 32)) &&& 2048) : Int32) >>> ((4 : Int32) &&& 31))))) ∨ False) (fun (_ : Unit) t => va_P (dC, dI) vwCl [] t.heap ∧ va_K (dC, dI) vwCl [] t ∧ va_D (va_A [] sz) []) (va_A [] sz)) 0 0 (va_A [] sz) := by
  refine Met.ofW (cc := cX4_expandedSecond) (maxL := 6) (ret := (some .int)) (by decide) rfl ?_
  intro p e s m args below meth c s₁ B hml hv
  obtain ⟨rfl, hsz, hP, hK, hD0, hN⟩ := hv
  have hx := B.exec
  have hb := B.bytes
  have hr := B.returns
  have hts := atoms_spec (ws := ow_g_X4_expandedSecond) B.pre
  have hown : s.vm.findClass RX4 = some m.cls := findClass_of_methodNamed B.named
  have hlocks := B.notSynchronized
  subst hsz
  have hD := hD0.self (sz := s.heap.size)
  generalize hAe : va_A [] s.heap.size = A at hD hN ⊢
  have hA : ∀ q : Nat, s.heap.size ≤ q → A q := fun q h => by rw [← hAe]; exact Or.inr h
  have hS : va_S A s.heap s.heap [] := va_S.rf
  have hl := lv_entry ([.int v0]) (n := 6) (Nat.le_of_ble_eq_true rfl)
  rw [lg_entry_eq]
  generalize (lg_sl ([.int v0]) ++ List.replicate (6 - (lg_sl ([.int v0])).length) Slot.unset).toArray = ls at hl ⊢
  have hl : lv_has ls 6 [(0, .int v0)] := hl
  refine lv_iload_n hx hb dX4_expandedSecond_0 rfl (lv_at hl 0 rfl) ?_
  refine lv_bipush (v := 7) hx hb dX4_expandedSecond_1 (by decide) ?_
  refine lv_ishr hx hb dX4_expandedSecond_3 ?_
  refine lv_bipush (v := 31) hx hb dX4_expandedSecond_4 (by decide) ?_
  refine lv_iand hx hb dX4_expandedSecond_6 ?_
  refine lv_istore_n (lv' := [(1, .int (((v0 : Int32) >>> ((7 : Int32) &&& 31)) &&& 31)), (0, .int v0)]) hx hb dX4_expandedSecond_7 rfl hl (by decide) rfl (fun ls hl => ?_)
  refine lv_iload_n hx hb dX4_expandedSecond_8 rfl (lv_at hl 1 rfl) ?_
  have hPc := hP.sub (ws' := []) [] rfl
  have hDc := hD.sub (ws' := []) [] (by decide) rfl
  have hKc := hK.sub (tys' := []) [] rfl
  have hFc := va_free (wc := []) hD hS hA [] rfl
  refine va_calli (va_runS (As := [.int v0]) (rest := []) ⟨hx, hb, hml, hown, hts⟩ (k_X4_signedNumber l hlt dC dI v0  s.heap.size) (cwS 1 hts gi_g_X4_expandedSecond_0 rfl rfl rfl (by decide +kernel) ⟨Nat.le_of_ble_eq_true rfl, Nat.le_of_ble_eq_true rfl⟩) ⟨fun a U g mk q => by obtain ⟨q0, q1, qP, qK, qD, qN⟩ := q; exact ⟨q0, q1, qP, va_K.moved (u := U) (U := U.calling g mk a) (Vm.Alike.refl U.vm) qK, qD, nv_same rfl rfl qN⟩, fun U hU hW => ⟨rfl, by rw [hU], by rw [hU]; exact hPc, va_K.moved hW.alike hKc, hDc.weaken (fun _ _ _ _ => trivial), nv_call hS hFc hU hW hN⟩⟩ rfl rfl hl.1 rfl (lv_room (Nat.le_of_ble_eq_true rfl)) dX4_expandedSecond_9 ⟨by decide +kernel, by decide +kernel⟩) hS (fun q _ h => hFc q h) hFc (fun r1 u t H1 locs ht hvm hw hB hz1 hk1 hS => ?_)
  obtain ⟨hP1, hK1, hD1⟩ := hB
  rw [ht] at hP1
  have hK1 := va_K.moved hvm.symm hK1
  obtain ⟨hP, hD⟩ := va_join (wr := []) (w1 := []) hP hD [] [] rfl rfl (by decide) (by decide) hk1 hFc hP1 hD1
  have hK := (hK.sub (tys' := []) [] rfl).app hK1
  generalize H1 = H at hP hS ⊢
  have hP : va_P (dC, dI) vwCl [] H := hP
  have hD : va_D A [] := hD
  have hK : va_K (dC, dI) vwCl [] s := hK
  refine W.widen (k := 0) (n := 0) (by decide +kernel) (by decide +kernel) ?_
  rcases hw with h9 | h9
  · subst h9
    refine lv_istore_n (lv' := [(2, .int (((((((v0 : Int32) <<< ((19 : Int32) &&& 31)) : Int32) >>> ((31 : Int32) &&& 31)) : Int32) <<< ((5 : Int32) &&& 31)) ||| (((v0 : Int32) >>> ((2 : Int32) &&& 31)) &&& 31))), (1, .int (((v0 : Int32) >>> ((7 : Int32) &&& 31)) &&& 31)), (0, .int v0)]) hx hb dX4_expandedSecond_12 rfl hl (by decide) rfl (fun ls hl => ?_)
    refine lv_iload_n hx hb dX4_expandedSecond_13 rfl (lv_at hl 2 rfl) ?_
    refine lv_bipush (v := 13) hx hb dX4_expandedSecond_14 (by decide) ?_
    refine lv_ishr hx hb dX4_expandedSecond_16 ?_
    by_cases c_2 : ((v0 : Int32) >>> ((13 : Int32) &&& 31)) = 0
    · refine lv_tableIn (off := 39) (tgt := 56) hx hb dX4_expandedSecond_17 (by rw [c_2]; decide) (by rw [c_2]; decide) (by rw [c_2]; decide) (by decide) ?_
      refine lv_iload_n hx hb dX4_expandedSecond_56 rfl (lv_at hl 0 rfl) ?_
      refine lv_iload_n hx hb dX4_expandedSecond_57 rfl (lv_at hl 1 rfl) ?_
      refine lv_iconst (v := 0) hx hb dX4_expandedSecond_58 (by decide) ?_
      refine lv_iload_n hx hb dX4_expandedSecond_59 rfl (lv_at hl 1 rfl) ?_
      have hPc := hP.sub (ws' := []) [] rfl
      have hDc := hD.sub (ws' := []) [] (by decide) rfl
      have hKc := hK.sub (tys' := []) [] rfl
      have hFc := va_free (wc := []) hD hS hA [] rfl
      refine va_calli (va_runS (As := [.int (((((((v0 : Int32) <<< ((19 : Int32) &&& 31)) : Int32) >>> ((31 : Int32) &&& 31)) : Int32) <<< ((5 : Int32) &&& 31)) ||| (((v0 : Int32) >>> ((2 : Int32) &&& 31)) &&& 31)), .int (((v0 : Int32) >>> ((7 : Int32) &&& 31)) &&& 31), .int 0, .int (((v0 : Int32) >>> ((7 : Int32) &&& 31)) &&& 31)]) (rest := []) ⟨hx, hb, hml, hown, hts⟩ (k_X4_number_v4 l hlt dC dI (((((((v0 : Int32) <<< ((19 : Int32) &&& 31)) : Int32) >>> ((31 : Int32) &&& 31)) : Int32) <<< ((5 : Int32) &&& 31)) ||| (((v0 : Int32) >>> ((2 : Int32) &&& 31)) &&& 31)) (((v0 : Int32) >>> ((7 : Int32) &&& 31)) &&& 31) (((v0 : Int32) >>> ((7 : Int32) &&& 31)) &&& 31)  H.size) (cwS 4 hts gi_g_X4_expandedSecond_1 rfl rfl rfl (by decide +kernel) ⟨Nat.le_of_ble_eq_true rfl, Nat.le_of_ble_eq_true rfl⟩) ⟨fun a U g mk q => by obtain ⟨q0, q1, qP, qK, qD, qN⟩ := q; exact ⟨q0, q1, qP, va_K.moved (u := U) (U := U.calling g mk a) (Vm.Alike.refl U.vm) qK, qD, nv_same rfl rfl qN⟩, fun U hU hW => ⟨rfl, by rw [hU], by rw [hU]; exact hPc, va_K.moved hW.alike hKc, hDc.weaken (fun _ _ _ _ => trivial), nv_call hS hFc hU hW hN⟩⟩ rfl rfl hl.1 rfl (lv_room (Nat.le_of_ble_eq_true rfl)) dX4_expandedSecond_60 ⟨by decide +kernel, by decide +kernel⟩) hS (fun q _ h => hFc q h) hFc (fun r5 u t H1 locs ht hvm hw hB hz1 hk1 hS => ?_)
      obtain ⟨hP1, hK1, hD1⟩ := hB
      rw [ht] at hP1
      have hK1 := va_K.moved hvm.symm hK1
      obtain ⟨hP, hD⟩ := va_join (wr := []) (w1 := []) hP hD [] [] rfl rfl (by decide) (by decide) hk1 hFc hP1 hD1
      have hK := (hK.sub (tys' := []) [] rfl).app hK1
      generalize H1 = H at hP hS ⊢
      have hP : va_P (dC, dI) vwCl [] H := hP
      have hD : va_D A [] := hD
      have hK : va_K (dC, dI) vwCl [] s := hK
      refine W.widen (k := 0) (n := 0) (by decide +kernel) (by decide +kernel) ?_
      rcases hw with h9 | h9
      · subst h9
        refine W.widen (k := 0) (n := 0) (by decide +kernel) (by decide +kernel) ?_
        exact W.iret (v := (((((((((((((v0 : Int32) <<< ((19 : Int32) &&& 31)) : Int32) >>> ((31 : Int32) &&& 31)) : Int32) <<< ((5 : Int32) &&& 31)) ||| (((v0 : Int32) >>> ((2 : Int32) &&& 31)) &&& 31)) : Int32) <<< ((20 : Int32) &&& 31)) ||| (((((v0 : Int32) >>> ((7 : Int32) &&& 31)) &&& 31) : Int32) <<< ((15 : Int32) &&& 31))) ||| 0) ||| (((((v0 : Int32) >>> ((7 : Int32) &&& 31)) &&& 31) : Int32) <<< ((7 : Int32) &&& 31))) ||| 19)) hx hb hr (fun t ht hW => ⟨⟨(((((((((((((v0 : Int32) <<< ((19 : Int32) &&& 31)) : Int32) >>> ((31 : Int32) &&& 31)) : Int32) <<< ((5 : Int32) &&& 31)) ||| (((v0 : Int32) >>> ((2 : Int32) &&& 31)) &&& 31)) : Int32) <<< ((20 : Int32) &&& 31)) ||| (((((v0 : Int32) >>> ((7 : Int32) &&& 31)) &&& 31) : Int32) <<< ((15 : Int32) &&& 31))) ||| 0) ||| (((((v0 : Int32) >>> ((7 : Int32) &&& 31)) &&& 31) : Int32) <<< ((7 : Int32) &&& 31))) ||| 19), (), rfl, Or.inl ⟨c_2, rfl⟩, by rw [ht]; exact hP, va_K.moved hW.alike hK, hD⟩, hS.F ht⟩) hS.2.2 dX4_expandedSecond_63
      · exact h9.elim
    by_cases c_4 : ((v0 : Int32) >>> ((13 : Int32) &&& 31)) = 1
    · refine lv_tableIn (off := 47) (tgt := 64) hx hb dX4_expandedSecond_17 (by rw [c_4]; decide) (by rw [c_4]; decide) (by rw [c_4]; decide) (by decide) ?_
      refine lv_iload_n hx hb dX4_expandedSecond_64 rfl (lv_at hl 2 rfl) ?_
      refine lv_bipush (v := 19) hx hb dX4_expandedSecond_65 (by decide) ?_
      refine lv_ishl hx hb dX4_expandedSecond_67 ?_
      refine lv_bipush (v := 31) hx hb dX4_expandedSecond_68 (by decide) ?_
      refine lv_ishr hx hb dX4_expandedSecond_70 ?_
      refine lv_bipush (v := 11) hx hb dX4_expandedSecond_71 (by decide) ?_
      refine lv_ishl hx hb dX4_expandedSecond_73 ?_
      refine lv_iload_n hx hb dX4_expandedSecond_74 rfl (lv_at hl 2 rfl) ?_
      refine lv_bipush (v := 7) hx hb dX4_expandedSecond_75 (by decide) ?_
      refine lv_ishr hx hb dX4_expandedSecond_77 ?_
      refine lv_bipush (v := 16) hx hb dX4_expandedSecond_78 (by decide) ?_
      refine lv_iand hx hb dX4_expandedSecond_80 ?_
      refine lv_ior hx hb dX4_expandedSecond_81 ?_
      refine lv_iload_n hx hb dX4_expandedSecond_82 rfl (lv_at hl 2 rfl) ?_
      refine lv_iconst (v := 1) hx hb dX4_expandedSecond_83 (by decide) ?_
      refine lv_ishr hx hb dX4_expandedSecond_84 ?_
      refine lv_sipush (v := 768) hx hb dX4_expandedSecond_85 (by decide) ?_
      refine lv_iand hx hb dX4_expandedSecond_88 ?_
      refine lv_ior hx hb dX4_expandedSecond_89 ?_
      refine lv_iload_n hx hb dX4_expandedSecond_90 rfl (lv_at hl 2 rfl) ?_
      refine lv_iconst (v := 2) hx hb dX4_expandedSecond_91 (by decide) ?_
      refine lv_ishl hx hb dX4_expandedSecond_92 ?_
      refine lv_sipush (v := 1024) hx hb dX4_expandedSecond_93 (by decide) ?_
      refine lv_iand hx hb dX4_expandedSecond_96 ?_
      refine lv_ior hx hb dX4_expandedSecond_97 ?_
      refine lv_iload_n hx hb dX4_expandedSecond_98 rfl (lv_at hl 2 rfl) ?_
      refine lv_iconst (v := 1) hx hb dX4_expandedSecond_99 (by decide) ?_
      refine lv_ishr hx hb dX4_expandedSecond_100 ?_
      refine lv_bipush (v := 64) hx hb dX4_expandedSecond_101 (by decide) ?_
      refine lv_iand hx hb dX4_expandedSecond_103 ?_
      refine lv_ior hx hb dX4_expandedSecond_104 ?_
      refine lv_iload_n hx hb dX4_expandedSecond_105 rfl (lv_at hl 2 rfl) ?_
      refine lv_iconst (v := 1) hx hb dX4_expandedSecond_106 (by decide) ?_
      refine lv_ishl hx hb dX4_expandedSecond_107 ?_
      refine lv_sipush (v := 128) hx hb dX4_expandedSecond_108 (by decide) ?_
      refine lv_iand hx hb dX4_expandedSecond_111 ?_
      refine lv_ior hx hb dX4_expandedSecond_112 ?_
      refine lv_iload_n hx hb dX4_expandedSecond_113 rfl (lv_at hl 2 rfl) ?_
      refine lv_iconst (v := 2) hx hb dX4_expandedSecond_114 (by decide) ?_
      refine lv_ishr hx hb dX4_expandedSecond_115 ?_
      refine lv_bipush (v := 14) hx hb dX4_expandedSecond_116 (by decide) ?_
      refine lv_iand hx hb dX4_expandedSecond_118 ?_
      refine lv_ior hx hb dX4_expandedSecond_119 ?_
      refine lv_iload_n hx hb dX4_expandedSecond_120 rfl (lv_at hl 2 rfl) ?_
      refine lv_iconst (v := 3) hx hb dX4_expandedSecond_121 (by decide) ?_
      refine lv_ishl hx hb dX4_expandedSecond_122 ?_
      refine lv_bipush (v := 32) hx hb dX4_expandedSecond_123 (by decide) ?_
      refine lv_iand hx hb dX4_expandedSecond_125 ?_
      refine lv_ior hx hb dX4_expandedSecond_126 ?_
      refine lv_istore_n (lv' := [(3, .int (((((((((((((v0 : Int32) <<< ((19 : Int32) &&& 31)) : Int32) >>> ((31 : Int32) &&& 31)) : Int32) <<< ((11 : Int32) &&& 31)) ||| (((v0 : Int32) >>> ((7 : Int32) &&& 31)) &&& 16)) ||| (((v0 : Int32) >>> ((1 : Int32) &&& 31)) &&& 768)) ||| (((v0 : Int32) <<< ((2 : Int32) &&& 31)) &&& 1024)) ||| (((v0 : Int32) >>> ((1 : Int32) &&& 31)) &&& 64)) ||| (((v0 : Int32) <<< ((1 : Int32) &&& 31)) &&& 128)) ||| (((v0 : Int32) >>> ((2 : Int32) &&& 31)) &&& 14)) ||| (((v0 : Int32) <<< ((3 : Int32) &&& 31)) &&& 32))), (2, .int (((((((v0 : Int32) <<< ((19 : Int32) &&& 31)) : Int32) >>> ((31 : Int32) &&& 31)) : Int32) <<< ((5 : Int32) &&& 31)) ||| (((v0 : Int32) >>> ((2 : Int32) &&& 31)) &&& 31))), (1, .int (((v0 : Int32) >>> ((7 : Int32) &&& 31)) &&& 31)), (0, .int v0)]) hx hb dX4_expandedSecond_127 rfl hl (by decide) rfl (fun ls hl => ?_)
      refine lv_bipush (v := 111) hx hb dX4_expandedSecond_128 (by decide) ?_
      refine lv_iload_n hx hb dX4_expandedSecond_130 rfl (lv_at hl 3 rfl) ?_
      refine lv_bipush (v := 13) hx hb dX4_expandedSecond_131 (by decide) ?_
      refine lv_ishr hx hb dX4_expandedSecond_133 ?_
      refine lv_iconst (v := 1) hx hb dX4_expandedSecond_134 (by decide) ?_
      refine lv_icmp_ne (tgt := 144) hx hb dX4_expandedSecond_135 (by decide) (fun h9 => absurd c_4 h9) (fun _ => ?_)
      refine lv_sipush (v := 128) hx hb dX4_expandedSecond_138 (by decide) ?_
      refine lv_goto (tgt := 145) hx hb dX4_expandedSecond_141 (by decide) ?_
      refine lv_ior hx hb dX4_expandedSecond_145 ?_
      refine lv_topi (fun z6 ez6 => ?_)
      obtain rfl : z6 = 239 := ez6.trans (by decide)
      refine lv_iload_n hx hb dX4_expandedSecond_146 rfl (lv_at hl 0 rfl) ?_
      have hPc := hP.sub (ws' := []) [] rfl
      have hDc := hD.sub (ws' := []) [] (by decide) rfl
      have hKc := hK.sub (tys' := []) [] rfl
      have hFc := va_free (wc := []) hD hS hA [] rfl
      refine va_calli (va_runS (As := [.int (((((((((((((v0 : Int32) <<< ((19 : Int32) &&& 31)) : Int32) >>> ((31 : Int32) &&& 31)) : Int32) <<< ((11 : Int32) &&& 31)) ||| (((v0 : Int32) >>> ((7 : Int32) &&& 31)) &&& 16)) ||| (((v0 : Int32) >>> ((1 : Int32) &&& 31)) &&& 768)) ||| (((v0 : Int32) <<< ((2 : Int32) &&& 31)) &&& 1024)) ||| (((v0 : Int32) >>> ((1 : Int32) &&& 31)) &&& 64)) ||| (((v0 : Int32) <<< ((1 : Int32) &&& 31)) &&& 128)) ||| (((v0 : Int32) >>> ((2 : Int32) &&& 31)) &&& 14)) ||| (((v0 : Int32) <<< ((3 : Int32) &&& 31)) &&& 32))]) (rest := [.int 239]) ⟨hx, hb, hml, hown, hts⟩ (k_X4_jumping l hlt dC dI (((((((((((((v0 : Int32) <<< ((19 : Int32) &&& 31)) : Int32) >>> ((31 : Int32) &&& 31)) : Int32) <<< ((11 : Int32) &&& 31)) ||| (((v0 : Int32) >>> ((7 : Int32) &&& 31)) &&& 16)) ||| (((v0 : Int32) >>> ((1 : Int32) &&& 31)) &&& 768)) ||| (((v0 : Int32) <<< ((2 : Int32) &&& 31)) &&& 1024)) ||| (((v0 : Int32) >>> ((1 : Int32) &&& 31)) &&& 64)) ||| (((v0 : Int32) <<< ((1 : Int32) &&& 31)) &&& 128)) ||| (((v0 : Int32) >>> ((2 : Int32) &&& 31)) &&& 14)) ||| (((v0 : Int32) <<< ((3 : Int32) &&& 31)) &&& 32))  H.size) (cwS 1 hts gi_g_X4_expandedSecond_2 rfl rfl rfl (by decide +kernel) ⟨Nat.le_of_ble_eq_true rfl, Nat.le_of_ble_eq_true rfl⟩) ⟨fun a U g mk q => by obtain ⟨q0, q1, qP, qK, qD, qN⟩ := q; exact ⟨q0, q1, qP, va_K.moved (u := U) (U := U.calling g mk a) (Vm.Alike.refl U.vm) qK, qD, nv_same rfl rfl qN⟩, fun U hU hW => ⟨rfl, by rw [hU], by rw [hU]; exact hPc, va_K.moved hW.alike hKc, hDc.weaken (fun _ _ _ _ => trivial), nv_call hS hFc hU hW hN⟩⟩ rfl rfl hl.1 rfl (lv_room (Nat.le_of_ble_eq_true rfl)) dX4_expandedSecond_147 ⟨by decide +kernel, by decide +kernel⟩) hS (fun q _ h => hFc q h) hFc (fun r8 u t H1 locs ht hvm hw hB hz1 hk1 hS => ?_)
      obtain ⟨hP1, hK1, hD1⟩ := hB
      rw [ht] at hP1
      have hK1 := va_K.moved hvm.symm hK1
      obtain ⟨hP, hD⟩ := va_join (wr := []) (w1 := []) hP hD [] [] rfl rfl (by decide) (by decide) hk1 hFc hP1 hD1
      have hK := (hK.sub (tys' := []) [] rfl).app hK1
      generalize H1 = H at hP hS ⊢
      have hP : va_P (dC, dI) vwCl [] H := hP
      have hD : va_D A [] := hD
      have hK : va_K (dC, dI) vwCl [] s := hK
      refine W.widen (k := 0) (n := 0) (by decide +kernel) (by decide +kernel) ?_
      rcases hw with h9 | h9
      · subst h9
        refine lv_ior hx hb dX4_expandedSecond_150 ?_
        refine W.widen (k := 0) (n := 0) (by decide +kernel) (by decide +kernel) ?_
        exact W.iret (v := (239 ||| (((((((((((((((((v0 : Int32) <<< ((19 : Int32) &&& 31)) : Int32) >>> ((31 : Int32) &&& 31)) : Int32) <<< ((11 : Int32) &&& 31)) ||| (((v0 : Int32) >>> ((7 : Int32) &&& 31)) &&& 16)) ||| (((v0 : Int32) >>> ((1 : Int32) &&& 31)) &&& 768)) ||| (((v0 : Int32) <<< ((2 : Int32) &&& 31)) &&& 1024)) ||| (((v0 : Int32) >>> ((1 : Int32) &&& 31)) &&& 64)) ||| (((v0 : Int32) <<< ((1 : Int32) &&& 31)) &&& 128)) ||| (((v0 : Int32) >>> ((2 : Int32) &&& 31)) &&& 14)) ||| (((v0 : Int32) <<< ((3 : Int32) &&& 31)) &&& 32)) &&& (-2147483648)) ||| ((((((((((((((((v0 : Int32) <<< ((19 : Int32) &&& 31)) : Int32) >>> ((31 : Int32) &&& 31)) : Int32) <<< ((11 : Int32) &&& 31)) ||| (((v0 : Int32) >>> ((7 : Int32) &&& 31)) &&& 16)) ||| (((v0 : Int32) >>> ((1 : Int32) &&& 31)) &&& 768)) ||| (((v0 : Int32) <<< ((2 : Int32) &&& 31)) &&& 1024)) ||| (((v0 : Int32) >>> ((1 : Int32) &&& 31)) &&& 64)) ||| (((v0 : Int32) <<< ((1 : Int32) &&& 31)) &&& 128)) ||| (((v0 : Int32) >>> ((2 : Int32) &&& 31)) &&& 14)) ||| (((v0 : Int32) <<< ((3 : Int32) &&& 31)) &&& 32)) &&& 2046) : Int32) <<< ((20 : Int32) &&& 31))) ||| ((((((((((((((((v0 : Int32) <<< ((19 : Int32) &&& 31)) : Int32) >>> ((31 : Int32) &&& 31)) : Int32) <<< ((11 : Int32) &&& 31)) ||| (((v0 : Int32) >>> ((7 : Int32) &&& 31)) &&& 16)) ||| (((v0 : Int32) >>> ((1 : Int32) &&& 31)) &&& 768)) ||| (((v0 : Int32) <<< ((2 : Int32) &&& 31)) &&& 1024)) ||| (((v0 : Int32) >>> ((1 : Int32) &&& 31)) &&& 64)) ||| (((v0 : Int32) <<< ((1 : Int32) &&& 31)) &&& 128)) ||| (((v0 : Int32) >>> ((2 : Int32) &&& 31)) &&& 14)) ||| (((v0 : Int32) <<< ((3 : Int32) &&& 31)) &&& 32)) &&& 2048) : Int32) <<< ((9 : Int32) &&& 31))) ||| ((((((((((((((v0 : Int32) <<< ((19 : Int32) &&& 31)) : Int32) >>> ((31 : Int32) &&& 31)) : Int32) <<< ((11 : Int32) &&& 31)) ||| (((v0 : Int32) >>> ((7 : Int32) &&& 31)) &&& 16)) ||| (((v0 : Int32) >>> ((1 : Int32) &&& 31)) &&& 768)) ||| (((v0 : Int32) <<< ((2 : Int32) &&& 31)) &&& 1024)) ||| (((v0 : Int32) >>> ((1 : Int32) &&& 31)) &&& 64)) ||| (((v0 : Int32) <<< ((1 : Int32) &&& 31)) &&& 128)) ||| (((v0 : Int32) >>> ((2 : Int32) &&& 31)) &&& 14)) ||| (((v0 : Int32) <<< ((3 : Int32) &&& 31)) &&& 32)) &&& 1044480)))) hx hb hr (fun t ht hW => ⟨⟨(239 ||| (((((((((((((((((v0 : Int32) <<< ((19 : Int32) &&& 31)) : Int32) >>> ((31 : Int32) &&& 31)) : Int32) <<< ((11 : Int32) &&& 31)) ||| (((v0 : Int32) >>> ((7 : Int32) &&& 31)) &&& 16)) ||| (((v0 : Int32) >>> ((1 : Int32) &&& 31)) &&& 768)) ||| (((v0 : Int32) <<< ((2 : Int32) &&& 31)) &&& 1024)) ||| (((v0 : Int32) >>> ((1 : Int32) &&& 31)) &&& 64)) ||| (((v0 : Int32) <<< ((1 : Int32) &&& 31)) &&& 128)) ||| (((v0 : Int32) >>> ((2 : Int32) &&& 31)) &&& 14)) ||| (((v0 : Int32) <<< ((3 : Int32) &&& 31)) &&& 32)) &&& (-2147483648)) ||| ((((((((((((((((v0 : Int32) <<< ((19 : Int32) &&& 31)) : Int32) >>> ((31 : Int32) &&& 31)) : Int32) <<< ((11 : Int32) &&& 31)) ||| (((v0 : Int32) >>> ((7 : Int32) &&& 31)) &&& 16)) ||| (((v0 : Int32) >>> ((1 : Int32) &&& 31)) &&& 768)) ||| (((v0 : Int32) <<< ((2 : Int32) &&& 31)) &&& 1024)) ||| (((v0 : Int32) >>> ((1 : Int32) &&& 31)) &&& 64)) ||| (((v0 : Int32) <<< ((1 : Int32) &&& 31)) &&& 128)) ||| (((v0 : Int32) >>> ((2 : Int32) &&& 31)) &&& 14)) ||| (((v0 : Int32) <<< ((3 : Int32) &&& 31)) &&& 32)) &&& 2046) : Int32) <<< ((20 : Int32) &&& 31))) ||| ((((((((((((((((v0 : Int32) <<< ((19 : Int32) &&& 31)) : Int32) >>> ((31 : Int32) &&& 31)) : Int32) <<< ((11 : Int32) &&& 31)) ||| (((v0 : Int32) >>> ((7 : Int32) &&& 31)) &&& 16)) ||| (((v0 : Int32) >>> ((1 : Int32) &&& 31)) &&& 768)) ||| (((v0 : Int32) <<< ((2 : Int32) &&& 31)) &&& 1024)) ||| (((v0 : Int32) >>> ((1 : Int32) &&& 31)) &&& 64)) ||| (((v0 : Int32) <<< ((1 : Int32) &&& 31)) &&& 128)) ||| (((v0 : Int32) >>> ((2 : Int32) &&& 31)) &&& 14)) ||| (((v0 : Int32) <<< ((3 : Int32) &&& 31)) &&& 32)) &&& 2048) : Int32) <<< ((9 : Int32) &&& 31))) ||| ((((((((((((((v0 : Int32) <<< ((19 : Int32) &&& 31)) : Int32) >>> ((31 : Int32) &&& 31)) : Int32) <<< ((11 : Int32) &&& 31)) ||| (((v0 : Int32) >>> ((7 : Int32) &&& 31)) &&& 16)) ||| (((v0 : Int32) >>> ((1 : Int32) &&& 31)) &&& 768)) ||| (((v0 : Int32) <<< ((2 : Int32) &&& 31)) &&& 1024)) ||| (((v0 : Int32) >>> ((1 : Int32) &&& 31)) &&& 64)) ||| (((v0 : Int32) <<< ((1 : Int32) &&& 31)) &&& 128)) ||| (((v0 : Int32) >>> ((2 : Int32) &&& 31)) &&& 14)) ||| (((v0 : Int32) <<< ((3 : Int32) &&& 31)) &&& 32)) &&& 1044480))), (), rfl, Or.inr (Or.inl ⟨c_2, c_4, rfl⟩), by rw [ht]; exact hP, va_K.moved hW.alike hK, hD⟩, hS.F ht⟩) hS.2.2 dX4_expandedSecond_151
      · exact h9.elim
    by_cases c_7 : ((v0 : Int32) >>> ((13 : Int32) &&& 31)) = 2
    · refine lv_tableIn (off := 135) (tgt := 152) hx hb dX4_expandedSecond_17 (by rw [c_7]; decide) (by rw [c_7]; decide) (by rw [c_7]; decide) (by decide) ?_
      refine lv_iload_n hx hb dX4_expandedSecond_152 rfl (lv_at hl 0 rfl) ?_
      refine lv_iconst (v := 0) hx hb dX4_expandedSecond_153 (by decide) ?_
      refine lv_iconst (v := 0) hx hb dX4_expandedSecond_154 (by decide) ?_
      refine lv_iload_n hx hb dX4_expandedSecond_155 rfl (lv_at hl 1 rfl) ?_
      have hPc := hP.sub (ws' := []) [] rfl
      have hDc := hD.sub (ws' := []) [] (by decide) rfl
      have hKc := hK.sub (tys' := []) [] rfl
      have hFc := va_free (wc := []) hD hS hA [] rfl
      refine va_calli (va_runS (As := [.int (((((((v0 : Int32) <<< ((19 : Int32) &&& 31)) : Int32) >>> ((31 : Int32) &&& 31)) : Int32) <<< ((5 : Int32) &&& 31)) ||| (((v0 : Int32) >>> ((2 : Int32) &&& 31)) &&& 31)), .int 0, .int 0, .int (((v0 : Int32) >>> ((7 : Int32) &&& 31)) &&& 31)]) (rest := []) ⟨hx, hb, hml, hown, hts⟩ (k_X4_number_v5 l hlt dC dI (((((((v0 : Int32) <<< ((19 : Int32) &&& 31)) : Int32) >>> ((31 : Int32) &&& 31)) : Int32) <<< ((5 : Int32) &&& 31)) ||| (((v0 : Int32) >>> ((2 : Int32) &&& 31)) &&& 31)) (((v0 : Int32) >>> ((7 : Int32) &&& 31)) &&& 31)  H.size) (cwS 4 hts gi_g_X4_expandedSecond_3 rfl rfl rfl (by decide +kernel) ⟨Nat.le_of_ble_eq_true rfl, Nat.le_of_ble_eq_true rfl⟩) ⟨fun a U g mk q => by obtain ⟨q0, q1, qP, qK, qD, qN⟩ := q; exact ⟨q0, q1, qP, va_K.moved (u := U) (U := U.calling g mk a) (Vm.Alike.refl U.vm) qK, qD, nv_same rfl rfl qN⟩, fun U hU hW => ⟨rfl, by rw [hU], by rw [hU]; exact hPc, va_K.moved hW.alike hKc, hDc.weaken (fun _ _ _ _ => trivial), nv_call hS hFc hU hW hN⟩⟩ rfl rfl hl.1 rfl (lv_room (Nat.le_of_ble_eq_true rfl)) dX4_expandedSecond_156 ⟨by decide +kernel, by decide +kernel⟩) hS (fun q _ h => hFc q h) hFc (fun r11 u t H1 locs ht hvm hw hB hz1 hk1 hS => ?_)
      obtain ⟨hP1, hK1, hD1⟩ := hB
      rw [ht] at hP1
      have hK1 := va_K.moved hvm.symm hK1
      obtain ⟨hP, hD⟩ := va_join (wr := []) (w1 := []) hP hD [] [] rfl rfl (by decide) (by decide) hk1 hFc hP1 hD1
      have hK := (hK.sub (tys' := []) [] rfl).app hK1
      generalize H1 = H at hP hS ⊢
      have hP : va_P (dC, dI) vwCl [] H := hP
      have hD : va_D A [] := hD
      have hK : va_K (dC, dI) vwCl [] s := hK
      refine W.widen (k := 0) (n := 0) (by decide +kernel) (by decide +kernel) ?_
      rcases hw with h9 | h9
      · subst h9
        refine W.widen (k := 0) (n := 0) (by decide +kernel) (by decide +kernel) ?_
        exact W.iret (v := (((((((((((((v0 : Int32) <<< ((19 : Int32) &&& 31)) : Int32) >>> ((31 : Int32) &&& 31)) : Int32) <<< ((5 : Int32) &&& 31)) ||| (((v0 : Int32) >>> ((2 : Int32) &&& 31)) &&& 31)) : Int32) <<< ((20 : Int32) &&& 31)) ||| 0) ||| 0) ||| (((((v0 : Int32) >>> ((7 : Int32) &&& 31)) &&& 31) : Int32) <<< ((7 : Int32) &&& 31))) ||| 19)) hx hb hr (fun t ht hW => ⟨⟨(((((((((((((v0 : Int32) <<< ((19 : Int32) &&& 31)) : Int32) >>> ((31 : Int32) &&& 31)) : Int32) <<< ((5 : Int32) &&& 31)) ||| (((v0 : Int32) >>> ((2 : Int32) &&& 31)) &&& 31)) : Int32) <<< ((20 : Int32) &&& 31)) ||| 0) ||| 0) ||| (((((v0 : Int32) >>> ((7 : Int32) &&& 31)) &&& 31) : Int32) <<< ((7 : Int32) &&& 31))) ||| 19), (), rfl, Or.inr (Or.inr (Or.inl ⟨c_2, c_4, c_7, rfl⟩)), by rw [ht]; exact hP, va_K.moved hW.alike hK, hD⟩, hS.F ht⟩) hS.2.2 dX4_expandedSecond_159
      · exact h9.elim
    by_cases c_9 : ((v0 : Int32) >>> ((13 : Int32) &&& 31)) = 3
    · refine lv_tableIn (off := 143) (tgt := 160) hx hb dX4_expandedSecond_17 (by rw [c_9]; decide) (by rw [c_9]; decide) (by rw [c_9]; decide) (by decide) ?_
      refine lv_iload_n hx hb dX4_expandedSecond_160 rfl (lv_at hl 1 rfl) ?_
      refine lv_iconst (v := 2) hx hb dX4_expandedSecond_161 (by decide) ?_
      refine lv_icmp_eq (tgt := 186) hx hb dX4_expandedSecond_162 (by decide) (fun c_10 => ?_) (fun c_10 => ?_)
      · refine lv_iload_n hx hb dX4_expandedSecond_186 rfl (lv_at hl 2 rfl) ?_
        refine lv_bipush (v := 19) hx hb dX4_expandedSecond_187 (by decide) ?_
        refine lv_ishl hx hb dX4_expandedSecond_189 ?_
        refine lv_bipush (v := 31) hx hb dX4_expandedSecond_190 (by decide) ?_
        refine lv_ishr hx hb dX4_expandedSecond_192 ?_
        refine lv_bipush (v := 9) hx hb dX4_expandedSecond_193 (by decide) ?_
        refine lv_ishl hx hb dX4_expandedSecond_195 ?_
        refine lv_iload_n hx hb dX4_expandedSecond_196 rfl (lv_at hl 2 rfl) ?_
        refine lv_iconst (v := 2) hx hb dX4_expandedSecond_197 (by decide) ?_
        refine lv_ishr hx hb dX4_expandedSecond_198 ?_
        refine lv_bipush (v := 16) hx hb dX4_expandedSecond_199 (by decide) ?_
        refine lv_iand hx hb dX4_expandedSecond_201 ?_
        refine lv_ior hx hb dX4_expandedSecond_202 ?_
        refine lv_iload_n hx hb dX4_expandedSecond_203 rfl (lv_at hl 2 rfl) ?_
        refine lv_iconst (v := 1) hx hb dX4_expandedSecond_204 (by decide) ?_
        refine lv_ishl hx hb dX4_expandedSecond_205 ?_
        refine lv_bipush (v := 64) hx hb dX4_expandedSecond_206 (by decide) ?_
        refine lv_iand hx hb dX4_expandedSecond_208 ?_
        refine lv_ior hx hb dX4_expandedSecond_209 ?_
        refine lv_iload_n hx hb dX4_expandedSecond_210 rfl (lv_at hl 2 rfl) ?_
        refine lv_iconst (v := 4) hx hb dX4_expandedSecond_211 (by decide) ?_
        refine lv_ishl hx hb dX4_expandedSecond_212 ?_
        refine lv_sipush (v := 384) hx hb dX4_expandedSecond_213 (by decide) ?_
        refine lv_iand hx hb dX4_expandedSecond_216 ?_
        refine lv_ior hx hb dX4_expandedSecond_217 ?_
        refine lv_iload_n hx hb dX4_expandedSecond_218 rfl (lv_at hl 2 rfl) ?_
        refine lv_iconst (v := 3) hx hb dX4_expandedSecond_219 (by decide) ?_
        refine lv_ishl hx hb dX4_expandedSecond_220 ?_
        refine lv_bipush (v := 32) hx hb dX4_expandedSecond_221 (by decide) ?_
        refine lv_iand hx hb dX4_expandedSecond_223 ?_
        refine lv_ior hx hb dX4_expandedSecond_224 ?_
        refine lv_istore (lv' := [(4, .int ((((((((((v0 : Int32) <<< ((19 : Int32) &&& 31)) : Int32) >>> ((31 : Int32) &&& 31)) : Int32) <<< ((9 : Int32) &&& 31)) ||| (((v0 : Int32) >>> ((2 : Int32) &&& 31)) &&& 16)) ||| (((v0 : Int32) <<< ((1 : Int32) &&& 31)) &&& 64)) ||| (((v0 : Int32) <<< ((4 : Int32) &&& 31)) &&& 384)) ||| (((v0 : Int32) <<< ((3 : Int32) &&& 31)) &&& 32))), (2, .int (((((((v0 : Int32) <<< ((19 : Int32) &&& 31)) : Int32) >>> ((31 : Int32) &&& 31)) : Int32) <<< ((5 : Int32) &&& 31)) ||| (((v0 : Int32) >>> ((2 : Int32) &&& 31)) &&& 31))), (1, .int (((v0 : Int32) >>> ((7 : Int32) &&& 31)) &&& 31)), (0, .int v0)]) hx hb dX4_expandedSecond_225 hl (by decide) rfl (fun ls hl => ?_)
        refine lv_iload hx hb dX4_expandedSecond_227 (lv_at hl 0 rfl) ?_
        refine lv_if_ne (tgt := 236) hx hb dX4_expandedSecond_229 (by decide) (fun c_11 => ?_) (fun c_11 => ?_)
        · refine lv_iload hx hb dX4_expandedSecond_236 (lv_at hl 0 rfl) ?_
          refine lv_iconst (v := 2) hx hb dX4_expandedSecond_238 (by decide) ?_
          refine lv_iconst (v := 0) hx hb dX4_expandedSecond_239 (by decide) ?_
          refine lv_iconst (v := 2) hx hb dX4_expandedSecond_240 (by decide) ?_
          have hPc := hP.sub (ws' := []) [] rfl
          have hDc := hD.sub (ws' := []) [] (by decide) rfl
          have hKc := hK.sub (tys' := []) [] rfl
          have hFc := va_free (wc := []) hD hS hA [] rfl
          refine va_calli (va_runS (As := [.int ((((((((((v0 : Int32) <<< ((19 : Int32) &&& 31)) : Int32) >>> ((31 : Int32) &&& 31)) : Int32) <<< ((9 : Int32) &&& 31)) ||| (((v0 : Int32) >>> ((2 : Int32) &&& 31)) &&& 16)) ||| (((v0 : Int32) <<< ((1 : Int32) &&& 31)) &&& 64)) ||| (((v0 : Int32) <<< ((4 : Int32) &&& 31)) &&& 384)) ||| (((v0 : Int32) <<< ((3 : Int32) &&& 31)) &&& 32)), .int 2, .int 0, .int 2]) (rest := []) ⟨hx, hb, hml, hown, hts⟩ (k_X4_number_v6 l hlt dC dI ((((((((((v0 : Int32) <<< ((19 : Int32) &&& 31)) : Int32) >>> ((31 : Int32) &&& 31)) : Int32) <<< ((9 : Int32) &&& 31)) ||| (((v0 : Int32) >>> ((2 : Int32) &&& 31)) &&& 16)) ||| (((v0 : Int32) <<< ((1 : Int32) &&& 31)) &&& 64)) ||| (((v0 : Int32) <<< ((4 : Int32) &&& 31)) &&& 384)) ||| (((v0 : Int32) <<< ((3 : Int32) &&& 31)) &&& 32))  H.size) (cwS 4 hts gi_g_X4_expandedSecond_4 rfl rfl rfl (by decide +kernel) ⟨Nat.le_of_ble_eq_true rfl, Nat.le_of_ble_eq_true rfl⟩) ⟨fun a U g mk q => by obtain ⟨q0, q1, qP, qK, qD, qN⟩ := q; exact ⟨q0, q1, qP, va_K.moved (u := U) (U := U.calling g mk a) (Vm.Alike.refl U.vm) qK, qD, nv_same rfl rfl qN⟩, fun U hU hW => ⟨rfl, by rw [hU], by rw [hU]; exact hPc, va_K.moved hW.alike hKc, hDc.weaken (fun _ _ _ _ => trivial), nv_call hS hFc hU hW hN⟩⟩ rfl rfl hl.1 rfl (lv_room (Nat.le_of_ble_eq_true rfl)) dX4_expandedSecond_241 ⟨by decide +kernel, by decide +kernel⟩) hS (fun q _ h => hFc q h) hFc (fun r13 u t H1 locs ht hvm hw hB hz1 hk1 hS => ?_)
          obtain ⟨hP1, hK1, hD1⟩ := hB
          rw [ht] at hP1
          have hK1 := va_K.moved hvm.symm hK1
          obtain ⟨hP, hD⟩ := va_join (wr := []) (w1 := []) hP hD [] [] rfl rfl (by decide) (by decide) hk1 hFc hP1 hD1
          have hK := (hK.sub (tys' := []) [] rfl).app hK1
          generalize H1 = H at hP hS ⊢
          have hP : va_P (dC, dI) vwCl [] H := hP
          have hD : va_D A [] := hD
          have hK : va_K (dC, dI) vwCl [] s := hK
          refine W.widen (k := 0) (n := 0) (by decide +kernel) (by decide +kernel) ?_
          rcases hw with h9 | h9
          · subst h9
            refine W.widen (k := 0) (n := 0) (by decide +kernel) (by decide +kernel) ?_
            exact W.iret (v := ((((((((((((((((v0 : Int32) <<< ((19 : Int32) &&& 31)) : Int32) >>> ((31 : Int32) &&& 31)) : Int32) <<< ((9 : Int32) &&& 31)) ||| (((v0 : Int32) >>> ((2 : Int32) &&& 31)) &&& 16)) ||| (((v0 : Int32) <<< ((1 : Int32) &&& 31)) &&& 64)) ||| (((v0 : Int32) <<< ((4 : Int32) &&& 31)) &&& 384)) ||| (((v0 : Int32) <<< ((3 : Int32) &&& 31)) &&& 32)) : Int32) <<< ((20 : Int32) &&& 31)) ||| 65536) ||| 0) ||| 256) ||| 19)) hx hb hr (fun t ht hW => ⟨⟨((((((((((((((((v0 : Int32) <<< ((19 : Int32) &&& 31)) : Int32) >>> ((31 : Int32) &&& 31)) : Int32) <<< ((9 : Int32) &&& 31)) ||| (((v0 : Int32) >>> ((2 : Int32) &&& 31)) &&& 16)) ||| (((v0 : Int32) <<< ((1 : Int32) &&& 31)) &&& 64)) ||| (((v0 : Int32) <<< ((4 : Int32) &&& 31)) &&& 384)) ||| (((v0 : Int32) <<< ((3 : Int32) &&& 31)) &&& 32)) : Int32) <<< ((20 : Int32) &&& 31)) ||| 65536) ||| 0) ||| 256) ||| 19), (), rfl, Or.inr (Or.inr (Or.inr (Or.inl ⟨c_2, c_4, c_7, c_9, c_10, c_11, rfl⟩))), by rw [ht]; exact hP, va_K.moved hW.alike hK, hD⟩, hS.F ht⟩) hS.2.2 dX4_expandedSecond_244
          · exact h9.elim
        · refine lv_iconst (v := 0) hx hb dX4_expandedSecond_232 (by decide) ?_
          refine lv_goto (tgt := 244) hx hb dX4_expandedSecond_233 (by decide) ?_
          refine W.widen (k := 0) (n := 0) (by decide +kernel) (by decide +kernel) ?_
          exact W.iret (v := 0) hx hb hr (fun t ht hW => ⟨⟨0, (), rfl, Or.inr (Or.inr (Or.inr (Or.inr (Or.inl ⟨c_2, c_4, c_7, c_9, c_10, c_11, rfl⟩)))), by rw [ht]; exact hP, va_K.moved hW.alike hK, hD⟩, hS.F ht⟩) hS.2.2 dX4_expandedSecond_244
      · refine lv_iload_n hx hb dX4_expandedSecond_165 rfl (lv_at hl 0 rfl) ?_
        refine lv_if_ne (tgt := 173) hx hb dX4_expandedSecond_166 (by decide) (fun c_13 => ?_) (fun c_13 => ?_)
        · refine lv_iload_n hx hb dX4_expandedSecond_173 rfl (lv_at hl 0 rfl) ?_
          refine lv_bipush (v := 12) hx hb dX4_expandedSecond_174 (by decide) ?_
          refine lv_ishl hx hb dX4_expandedSecond_176 ?_
          refine lv_iload_n hx hb dX4_expandedSecond_177 rfl (lv_at hl 1 rfl) ?_
          refine lv_bipush (v := 7) hx hb dX4_expandedSecond_178 (by decide) ?_
          refine lv_ishl hx hb dX4_expandedSecond_180 ?_
          refine lv_ior hx hb dX4_expandedSecond_181 ?_
          refine lv_bipush (v := 55) hx hb dX4_expandedSecond_182 (by decide) ?_
          refine lv_ior hx hb dX4_expandedSecond_184 ?_
          refine W.widen (k := 0) (n := 0) (by decide +kernel) (by decide +kernel) ?_
          exact W.iret (v := (((((((((((v0 : Int32) <<< ((19 : Int32) &&& 31)) : Int32) >>> ((31 : Int32) &&& 31)) : Int32) <<< ((5 : Int32) &&& 31)) ||| (((v0 : Int32) >>> ((2 : Int32) &&& 31)) &&& 31)) : Int32) <<< ((12 : Int32) &&& 31)) ||| (((((v0 : Int32) >>> ((7 : Int32) &&& 31)) &&& 31) : Int32) <<< ((7 : Int32) &&& 31))) ||| 55)) hx hb hr (fun t ht hW => ⟨⟨(((((((((((v0 : Int32) <<< ((19 : Int32) &&& 31)) : Int32) >>> ((31 : Int32) &&& 31)) : Int32) <<< ((5 : Int32) &&& 31)) ||| (((v0 : Int32) >>> ((2 : Int32) &&& 31)) &&& 31)) : Int32) <<< ((12 : Int32) &&& 31)) ||| (((((v0 : Int32) >>> ((7 : Int32) &&& 31)) &&& 31) : Int32) <<< ((7 : Int32) &&& 31))) ||| 55), (), rfl, Or.inr (Or.inr (Or.inr (Or.inr (Or.inr (Or.inl ⟨c_2, c_4, c_7, c_9, c_10, c_13, rfl⟩))))), by rw [ht]; exact hP, va_K.moved hW.alike hK, hD⟩, hS.F ht⟩) hS.2.2 dX4_expandedSecond_185
        · refine lv_iconst (v := 0) hx hb dX4_expandedSecond_169 (by decide) ?_
          refine lv_goto (tgt := 185) hx hb dX4_expandedSecond_170 (by decide) ?_
          refine W.widen (k := 0) (n := 0) (by decide +kernel) (by decide +kernel) ?_
          exact W.iret (v := 0) hx hb hr (fun t ht hW => ⟨⟨0, (), rfl, Or.inr (Or.inr (Or.inr (Or.inr (Or.inr (Or.inr (Or.inl ⟨c_2, c_4, c_7, c_9, c_10, c_13, rfl⟩)))))), by rw [ht]; exact hP, va_K.moved hW.alike hK, hD⟩, hS.F ht⟩) hS.2.2 dX4_expandedSecond_185
    by_cases c_14 : ((v0 : Int32) >>> ((13 : Int32) &&& 31)) = 4
    · refine lv_tableIn (off := 228) (tgt := 245) hx hb dX4_expandedSecond_17 (by rw [c_14]; decide) (by rw [c_14]; decide) (by rw [c_14]; decide) (by decide) ?_
      refine lv_iload_n hx hb dX4_expandedSecond_245 rfl (lv_at hl 2 rfl) ?_
      refine lv_bipush (v := 19) hx hb dX4_expandedSecond_246 (by decide) ?_
      refine lv_ishl hx hb dX4_expandedSecond_248 ?_
      refine lv_bipush (v := 31) hx hb dX4_expandedSecond_249 (by decide) ?_
      refine lv_ishr hx hb dX4_expandedSecond_251 ?_
      refine lv_bipush (v := 8) hx hb dX4_expandedSecond_252 (by decide) ?_
      refine lv_ishl hx hb dX4_expandedSecond_254 ?_
      refine lv_iload_n hx hb dX4_expandedSecond_255 rfl (lv_at hl 2 rfl) ?_
      refine lv_bipush (v := 7) hx hb dX4_expandedSecond_256 (by decide) ?_
      refine lv_ishr hx hb dX4_expandedSecond_258 ?_
      refine lv_bipush (v := 24) hx hb dX4_expandedSecond_259 (by decide) ?_
      refine lv_iand hx hb dX4_expandedSecond_261 ?_
      refine lv_ior hx hb dX4_expandedSecond_262 ?_
      refine lv_iload_n hx hb dX4_expandedSecond_263 rfl (lv_at hl 2 rfl) ?_
      refine lv_iconst (v := 1) hx hb dX4_expandedSecond_264 (by decide) ?_
      refine lv_ishl hx hb dX4_expandedSecond_265 ?_
      refine lv_sipush (v := 192) hx hb dX4_expandedSecond_266 (by decide) ?_
      refine lv_iand hx hb dX4_expandedSecond_269 ?_
      refine lv_ior hx hb dX4_expandedSecond_270 ?_
      refine lv_iload_n hx hb dX4_expandedSecond_271 rfl (lv_at hl 2 rfl) ?_
      refine lv_iconst (v := 2) hx hb dX4_expandedSecond_272 (by decide) ?_
      refine lv_ishr hx hb dX4_expandedSecond_273 ?_
      refine lv_bipush (v := 6) hx hb dX4_expandedSecond_274 (by decide) ?_
      refine lv_iand hx hb dX4_expandedSecond_276 ?_
      refine lv_ior hx hb dX4_expandedSecond_277 ?_
      refine lv_iload_n hx hb dX4_expandedSecond_278 rfl (lv_at hl 2 rfl) ?_
      refine lv_iconst (v := 3) hx hb dX4_expandedSecond_279 (by decide) ?_
      refine lv_ishl hx hb dX4_expandedSecond_280 ?_
      refine lv_bipush (v := 32) hx hb dX4_expandedSecond_281 (by decide) ?_
      refine lv_iand hx hb dX4_expandedSecond_283 ?_
      refine lv_ior hx hb dX4_expandedSecond_284 ?_
      refine lv_istore (lv' := [(5, .int ((((((((((v0 : Int32) <<< ((19 : Int32) &&& 31)) : Int32) >>> ((31 : Int32) &&& 31)) : Int32) <<< ((8 : Int32) &&& 31)) ||| (((v0 : Int32) >>> ((7 : Int32) &&& 31)) &&& 24)) ||| (((v0 : Int32) <<< ((1 : Int32) &&& 31)) &&& 192)) ||| (((v0 : Int32) >>> ((2 : Int32) &&& 31)) &&& 6)) ||| (((v0 : Int32) <<< ((3 : Int32) &&& 31)) &&& 32))), (2, .int (((((((v0 : Int32) <<< ((19 : Int32) &&& 31)) : Int32) >>> ((31 : Int32) &&& 31)) : Int32) <<< ((5 : Int32) &&& 31)) ||| (((v0 : Int32) >>> ((2 : Int32) &&& 31)) &&& 31))), (1, .int (((v0 : Int32) >>> ((7 : Int32) &&& 31)) &&& 31)), (0, .int v0)]) hx hb dX4_expandedSecond_285 hl (by decide) rfl (fun ls hl => ?_)
      refine lv_bipush (v := 99) hx hb dX4_expandedSecond_287 (by decide) ?_
      refine lv_iload_n hx hb dX4_expandedSecond_289 rfl (lv_at hl 3 rfl) ?_
      refine lv_bipush (v := 13) hx hb dX4_expandedSecond_290 (by decide) ?_
      refine lv_ishr hx hb dX4_expandedSecond_292 ?_
      refine lv_bipush (v := 12) hx hb dX4_expandedSecond_293 (by decide) ?_
      refine lv_ishl hx hb dX4_expandedSecond_295 ?_
      refine lv_sipush (v := 4096) hx hb dX4_expandedSecond_296 (by decide) ?_
      refine lv_iand hx hb dX4_expandedSecond_299 ?_
      refine lv_ior hx hb dX4_expandedSecond_300 ?_
      refine lv_bipush (v := 8) hx hb dX4_expandedSecond_301 (by decide) ?_
      refine lv_iload_n hx hb dX4_expandedSecond_303 rfl (lv_at hl 3 rfl) ?_
      refine lv_bipush (v := 7) hx hb dX4_expandedSecond_304 (by decide) ?_
      refine lv_ishr hx hb dX4_expandedSecond_306 ?_
      refine lv_bipush (v := 7) hx hb dX4_expandedSecond_307 (by decide) ?_
      refine lv_iand hx hb dX4_expandedSecond_309 ?_
      refine lv_iadd hx hb dX4_expandedSecond_310 ?_
      refine lv_bipush (v := 15) hx hb dX4_expandedSecond_311 (by decide) ?_
      refine lv_ishl hx hb dX4_expandedSecond_313 ?_
      refine lv_ior hx hb dX4_expandedSecond_314 ?_
      refine lv_iload hx hb dX4_expandedSecond_315 (lv_at hl 0 rfl) ?_
      have hPc := hP.sub (ws' := []) [] rfl
      have hDc := hD.sub (ws' := []) [] (by decide) rfl
      have hKc := hK.sub (tys' := []) [] rfl
      have hFc := va_free (wc := []) hD hS hA [] rfl
      refine va_calli (va_runS (As := [.int ((((((((((v0 : Int32) <<< ((19 : Int32) &&& 31)) : Int32) >>> ((31 : Int32) &&& 31)) : Int32) <<< ((8 : Int32) &&& 31)) ||| (((v0 : Int32) >>> ((7 : Int32) &&& 31)) &&& 24)) ||| (((v0 : Int32) <<< ((1 : Int32) &&& 31)) &&& 192)) ||| (((v0 : Int32) >>> ((2 : Int32) &&& 31)) &&& 6)) ||| (((v0 : Int32) <<< ((3 : Int32) &&& 31)) &&& 32))]) (rest := [.int ((99 ||| (((((v0 : Int32) >>> ((13 : Int32) &&& 31)) : Int32) <<< ((12 : Int32) &&& 31)) &&& 4096)) ||| (((8 + (((v0 : Int32) >>> ((7 : Int32) &&& 31)) &&& 7)) : Int32) <<< ((15 : Int32) &&& 31)))]) ⟨hx, hb, hml, hown, hts⟩ (k_X4_branching l hlt dC dI ((((((((((v0 : Int32) <<< ((19 : Int32) &&& 31)) : Int32) >>> ((31 : Int32) &&& 31)) : Int32) <<< ((8 : Int32) &&& 31)) ||| (((v0 : Int32) >>> ((7 : Int32) &&& 31)) &&& 24)) ||| (((v0 : Int32) <<< ((1 : Int32) &&& 31)) &&& 192)) ||| (((v0 : Int32) >>> ((2 : Int32) &&& 31)) &&& 6)) ||| (((v0 : Int32) <<< ((3 : Int32) &&& 31)) &&& 32))  H.size) (cwS 1 hts gi_g_X4_expandedSecond_5 rfl rfl rfl (by decide +kernel) ⟨Nat.le_of_ble_eq_true rfl, Nat.le_of_ble_eq_true rfl⟩) ⟨fun a U g mk q => by obtain ⟨q0, q1, qP, qK, qD, qN⟩ := q; exact ⟨q0, q1, qP, va_K.moved (u := U) (U := U.calling g mk a) (Vm.Alike.refl U.vm) qK, qD, nv_same rfl rfl qN⟩, fun U hU hW => ⟨rfl, by rw [hU], by rw [hU]; exact hPc, va_K.moved hW.alike hKc, hDc.weaken (fun _ _ _ _ => trivial), nv_call hS hFc hU hW hN⟩⟩ rfl rfl hl.1 rfl (lv_room (Nat.le_of_ble_eq_true rfl)) dX4_expandedSecond_317 ⟨by decide +kernel, by decide +kernel⟩) hS (fun q _ h => hFc q h) hFc (fun r15 u t H1 locs ht hvm hw hB hz1 hk1 hS => ?_)
      obtain ⟨hP1, hK1, hD1⟩ := hB
      rw [ht] at hP1
      have hK1 := va_K.moved hvm.symm hK1
      obtain ⟨hP, hD⟩ := va_join (wr := []) (w1 := []) hP hD [] [] rfl rfl (by decide) (by decide) hk1 hFc hP1 hD1
      have hK := (hK.sub (tys' := []) [] rfl).app hK1
      generalize H1 = H at hP hS ⊢
      have hP : va_P (dC, dI) vwCl [] H := hP
      have hD : va_D A [] := hD
      have hK : va_K (dC, dI) vwCl [] s := hK
      refine W.widen (k := 0) (n := 0) (by decide +kernel) (by decide +kernel) ?_
      rcases hw with h9 | h9
      · subst h9
        refine lv_ior hx hb dX4_expandedSecond_320 ?_
        refine W.widen (k := 0) (n := 0) (by decide +kernel) (by decide +kernel) ?_
        exact W.iret (v := (((99 ||| (((((v0 : Int32) >>> ((13 : Int32) &&& 31)) : Int32) <<< ((12 : Int32) &&& 31)) &&& 4096)) ||| (((8 + (((v0 : Int32) >>> ((7 : Int32) &&& 31)) &&& 7)) : Int32) <<< ((15 : Int32) &&& 31))) ||| ((((((((((((((v0 : Int32) <<< ((19 : Int32) &&& 31)) : Int32) >>> ((31 : Int32) &&& 31)) : Int32) <<< ((8 : Int32) &&& 31)) ||| (((v0 : Int32) >>> ((7 : Int32) &&& 31)) &&& 24)) ||| (((v0 : Int32) <<< ((1 : Int32) &&& 31)) &&& 192)) ||| (((v0 : Int32) >>> ((2 : Int32) &&& 31)) &&& 6)) ||| (((v0 : Int32) <<< ((3 : Int32) &&& 31)) &&& 32)) &&& (-2147483648)) ||| (((((((((((((v0 : Int32) <<< ((19 : Int32) &&& 31)) : Int32) >>> ((31 : Int32) &&& 31)) : Int32) <<< ((8 : Int32) &&& 31)) ||| (((v0 : Int32) >>> ((7 : Int32) &&& 31)) &&& 24)) ||| (((v0 : Int32) <<< ((1 : Int32) &&& 31)) &&& 192)) ||| (((v0 : Int32) >>> ((2 : Int32) &&& 31)) &&& 6)) ||| (((v0 : Int32) <<< ((3 : Int32) &&& 31)) &&& 32)) &&& 2016) : Int32) <<< ((20 : Int32) &&& 31))) ||| (((((((((((((v0 : Int32) <<< ((19 : Int32) &&& 31)) : Int32) >>> ((31 : Int32) &&& 31)) : Int32) <<< ((8 : Int32) &&& 31)) ||| (((v0 : Int32) >>> ((7 : Int32) &&& 31)) &&& 24)) ||| (((v0 : Int32) <<< ((1 : Int32) &&& 31)) &&& 192)) ||| (((v0 : Int32) >>> ((2 : Int32) &&& 31)) &&& 6)) ||| (((v0 : Int32) <<< ((3 : Int32) &&& 31)) &&& 32)) &&& 30) : Int32) <<< ((7 : Int32) &&& 31))) ||| (((((((((((((v0 : Int32) <<< ((19 : Int32) &&& 31)) : Int32) >>> ((31 : Int32) &&& 31)) : Int32) <<< ((8 : Int32) &&& 31)) ||| (((v0 : Int32) >>> ((7 : Int32) &&& 31)) &&& 24)) ||| (((v0 : Int32) <<< ((1 : Int32) &&& 31)) &&& 192)) ||| (((v0 : Int32) >>> ((2 : Int32) &&& 31)) &&& 6)) ||| (((v0 : Int32) <<< ((3 : Int32) &&& 31)) &&& 32)) &&& 2048) : Int32) >>> ((4 : Int32) &&& 31))))) hx hb hr (fun t ht hW => ⟨⟨(((99 ||| (((((v0 : Int32) >>> ((13 : Int32) &&& 31)) : Int32) <<< ((12 : Int32) &&& 31)) &&& 4096)) ||| (((8 + (((v0 : Int32) >>> ((7 : Int32) &&& 31)) &&& 7)) : Int32) <<< ((15 : Int32) &&& 31))) ||| ((((((((((((((v0 : Int32) <<< ((19 : Int32) &&& 31)) : Int32) >>> ((31 : Int32) &&& 31)) : Int32) <<< ((8 : Int32) &&& 31)) ||| (((v0 : Int32) >>> ((7 : Int32) &&& 31)) &&& 24)) ||| (((v0 : Int32) <<< ((1 : Int32) &&& 31)) &&& 192)) ||| (((v0 : Int32) >>> ((2 : Int32) &&& 31)) &&& 6)) ||| (((v0 : Int32) <<< ((3 : Int32) &&& 31)) &&& 32)) &&& (-2147483648)) ||| (((((((((((((v0 : Int32) <<< ((19 : Int32) &&& 31)) : Int32) >>> ((31 : Int32) &&& 31)) : Int32) <<< ((8 : Int32) &&& 31)) ||| (((v0 : Int32) >>> ((7 : Int32) &&& 31)) &&& 24)) ||| (((v0 : Int32) <<< ((1 : Int32) &&& 31)) &&& 192)) ||| (((v0 : Int32) >>> ((2 : Int32) &&& 31)) &&& 6)) ||| (((v0 : Int32) <<< ((3 : Int32) &&& 31)) &&& 32)) &&& 2016) : Int32) <<< ((20 : Int32) &&& 31))) ||| (((((((((((((v0 : Int32) <<< ((19 : Int32) &&& 31)) : Int32) >>> ((31 : Int32) &&& 31)) : Int32) <<< ((8 : Int32) &&& 31)) ||| (((v0 : Int32) >>> ((7 : Int32) &&& 31)) &&& 24)) ||| (((v0 : Int32) <<< ((1 : Int32) &&& 31)) &&& 192)) ||| (((v0 : Int32) >>> ((2 : Int32) &&& 31)) &&& 6)) ||| (((v0 : Int32) <<< ((3 : Int32) &&& 31)) &&& 32)) &&& 30) : Int32) <<< ((7 : Int32) &&& 31))) ||| (((((((((((((v0 : Int32) <<< ((19 : Int32) &&& 31)) : Int32) >>> ((31 : Int32) &&& 31)) : Int32) <<< ((8 : Int32) &&& 31)) ||| (((v0 : Int32) >>> ((7 : Int32) &&& 31)) &&& 24)) ||| (((v0 : Int32) <<< ((1 : Int32) &&& 31)) &&& 192)) ||| (((v0 : Int32) >>> ((2 : Int32) &&& 31)) &&& 6)) ||| (((v0 : Int32) <<< ((3 : Int32) &&& 31)) &&& 32)) &&& 2048) : Int32) >>> ((4 : Int32) &&& 31)))), (), rfl, Or.inr (Or.inr (Or.inr (Or.inr (Or.inr (Or.inr (Or.inr (Or.inl ⟨c_2, c_4, c_7, c_9, c_14, rfl⟩))))))), by rw [ht]; exact hP, va_K.moved hW.alike hK, hD⟩, hS.F ht⟩) hS.2.2 dX4_expandedSecond_321
      · exact h9.elim
    by_cases c_16 : ((v0 : Int32) >>> ((13 : Int32) &&& 31)) = 5
    · refine lv_tableIn (off := 47) (tgt := 64) hx hb dX4_expandedSecond_17 (by rw [c_16]; decide) (by rw [c_16]; decide) (by rw [c_16]; decide) (by decide) ?_
      refine lv_iload_n hx hb dX4_expandedSecond_64 rfl (lv_at hl 2 rfl) ?_
      refine lv_bipush (v := 19) hx hb dX4_expandedSecond_65 (by decide) ?_
      refine lv_ishl hx hb dX4_expandedSecond_67 ?_
      refine lv_bipush (v := 31) hx hb dX4_expandedSecond_68 (by decide) ?_
      refine lv_ishr hx hb dX4_expandedSecond_70 ?_
      refine lv_bipush (v := 11) hx hb dX4_expandedSecond_71 (by decide) ?_
      refine lv_ishl hx hb dX4_expandedSecond_73 ?_
      refine lv_iload_n hx hb dX4_expandedSecond_74 rfl (lv_at hl 2 rfl) ?_
      refine lv_bipush (v := 7) hx hb dX4_expandedSecond_75 (by decide) ?_
      refine lv_ishr hx hb dX4_expandedSecond_77 ?_
      refine lv_bipush (v := 16) hx hb dX4_expandedSecond_78 (by decide) ?_
      refine lv_iand hx hb dX4_expandedSecond_80 ?_
      refine lv_ior hx hb dX4_expandedSecond_81 ?_
      refine lv_iload_n hx hb dX4_expandedSecond_82 rfl (lv_at hl 2 rfl) ?_
      refine lv_iconst (v := 1) hx hb dX4_expandedSecond_83 (by decide) ?_
      refine lv_ishr hx hb dX4_expandedSecond_84 ?_
      refine lv_sipush (v := 768) hx hb dX4_expandedSecond_85 (by decide) ?_
      refine lv_iand hx hb dX4_expandedSecond_88 ?_
      refine lv_ior hx hb dX4_expandedSecond_89 ?_
      refine lv_iload_n hx hb dX4_expandedSecond_90 rfl (lv_at hl 2 rfl) ?_
      refine lv_iconst (v := 2) hx hb dX4_expandedSecond_91 (by decide) ?_
      refine lv_ishl hx hb dX4_expandedSecond_92 ?_
      refine lv_sipush (v := 1024) hx hb dX4_expandedSecond_93 (by decide) ?_
      refine lv_iand hx hb dX4_expandedSecond_96 ?_
      refine lv_ior hx hb dX4_expandedSecond_97 ?_
      refine lv_iload_n hx hb dX4_expandedSecond_98 rfl (lv_at hl 2 rfl) ?_
      refine lv_iconst (v := 1) hx hb dX4_expandedSecond_99 (by decide) ?_
      refine lv_ishr hx hb dX4_expandedSecond_100 ?_
      refine lv_bipush (v := 64) hx hb dX4_expandedSecond_101 (by decide) ?_
      refine lv_iand hx hb dX4_expandedSecond_103 ?_
      refine lv_ior hx hb dX4_expandedSecond_104 ?_
      refine lv_iload_n hx hb dX4_expandedSecond_105 rfl (lv_at hl 2 rfl) ?_
      refine lv_iconst (v := 1) hx hb dX4_expandedSecond_106 (by decide) ?_
      refine lv_ishl hx hb dX4_expandedSecond_107 ?_
      refine lv_sipush (v := 128) hx hb dX4_expandedSecond_108 (by decide) ?_
      refine lv_iand hx hb dX4_expandedSecond_111 ?_
      refine lv_ior hx hb dX4_expandedSecond_112 ?_
      refine lv_iload_n hx hb dX4_expandedSecond_113 rfl (lv_at hl 2 rfl) ?_
      refine lv_iconst (v := 2) hx hb dX4_expandedSecond_114 (by decide) ?_
      refine lv_ishr hx hb dX4_expandedSecond_115 ?_
      refine lv_bipush (v := 14) hx hb dX4_expandedSecond_116 (by decide) ?_
      refine lv_iand hx hb dX4_expandedSecond_118 ?_
      refine lv_ior hx hb dX4_expandedSecond_119 ?_
      refine lv_iload_n hx hb dX4_expandedSecond_120 rfl (lv_at hl 2 rfl) ?_
      refine lv_iconst (v := 3) hx hb dX4_expandedSecond_121 (by decide) ?_
      refine lv_ishl hx hb dX4_expandedSecond_122 ?_
      refine lv_bipush (v := 32) hx hb dX4_expandedSecond_123 (by decide) ?_
      refine lv_iand hx hb dX4_expandedSecond_125 ?_
      refine lv_ior hx hb dX4_expandedSecond_126 ?_
      refine lv_istore_n (lv' := [(3, .int (((((((((((((v0 : Int32) <<< ((19 : Int32) &&& 31)) : Int32) >>> ((31 : Int32) &&& 31)) : Int32) <<< ((11 : Int32) &&& 31)) ||| (((v0 : Int32) >>> ((7 : Int32) &&& 31)) &&& 16)) ||| (((v0 : Int32) >>> ((1 : Int32) &&& 31)) &&& 768)) ||| (((v0 : Int32) <<< ((2 : Int32) &&& 31)) &&& 1024)) ||| (((v0 : Int32) >>> ((1 : Int32) &&& 31)) &&& 64)) ||| (((v0 : Int32) <<< ((1 : Int32) &&& 31)) &&& 128)) ||| (((v0 : Int32) >>> ((2 : Int32) &&& 31)) &&& 14)) ||| (((v0 : Int32) <<< ((3 : Int32) &&& 31)) &&& 32))), (2, .int (((((((v0 : Int32) <<< ((19 : Int32) &&& 31)) : Int32) >>> ((31 : Int32) &&& 31)) : Int32) <<< ((5 : Int32) &&& 31)) ||| (((v0 : Int32) >>> ((2 : Int32) &&& 31)) &&& 31))), (1, .int (((v0 : Int32) >>> ((7 : Int32) &&& 31)) &&& 31)), (0, .int v0)]) hx hb dX4_expandedSecond_127 rfl hl (by decide) rfl (fun ls hl => ?_)
      refine lv_bipush (v := 111) hx hb dX4_expandedSecond_128 (by decide) ?_
      refine lv_iload_n hx hb dX4_expandedSecond_130 rfl (lv_at hl 3 rfl) ?_
      refine lv_bipush (v := 13) hx hb dX4_expandedSecond_131 (by decide) ?_
      refine lv_ishr hx hb dX4_expandedSecond_133 ?_
      refine lv_iconst (v := 1) hx hb dX4_expandedSecond_134 (by decide) ?_
      refine lv_icmp_ne (tgt := 144) hx hb dX4_expandedSecond_135 (by decide) (fun _ => ?_) (fun h9 => absurd h9 c_4)
      refine lv_iconst (v := 0) hx hb dX4_expandedSecond_144 (by decide) ?_
      refine lv_ior hx hb dX4_expandedSecond_145 ?_
      refine lv_topi (fun z16 ez16 => ?_)
      obtain rfl : z16 = 111 := ez16.trans (by decide)
      refine lv_iload_n hx hb dX4_expandedSecond_146 rfl (lv_at hl 0 rfl) ?_
      have hPc := hP.sub (ws' := []) [] rfl
      have hDc := hD.sub (ws' := []) [] (by decide) rfl
      have hKc := hK.sub (tys' := []) [] rfl
      have hFc := va_free (wc := []) hD hS hA [] rfl
      refine va_calli (va_runS (As := [.int (((((((((((((v0 : Int32) <<< ((19 : Int32) &&& 31)) : Int32) >>> ((31 : Int32) &&& 31)) : Int32) <<< ((11 : Int32) &&& 31)) ||| (((v0 : Int32) >>> ((7 : Int32) &&& 31)) &&& 16)) ||| (((v0 : Int32) >>> ((1 : Int32) &&& 31)) &&& 768)) ||| (((v0 : Int32) <<< ((2 : Int32) &&& 31)) &&& 1024)) ||| (((v0 : Int32) >>> ((1 : Int32) &&& 31)) &&& 64)) ||| (((v0 : Int32) <<< ((1 : Int32) &&& 31)) &&& 128)) ||| (((v0 : Int32) >>> ((2 : Int32) &&& 31)) &&& 14)) ||| (((v0 : Int32) <<< ((3 : Int32) &&& 31)) &&& 32))]) (rest := [.int 111]) ⟨hx, hb, hml, hown, hts⟩ (k_X4_jumping l hlt dC dI (((((((((((((v0 : Int32) <<< ((19 : Int32) &&& 31)) : Int32) >>> ((31 : Int32) &&& 31)) : Int32) <<< ((11 : Int32) &&& 31)) ||| (((v0 : Int32) >>> ((7 : Int32) &&& 31)) &&& 16)) ||| (((v0 : Int32) >>> ((1 : Int32) &&& 31)) &&& 768)) ||| (((v0 : Int32) <<< ((2 : Int32) &&& 31)) &&& 1024)) ||| (((v0 : Int32) >>> ((1 : Int32) &&& 31)) &&& 64)) ||| (((v0 : Int32) <<< ((1 : Int32) &&& 31)) &&& 128)) ||| (((v0 : Int32) >>> ((2 : Int32) &&& 31)) &&& 14)) ||| (((v0 : Int32) <<< ((3 : Int32) &&& 31)) &&& 32))  H.size) (cwS 1 hts gi_g_X4_expandedSecond_2 rfl rfl rfl (by decide +kernel) ⟨Nat.le_of_ble_eq_true rfl, Nat.le_of_ble_eq_true rfl⟩) ⟨fun a U g mk q => by obtain ⟨q0, q1, qP, qK, qD, qN⟩ := q; exact ⟨q0, q1, qP, va_K.moved (u := U) (U := U.calling g mk a) (Vm.Alike.refl U.vm) qK, qD, nv_same rfl rfl qN⟩, fun U hU hW => ⟨rfl, by rw [hU], by rw [hU]; exact hPc, va_K.moved hW.alike hKc, hDc.weaken (fun _ _ _ _ => trivial), nv_call hS hFc hU hW hN⟩⟩ rfl rfl hl.1 rfl (lv_room (Nat.le_of_ble_eq_true rfl)) dX4_expandedSecond_147 ⟨by decide +kernel, by decide +kernel⟩) hS (fun q _ h => hFc q h) hFc (fun r18 u t H1 locs ht hvm hw hB hz1 hk1 hS => ?_)
      obtain ⟨hP1, hK1, hD1⟩ := hB
      rw [ht] at hP1
      have hK1 := va_K.moved hvm.symm hK1
      obtain ⟨hP, hD⟩ := va_join (wr := []) (w1 := []) hP hD [] [] rfl rfl (by decide) (by decide) hk1 hFc hP1 hD1
      have hK := (hK.sub (tys' := []) [] rfl).app hK1
      generalize H1 = H at hP hS ⊢
      have hP : va_P (dC, dI) vwCl [] H := hP
      have hD : va_D A [] := hD
      have hK : va_K (dC, dI) vwCl [] s := hK
      refine W.widen (k := 0) (n := 0) (by decide +kernel) (by decide +kernel) ?_
      rcases hw with h9 | h9
      · subst h9
        refine lv_ior hx hb dX4_expandedSecond_150 ?_
        refine W.widen (k := 0) (n := 0) (by decide +kernel) (by decide +kernel) ?_
        exact W.iret (v := (111 ||| (((((((((((((((((v0 : Int32) <<< ((19 : Int32) &&& 31)) : Int32) >>> ((31 : Int32) &&& 31)) : Int32) <<< ((11 : Int32) &&& 31)) ||| (((v0 : Int32) >>> ((7 : Int32) &&& 31)) &&& 16)) ||| (((v0 : Int32) >>> ((1 : Int32) &&& 31)) &&& 768)) ||| (((v0 : Int32) <<< ((2 : Int32) &&& 31)) &&& 1024)) ||| (((v0 : Int32) >>> ((1 : Int32) &&& 31)) &&& 64)) ||| (((v0 : Int32) <<< ((1 : Int32) &&& 31)) &&& 128)) ||| (((v0 : Int32) >>> ((2 : Int32) &&& 31)) &&& 14)) ||| (((v0 : Int32) <<< ((3 : Int32) &&& 31)) &&& 32)) &&& (-2147483648)) ||| ((((((((((((((((v0 : Int32) <<< ((19 : Int32) &&& 31)) : Int32) >>> ((31 : Int32) &&& 31)) : Int32) <<< ((11 : Int32) &&& 31)) ||| (((v0 : Int32) >>> ((7 : Int32) &&& 31)) &&& 16)) ||| (((v0 : Int32) >>> ((1 : Int32) &&& 31)) &&& 768)) ||| (((v0 : Int32) <<< ((2 : Int32) &&& 31)) &&& 1024)) ||| (((v0 : Int32) >>> ((1 : Int32) &&& 31)) &&& 64)) ||| (((v0 : Int32) <<< ((1 : Int32) &&& 31)) &&& 128)) ||| (((v0 : Int32) >>> ((2 : Int32) &&& 31)) &&& 14)) ||| (((v0 : Int32) <<< ((3 : Int32) &&& 31)) &&& 32)) &&& 2046) : Int32) <<< ((20 : Int32) &&& 31))) ||| ((((((((((((((((v0 : Int32) <<< ((19 : Int32) &&& 31)) : Int32) >>> ((31 : Int32) &&& 31)) : Int32) <<< ((11 : Int32) &&& 31)) ||| (((v0 : Int32) >>> ((7 : Int32) &&& 31)) &&& 16)) ||| (((v0 : Int32) >>> ((1 : Int32) &&& 31)) &&& 768)) ||| (((v0 : Int32) <<< ((2 : Int32) &&& 31)) &&& 1024)) ||| (((v0 : Int32) >>> ((1 : Int32) &&& 31)) &&& 64)) ||| (((v0 : Int32) <<< ((1 : Int32) &&& 31)) &&& 128)) ||| (((v0 : Int32) >>> ((2 : Int32) &&& 31)) &&& 14)) ||| (((v0 : Int32) <<< ((3 : Int32) &&& 31)) &&& 32)) &&& 2048) : Int32) <<< ((9 : Int32) &&& 31))) ||| ((((((((((((((v0 : Int32) <<< ((19 : Int32) &&& 31)) : Int32) >>> ((31 : Int32) &&& 31)) : Int32) <<< ((11 : Int32) &&& 31)) ||| (((v0 : Int32) >>> ((7 : Int32) &&& 31)) &&& 16)) ||| (((v0 : Int32) >>> ((1 : Int32) &&& 31)) &&& 768)) ||| (((v0 : Int32) <<< ((2 : Int32) &&& 31)) &&& 1024)) ||| (((v0 : Int32) >>> ((1 : Int32) &&& 31)) &&& 64)) ||| (((v0 : Int32) <<< ((1 : Int32) &&& 31)) &&& 128)) ||| (((v0 : Int32) >>> ((2 : Int32) &&& 31)) &&& 14)) ||| (((v0 : Int32) <<< ((3 : Int32) &&& 31)) &&& 32)) &&& 1044480)))) hx hb hr (fun t ht hW => ⟨⟨(111 ||| (((((((((((((((((v0 : Int32) <<< ((19 : Int32) &&& 31)) : Int32) >>> ((31 : Int32) &&& 31)) : Int32) <<< ((11 : Int32) &&& 31)) ||| (((v0 : Int32) >>> ((7 : Int32) &&& 31)) &&& 16)) ||| (((v0 : Int32) >>> ((1 : Int32) &&& 31)) &&& 768)) ||| (((v0 : Int32) <<< ((2 : Int32) &&& 31)) &&& 1024)) ||| (((v0 : Int32) >>> ((1 : Int32) &&& 31)) &&& 64)) ||| (((v0 : Int32) <<< ((1 : Int32) &&& 31)) &&& 128)) ||| (((v0 : Int32) >>> ((2 : Int32) &&& 31)) &&& 14)) ||| (((v0 : Int32) <<< ((3 : Int32) &&& 31)) &&& 32)) &&& (-2147483648)) ||| ((((((((((((((((v0 : Int32) <<< ((19 : Int32) &&& 31)) : Int32) >>> ((31 : Int32) &&& 31)) : Int32) <<< ((11 : Int32) &&& 31)) ||| (((v0 : Int32) >>> ((7 : Int32) &&& 31)) &&& 16)) ||| (((v0 : Int32) >>> ((1 : Int32) &&& 31)) &&& 768)) ||| (((v0 : Int32) <<< ((2 : Int32) &&& 31)) &&& 1024)) ||| (((v0 : Int32) >>> ((1 : Int32) &&& 31)) &&& 64)) ||| (((v0 : Int32) <<< ((1 : Int32) &&& 31)) &&& 128)) ||| (((v0 : Int32) >>> ((2 : Int32) &&& 31)) &&& 14)) ||| (((v0 : Int32) <<< ((3 : Int32) &&& 31)) &&& 32)) &&& 2046) : Int32) <<< ((20 : Int32) &&& 31))) ||| ((((((((((((((((v0 : Int32) <<< ((19 : Int32) &&& 31)) : Int32) >>> ((31 : Int32) &&& 31)) : Int32) <<< ((11 : Int32) &&& 31)) ||| (((v0 : Int32) >>> ((7 : Int32) &&& 31)) &&& 16)) ||| (((v0 : Int32) >>> ((1 : Int32) &&& 31)) &&& 768)) ||| (((v0 : Int32) <<< ((2 : Int32) &&& 31)) &&& 1024)) ||| (((v0 : Int32) >>> ((1 : Int32) &&& 31)) &&& 64)) ||| (((v0 : Int32) <<< ((1 : Int32) &&& 31)) &&& 128)) ||| (((v0 : Int32) >>> ((2 : Int32) &&& 31)) &&& 14)) ||| (((v0 : Int32) <<< ((3 : Int32) &&& 31)) &&& 32)) &&& 2048) : Int32) <<< ((9 : Int32) &&& 31))) ||| ((((((((((((((v0 : Int32) <<< ((19 : Int32) &&& 31)) : Int32) >>> ((31 : Int32) &&& 31)) : Int32) <<< ((11 : Int32) &&& 31)) ||| (((v0 : Int32) >>> ((7 : Int32) &&& 31)) &&& 16)) ||| (((v0 : Int32) >>> ((1 : Int32) &&& 31)) &&& 768)) ||| (((v0 : Int32) <<< ((2 : Int32) &&& 31)) &&& 1024)) ||| (((v0 : Int32) >>> ((1 : Int32) &&& 31)) &&& 64)) ||| (((v0 : Int32) <<< ((1 : Int32) &&& 31)) &&& 128)) ||| (((v0 : Int32) >>> ((2 : Int32) &&& 31)) &&& 14)) ||| (((v0 : Int32) <<< ((3 : Int32) &&& 31)) &&& 32)) &&& 1044480))), (), rfl, Or.inr (Or.inr (Or.inr (Or.inr (Or.inr (Or.inr (Or.inr (Or.inr (Or.inl ⟨c_2, c_4, c_7, c_9, c_14, c_16, rfl⟩)))))))), by rw [ht]; exact hP, va_K.moved hW.alike hK, hD⟩, hS.F ht⟩) hS.2.2 dX4_expandedSecond_151
      · exact h9.elim
    refine lv_tableOut (tgt := 245) hx hb dX4_expandedSecond_17 (by have g0 := nv_nei c_2 (k := 0) (by decide); have g1 := nv_nei c_4 (k := 1) (by decide); have g2 := nv_nei c_7 (k := 2) (by decide); have g3 := nv_nei c_9 (k := 3) (by decide); have g4 := nv_nei c_14 (k := 4) (by decide); have g5 := nv_nei c_16 (k := 5) (by decide); omega) (by decide) ?_
    refine lv_iload_n hx hb dX4_expandedSecond_245 rfl (lv_at hl 2 rfl) ?_
    refine lv_bipush (v := 19) hx hb dX4_expandedSecond_246 (by decide) ?_
    refine lv_ishl hx hb dX4_expandedSecond_248 ?_
    refine lv_bipush (v := 31) hx hb dX4_expandedSecond_249 (by decide) ?_
    refine lv_ishr hx hb dX4_expandedSecond_251 ?_
    refine lv_bipush (v := 8) hx hb dX4_expandedSecond_252 (by decide) ?_
    refine lv_ishl hx hb dX4_expandedSecond_254 ?_
    refine lv_iload_n hx hb dX4_expandedSecond_255 rfl (lv_at hl 2 rfl) ?_
    refine lv_bipush (v := 7) hx hb dX4_expandedSecond_256 (by decide) ?_
    refine lv_ishr hx hb dX4_expandedSecond_258 ?_
    refine lv_bipush (v := 24) hx hb dX4_expandedSecond_259 (by decide) ?_
    refine lv_iand hx hb dX4_expandedSecond_261 ?_
    refine lv_ior hx hb dX4_expandedSecond_262 ?_
    refine lv_iload_n hx hb dX4_expandedSecond_263 rfl (lv_at hl 2 rfl) ?_
    refine lv_iconst (v := 1) hx hb dX4_expandedSecond_264 (by decide) ?_
    refine lv_ishl hx hb dX4_expandedSecond_265 ?_
    refine lv_sipush (v := 192) hx hb dX4_expandedSecond_266 (by decide) ?_
    refine lv_iand hx hb dX4_expandedSecond_269 ?_
    refine lv_ior hx hb dX4_expandedSecond_270 ?_
    refine lv_iload_n hx hb dX4_expandedSecond_271 rfl (lv_at hl 2 rfl) ?_
    refine lv_iconst (v := 2) hx hb dX4_expandedSecond_272 (by decide) ?_
    refine lv_ishr hx hb dX4_expandedSecond_273 ?_
    refine lv_bipush (v := 6) hx hb dX4_expandedSecond_274 (by decide) ?_
    refine lv_iand hx hb dX4_expandedSecond_276 ?_
    refine lv_ior hx hb dX4_expandedSecond_277 ?_
    refine lv_iload_n hx hb dX4_expandedSecond_278 rfl (lv_at hl 2 rfl) ?_
    refine lv_iconst (v := 3) hx hb dX4_expandedSecond_279 (by decide) ?_
    refine lv_ishl hx hb dX4_expandedSecond_280 ?_
    refine lv_bipush (v := 32) hx hb dX4_expandedSecond_281 (by decide) ?_
    refine lv_iand hx hb dX4_expandedSecond_283 ?_
    refine lv_ior hx hb dX4_expandedSecond_284 ?_
    refine lv_istore (lv' := [(5, .int ((((((((((v0 : Int32) <<< ((19 : Int32) &&& 31)) : Int32) >>> ((31 : Int32) &&& 31)) : Int32) <<< ((8 : Int32) &&& 31)) ||| (((v0 : Int32) >>> ((7 : Int32) &&& 31)) &&& 24)) ||| (((v0 : Int32) <<< ((1 : Int32) &&& 31)) &&& 192)) ||| (((v0 : Int32) >>> ((2 : Int32) &&& 31)) &&& 6)) ||| (((v0 : Int32) <<< ((3 : Int32) &&& 31)) &&& 32))), (2, .int (((((((v0 : Int32) <<< ((19 : Int32) &&& 31)) : Int32) >>> ((31 : Int32) &&& 31)) : Int32) <<< ((5 : Int32) &&& 31)) ||| (((v0 : Int32) >>> ((2 : Int32) &&& 31)) &&& 31))), (1, .int (((v0 : Int32) >>> ((7 : Int32) &&& 31)) &&& 31)), (0, .int v0)]) hx hb dX4_expandedSecond_285 hl (by decide) rfl (fun ls hl => ?_)
    refine lv_bipush (v := 99) hx hb dX4_expandedSecond_287 (by decide) ?_
    refine lv_iload_n hx hb dX4_expandedSecond_289 rfl (lv_at hl 3 rfl) ?_
    refine lv_bipush (v := 13) hx hb dX4_expandedSecond_290 (by decide) ?_
    refine lv_ishr hx hb dX4_expandedSecond_292 ?_
    refine lv_bipush (v := 12) hx hb dX4_expandedSecond_293 (by decide) ?_
    refine lv_ishl hx hb dX4_expandedSecond_295 ?_
    refine lv_sipush (v := 4096) hx hb dX4_expandedSecond_296 (by decide) ?_
    refine lv_iand hx hb dX4_expandedSecond_299 ?_
    refine lv_ior hx hb dX4_expandedSecond_300 ?_
    refine lv_bipush (v := 8) hx hb dX4_expandedSecond_301 (by decide) ?_
    refine lv_iload_n hx hb dX4_expandedSecond_303 rfl (lv_at hl 3 rfl) ?_
    refine lv_bipush (v := 7) hx hb dX4_expandedSecond_304 (by decide) ?_
    refine lv_ishr hx hb dX4_expandedSecond_306 ?_
    refine lv_bipush (v := 7) hx hb dX4_expandedSecond_307 (by decide) ?_
    refine lv_iand hx hb dX4_expandedSecond_309 ?_
    refine lv_iadd hx hb dX4_expandedSecond_310 ?_
    refine lv_bipush (v := 15) hx hb dX4_expandedSecond_311 (by decide) ?_
    refine lv_ishl hx hb dX4_expandedSecond_313 ?_
    refine lv_ior hx hb dX4_expandedSecond_314 ?_
    refine lv_iload hx hb dX4_expandedSecond_315 (lv_at hl 0 rfl) ?_
    have hPc := hP.sub (ws' := []) [] rfl
    have hDc := hD.sub (ws' := []) [] (by decide) rfl
    have hKc := hK.sub (tys' := []) [] rfl
    have hFc := va_free (wc := []) hD hS hA [] rfl
    refine va_calli (va_runS (As := [.int ((((((((((v0 : Int32) <<< ((19 : Int32) &&& 31)) : Int32) >>> ((31 : Int32) &&& 31)) : Int32) <<< ((8 : Int32) &&& 31)) ||| (((v0 : Int32) >>> ((7 : Int32) &&& 31)) &&& 24)) ||| (((v0 : Int32) <<< ((1 : Int32) &&& 31)) &&& 192)) ||| (((v0 : Int32) >>> ((2 : Int32) &&& 31)) &&& 6)) ||| (((v0 : Int32) <<< ((3 : Int32) &&& 31)) &&& 32))]) (rest := [.int ((99 ||| (((((v0 : Int32) >>> ((13 : Int32) &&& 31)) : Int32) <<< ((12 : Int32) &&& 31)) &&& 4096)) ||| (((8 + (((v0 : Int32) >>> ((7 : Int32) &&& 31)) &&& 7)) : Int32) <<< ((15 : Int32) &&& 31)))]) ⟨hx, hb, hml, hown, hts⟩ (k_X4_branching l hlt dC dI ((((((((((v0 : Int32) <<< ((19 : Int32) &&& 31)) : Int32) >>> ((31 : Int32) &&& 31)) : Int32) <<< ((8 : Int32) &&& 31)) ||| (((v0 : Int32) >>> ((7 : Int32) &&& 31)) &&& 24)) ||| (((v0 : Int32) <<< ((1 : Int32) &&& 31)) &&& 192)) ||| (((v0 : Int32) >>> ((2 : Int32) &&& 31)) &&& 6)) ||| (((v0 : Int32) <<< ((3 : Int32) &&& 31)) &&& 32))  H.size) (cwS 1 hts gi_g_X4_expandedSecond_5 rfl rfl rfl (by decide +kernel) ⟨Nat.le_of_ble_eq_true rfl, Nat.le_of_ble_eq_true rfl⟩) ⟨fun a U g mk q => by obtain ⟨q0, q1, qP, qK, qD, qN⟩ := q; exact ⟨q0, q1, qP, va_K.moved (u := U) (U := U.calling g mk a) (Vm.Alike.refl U.vm) qK, qD, nv_same rfl rfl qN⟩, fun U hU hW => ⟨rfl, by rw [hU], by rw [hU]; exact hPc, va_K.moved hW.alike hKc, hDc.weaken (fun _ _ _ _ => trivial), nv_call hS hFc hU hW hN⟩⟩ rfl rfl hl.1 rfl (lv_room (Nat.le_of_ble_eq_true rfl)) dX4_expandedSecond_317 ⟨by decide +kernel, by decide +kernel⟩) hS (fun q _ h => hFc q h) hFc (fun r20 u t H1 locs ht hvm hw hB hz1 hk1 hS => ?_)
    obtain ⟨hP1, hK1, hD1⟩ := hB
    rw [ht] at hP1
    have hK1 := va_K.moved hvm.symm hK1
    obtain ⟨hP, hD⟩ := va_join (wr := []) (w1 := []) hP hD [] [] rfl rfl (by decide) (by decide) hk1 hFc hP1 hD1
    have hK := (hK.sub (tys' := []) [] rfl).app hK1
    generalize H1 = H at hP hS ⊢
    have hP : va_P (dC, dI) vwCl [] H := hP
    have hD : va_D A [] := hD
    have hK : va_K (dC, dI) vwCl [] s := hK
    refine W.widen (k := 0) (n := 0) (by decide +kernel) (by decide +kernel) ?_
    rcases hw with h9 | h9
    · subst h9
      refine lv_ior hx hb dX4_expandedSecond_320 ?_
      refine W.widen (k := 0) (n := 0) (by decide +kernel) (by decide +kernel) ?_
      exact W.iret (v := (((99 ||| (((((v0 : Int32) >>> ((13 : Int32) &&& 31)) : Int32) <<< ((12 : Int32) &&& 31)) &&& 4096)) ||| (((8 + (((v0 : Int32) >>> ((7 : Int32) &&& 31)) &&& 7)) : Int32) <<< ((15 : Int32) &&& 31))) ||| ((((((((((((((v0 : Int32) <<< ((19 : Int32) &&& 31)) : Int32) >>> ((31 : Int32) &&& 31)) : Int32) <<< ((8 : Int32) &&& 31)) ||| (((v0 : Int32) >>> ((7 : Int32) &&& 31)) &&& 24)) ||| (((v0 : Int32) <<< ((1 : Int32) &&& 31)) &&& 192)) ||| (((v0 : Int32) >>> ((2 : Int32) &&& 31)) &&& 6)) ||| (((v0 : Int32) <<< ((3 : Int32) &&& 31)) &&& 32)) &&& (-2147483648)) ||| (((((((((((((v0 : Int32) <<< ((19 : Int32) &&& 31)) : Int32) >>> ((31 : Int32) &&& 31)) : Int32) <<< ((8 : Int32) &&& 31)) ||| (((v0 : Int32) >>> ((7 : Int32) &&& 31)) &&& 24)) ||| (((v0 : Int32) <<< ((1 : Int32) &&& 31)) &&& 192)) ||| (((v0 : Int32) >>> ((2 : Int32) &&& 31)) &&& 6)) ||| (((v0 : Int32) <<< ((3 : Int32) &&& 31)) &&& 32)) &&& 2016) : Int32) <<< ((20 : Int32) &&& 31))) ||| (((((((((((((v0 : Int32) <<< ((19 : Int32) &&& 31)) : Int32) >>> ((31 : Int32) &&& 31)) : Int32) <<< ((8 : Int32) &&& 31)) ||| (((v0 : Int32) >>> ((7 : Int32) &&& 31)) &&& 24)) ||| (((v0 : Int32) <<< ((1 : Int32) &&& 31)) &&& 192)) ||| (((v0 : Int32) >>> ((2 : Int32) &&& 31)) &&& 6)) ||| (((v0 : Int32) <<< ((3 : Int32) &&& 31)) &&& 32)) &&& 30) : Int32) <<< ((7 : Int32) &&& 31))) ||| (((((((((((((v0 : Int32) <<< ((19 : Int32) &&& 31)) : Int32) >>> ((31 : Int32) &&& 31)) : Int32) <<< ((8 : Int32) &&& 31)) ||| (((v0 : Int32) >>> ((7 : Int32) &&& 31)) &&& 24)) ||| (((v0 : Int32) <<< ((1 : Int32) &&& 31)) &&& 192)) ||| (((v0 : Int32) >>> ((2 : Int32) &&& 31)) &&& 6)) ||| (((v0 : Int32) <<< ((3 : Int32) &&& 31)) &&& 32)) &&& 2048) : Int32) >>> ((4 : Int32) &&& 31))))) hx hb hr (fun t ht hW => ⟨⟨(((99 ||| (((((v0 : Int32) >>> ((13 : Int32) &&& 31)) : Int32) <<< ((12 : Int32) &&& 31)) &&& 4096)) ||| (((8 + (((v0 : Int32) >>> ((7 : Int32) &&& 31)) &&& 7)) : Int32) <<< ((15 : Int32) &&& 31))) ||| ((((((((((((((v0 : Int32) <<< ((19 : Int32) &&& 31)) : Int32) >>> ((31 : Int32) &&& 31)) : Int32) <<< ((8 : Int32) &&& 31)) ||| (((v0 : Int32) >>> ((7 : Int32) &&& 31)) &&& 24)) ||| (((v0 : Int32) <<< ((1 : Int32) &&& 31)) &&& 192)) ||| (((v0 : Int32) >>> ((2 : Int32) &&& 31)) &&& 6)) ||| (((v0 : Int32) <<< ((3 : Int32) &&& 31)) &&& 32)) &&& (-2147483648)) ||| (((((((((((((v0 : Int32) <<< ((19 : Int32) &&& 31)) : Int32) >>> ((31 : Int32) &&& 31)) : Int32) <<< ((8 : Int32) &&& 31)) ||| (((v0 : Int32) >>> ((7 : Int32) &&& 31)) &&& 24)) ||| (((v0 : Int32) <<< ((1 : Int32) &&& 31)) &&& 192)) ||| (((v0 : Int32) >>> ((2 : Int32) &&& 31)) &&& 6)) ||| (((v0 : Int32) <<< ((3 : Int32) &&& 31)) &&& 32)) &&& 2016) : Int32) <<< ((20 : Int32) &&& 31))) ||| (((((((((((((v0 : Int32) <<< ((19 : Int32) &&& 31)) : Int32) >>> ((31 : Int32) &&& 31)) : Int32) <<< ((8 : Int32) &&& 31)) ||| (((v0 : Int32) >>> ((7 : Int32) &&& 31)) &&& 24)) ||| (((v0 : Int32) <<< ((1 : Int32) &&& 31)) &&& 192)) ||| (((v0 : Int32) >>> ((2 : Int32) &&& 31)) &&& 6)) ||| (((v0 : Int32) <<< ((3 : Int32) &&& 31)) &&& 32)) &&& 30) : Int32) <<< ((7 : Int32) &&& 31))) ||| (((((((((((((v0 : Int32) <<< ((19 : Int32) &&& 31)) : Int32) >>> ((31 : Int32) &&& 31)) : Int32) <<< ((8 : Int32) &&& 31)) ||| (((v0 : Int32) >>> ((7 : Int32) &&& 31)) &&& 24)) ||| (((v0 : Int32) <<< ((1 : Int32) &&& 31)) &&& 192)) ||| (((v0 : Int32) >>> ((2 : Int32) &&& 31)) &&& 6)) ||| (((v0 : Int32) <<< ((3 : Int32) &&& 31)) &&& 32)) &&& 2048) : Int32) >>> ((4 : Int32) &&& 31)))), (), rfl, Or.inr (Or.inr (Or.inr (Or.inr (Or.inr (Or.inr (Or.inr (Or.inr (Or.inr (Or.inl ⟨c_2, c_4, c_7, c_9, c_14, c_16, rfl⟩))))))))), by rw [ht]; exact hP, va_K.moved hW.alike hK, hD⟩, hS.F ht⟩) hS.2.2 dX4_expandedSecond_321
    · exact h9.elim
  · exact h9.elim
def ow_g_X9_binary : List Cond := .code yX9_binary cX9_binary 1 (some .int) :: ([] ++ [])
theorem gd_g_X9_binary : ∀ w ∈ ow_g_X9_binary, (w.onTables && w.keeps) = true ∨ ∃ ty, w = Cond.arrayClass ty := List.forall_mem_cons.mpr ⟨good_of_word rfl, List.forall_mem_append.mpr ⟨fun w h => good_of_word (List.all_eq_true.mp (by decide +kernel) w h), fun _ h => nomatch h⟩⟩
set_option maxHeartbeats 40000000 in
set_option maxRecDepth 100000 in
theorem g_X9_binary (l : Launch) (hlt : l.stackTraces = false) (dC : Nat → ClassId) (dI : Nat → Nat → Nat) (v0 : Int32) (sz : Nat) : Met l yX9_binary ow_g_X9_binary ({ frames := 0, cells := 0, slots := 0, locals := 0 }) (va_Pc [.int v0] (fun U => U.heap.size = sz ∧ va_P (dC, dI) vwCl [] U.heap ∧ va_K (dC, dI) vwCl [] U ∧ va_D (fun _ => True) [] ∧ nv_E (va_A [] sz) U)) (va_Qi (fun r _ => ((v0 = 37) ∧ r = 3) ∨ ((¬ v0 = 37) ∧ (v0 = 38) ∧ r = 8) ∨ ((¬ v0 = 37) ∧ (¬ v0 = 38) ∧ (v0 = 42) ∧ r = 1) ∨ ((¬ v0 = 37) ∧ (¬ v0 = 38) ∧ (¬ v0 = 42) ∧ (v0 = 43) ∧ r = 4) ∨ ((¬ v0 = 37) ∧ (¬ v0 = 38) ∧ (¬ v0 = 42) ∧ (¬ v0 = 43) ∧ (v0 = 45) ∧ r = 5) ∨ ((¬ v0 = 37) ∧ (¬ v0 = 38) ∧ (¬ v0 = 42) ∧ (¬ v0 = 43) ∧ (¬ v0 = 45) ∧ (v0 = 47) ∧ r = 2) ∨ ((¬ v0 = 37) ∧ (¬ v0 = 38) ∧ (¬ v0 = 42) ∧ (¬ v0 = 43) ∧ (¬ v0 = 45) ∧ (¬ v0 = 47) ∧ (v0 = 94) ∧ r = 9) ∨ ((¬ v0 = 37) ∧ (¬ v0 = 38) ∧ (¬ v0 = 42) ∧ (¬ v0 = 43) ∧ (¬ v0 = 45) ∧ (¬ v0 = 47) ∧ (¬ v0 = 94) ∧ (v0 = 124) ∧ r = 10) ∨ ((¬ v0 = 37) ∧ (¬ v0 = 38) ∧ (¬ v0 = 42) ∧ (¬ v0 = 43) ∧ (¬ v0 = 45) ∧ (¬ v0 = 47) ∧ (¬ v0 = 94) ∧ (¬ v0 = 124) ∧ (v0 = 256) ∧ r = 6) ∨ ((¬ v0 = 37) ∧ (¬ v0 = 38) ∧ (¬ v0 = 42) ∧ (¬ v0 = 43) ∧ (¬ v0 = 45) ∧ (¬ v0 = 47) ∧ (¬ v0 = 94) ∧ (¬ v0 = 124) ∧ (¬ v0 = 256) ∧ (v0 = 257) ∧ r = 7) ∨ ((¬ v0 = 37) ∧ (¬ v0 = 38) ∧ (¬ v0 = 42) ∧ (¬ v0 = 43) ∧ (¬ v0 = 45) ∧ (¬ v0 = 47) ∧ (¬ v0 = 94) ∧ (¬ v0 = 124) ∧ (¬ v0 = 256) ∧ (¬ v0 = 257) ∧ r = 0) ∨ False) (fun (_ : Unit) t => va_P (dC, dI) vwCl [] t.heap ∧ va_K (dC, dI) vwCl [] t ∧ va_D (va_A [] sz) []) (va_A [] sz)) 0 0 (va_A [] sz) := by
  refine Met.ofW (cc := cX9_binary) (maxL := 1) (ret := (some .int)) (by decide) rfl ?_
  intro p e s m args below meth c s₁ B hml hv
  obtain ⟨rfl, hsz, hP, hK, hD0, hN⟩ := hv
  have hx := B.exec
  have hb := B.bytes
  have hr := B.returns
  have hts := atoms_spec (ws := ow_g_X9_binary) B.pre
  have hown : s.vm.findClass RX9 = some m.cls := findClass_of_methodNamed B.named
  have hlocks := B.notSynchronized
  subst hsz
  have hD := hD0.self (sz := s.heap.size)
  generalize hAe : va_A [] s.heap.size = A at hD hN ⊢
  have hA : ∀ q : Nat, s.heap.size ≤ q → A q := fun q h => by rw [← hAe]; exact Or.inr h
  have hS : va_S A s.heap s.heap [] := va_S.rf
  have hl := lv_entry ([.int v0]) (n := 1) (Nat.le_of_ble_eq_true rfl)
  rw [lg_entry_eq]
  generalize (lg_sl ([.int v0]) ++ List.replicate (1 - (lg_sl ([.int v0])).length) Slot.unset).toArray = ls at hl ⊢
  have hl : lv_has ls 1 [(0, .int v0)] := hl
  refine lv_iload_n hx hb dX9_binary_0 rfl (lv_at hl 0 rfl) ?_
  by_cases c_1 : v0 = 37
  · refine lv_lookup (off := 95) (tgt := 96) hx hb dX9_binary_1 (by decide) (by rw [c_1]; decide) (by decide) ?_
    refine lv_iconst (v := 3) hx hb dX9_binary_96 (by decide) ?_
    refine W.widen (k := 0) (n := 0) (by decide +kernel) (by decide +kernel) ?_
    exact W.iret (v := 3) hx hb hr (fun t ht hW => ⟨⟨3, (), rfl, Or.inl ⟨c_1, rfl⟩, by rw [ht]; exact hP, va_K.moved hW.alike hK, hD⟩, hS.F ht⟩) hS.2.2 dX9_binary_97
  by_cases c_2 : v0 = 38
  · refine lv_lookup (off := 107) (tgt := 108) hx hb dX9_binary_1 (by decide) (by rw [c_2]; decide) (by decide) ?_
    refine lv_bipush (v := 8) hx hb dX9_binary_108 (by decide) ?_
    refine W.widen (k := 0) (n := 0) (by decide +kernel) (by decide +kernel) ?_
    exact W.iret (v := 8) hx hb hr (fun t ht hW => ⟨⟨8, (), rfl, Or.inr (Or.inl ⟨c_1, c_2, rfl⟩), by rw [ht]; exact hP, va_K.moved hW.alike hK, hD⟩, hS.F ht⟩) hS.2.2 dX9_binary_110
  by_cases c_3 : v0 = 42
  · refine lv_lookup (off := 91) (tgt := 92) hx hb dX9_binary_1 (by decide) (by rw [c_3]; decide) (by decide) ?_
    refine lv_iconst (v := 1) hx hb dX9_binary_92 (by decide) ?_
    refine W.widen (k := 0) (n := 0) (by decide +kernel) (by decide +kernel) ?_
    exact W.iret (v := 1) hx hb hr (fun t ht hW => ⟨⟨1, (), rfl, Or.inr (Or.inr (Or.inl ⟨c_1, c_2, c_3, rfl⟩)), by rw [ht]; exact hP, va_K.moved hW.alike hK, hD⟩, hS.F ht⟩) hS.2.2 dX9_binary_93
  by_cases c_4 : v0 = 43
  · refine lv_lookup (off := 97) (tgt := 98) hx hb dX9_binary_1 (by decide) (by rw [c_4]; decide) (by decide) ?_
    refine lv_iconst (v := 4) hx hb dX9_binary_98 (by decide) ?_
    refine W.widen (k := 0) (n := 0) (by decide +kernel) (by decide +kernel) ?_
    exact W.iret (v := 4) hx hb hr (fun t ht hW => ⟨⟨4, (), rfl, Or.inr (Or.inr (Or.inr (Or.inl ⟨c_1, c_2, c_3, c_4, rfl⟩))), by rw [ht]; exact hP, va_K.moved hW.alike hK, hD⟩, hS.F ht⟩) hS.2.2 dX9_binary_99
  by_cases c_5 : v0 = 45
  · refine lv_lookup (off := 99) (tgt := 100) hx hb dX9_binary_1 (by decide) (by rw [c_5]; decide) (by decide) ?_
    refine lv_iconst (v := 5) hx hb dX9_binary_100 (by decide) ?_
    refine W.widen (k := 0) (n := 0) (by decide +kernel) (by decide +kernel) ?_
    exact W.iret (v := 5) hx hb hr (fun t ht hW => ⟨⟨5, (), rfl, Or.inr (Or.inr (Or.inr (Or.inr (Or.inl ⟨c_1, c_2, c_3, c_4, c_5, rfl⟩)))), by rw [ht]; exact hP, va_K.moved hW.alike hK, hD⟩, hS.F ht⟩) hS.2.2 dX9_binary_101
  by_cases c_6 : v0 = 47
  · refine lv_lookup (off := 93) (tgt := 94) hx hb dX9_binary_1 (by decide) (by rw [c_6]; decide) (by decide) ?_
    refine lv_iconst (v := 2) hx hb dX9_binary_94 (by decide) ?_
    refine W.widen (k := 0) (n := 0) (by decide +kernel) (by decide +kernel) ?_
    exact W.iret (v := 2) hx hb hr (fun t ht hW => ⟨⟨2, (), rfl, Or.inr (Or.inr (Or.inr (Or.inr (Or.inr (Or.inl ⟨c_1, c_2, c_3, c_4, c_5, c_6, rfl⟩))))), by rw [ht]; exact hP, va_K.moved hW.alike hK, hD⟩, hS.F ht⟩) hS.2.2 dX9_binary_95
  by_cases c_7 : v0 = 94
  · refine lv_lookup (off := 110) (tgt := 111) hx hb dX9_binary_1 (by decide) (by rw [c_7]; decide) (by decide) ?_
    refine lv_bipush (v := 9) hx hb dX9_binary_111 (by decide) ?_
    refine W.widen (k := 0) (n := 0) (by decide +kernel) (by decide +kernel) ?_
    exact W.iret (v := 9) hx hb hr (fun t ht hW => ⟨⟨9, (), rfl, Or.inr (Or.inr (Or.inr (Or.inr (Or.inr (Or.inr (Or.inl ⟨c_1, c_2, c_3, c_4, c_5, c_6, c_7, rfl⟩)))))), by rw [ht]; exact hP, va_K.moved hW.alike hK, hD⟩, hS.F ht⟩) hS.2.2 dX9_binary_113
  by_cases c_8 : v0 = 124
  · refine lv_lookup (off := 113) (tgt := 114) hx hb dX9_binary_1 (by decide) (by rw [c_8]; decide) (by decide) ?_
    refine lv_bipush (v := 10) hx hb dX9_binary_114 (by decide) ?_
    refine W.widen (k := 0) (n := 0) (by decide +kernel) (by decide +kernel) ?_
    exact W.iret (v := 10) hx hb hr (fun t ht hW => ⟨⟨10, (), rfl, Or.inr (Or.inr (Or.inr (Or.inr (Or.inr (Or.inr (Or.inr (Or.inl ⟨c_1, c_2, c_3, c_4, c_5, c_6, c_7, c_8, rfl⟩))))))), by rw [ht]; exact hP, va_K.moved hW.alike hK, hD⟩, hS.F ht⟩) hS.2.2 dX9_binary_116
  by_cases c_9 : v0 = 256
  · refine lv_lookup (off := 101) (tgt := 102) hx hb dX9_binary_1 (by decide) (by rw [c_9]; decide) (by decide) ?_
    refine lv_bipush (v := 6) hx hb dX9_binary_102 (by decide) ?_
    refine W.widen (k := 0) (n := 0) (by decide +kernel) (by decide +kernel) ?_
    exact W.iret (v := 6) hx hb hr (fun t ht hW => ⟨⟨6, (), rfl, Or.inr (Or.inr (Or.inr (Or.inr (Or.inr (Or.inr (Or.inr (Or.inr (Or.inl ⟨c_1, c_2, c_3, c_4, c_5, c_6, c_7, c_8, c_9, rfl⟩)))))))), by rw [ht]; exact hP, va_K.moved hW.alike hK, hD⟩, hS.F ht⟩) hS.2.2 dX9_binary_104
  by_cases c_10 : v0 = 257
  · refine lv_lookup (off := 104) (tgt := 105) hx hb dX9_binary_1 (by decide) (by rw [c_10]; decide) (by decide) ?_
    refine lv_bipush (v := 7) hx hb dX9_binary_105 (by decide) ?_
    refine W.widen (k := 0) (n := 0) (by decide +kernel) (by decide +kernel) ?_
    exact W.iret (v := 7) hx hb hr (fun t ht hW => ⟨⟨7, (), rfl, Or.inr (Or.inr (Or.inr (Or.inr (Or.inr (Or.inr (Or.inr (Or.inr (Or.inr (Or.inl ⟨c_1, c_2, c_3, c_4, c_5, c_6, c_7, c_8, c_9, c_10, rfl⟩))))))))), by rw [ht]; exact hP, va_K.moved hW.alike hK, hD⟩, hS.F ht⟩) hS.2.2 dX9_binary_107
  refine lv_lookup (off := 116) (tgt := 117) hx hb dX9_binary_1 (by decide) (show Op.lookupswitch.offset [(37, 95), (38, 107), (42, 91), (43, 97), (45, 99), (47, 93), (94, 110), (124, 113), (256, 101), (257, 104)] 116 (v0 : Int32).toInt = 116 by rw [lv_osw c_1 (by decide), lv_osw c_2 (by decide), lv_osw c_3 (by decide), lv_osw c_4 (by decide), lv_osw c_5 (by decide), lv_osw c_6 (by decide), lv_osw c_7 (by decide), lv_osw c_8 (by decide), lv_osw c_9 (by decide), lv_osw c_10 (by decide)] <;> rfl) (by decide) ?_
  refine lv_iconst (v := 0) hx hb dX9_binary_117 (by decide) ?_
  refine W.widen (k := 0) (n := 0) (by decide +kernel) (by decide +kernel) ?_
  exact W.iret (v := 0) hx hb hr (fun t ht hW => ⟨⟨0, (), rfl, Or.inr (Or.inr (Or.inr (Or.inr (Or.inr (Or.inr (Or.inr (Or.inr (Or.inr (Or.inr (Or.inl ⟨c_1, c_2, c_3, c_4, c_5, c_6, c_7, c_8, c_9, c_10, rfl⟩)))))))))), by rw [ht]; exact hP, va_K.moved hW.alike hK, hD⟩, hS.F ht⟩) hS.2.2 dX9_binary_118
def ow_k_X16_part_v20 : List Cond := .code yX16_part cX16_part 3 (some .int) :: ([] ++ [])
theorem gd_k_X16_part_v20 : ∀ w ∈ ow_k_X16_part_v20, (w.onTables && w.keeps) = true ∨ ∃ ty, w = Cond.arrayClass ty := List.forall_mem_cons.mpr ⟨good_of_word rfl, List.forall_mem_append.mpr ⟨fun w h => good_of_word (List.all_eq_true.mp (by decide +kernel) w h), fun _ h => nomatch h⟩⟩
set_option maxHeartbeats 40000000 in
set_option maxRecDepth 100000 in
theorem k_X16_part_v20 (l : Launch) (hlt : l.stackTraces = false) (dC : Nat → ClassId) (dI : Nat → Nat → Nat) (c0 : Int32) (sz : Nat) : Met l yX16_part ow_k_X16_part_v20 ({ frames := 0, cells := 0, slots := 0, locals := 0 }) (va_Pc [.int c0, .int 7, .int 5] (fun U => U.heap.size = sz ∧ va_P (dC, dI) vwCl [] U.heap ∧ va_K (dC, dI) vwCl [] U ∧ va_D (fun _ => True) [] ∧ nv_E (va_A [] sz) U)) (va_Qi (fun r _ => (r = ((((c0 : Int32).toUInt32 >>> ((7 : Int32).toUInt32 &&& Int32.toUInt32 31)).toInt32) &&& 31)) ∨ False) (fun (_ : Unit) t => va_P (dC, dI) vwCl [] t.heap ∧ va_K (dC, dI) vwCl [] t ∧ va_D (va_A [] sz) []) (va_A [] sz)) 0 0 (va_A [] sz) := by
  refine Met.ofW (cc := cX16_part) (maxL := 3) (ret := (some .int)) (by decide) rfl ?_
  intro p e s m args below meth c s₁ B hml hv
  obtain ⟨rfl, hsz, hP, hK, hD0, hN⟩ := hv
  have hx := B.exec
  have hb := B.bytes
  have hr := B.returns
  have hts := atoms_spec (ws := ow_k_X16_part_v20) B.pre
  have hown : s.vm.findClass RX16 = some m.cls := findClass_of_methodNamed B.named
  have hlocks := B.notSynchronized
  subst hsz
  have hD := hD0.self (sz := s.heap.size)
  generalize hAe : va_A [] s.heap.size = A at hD hN ⊢
  have hA : ∀ q : Nat, s.heap.size ≤ q → A q := fun q h => by rw [← hAe]; exact Or.inr h
  have hS : va_S A s.heap s.heap [] := va_S.rf
  have hl := lv_entry ([.int c0, .int 7, .int 5]) (n := 3) (Nat.le_of_ble_eq_true rfl)
  rw [lg_entry_eq]
  generalize (lg_sl ([.int c0, .int 7, .int 5]) ++ List.replicate (3 - (lg_sl ([.int c0, .int 7, .int 5])).length) Slot.unset).toArray = ls at hl ⊢
  have hl : lv_has ls 3 [(0, .int c0), (1, .int 7), (2, .int 5)] := hl
  refine lv_iload_n hx hb dX16_part_0 rfl (lv_at hl 0 rfl) ?_
  refine lv_iload_n hx hb dX16_part_1 rfl (lv_at hl 1 rfl) ?_
  refine lv_iushr hx hb dX16_part_2 rfl ?_
  refine lv_iconst (v := 1) hx hb dX16_part_3 (by decide) ?_
  refine lv_iload_n hx hb dX16_part_4 rfl (lv_at hl 2 rfl) ?_
  refine lv_ishl hx hb dX16_part_5 ?_
  refine lv_topi (fun z1 ez1 => ?_)
  obtain rfl : z1 = 32 := ez1.trans (by decide)
  refine lv_iconst (v := 1) hx hb dX16_part_6 (by decide) ?_
  refine lv_isub hx hb dX16_part_7 ?_
  refine lv_topi (fun z2 ez2 => ?_)
  obtain rfl : z2 = 31 := ez2.trans (by decide)
  refine lv_iand hx hb dX16_part_8 ?_
  refine W.widen (k := 0) (n := 0) (by decide +kernel) (by decide +kernel) ?_
  exact W.iret (v := ((((c0 : Int32).toUInt32 >>> ((7 : Int32).toUInt32 &&& Int32.toUInt32 31)).toInt32) &&& 31)) hx hb hr (fun t ht hW => ⟨⟨((((c0 : Int32).toUInt32 >>> ((7 : Int32).toUInt32 &&& Int32.toUInt32 31)).toInt32) &&& 31), (), rfl, Or.inl rfl, by rw [ht]; exact hP, va_K.moved hW.alike hK, hD⟩, hS.F ht⟩) hS.2.2 dX16_part_9
def ow_k_X16_part_v21 : List Cond := .code yX16_part cX16_part 3 (some .int) :: ([] ++ [])
theorem gd_k_X16_part_v21 : ∀ w ∈ ow_k_X16_part_v21, (w.onTables && w.keeps) = true ∨ ∃ ty, w = Cond.arrayClass ty := List.forall_mem_cons.mpr ⟨good_of_word rfl, List.forall_mem_append.mpr ⟨fun w h => good_of_word (List.all_eq_true.mp (by decide +kernel) w h), fun _ h => nomatch h⟩⟩
set_option maxHeartbeats 40000000 in
set_option maxRecDepth 100000 in
theorem k_X16_part_v21 (l : Launch) (hlt : l.stackTraces = false) (dC : Nat → ClassId) (dI : Nat → Nat → Nat) (c0 : Int32) (sz : Nat) : Met l yX16_part ow_k_X16_part_v21 ({ frames := 0, cells := 0, slots := 0, locals := 0 }) (va_Pc [.int c0, .int 2, .int 5] (fun U => U.heap.size = sz ∧ va_P (dC, dI) vwCl [] U.heap ∧ va_K (dC, dI) vwCl [] U ∧ va_D (fun _ => True) [] ∧ nv_E (va_A [] sz) U)) (va_Qi (fun r _ => (r = ((((c0 : Int32).toUInt32 >>> ((2 : Int32).toUInt32 &&& Int32.toUInt32 31)).toInt32) &&& 31)) ∨ False) (fun (_ : Unit) t => va_P (dC, dI) vwCl [] t.heap ∧ va_K (dC, dI) vwCl [] t ∧ va_D (va_A [] sz) []) (va_A [] sz)) 0 0 (va_A [] sz) := by
  refine Met.ofW (cc := cX16_part) (maxL := 3) (ret := (some .int)) (by decide) rfl ?_
  intro p e s m args below meth c s₁ B hml hv
  obtain ⟨rfl, hsz, hP, hK, hD0, hN⟩ := hv
  have hx := B.exec
  have hb := B.bytes
  have hr := B.returns
  have hts := atoms_spec (ws := ow_k_X16_part_v21) B.pre
  have hown : s.vm.findClass RX16 = some m.cls := findClass_of_methodNamed B.named
  have hlocks := B.notSynchronized
  subst hsz
  have hD := hD0.self (sz := s.heap.size)
  generalize hAe : va_A [] s.heap.size = A at hD hN ⊢
  have hA : ∀ q : Nat, s.heap.size ≤ q → A q := fun q h => by rw [← hAe]; exact Or.inr h
  have hS : va_S A s.heap s.heap [] := va_S.rf
  have hl := lv_entry ([.int c0, .int 2, .int 5]) (n := 3) (Nat.le_of_ble_eq_true rfl)
  rw [lg_entry_eq]
  generalize (lg_sl ([.int c0, .int 2, .int 5]) ++ List.replicate (3 - (lg_sl ([.int c0, .int 2, .int 5])).length) Slot.unset).toArray = ls at hl ⊢
  have hl : lv_has ls 3 [(0, .int c0), (1, .int 2), (2, .int 5)] := hl
  refine lv_iload_n hx hb dX16_part_0 rfl (lv_at hl 0 rfl) ?_
  refine lv_iload_n hx hb dX16_part_1 rfl (lv_at hl 1 rfl) ?_
  refine lv_iushr hx hb dX16_part_2 rfl ?_
  refine lv_iconst (v := 1) hx hb dX16_part_3 (by decide) ?_
  refine lv_iload_n hx hb dX16_part_4 rfl (lv_at hl 2 rfl) ?_
  refine lv_ishl hx hb dX16_part_5 ?_
  refine lv_topi (fun z1 ez1 => ?_)
  obtain rfl : z1 = 32 := ez1.trans (by decide)
  refine lv_iconst (v := 1) hx hb dX16_part_6 (by decide) ?_
  refine lv_isub hx hb dX16_part_7 ?_
  refine lv_topi (fun z2 ez2 => ?_)
  obtain rfl : z2 = 31 := ez2.trans (by decide)
  refine lv_iand hx hb dX16_part_8 ?_
  refine W.widen (k := 0) (n := 0) (by decide +kernel) (by decide +kernel) ?_
  exact W.iret (v := ((((c0 : Int32).toUInt32 >>> ((2 : Int32).toUInt32 &&& Int32.toUInt32 31)).toInt32) &&& 31)) hx hb hr (fun t ht hW => ⟨⟨((((c0 : Int32).toUInt32 >>> ((2 : Int32).toUInt32 &&& Int32.toUInt32 31)).toInt32) &&& 31), (), rfl, Or.inl rfl, by rw [ht]; exact hP, va_K.moved hW.alike hK, hD⟩, hS.F ht⟩) hS.2.2 dX16_part_9
def ow_k_X16_part_v22 : List Cond := .code yX16_part cX16_part 3 (some .int) :: ([] ++ [])
theorem gd_k_X16_part_v22 : ∀ w ∈ ow_k_X16_part_v22, (w.onTables && w.keeps) = true ∨ ∃ ty, w = Cond.arrayClass ty := List.forall_mem_cons.mpr ⟨good_of_word rfl, List.forall_mem_append.mpr ⟨fun w h => good_of_word (List.all_eq_true.mp (by decide +kernel) w h), fun _ h => nomatch h⟩⟩
set_option maxHeartbeats 40000000 in
set_option maxRecDepth 100000 in
theorem k_X16_part_v22 (l : Launch) (hlt : l.stackTraces = false) (dC : Nat → ClassId) (dI : Nat → Nat → Nat) (c0 : Int32) (sz : Nat) : Met l yX16_part ow_k_X16_part_v22 ({ frames := 0, cells := 0, slots := 0, locals := 0 }) (va_Pc [.int c0, .int 12, .int 1] (fun U => U.heap.size = sz ∧ va_P (dC, dI) vwCl [] U.heap ∧ va_K (dC, dI) vwCl [] U ∧ va_D (fun _ => True) [] ∧ nv_E (va_A [] sz) U)) (va_Qi (fun r _ => (r = ((((c0 : Int32).toUInt32 >>> ((12 : Int32).toUInt32 &&& Int32.toUInt32 31)).toInt32) &&& 1)) ∨ False) (fun (_ : Unit) t => va_P (dC, dI) vwCl [] t.heap ∧ va_K (dC, dI) vwCl [] t ∧ va_D (va_A [] sz) []) (va_A [] sz)) 0 0 (va_A [] sz) := by
  refine Met.ofW (cc := cX16_part) (maxL := 3) (ret := (some .int)) (by decide) rfl ?_
  intro p e s m args below meth c s₁ B hml hv
  obtain ⟨rfl, hsz, hP, hK, hD0, hN⟩ := hv
  have hx := B.exec
  have hb := B.bytes
  have hr := B.returns
  have hts := atoms_spec (ws := ow_k_X16_part_v22) B.pre
  have hown : s.vm.findClass RX16 = some m.cls := findClass_of_methodNamed B.named
  have hlocks := B.notSynchronized
  subst hsz
  have hD := hD0.self (sz := s.heap.size)
  generalize hAe : va_A [] s.heap.size = A at hD hN ⊢
  have hA : ∀ q : Nat, s.heap.size ≤ q → A q := fun q h => by rw [← hAe]; exact Or.inr h
  have hS : va_S A s.heap s.heap [] := va_S.rf
  have hl := lv_entry ([.int c0, .int 12, .int 1]) (n := 3) (Nat.le_of_ble_eq_true rfl)
  rw [lg_entry_eq]
  generalize (lg_sl ([.int c0, .int 12, .int 1]) ++ List.replicate (3 - (lg_sl ([.int c0, .int 12, .int 1])).length) Slot.unset).toArray = ls at hl ⊢
  have hl : lv_has ls 3 [(0, .int c0), (1, .int 12), (2, .int 1)] := hl
  refine lv_iload_n hx hb dX16_part_0 rfl (lv_at hl 0 rfl) ?_
  refine lv_iload_n hx hb dX16_part_1 rfl (lv_at hl 1 rfl) ?_
  refine lv_iushr hx hb dX16_part_2 rfl ?_
  refine lv_iconst (v := 1) hx hb dX16_part_3 (by decide) ?_
  refine lv_iload_n hx hb dX16_part_4 rfl (lv_at hl 2 rfl) ?_
  refine lv_ishl hx hb dX16_part_5 ?_
  refine lv_topi (fun z1 ez1 => ?_)
  obtain rfl : z1 = 2 := ez1.trans (by decide)
  refine lv_iconst (v := 1) hx hb dX16_part_6 (by decide) ?_
  refine lv_isub hx hb dX16_part_7 ?_
  refine lv_topi (fun z2 ez2 => ?_)
  obtain rfl : z2 = 1 := ez2.trans (by decide)
  refine lv_iand hx hb dX16_part_8 ?_
  refine W.widen (k := 0) (n := 0) (by decide +kernel) (by decide +kernel) ?_
  exact W.iret (v := ((((c0 : Int32).toUInt32 >>> ((12 : Int32).toUInt32 &&& Int32.toUInt32 31)).toInt32) &&& 1)) hx hb hr (fun t ht hW => ⟨⟨((((c0 : Int32).toUInt32 >>> ((12 : Int32).toUInt32 &&& Int32.toUInt32 31)).toInt32) &&& 1), (), rfl, Or.inl rfl, by rw [ht]; exact hP, va_K.moved hW.alike hK, hD⟩, hS.F ht⟩) hS.2.2 dX16_part_9
def ow_k_X16_bit_v16 : List Cond := .code yX16_bit cX16_bit 4 (some .int) :: ([.methodLink RX16 297 yX16_part, .static yX16_part, .initialized RX16] ++ (ow_k_X16_part_v22 ++ []))
theorem gd_k_X16_bit_v16 : ∀ w ∈ ow_k_X16_bit_v16, (w.onTables && w.keeps) = true ∨ ∃ ty, w = Cond.arrayClass ty := List.forall_mem_cons.mpr ⟨good_of_word rfl, List.forall_mem_append.mpr ⟨fun w h => good_of_word (List.all_eq_true.mp (by decide +kernel) w h), List.forall_mem_append.mpr ⟨gd_k_X16_part_v22, fun _ h => nomatch h⟩⟩⟩
theorem gi_k_X16_bit_v16_0 : GoodIn ow_k_X16_bit_v16 (wsS RX16 297 yX16_part ow_k_X16_part_v22) := goodIn_app (goodIn_of _ (by decide +kernel)) (fun w h => ⟨List.mem_cons_of_mem _ (List.mem_append_right _ (List.mem_append_left _ h)), gd_k_X16_part_v22 w h⟩)
set_option maxHeartbeats 40000000 in
set_option maxRecDepth 100000 in
theorem k_X16_bit_v16 (l : Launch) (hlt : l.stackTraces = false) (dC : Nat → ClassId) (dI : Nat → Nat → Nat) (c0 : Int32) (sz : Nat) : Met l yX16_bit ow_k_X16_bit_v16 ({ frames := 1, cells := 0, slots := 0, locals := 22 }) (va_Pc [.int c0, .int 12, .int 1, .int 5] (fun U => U.heap.size = sz ∧ va_P (dC, dI) vwCl [] U.heap ∧ va_K (dC, dI) vwCl [] U ∧ va_D (fun _ => True) [] ∧ nv_E (va_A [] sz) U)) (va_Qi (fun r _ => (r = ((((((c0 : Int32).toUInt32 >>> ((12 : Int32).toUInt32 &&& Int32.toUInt32 31)).toInt32) &&& 1) : Int32) <<< ((5 : Int32) &&& 31))) ∨ False) (fun (_ : Unit) t => va_P (dC, dI) vwCl [] t.heap ∧ va_K (dC, dI) vwCl [] t ∧ va_D (va_A [] sz) []) (va_A [] sz)) 0 0 (va_A [] sz) := by
  refine Met.ofW (cc := cX16_bit) (maxL := 4) (ret := (some .int)) (by decide) rfl ?_
  intro p e s m args below meth c s₁ B hml hv
  obtain ⟨rfl, hsz, hP, hK, hD0, hN⟩ := hv
  have hx := B.exec
  have hb := B.bytes
  have hr := B.returns
  have hts := atoms_spec (ws := ow_k_X16_bit_v16) B.pre
  have hown : s.vm.findClass RX16 = some m.cls := findClass_of_methodNamed B.named
  have hlocks := B.notSynchronized
  subst hsz
  have hD := hD0.self (sz := s.heap.size)
  generalize hAe : va_A [] s.heap.size = A at hD hN ⊢
  have hA : ∀ q : Nat, s.heap.size ≤ q → A q := fun q h => by rw [← hAe]; exact Or.inr h
  have hS : va_S A s.heap s.heap [] := va_S.rf
  have hl := lv_entry ([.int c0, .int 12, .int 1, .int 5]) (n := 4) (Nat.le_of_ble_eq_true rfl)
  rw [lg_entry_eq]
  generalize (lg_sl ([.int c0, .int 12, .int 1, .int 5]) ++ List.replicate (4 - (lg_sl ([.int c0, .int 12, .int 1, .int 5])).length) Slot.unset).toArray = ls at hl ⊢
  have hl : lv_has ls 4 [(0, .int c0), (1, .int 12), (2, .int 1), (3, .int 5)] := hl
  refine lv_iload_n hx hb dX16_bit_0 rfl (lv_at hl 0 rfl) ?_
  refine lv_iload_n hx hb dX16_bit_1 rfl (lv_at hl 1 rfl) ?_
  refine lv_iload_n hx hb dX16_bit_2 rfl (lv_at hl 2 rfl) ?_
  have hPc := hP.sub (ws' := []) [] rfl
  have hDc := hD.sub (ws' := []) [] (by decide) rfl
  have hKc := hK.sub (tys' := []) [] rfl
  have hFc := va_free (wc := []) hD hS hA [] rfl
  refine va_calli (va_runS (As := [.int c0, .int 12, .int 1]) (rest := []) ⟨hx, hb, hml, hown, hts⟩ (k_X16_part_v22 l hlt dC dI c0  s.heap.size) (cwS 3 hts gi_k_X16_bit_v16_0 rfl rfl rfl (by decide +kernel) ⟨Nat.le_of_ble_eq_true rfl, Nat.le_of_ble_eq_true rfl⟩) ⟨fun a U g mk q => by obtain ⟨q0, q1, qP, qK, qD, qN⟩ := q; exact ⟨q0, q1, qP, va_K.moved (u := U) (U := U.calling g mk a) (Vm.Alike.refl U.vm) qK, qD, nv_same rfl rfl qN⟩, fun U hU hW => ⟨rfl, by rw [hU], by rw [hU]; exact hPc, va_K.moved hW.alike hKc, hDc.weaken (fun _ _ _ _ => trivial), nv_call hS hFc hU hW hN⟩⟩ rfl rfl hl.1 rfl (lv_room (Nat.le_of_ble_eq_true rfl)) dX16_bit_3 ⟨by decide +kernel, by decide +kernel⟩) hS (fun q _ h => hFc q h) hFc (fun r1 u t H1 locs ht hvm hw hB hz1 hk1 hS => ?_)
  obtain ⟨hP1, hK1, hD1⟩ := hB
  rw [ht] at hP1
  have hK1 := va_K.moved hvm.symm hK1
  obtain ⟨hP, hD⟩ := va_join (wr := []) (w1 := []) hP hD [] [] rfl rfl (by decide) (by decide) hk1 hFc hP1 hD1
  have hK := (hK.sub (tys' := []) [] rfl).app hK1
  generalize H1 = H at hP hS ⊢
  have hP : va_P (dC, dI) vwCl [] H := hP
  have hD : va_D A [] := hD
  have hK : va_K (dC, dI) vwCl [] s := hK
  refine W.widen (k := 0) (n := 0) (by decide +kernel) (by decide +kernel) ?_
  rcases hw with h9 | h9
  · subst h9
    refine lv_iload_n hx hb dX16_bit_6 rfl (lv_at hl 3 rfl) ?_
    refine lv_ishl hx hb dX16_bit_7 ?_
    refine W.widen (k := 0) (n := 0) (by decide +kernel) (by decide +kernel) ?_
    exact W.iret (v := ((((((c0 : Int32).toUInt32 >>> ((12 : Int32).toUInt32 &&& Int32.toUInt32 31)).toInt32) &&& 1) : Int32) <<< ((5 : Int32) &&& 31))) hx hb hr (fun t ht hW => ⟨⟨((((((c0 : Int32).toUInt32 >>> ((12 : Int32).toUInt32 &&& Int32.toUInt32 31)).toInt32) &&& 1) : Int32) <<< ((5 : Int32) &&& 31)), (), rfl, Or.inl rfl, by rw [ht]; exact hP, va_K.moved hW.alike hK, hD⟩, hS.F ht⟩) hS.2.2 dX16_bit_8
  · exact h9.elim
def ow_k_X16_part_v23 : List Cond := .code yX16_part cX16_part 3 (some .int) :: ([] ++ [])
theorem gd_k_X16_part_v23 : ∀ w ∈ ow_k_X16_part_v23, (w.onTables && w.keeps) = true ∨ ∃ ty, w = Cond.arrayClass ty := List.forall_mem_cons.mpr ⟨good_of_word rfl, List.forall_mem_append.mpr ⟨fun w h => good_of_word (List.all_eq_true.mp (by decide +kernel) w h), fun _ h => nomatch h⟩⟩
set_option maxHeartbeats 40000000 in
set_option maxRecDepth 100000 in
theorem k_X16_part_v23 (l : Launch) (hlt : l.stackTraces = false) (dC : Nat → ClassId) (dI : Nat → Nat → Nat) (c0 : Int32) (sz : Nat) : Met l yX16_part ow_k_X16_part_v23 ({ frames := 0, cells := 0, slots := 0, locals := 0 }) (va_Pc [.int c0, .int 4, .int 3] (fun U => U.heap.size = sz ∧ va_P (dC, dI) vwCl [] U.heap ∧ va_K (dC, dI) vwCl [] U ∧ va_D (fun _ => True) [] ∧ nv_E (va_A [] sz) U)) (va_Qi (fun r _ => (r = ((((c0 : Int32).toUInt32 >>> ((4 : Int32).toUInt32 &&& Int32.toUInt32 31)).toInt32) &&& 7)) ∨ False) (fun (_ : Unit) t => va_P (dC, dI) vwCl [] t.heap ∧ va_K (dC, dI) vwCl [] t ∧ va_D (va_A [] sz) []) (va_A [] sz)) 0 0 (va_A [] sz) := by
  refine Met.ofW (cc := cX16_part) (maxL := 3) (ret := (some .int)) (by decide) rfl ?_
  intro p e s m args below meth c s₁ B hml hv
  obtain ⟨rfl, hsz, hP, hK, hD0, hN⟩ := hv
  have hx := B.exec
  have hb := B.bytes
  have hr := B.returns
  have hts := atoms_spec (ws := ow_k_X16_part_v23) B.pre
  have hown : s.vm.findClass RX16 = some m.cls := findClass_of_methodNamed B.named
  have hlocks := B.notSynchronized
  subst hsz
  have hD := hD0.self (sz := s.heap.size)
  generalize hAe : va_A [] s.heap.size = A at hD hN ⊢
  have hA : ∀ q : Nat, s.heap.size ≤ q → A q := fun q h => by rw [← hAe]; exact Or.inr h
  have hS : va_S A s.heap s.heap [] := va_S.rf
  have hl := lv_entry ([.int c0, .int 4, .int 3]) (n := 3) (Nat.le_of_ble_eq_true rfl)
  rw [lg_entry_eq]
  generalize (lg_sl ([.int c0, .int 4, .int 3]) ++ List.replicate (3 - (lg_sl ([.int c0, .int 4, .int 3])).length) Slot.unset).toArray = ls at hl ⊢
  have hl : lv_has ls 3 [(0, .int c0), (1, .int 4), (2, .int 3)] := hl
  refine lv_iload_n hx hb dX16_part_0 rfl (lv_at hl 0 rfl) ?_
  refine lv_iload_n hx hb dX16_part_1 rfl (lv_at hl 1 rfl) ?_
  refine lv_iushr hx hb dX16_part_2 rfl ?_
  refine lv_iconst (v := 1) hx hb dX16_part_3 (by decide) ?_
  refine lv_iload_n hx hb dX16_part_4 rfl (lv_at hl 2 rfl) ?_
  refine lv_ishl hx hb dX16_part_5 ?_
  refine lv_topi (fun z1 ez1 => ?_)
  obtain rfl : z1 = 8 := ez1.trans (by decide)
  refine lv_iconst (v := 1) hx hb dX16_part_6 (by decide) ?_
  refine lv_isub hx hb dX16_part_7 ?_
  refine lv_topi (fun z2 ez2 => ?_)
  obtain rfl : z2 = 7 := ez2.trans (by decide)
  refine lv_iand hx hb dX16_part_8 ?_
  refine W.widen (k := 0) (n := 0) (by decide +kernel) (by decide +kernel) ?_
  exact W.iret (v := ((((c0 : Int32).toUInt32 >>> ((4 : Int32).toUInt32 &&& Int32.toUInt32 31)).toInt32) &&& 7)) hx hb hr (fun t ht hW => ⟨⟨((((c0 : Int32).toUInt32 >>> ((4 : Int32).toUInt32 &&& Int32.toUInt32 31)).toInt32) &&& 7), (), rfl, Or.inl rfl, by rw [ht]; exact hP, va_K.moved hW.alike hK, hD⟩, hS.F ht⟩) hS.2.2 dX16_part_9
def ow_k_X16_bit_v17 : List Cond := .code yX16_bit cX16_bit 4 (some .int) :: ([.methodLink RX16 297 yX16_part, .static yX16_part, .initialized RX16] ++ (ow_k_X16_part_v23 ++ []))
theorem gd_k_X16_bit_v17 : ∀ w ∈ ow_k_X16_bit_v17, (w.onTables && w.keeps) = true ∨ ∃ ty, w = Cond.arrayClass ty := List.forall_mem_cons.mpr ⟨good_of_word rfl, List.forall_mem_append.mpr ⟨fun w h => good_of_word (List.all_eq_true.mp (by decide +kernel) w h), List.forall_mem_append.mpr ⟨gd_k_X16_part_v23, fun _ h => nomatch h⟩⟩⟩
theorem gi_k_X16_bit_v17_0 : GoodIn ow_k_X16_bit_v17 (wsS RX16 297 yX16_part ow_k_X16_part_v23) := goodIn_app (goodIn_of _ (by decide +kernel)) (fun w h => ⟨List.mem_cons_of_mem _ (List.mem_append_right _ (List.mem_append_left _ h)), gd_k_X16_part_v23 w h⟩)
set_option maxHeartbeats 40000000 in
set_option maxRecDepth 100000 in
theorem k_X16_bit_v17 (l : Launch) (hlt : l.stackTraces = false) (dC : Nat → ClassId) (dI : Nat → Nat → Nat) (c0 : Int32) (sz : Nat) : Met l yX16_bit ow_k_X16_bit_v17 ({ frames := 1, cells := 0, slots := 0, locals := 22 }) (va_Pc [.int c0, .int 4, .int 3, .int 2] (fun U => U.heap.size = sz ∧ va_P (dC, dI) vwCl [] U.heap ∧ va_K (dC, dI) vwCl [] U ∧ va_D (fun _ => True) [] ∧ nv_E (va_A [] sz) U)) (va_Qi (fun r _ => (r = ((((((c0 : Int32).toUInt32 >>> ((4 : Int32).toUInt32 &&& Int32.toUInt32 31)).toInt32) &&& 7) : Int32) <<< ((2 : Int32) &&& 31))) ∨ False) (fun (_ : Unit) t => va_P (dC, dI) vwCl [] t.heap ∧ va_K (dC, dI) vwCl [] t ∧ va_D (va_A [] sz) []) (va_A [] sz)) 0 0 (va_A [] sz) := by
  refine Met.ofW (cc := cX16_bit) (maxL := 4) (ret := (some .int)) (by decide) rfl ?_
  intro p e s m args below meth c s₁ B hml hv
  obtain ⟨rfl, hsz, hP, hK, hD0, hN⟩ := hv
  have hx := B.exec
  have hb := B.bytes
  have hr := B.returns
  have hts := atoms_spec (ws := ow_k_X16_bit_v17) B.pre
  have hown : s.vm.findClass RX16 = some m.cls := findClass_of_methodNamed B.named
  have hlocks := B.notSynchronized
  subst hsz
  have hD := hD0.self (sz := s.heap.size)
  generalize hAe : va_A [] s.heap.size = A at hD hN ⊢
  have hA : ∀ q : Nat, s.heap.size ≤ q → A q := fun q h => by rw [← hAe]; exact Or.inr h
  have hS : va_S A s.heap s.heap [] := va_S.rf
  have hl := lv_entry ([.int c0, .int 4, .int 3, .int 2]) (n := 4) (Nat.le_of_ble_eq_true rfl)
  rw [lg_entry_eq]
  generalize (lg_sl ([.int c0, .int 4, .int 3, .int 2]) ++ List.replicate (4 - (lg_sl ([.int c0, .int 4, .int 3, .int 2])).length) Slot.unset).toArray = ls at hl ⊢
  have hl : lv_has ls 4 [(0, .int c0), (1, .int 4), (2, .int 3), (3, .int 2)] := hl
  refine lv_iload_n hx hb dX16_bit_0 rfl (lv_at hl 0 rfl) ?_
  refine lv_iload_n hx hb dX16_bit_1 rfl (lv_at hl 1 rfl) ?_
  refine lv_iload_n hx hb dX16_bit_2 rfl (lv_at hl 2 rfl) ?_
  have hPc := hP.sub (ws' := []) [] rfl
  have hDc := hD.sub (ws' := []) [] (by decide) rfl
  have hKc := hK.sub (tys' := []) [] rfl
  have hFc := va_free (wc := []) hD hS hA [] rfl
  refine va_calli (va_runS (As := [.int c0, .int 4, .int 3]) (rest := []) ⟨hx, hb, hml, hown, hts⟩ (k_X16_part_v23 l hlt dC dI c0  s.heap.size) (cwS 3 hts gi_k_X16_bit_v17_0 rfl rfl rfl (by decide +kernel) ⟨Nat.le_of_ble_eq_true rfl, Nat.le_of_ble_eq_true rfl⟩) ⟨fun a U g mk q => by obtain ⟨q0, q1, qP, qK, qD, qN⟩ := q; exact ⟨q0, q1, qP, va_K.moved (u := U) (U := U.calling g mk a) (Vm.Alike.refl U.vm) qK, qD, nv_same rfl rfl qN⟩, fun U hU hW => ⟨rfl, by rw [hU], by rw [hU]; exact hPc, va_K.moved hW.alike hKc, hDc.weaken (fun _ _ _ _ => trivial), nv_call hS hFc hU hW hN⟩⟩ rfl rfl hl.1 rfl (lv_room (Nat.le_of_ble_eq_true rfl)) dX16_bit_3 ⟨by decide +kernel, by decide +kernel⟩) hS (fun q _ h => hFc q h) hFc (fun r1 u t H1 locs ht hvm hw hB hz1 hk1 hS => ?_)
  obtain ⟨hP1, hK1, hD1⟩ := hB
  rw [ht] at hP1
  have hK1 := va_K.moved hvm.symm hK1
  obtain ⟨hP, hD⟩ := va_join (wr := []) (w1 := []) hP hD [] [] rfl rfl (by decide) (by decide) hk1 hFc hP1 hD1
  have hK := (hK.sub (tys' := []) [] rfl).app hK1
  generalize H1 = H at hP hS ⊢
  have hP : va_P (dC, dI) vwCl [] H := hP
  have hD : va_D A [] := hD
  have hK : va_K (dC, dI) vwCl [] s := hK
  refine W.widen (k := 0) (n := 0) (by decide +kernel) (by decide +kernel) ?_
  rcases hw with h9 | h9
  · subst h9
    refine lv_iload_n hx hb dX16_bit_6 rfl (lv_at hl 3 rfl) ?_
    refine lv_ishl hx hb dX16_bit_7 ?_
    refine W.widen (k := 0) (n := 0) (by decide +kernel) (by decide +kernel) ?_
    exact W.iret (v := ((((((c0 : Int32).toUInt32 >>> ((4 : Int32).toUInt32 &&& Int32.toUInt32 31)).toInt32) &&& 7) : Int32) <<< ((2 : Int32) &&& 31))) hx hb hr (fun t ht hW => ⟨⟨((((((c0 : Int32).toUInt32 >>> ((4 : Int32).toUInt32 &&& Int32.toUInt32 31)).toInt32) &&& 7) : Int32) <<< ((2 : Int32) &&& 31)), (), rfl, Or.inl rfl, by rw [ht]; exact hP, va_K.moved hW.alike hK, hD⟩, hS.F ht⟩) hS.2.2 dX16_bit_8
  · exact h9.elim
def ow_k_X16_part_v24 : List Cond := .code yX16_part cX16_part 3 (some .int) :: ([] ++ [])
theorem gd_k_X16_part_v24 : ∀ w ∈ ow_k_X16_part_v24, (w.onTables && w.keeps) = true ∨ ∃ ty, w = Cond.arrayClass ty := List.forall_mem_cons.mpr ⟨good_of_word rfl, List.forall_mem_append.mpr ⟨fun w h => good_of_word (List.all_eq_true.mp (by decide +kernel) w h), fun _ h => nomatch h⟩⟩
set_option maxHeartbeats 40000000 in
set_option maxRecDepth 100000 in
theorem k_X16_part_v24 (l : Launch) (hlt : l.stackTraces = false) (dC : Nat → ClassId) (dI : Nat → Nat → Nat) (c0 : Int32) (sz : Nat) : Met l yX16_part ow_k_X16_part_v24 ({ frames := 0, cells := 0, slots := 0, locals := 0 }) (va_Pc [.int c0, .int 2, .int 2] (fun U => U.heap.size = sz ∧ va_P (dC, dI) vwCl [] U.heap ∧ va_K (dC, dI) vwCl [] U ∧ va_D (fun _ => True) [] ∧ nv_E (va_A [] sz) U)) (va_Qi (fun r _ => (r = ((((c0 : Int32).toUInt32 >>> ((2 : Int32).toUInt32 &&& Int32.toUInt32 31)).toInt32) &&& 3)) ∨ False) (fun (_ : Unit) t => va_P (dC, dI) vwCl [] t.heap ∧ va_K (dC, dI) vwCl [] t ∧ va_D (va_A [] sz) []) (va_A [] sz)) 0 0 (va_A [] sz) := by
  refine Met.ofW (cc := cX16_part) (maxL := 3) (ret := (some .int)) (by decide) rfl ?_
  intro p e s m args below meth c s₁ B hml hv
  obtain ⟨rfl, hsz, hP, hK, hD0, hN⟩ := hv
  have hx := B.exec
  have hb := B.bytes
  have hr := B.returns
  have hts := atoms_spec (ws := ow_k_X16_part_v24) B.pre
  have hown : s.vm.findClass RX16 = some m.cls := findClass_of_methodNamed B.named
  have hlocks := B.notSynchronized
  subst hsz
  have hD := hD0.self (sz := s.heap.size)
  generalize hAe : va_A [] s.heap.size = A at hD hN ⊢
  have hA : ∀ q : Nat, s.heap.size ≤ q → A q := fun q h => by rw [← hAe]; exact Or.inr h
  have hS : va_S A s.heap s.heap [] := va_S.rf
  have hl := lv_entry ([.int c0, .int 2, .int 2]) (n := 3) (Nat.le_of_ble_eq_true rfl)
  rw [lg_entry_eq]
  generalize (lg_sl ([.int c0, .int 2, .int 2]) ++ List.replicate (3 - (lg_sl ([.int c0, .int 2, .int 2])).length) Slot.unset).toArray = ls at hl ⊢
  have hl : lv_has ls 3 [(0, .int c0), (1, .int 2), (2, .int 2)] := hl
  refine lv_iload_n hx hb dX16_part_0 rfl (lv_at hl 0 rfl) ?_
  refine lv_iload_n hx hb dX16_part_1 rfl (lv_at hl 1 rfl) ?_
  refine lv_iushr hx hb dX16_part_2 rfl ?_
  refine lv_iconst (v := 1) hx hb dX16_part_3 (by decide) ?_
  refine lv_iload_n hx hb dX16_part_4 rfl (lv_at hl 2 rfl) ?_
  refine lv_ishl hx hb dX16_part_5 ?_
  refine lv_topi (fun z1 ez1 => ?_)
  obtain rfl : z1 = 4 := ez1.trans (by decide)
  refine lv_iconst (v := 1) hx hb dX16_part_6 (by decide) ?_
  refine lv_isub hx hb dX16_part_7 ?_
  refine lv_topi (fun z2 ez2 => ?_)
  obtain rfl : z2 = 3 := ez2.trans (by decide)
  refine lv_iand hx hb dX16_part_8 ?_
  refine W.widen (k := 0) (n := 0) (by decide +kernel) (by decide +kernel) ?_
  exact W.iret (v := ((((c0 : Int32).toUInt32 >>> ((2 : Int32).toUInt32 &&& Int32.toUInt32 31)).toInt32) &&& 3)) hx hb hr (fun t ht hW => ⟨⟨((((c0 : Int32).toUInt32 >>> ((2 : Int32).toUInt32 &&& Int32.toUInt32 31)).toInt32) &&& 3), (), rfl, Or.inl rfl, by rw [ht]; exact hP, va_K.moved hW.alike hK, hD⟩, hS.F ht⟩) hS.2.2 dX16_part_9
def ow_k_X16_bit_v18 : List Cond := .code yX16_bit cX16_bit 4 (some .int) :: ([.methodLink RX16 297 yX16_part, .static yX16_part, .initialized RX16] ++ (ow_k_X16_part_v24 ++ []))
theorem gd_k_X16_bit_v18 : ∀ w ∈ ow_k_X16_bit_v18, (w.onTables && w.keeps) = true ∨ ∃ ty, w = Cond.arrayClass ty := List.forall_mem_cons.mpr ⟨good_of_word rfl, List.forall_mem_append.mpr ⟨fun w h => good_of_word (List.all_eq_true.mp (by decide +kernel) w h), List.forall_mem_append.mpr ⟨gd_k_X16_part_v24, fun _ h => nomatch h⟩⟩⟩
theorem gi_k_X16_bit_v18_0 : GoodIn ow_k_X16_bit_v18 (wsS RX16 297 yX16_part ow_k_X16_part_v24) := goodIn_app (goodIn_of _ (by decide +kernel)) (fun w h => ⟨List.mem_cons_of_mem _ (List.mem_append_right _ (List.mem_append_left _ h)), gd_k_X16_part_v24 w h⟩)
set_option maxHeartbeats 40000000 in
set_option maxRecDepth 100000 in
theorem k_X16_bit_v18 (l : Launch) (hlt : l.stackTraces = false) (dC : Nat → ClassId) (dI : Nat → Nat → Nat) (c0 : Int32) (sz : Nat) : Met l yX16_bit ow_k_X16_bit_v18 ({ frames := 1, cells := 0, slots := 0, locals := 22 }) (va_Pc [.int c0, .int 2, .int 2, .int 6] (fun U => U.heap.size = sz ∧ va_P (dC, dI) vwCl [] U.heap ∧ va_K (dC, dI) vwCl [] U ∧ va_D (fun _ => True) [] ∧ nv_E (va_A [] sz) U)) (va_Qi (fun r _ => (r = ((((((c0 : Int32).toUInt32 >>> ((2 : Int32).toUInt32 &&& Int32.toUInt32 31)).toInt32) &&& 3) : Int32) <<< ((6 : Int32) &&& 31))) ∨ False) (fun (_ : Unit) t => va_P (dC, dI) vwCl [] t.heap ∧ va_K (dC, dI) vwCl [] t ∧ va_D (va_A [] sz) []) (va_A [] sz)) 0 0 (va_A [] sz) := by
  refine Met.ofW (cc := cX16_bit) (maxL := 4) (ret := (some .int)) (by decide) rfl ?_
  intro p e s m args below meth c s₁ B hml hv
  obtain ⟨rfl, hsz, hP, hK, hD0, hN⟩ := hv
  have hx := B.exec
  have hb := B.bytes
  have hr := B.returns
  have hts := atoms_spec (ws := ow_k_X16_bit_v18) B.pre
  have hown : s.vm.findClass RX16 = some m.cls := findClass_of_methodNamed B.named
  have hlocks := B.notSynchronized
  subst hsz
  have hD := hD0.self (sz := s.heap.size)
  generalize hAe : va_A [] s.heap.size = A at hD hN ⊢
  have hA : ∀ q : Nat, s.heap.size ≤ q → A q := fun q h => by rw [← hAe]; exact Or.inr h
  have hS : va_S A s.heap s.heap [] := va_S.rf
  have hl := lv_entry ([.int c0, .int 2, .int 2, .int 6]) (n := 4) (Nat.le_of_ble_eq_true rfl)
  rw [lg_entry_eq]
  generalize (lg_sl ([.int c0, .int 2, .int 2, .int 6]) ++ List.replicate (4 - (lg_sl ([.int c0, .int 2, .int 2, .int 6])).length) Slot.unset).toArray = ls at hl ⊢
  have hl : lv_has ls 4 [(0, .int c0), (1, .int 2), (2, .int 2), (3, .int 6)] := hl
  refine lv_iload_n hx hb dX16_bit_0 rfl (lv_at hl 0 rfl) ?_
  refine lv_iload_n hx hb dX16_bit_1 rfl (lv_at hl 1 rfl) ?_
  refine lv_iload_n hx hb dX16_bit_2 rfl (lv_at hl 2 rfl) ?_
  have hPc := hP.sub (ws' := []) [] rfl
  have hDc := hD.sub (ws' := []) [] (by decide) rfl
  have hKc := hK.sub (tys' := []) [] rfl
  have hFc := va_free (wc := []) hD hS hA [] rfl
  refine va_calli (va_runS (As := [.int c0, .int 2, .int 2]) (rest := []) ⟨hx, hb, hml, hown, hts⟩ (k_X16_part_v24 l hlt dC dI c0  s.heap.size) (cwS 3 hts gi_k_X16_bit_v18_0 rfl rfl rfl (by decide +kernel) ⟨Nat.le_of_ble_eq_true rfl, Nat.le_of_ble_eq_true rfl⟩) ⟨fun a U g mk q => by obtain ⟨q0, q1, qP, qK, qD, qN⟩ := q; exact ⟨q0, q1, qP, va_K.moved (u := U) (U := U.calling g mk a) (Vm.Alike.refl U.vm) qK, qD, nv_same rfl rfl qN⟩, fun U hU hW => ⟨rfl, by rw [hU], by rw [hU]; exact hPc, va_K.moved hW.alike hKc, hDc.weaken (fun _ _ _ _ => trivial), nv_call hS hFc hU hW hN⟩⟩ rfl rfl hl.1 rfl (lv_room (Nat.le_of_ble_eq_true rfl)) dX16_bit_3 ⟨by decide +kernel, by decide +kernel⟩) hS (fun q _ h => hFc q h) hFc (fun r1 u t H1 locs ht hvm hw hB hz1 hk1 hS => ?_)
  obtain ⟨hP1, hK1, hD1⟩ := hB
  rw [ht] at hP1
  have hK1 := va_K.moved hvm.symm hK1
  obtain ⟨hP, hD⟩ := va_join (wr := []) (w1 := []) hP hD [] [] rfl rfl (by decide) (by decide) hk1 hFc hP1 hD1
  have hK := (hK.sub (tys' := []) [] rfl).app hK1
  generalize H1 = H at hP hS ⊢
  have hP : va_P (dC, dI) vwCl [] H := hP
  have hD : va_D A [] := hD
  have hK : va_K (dC, dI) vwCl [] s := hK
  refine W.widen (k := 0) (n := 0) (by decide +kernel) (by decide +kernel) ?_
  rcases hw with h9 | h9
  · subst h9
    refine lv_iload_n hx hb dX16_bit_6 rfl (lv_at hl 3 rfl) ?_
    refine lv_ishl hx hb dX16_bit_7 ?_
    refine W.widen (k := 0) (n := 0) (by decide +kernel) (by decide +kernel) ?_
    exact W.iret (v := ((((((c0 : Int32).toUInt32 >>> ((2 : Int32).toUInt32 &&& Int32.toUInt32 31)).toInt32) &&& 3) : Int32) <<< ((6 : Int32) &&& 31))) hx hb hr (fun t ht hW => ⟨⟨((((((c0 : Int32).toUInt32 >>> ((2 : Int32).toUInt32 &&& Int32.toUInt32 31)).toInt32) &&& 3) : Int32) <<< ((6 : Int32) &&& 31)), (), rfl, Or.inl rfl, by rw [ht]; exact hP, va_K.moved hW.alike hK, hD⟩, hS.F ht⟩) hS.2.2 dX16_bit_8
  · exact h9.elim
def ow_k_X16_part_v25 : List Cond := .code yX16_part cX16_part 3 (some .int) :: ([] ++ [])
theorem gd_k_X16_part_v25 : ∀ w ∈ ow_k_X16_part_v25, (w.onTables && w.keeps) = true ∨ ∃ ty, w = Cond.arrayClass ty := List.forall_mem_cons.mpr ⟨good_of_word rfl, List.forall_mem_append.mpr ⟨fun w h => good_of_word (List.all_eq_true.mp (by decide +kernel) w h), fun _ h => nomatch h⟩⟩
set_option maxHeartbeats 40000000 in
set_option maxRecDepth 100000 in
theorem k_X16_part_v25 (l : Launch) (hlt : l.stackTraces = false) (dC : Nat → ClassId) (dI : Nat → Nat → Nat) (c0 : Int32) (sz : Nat) : Met l yX16_part ow_k_X16_part_v25 ({ frames := 0, cells := 0, slots := 0, locals := 0 }) (va_Pc [.int c0, .int 9, .int 4] (fun U => U.heap.size = sz ∧ va_P (dC, dI) vwCl [] U.heap ∧ va_K (dC, dI) vwCl [] U ∧ va_D (fun _ => True) [] ∧ nv_E (va_A [] sz) U)) (va_Qi (fun r _ => (r = ((((c0 : Int32).toUInt32 >>> ((9 : Int32).toUInt32 &&& Int32.toUInt32 31)).toInt32) &&& 15)) ∨ False) (fun (_ : Unit) t => va_P (dC, dI) vwCl [] t.heap ∧ va_K (dC, dI) vwCl [] t ∧ va_D (va_A [] sz) []) (va_A [] sz)) 0 0 (va_A [] sz) := by
  refine Met.ofW (cc := cX16_part) (maxL := 3) (ret := (some .int)) (by decide) rfl ?_
  intro p e s m args below meth c s₁ B hml hv
  obtain ⟨rfl, hsz, hP, hK, hD0, hN⟩ := hv
  have hx := B.exec
  have hb := B.bytes
  have hr := B.returns
  have hts := atoms_spec (ws := ow_k_X16_part_v25) B.pre
  have hown : s.vm.findClass RX16 = some m.cls := findClass_of_methodNamed B.named
  have hlocks := B.notSynchronized
  subst hsz
  have hD := hD0.self (sz := s.heap.size)
  generalize hAe : va_A [] s.heap.size = A at hD hN ⊢
  have hA : ∀ q : Nat, s.heap.size ≤ q → A q := fun q h => by rw [← hAe]; exact Or.inr h
  have hS : va_S A s.heap s.heap [] := va_S.rf
  have hl := lv_entry ([.int c0, .int 9, .int 4]) (n := 3) (Nat.le_of_ble_eq_true rfl)
  rw [lg_entry_eq]
  generalize (lg_sl ([.int c0, .int 9, .int 4]) ++ List.replicate (3 - (lg_sl ([.int c0, .int 9, .int 4])).length) Slot.unset).toArray = ls at hl ⊢
  have hl : lv_has ls 3 [(0, .int c0), (1, .int 9), (2, .int 4)] := hl
  refine lv_iload_n hx hb dX16_part_0 rfl (lv_at hl 0 rfl) ?_
  refine lv_iload_n hx hb dX16_part_1 rfl (lv_at hl 1 rfl) ?_
  refine lv_iushr hx hb dX16_part_2 rfl ?_
  refine lv_iconst (v := 1) hx hb dX16_part_3 (by decide) ?_
  refine lv_iload_n hx hb dX16_part_4 rfl (lv_at hl 2 rfl) ?_
  refine lv_ishl hx hb dX16_part_5 ?_
  refine lv_topi (fun z1 ez1 => ?_)
  obtain rfl : z1 = 16 := ez1.trans (by decide)
  refine lv_iconst (v := 1) hx hb dX16_part_6 (by decide) ?_
  refine lv_isub hx hb dX16_part_7 ?_
  refine lv_topi (fun z2 ez2 => ?_)
  obtain rfl : z2 = 15 := ez2.trans (by decide)
  refine lv_iand hx hb dX16_part_8 ?_
  refine W.widen (k := 0) (n := 0) (by decide +kernel) (by decide +kernel) ?_
  exact W.iret (v := ((((c0 : Int32).toUInt32 >>> ((9 : Int32).toUInt32 &&& Int32.toUInt32 31)).toInt32) &&& 15)) hx hb hr (fun t ht hW => ⟨⟨((((c0 : Int32).toUInt32 >>> ((9 : Int32).toUInt32 &&& Int32.toUInt32 31)).toInt32) &&& 15), (), rfl, Or.inl rfl, by rw [ht]; exact hP, va_K.moved hW.alike hK, hD⟩, hS.F ht⟩) hS.2.2 dX16_part_9
def ow_k_X16_bit_v19 : List Cond := .code yX16_bit cX16_bit 4 (some .int) :: ([.methodLink RX16 297 yX16_part, .static yX16_part, .initialized RX16] ++ (ow_k_X16_part_v25 ++ []))
theorem gd_k_X16_bit_v19 : ∀ w ∈ ow_k_X16_bit_v19, (w.onTables && w.keeps) = true ∨ ∃ ty, w = Cond.arrayClass ty := List.forall_mem_cons.mpr ⟨good_of_word rfl, List.forall_mem_append.mpr ⟨fun w h => good_of_word (List.all_eq_true.mp (by decide +kernel) w h), List.forall_mem_append.mpr ⟨gd_k_X16_part_v25, fun _ h => nomatch h⟩⟩⟩
theorem gi_k_X16_bit_v19_0 : GoodIn ow_k_X16_bit_v19 (wsS RX16 297 yX16_part ow_k_X16_part_v25) := goodIn_app (goodIn_of _ (by decide +kernel)) (fun w h => ⟨List.mem_cons_of_mem _ (List.mem_append_right _ (List.mem_append_left _ h)), gd_k_X16_part_v25 w h⟩)
set_option maxHeartbeats 40000000 in
set_option maxRecDepth 100000 in
theorem k_X16_bit_v19 (l : Launch) (hlt : l.stackTraces = false) (dC : Nat → ClassId) (dI : Nat → Nat → Nat) (c0 : Int32) (sz : Nat) : Met l yX16_bit ow_k_X16_bit_v19 ({ frames := 1, cells := 0, slots := 0, locals := 22 }) (va_Pc [.int c0, .int 9, .int 4, .int 2] (fun U => U.heap.size = sz ∧ va_P (dC, dI) vwCl [] U.heap ∧ va_K (dC, dI) vwCl [] U ∧ va_D (fun _ => True) [] ∧ nv_E (va_A [] sz) U)) (va_Qi (fun r _ => (r = ((((((c0 : Int32).toUInt32 >>> ((9 : Int32).toUInt32 &&& Int32.toUInt32 31)).toInt32) &&& 15) : Int32) <<< ((2 : Int32) &&& 31))) ∨ False) (fun (_ : Unit) t => va_P (dC, dI) vwCl [] t.heap ∧ va_K (dC, dI) vwCl [] t ∧ va_D (va_A [] sz) []) (va_A [] sz)) 0 0 (va_A [] sz) := by
  refine Met.ofW (cc := cX16_bit) (maxL := 4) (ret := (some .int)) (by decide) rfl ?_
  intro p e s m args below meth c s₁ B hml hv
  obtain ⟨rfl, hsz, hP, hK, hD0, hN⟩ := hv
  have hx := B.exec
  have hb := B.bytes
  have hr := B.returns
  have hts := atoms_spec (ws := ow_k_X16_bit_v19) B.pre
  have hown : s.vm.findClass RX16 = some m.cls := findClass_of_methodNamed B.named
  have hlocks := B.notSynchronized
  subst hsz
  have hD := hD0.self (sz := s.heap.size)
  generalize hAe : va_A [] s.heap.size = A at hD hN ⊢
  have hA : ∀ q : Nat, s.heap.size ≤ q → A q := fun q h => by rw [← hAe]; exact Or.inr h
  have hS : va_S A s.heap s.heap [] := va_S.rf
  have hl := lv_entry ([.int c0, .int 9, .int 4, .int 2]) (n := 4) (Nat.le_of_ble_eq_true rfl)
  rw [lg_entry_eq]
  generalize (lg_sl ([.int c0, .int 9, .int 4, .int 2]) ++ List.replicate (4 - (lg_sl ([.int c0, .int 9, .int 4, .int 2])).length) Slot.unset).toArray = ls at hl ⊢
  have hl : lv_has ls 4 [(0, .int c0), (1, .int 9), (2, .int 4), (3, .int 2)] := hl
  refine lv_iload_n hx hb dX16_bit_0 rfl (lv_at hl 0 rfl) ?_
  refine lv_iload_n hx hb dX16_bit_1 rfl (lv_at hl 1 rfl) ?_
  refine lv_iload_n hx hb dX16_bit_2 rfl (lv_at hl 2 rfl) ?_
  have hPc := hP.sub (ws' := []) [] rfl
  have hDc := hD.sub (ws' := []) [] (by decide) rfl
  have hKc := hK.sub (tys' := []) [] rfl
  have hFc := va_free (wc := []) hD hS hA [] rfl
  refine va_calli (va_runS (As := [.int c0, .int 9, .int 4]) (rest := []) ⟨hx, hb, hml, hown, hts⟩ (k_X16_part_v25 l hlt dC dI c0  s.heap.size) (cwS 3 hts gi_k_X16_bit_v19_0 rfl rfl rfl (by decide +kernel) ⟨Nat.le_of_ble_eq_true rfl, Nat.le_of_ble_eq_true rfl⟩) ⟨fun a U g mk q => by obtain ⟨q0, q1, qP, qK, qD, qN⟩ := q; exact ⟨q0, q1, qP, va_K.moved (u := U) (U := U.calling g mk a) (Vm.Alike.refl U.vm) qK, qD, nv_same rfl rfl qN⟩, fun U hU hW => ⟨rfl, by rw [hU], by rw [hU]; exact hPc, va_K.moved hW.alike hKc, hDc.weaken (fun _ _ _ _ => trivial), nv_call hS hFc hU hW hN⟩⟩ rfl rfl hl.1 rfl (lv_room (Nat.le_of_ble_eq_true rfl)) dX16_bit_3 ⟨by decide +kernel, by decide +kernel⟩) hS (fun q _ h => hFc q h) hFc (fun r1 u t H1 locs ht hvm hw hB hz1 hk1 hS => ?_)
  obtain ⟨hP1, hK1, hD1⟩ := hB
  rw [ht] at hP1
  have hK1 := va_K.moved hvm.symm hK1
  obtain ⟨hP, hD⟩ := va_join (wr := []) (w1 := []) hP hD [] [] rfl rfl (by decide) (by decide) hk1 hFc hP1 hD1
  have hK := (hK.sub (tys' := []) [] rfl).app hK1
  generalize H1 = H at hP hS ⊢
  have hP : va_P (dC, dI) vwCl [] H := hP
  have hD : va_D A [] := hD
  have hK : va_K (dC, dI) vwCl [] s := hK
  refine W.widen (k := 0) (n := 0) (by decide +kernel) (by decide +kernel) ?_
  rcases hw with h9 | h9
  · subst h9
    refine lv_iload_n hx hb dX16_bit_6 rfl (lv_at hl 3 rfl) ?_
    refine lv_ishl hx hb dX16_bit_7 ?_
    refine W.widen (k := 0) (n := 0) (by decide +kernel) (by decide +kernel) ?_
    exact W.iret (v := ((((((c0 : Int32).toUInt32 >>> ((9 : Int32).toUInt32 &&& Int32.toUInt32 31)).toInt32) &&& 15) : Int32) <<< ((2 : Int32) &&& 31))) hx hb hr (fun t ht hW => ⟨⟨((((((c0 : Int32).toUInt32 >>> ((9 : Int32).toUInt32 &&& Int32.toUInt32 31)).toInt32) &&& 15) : Int32) <<< ((2 : Int32) &&& 31)), (), rfl, Or.inl rfl, by rw [ht]; exact hP, va_K.moved hW.alike hK, hD⟩, hS.F ht⟩) hS.2.2 dX16_bit_8
  · exact h9.elim
def ow_k_X16_part_v26 : List Cond := .code yX16_part cX16_part 3 (some .int) :: ([] ++ [])
theorem gd_k_X16_part_v26 : ∀ w ∈ ow_k_X16_part_v26, (w.onTables && w.keeps) = true ∨ ∃ ty, w = Cond.arrayClass ty := List.forall_mem_cons.mpr ⟨good_of_word rfl, List.forall_mem_append.mpr ⟨fun w h => good_of_word (List.all_eq_true.mp (by decide +kernel) w h), fun _ h => nomatch h⟩⟩
set_option maxHeartbeats 40000000 in
set_option maxRecDepth 100000 in
theorem k_X16_part_v26 (l : Launch) (hlt : l.stackTraces = false) (dC : Nat → ClassId) (dI : Nat → Nat → Nat) (c0 : Int32) (sz : Nat) : Met l yX16_part ow_k_X16_part_v26 ({ frames := 0, cells := 0, slots := 0, locals := 0 }) (va_Pc [.int c0, .int 7, .int 2] (fun U => U.heap.size = sz ∧ va_P (dC, dI) vwCl [] U.heap ∧ va_K (dC, dI) vwCl [] U ∧ va_D (fun _ => True) [] ∧ nv_E (va_A [] sz) U)) (va_Qi (fun r _ => (r = ((((c0 : Int32).toUInt32 >>> ((7 : Int32).toUInt32 &&& Int32.toUInt32 31)).toInt32) &&& 3)) ∨ False) (fun (_ : Unit) t => va_P (dC, dI) vwCl [] t.heap ∧ va_K (dC, dI) vwCl [] t ∧ va_D (va_A [] sz) []) (va_A [] sz)) 0 0 (va_A [] sz) := by
  refine Met.ofW (cc := cX16_part) (maxL := 3) (ret := (some .int)) (by decide) rfl ?_
  intro p e s m args below meth c s₁ B hml hv
  obtain ⟨rfl, hsz, hP, hK, hD0, hN⟩ := hv
  have hx := B.exec
  have hb := B.bytes
  have hr := B.returns
  have hts := atoms_spec (ws := ow_k_X16_part_v26) B.pre
  have hown : s.vm.findClass RX16 = some m.cls := findClass_of_methodNamed B.named
  have hlocks := B.notSynchronized
  subst hsz
  have hD := hD0.self (sz := s.heap.size)
  generalize hAe : va_A [] s.heap.size = A at hD hN ⊢
  have hA : ∀ q : Nat, s.heap.size ≤ q → A q := fun q h => by rw [← hAe]; exact Or.inr h
  have hS : va_S A s.heap s.heap [] := va_S.rf
  have hl := lv_entry ([.int c0, .int 7, .int 2]) (n := 3) (Nat.le_of_ble_eq_true rfl)
  rw [lg_entry_eq]
  generalize (lg_sl ([.int c0, .int 7, .int 2]) ++ List.replicate (3 - (lg_sl ([.int c0, .int 7, .int 2])).length) Slot.unset).toArray = ls at hl ⊢
  have hl : lv_has ls 3 [(0, .int c0), (1, .int 7), (2, .int 2)] := hl
  refine lv_iload_n hx hb dX16_part_0 rfl (lv_at hl 0 rfl) ?_
  refine lv_iload_n hx hb dX16_part_1 rfl (lv_at hl 1 rfl) ?_
  refine lv_iushr hx hb dX16_part_2 rfl ?_
  refine lv_iconst (v := 1) hx hb dX16_part_3 (by decide) ?_
  refine lv_iload_n hx hb dX16_part_4 rfl (lv_at hl 2 rfl) ?_
  refine lv_ishl hx hb dX16_part_5 ?_
  refine lv_topi (fun z1 ez1 => ?_)
  obtain rfl : z1 = 4 := ez1.trans (by decide)
  refine lv_iconst (v := 1) hx hb dX16_part_6 (by decide) ?_
  refine lv_isub hx hb dX16_part_7 ?_
  refine lv_topi (fun z2 ez2 => ?_)
  obtain rfl : z2 = 3 := ez2.trans (by decide)
  refine lv_iand hx hb dX16_part_8 ?_
  refine W.widen (k := 0) (n := 0) (by decide +kernel) (by decide +kernel) ?_
  exact W.iret (v := ((((c0 : Int32).toUInt32 >>> ((7 : Int32).toUInt32 &&& Int32.toUInt32 31)).toInt32) &&& 3)) hx hb hr (fun t ht hW => ⟨⟨((((c0 : Int32).toUInt32 >>> ((7 : Int32).toUInt32 &&& Int32.toUInt32 31)).toInt32) &&& 3), (), rfl, Or.inl rfl, by rw [ht]; exact hP, va_K.moved hW.alike hK, hD⟩, hS.F ht⟩) hS.2.2 dX16_part_9
def ow_k_X16_bit_v20 : List Cond := .code yX16_bit cX16_bit 4 (some .int) :: ([.methodLink RX16 297 yX16_part, .static yX16_part, .initialized RX16] ++ (ow_k_X16_part_v26 ++ []))
theorem gd_k_X16_bit_v20 : ∀ w ∈ ow_k_X16_bit_v20, (w.onTables && w.keeps) = true ∨ ∃ ty, w = Cond.arrayClass ty := List.forall_mem_cons.mpr ⟨good_of_word rfl, List.forall_mem_append.mpr ⟨fun w h => good_of_word (List.all_eq_true.mp (by decide +kernel) w h), List.forall_mem_append.mpr ⟨gd_k_X16_part_v26, fun _ h => nomatch h⟩⟩⟩
theorem gi_k_X16_bit_v20_0 : GoodIn ow_k_X16_bit_v20 (wsS RX16 297 yX16_part ow_k_X16_part_v26) := goodIn_app (goodIn_of _ (by decide +kernel)) (fun w h => ⟨List.mem_cons_of_mem _ (List.mem_append_right _ (List.mem_append_left _ h)), gd_k_X16_part_v26 w h⟩)
set_option maxHeartbeats 40000000 in
set_option maxRecDepth 100000 in
theorem k_X16_bit_v20 (l : Launch) (hlt : l.stackTraces = false) (dC : Nat → ClassId) (dI : Nat → Nat → Nat) (c0 : Int32) (sz : Nat) : Met l yX16_bit ow_k_X16_bit_v20 ({ frames := 1, cells := 0, slots := 0, locals := 22 }) (va_Pc [.int c0, .int 7, .int 2, .int 6] (fun U => U.heap.size = sz ∧ va_P (dC, dI) vwCl [] U.heap ∧ va_K (dC, dI) vwCl [] U ∧ va_D (fun _ => True) [] ∧ nv_E (va_A [] sz) U)) (va_Qi (fun r _ => (r = ((((((c0 : Int32).toUInt32 >>> ((7 : Int32).toUInt32 &&& Int32.toUInt32 31)).toInt32) &&& 3) : Int32) <<< ((6 : Int32) &&& 31))) ∨ False) (fun (_ : Unit) t => va_P (dC, dI) vwCl [] t.heap ∧ va_K (dC, dI) vwCl [] t ∧ va_D (va_A [] sz) []) (va_A [] sz)) 0 0 (va_A [] sz) := by
  refine Met.ofW (cc := cX16_bit) (maxL := 4) (ret := (some .int)) (by decide) rfl ?_
  intro p e s m args below meth c s₁ B hml hv
  obtain ⟨rfl, hsz, hP, hK, hD0, hN⟩ := hv
  have hx := B.exec
  have hb := B.bytes
  have hr := B.returns
  have hts := atoms_spec (ws := ow_k_X16_bit_v20) B.pre
  have hown : s.vm.findClass RX16 = some m.cls := findClass_of_methodNamed B.named
  have hlocks := B.notSynchronized
  subst hsz
  have hD := hD0.self (sz := s.heap.size)
  generalize hAe : va_A [] s.heap.size = A at hD hN ⊢
  have hA : ∀ q : Nat, s.heap.size ≤ q → A q := fun q h => by rw [← hAe]; exact Or.inr h
  have hS : va_S A s.heap s.heap [] := va_S.rf
  have hl := lv_entry ([.int c0, .int 7, .int 2, .int 6]) (n := 4) (Nat.le_of_ble_eq_true rfl)
  rw [lg_entry_eq]
  generalize (lg_sl ([.int c0, .int 7, .int 2, .int 6]) ++ List.replicate (4 - (lg_sl ([.int c0, .int 7, .int 2, .int 6])).length) Slot.unset).toArray = ls at hl ⊢
  have hl : lv_has ls 4 [(0, .int c0), (1, .int 7), (2, .int 2), (3, .int 6)] := hl
  refine lv_iload_n hx hb dX16_bit_0 rfl (lv_at hl 0 rfl) ?_
  refine lv_iload_n hx hb dX16_bit_1 rfl (lv_at hl 1 rfl) ?_
  refine lv_iload_n hx hb dX16_bit_2 rfl (lv_at hl 2 rfl) ?_
  have hPc := hP.sub (ws' := []) [] rfl
  have hDc := hD.sub (ws' := []) [] (by decide) rfl
  have hKc := hK.sub (tys' := []) [] rfl
  have hFc := va_free (wc := []) hD hS hA [] rfl
  refine va_calli (va_runS (As := [.int c0, .int 7, .int 2]) (rest := []) ⟨hx, hb, hml, hown, hts⟩ (k_X16_part_v26 l hlt dC dI c0  s.heap.size) (cwS 3 hts gi_k_X16_bit_v20_0 rfl rfl rfl (by decide +kernel) ⟨Nat.le_of_ble_eq_true rfl, Nat.le_of_ble_eq_true rfl⟩) ⟨fun a U g mk q => by obtain ⟨q0, q1, qP, qK, qD, qN⟩ := q; exact ⟨q0, q1, qP, va_K.moved (u := U) (U := U.calling g mk a) (Vm.Alike.refl U.vm) qK, qD, nv_same rfl rfl qN⟩, fun U hU hW => ⟨rfl, by rw [hU], by rw [hU]; exact hPc, va_K.moved hW.alike hKc, hDc.weaken (fun _ _ _ _ => trivial), nv_call hS hFc hU hW hN⟩⟩ rfl rfl hl.1 rfl (lv_room (Nat.le_of_ble_eq_true rfl)) dX16_bit_3 ⟨by decide +kernel, by decide +kernel⟩) hS (fun q _ h => hFc q h) hFc (fun r1 u t H1 locs ht hvm hw hB hz1 hk1 hS => ?_)
  obtain ⟨hP1, hK1, hD1⟩ := hB
  rw [ht] at hP1
  have hK1 := va_K.moved hvm.symm hK1
  obtain ⟨hP, hD⟩ := va_join (wr := []) (w1 := []) hP hD [] [] rfl rfl (by decide) (by decide) hk1 hFc hP1 hD1
  have hK := (hK.sub (tys' := []) [] rfl).app hK1
  generalize H1 = H at hP hS ⊢
  have hP : va_P (dC, dI) vwCl [] H := hP
  have hD : va_D A [] := hD
  have hK : va_K (dC, dI) vwCl [] s := hK
  refine W.widen (k := 0) (n := 0) (by decide +kernel) (by decide +kernel) ?_
  rcases hw with h9 | h9
  · subst h9
    refine lv_iload_n hx hb dX16_bit_6 rfl (lv_at hl 3 rfl) ?_
    refine lv_ishl hx hb dX16_bit_7 ?_
    refine W.widen (k := 0) (n := 0) (by decide +kernel) (by decide +kernel) ?_
    exact W.iret (v := ((((((c0 : Int32).toUInt32 >>> ((7 : Int32).toUInt32 &&& Int32.toUInt32 31)).toInt32) &&& 3) : Int32) <<< ((6 : Int32) &&& 31))) hx hb hr (fun t ht hW => ⟨⟨((((((c0 : Int32).toUInt32 >>> ((7 : Int32).toUInt32 &&& Int32.toUInt32 31)).toInt32) &&& 3) : Int32) <<< ((6 : Int32) &&& 31)), (), rfl, Or.inl rfl, by rw [ht]; exact hP, va_K.moved hW.alike hK, hD⟩, hS.F ht⟩) hS.2.2 dX16_bit_8
  · exact h9.elim
def ow_k_X16_immediate_v4 : List Cond := .code yX16_immediate cX16_immediate 5 (some .int) :: ([] ++ [])
theorem gd_k_X16_immediate_v4 : ∀ w ∈ ow_k_X16_immediate_v4, (w.onTables && w.keeps) = true ∨ ∃ ty, w = Cond.arrayClass ty := List.forall_mem_cons.mpr ⟨good_of_word rfl, List.forall_mem_append.mpr ⟨fun w h => good_of_word (List.all_eq_true.mp (by decide +kernel) w h), fun _ h => nomatch h⟩⟩
set_option maxHeartbeats 40000000 in
set_option maxRecDepth 100000 in
theorem k_X16_immediate_v4 (l : Launch) (hlt : l.stackTraces = false) (dC : Nat → ClassId) (dI : Nat → Nat → Nat) (c0 : Int32) (sz : Nat) : Met l yX16_immediate ow_k_X16_immediate_v4 ({ frames := 0, cells := 0, slots := 0, locals := 0 }) (va_Pc [.int 103, .int 0, .int 0, .int c0, .int 0] (fun U => U.heap.size = sz ∧ va_P (dC, dI) vwCl [] U.heap ∧ va_K (dC, dI) vwCl [] U ∧ va_D (fun _ => True) [] ∧ nv_E (va_A [] sz) U)) (va_Qi (fun r _ => (r = ((103 ||| ((c0 : Int32) <<< ((15 : Int32) &&& 31))) ||| 0)) ∨ False) (fun (_ : Unit) t => va_P (dC, dI) vwCl [] t.heap ∧ va_K (dC, dI) vwCl [] t ∧ va_D (va_A [] sz) []) (va_A [] sz)) 0 0 (va_A [] sz) := by
  refine Met.ofW (cc := cX16_immediate) (maxL := 5) (ret := (some .int)) (by decide) rfl ?_
  intro p e s m args below meth c s₁ B hml hv
  obtain ⟨rfl, hsz, hP, hK, hD0, hN⟩ := hv
  have hx := B.exec
  have hb := B.bytes
  have hr := B.returns
  have hts := atoms_spec (ws := ow_k_X16_immediate_v4) B.pre
  have hown : s.vm.findClass RX16 = some m.cls := findClass_of_methodNamed B.named
  have hlocks := B.notSynchronized
  subst hsz
  have hD := hD0.self (sz := s.heap.size)
  generalize hAe : va_A [] s.heap.size = A at hD hN ⊢
  have hA : ∀ q : Nat, s.heap.size ≤ q → A q := fun q h => by rw [← hAe]; exact Or.inr h
  have hS : va_S A s.heap s.heap [] := va_S.rf
  have hl := lv_entry ([.int 103, .int 0, .int 0, .int c0, .int 0]) (n := 5) (Nat.le_of_ble_eq_true rfl)
  rw [lg_entry_eq]
  generalize (lg_sl ([.int 103, .int 0, .int 0, .int c0, .int 0]) ++ List.replicate (5 - (lg_sl ([.int 103, .int 0, .int 0, .int c0, .int 0])).length) Slot.unset).toArray = ls at hl ⊢
  have hl : lv_has ls 5 [(0, .int 103), (1, .int 0), (2, .int 0), (3, .int c0), (4, .int 0)] := hl
  refine lv_iload_n hx hb dX16_immediate_0 rfl (lv_at hl 0 rfl) ?_
  refine lv_iload_n hx hb dX16_immediate_1 rfl (lv_at hl 2 rfl) ?_
  refine lv_bipush (v := 7) hx hb dX16_immediate_2 (by decide) ?_
  refine lv_ishl hx hb dX16_immediate_4 ?_
  refine lv_topi (fun z1 ez1 => ?_)
  obtain rfl : z1 = 0 := ez1.trans (by decide)
  refine lv_ior hx hb dX16_immediate_5 ?_
  refine lv_topi (fun z2 ez2 => ?_)
  obtain rfl : z2 = 103 := ez2.trans (by decide)
  refine lv_iload_n hx hb dX16_immediate_6 rfl (lv_at hl 1 rfl) ?_
  refine lv_bipush (v := 12) hx hb dX16_immediate_7 (by decide) ?_
  refine lv_ishl hx hb dX16_immediate_9 ?_
  refine lv_topi (fun z3 ez3 => ?_)
  obtain rfl : z3 = 0 := ez3.trans (by decide)
  refine lv_ior hx hb dX16_immediate_10 ?_
  refine lv_topi (fun z4 ez4 => ?_)
  obtain rfl : z4 = 103 := ez4.trans (by decide)
  refine lv_iload_n hx hb dX16_immediate_11 rfl (lv_at hl 3 rfl) ?_
  refine lv_bipush (v := 15) hx hb dX16_immediate_12 (by decide) ?_
  refine lv_ishl hx hb dX16_immediate_14 ?_
  refine lv_ior hx hb dX16_immediate_15 ?_
  refine lv_iload hx hb dX16_immediate_16 (lv_at hl 4 rfl) ?_
  refine lv_bipush (v := 20) hx hb dX16_immediate_18 (by decide) ?_
  refine lv_ishl hx hb dX16_immediate_20 ?_
  refine lv_topi (fun z5 ez5 => ?_)
  obtain rfl : z5 = 0 := ez5.trans (by decide)
  refine lv_ior hx hb dX16_immediate_21 ?_
  refine W.widen (k := 0) (n := 0) (by decide +kernel) (by decide +kernel) ?_
  exact W.iret (v := ((103 ||| ((c0 : Int32) <<< ((15 : Int32) &&& 31))) ||| 0)) hx hb hr (fun t ht hW => ⟨⟨((103 ||| ((c0 : Int32) <<< ((15 : Int32) &&& 31))) ||| 0), (), rfl, Or.inl rfl, by rw [ht]; exact hP, va_K.moved hW.alike hK, hD⟩, hS.F ht⟩) hS.2.2 dX16_immediate_22
def ow_k_X16_threes_v3 : List Cond := .code yX16_threes cX16_threes 5 (some .int) :: ([] ++ [])
theorem gd_k_X16_threes_v3 : ∀ w ∈ ow_k_X16_threes_v3, (w.onTables && w.keeps) = true ∨ ∃ ty, w = Cond.arrayClass ty := List.forall_mem_cons.mpr ⟨good_of_word rfl, List.forall_mem_append.mpr ⟨fun w h => good_of_word (List.all_eq_true.mp (by decide +kernel) w h), fun _ h => nomatch h⟩⟩
set_option maxHeartbeats 40000000 in
set_option maxRecDepth 100000 in
theorem k_X16_threes_v3 (l : Launch) (hlt : l.stackTraces = false) (dC : Nat → ClassId) (dI : Nat → Nat → Nat) (c0 : Int32) (c1 : Int32) (sz : Nat) : Met l yX16_threes ow_k_X16_threes_v3 ({ frames := 0, cells := 0, slots := 0, locals := 0 }) (va_Pc [.int 0, .int 0, .int c0, .int 0, .int c1] (fun U => U.heap.size = sz ∧ va_P (dC, dI) vwCl [] U.heap ∧ va_K (dC, dI) vwCl [] U ∧ va_D (fun _ => True) [] ∧ nv_E (va_A [] sz) U)) (va_Qi (fun r _ => (r = (((((51 ||| ((c0 : Int32) <<< ((7 : Int32) &&& 31))) ||| 0) ||| 0) ||| ((c1 : Int32) <<< ((20 : Int32) &&& 31))) ||| 0)) ∨ False) (fun (_ : Unit) t => va_P (dC, dI) vwCl [] t.heap ∧ va_K (dC, dI) vwCl [] t ∧ va_D (va_A [] sz) []) (va_A [] sz)) 0 0 (va_A [] sz) := by
  refine Met.ofW (cc := cX16_threes) (maxL := 5) (ret := (some .int)) (by decide) rfl ?_
  intro p e s m args below meth c s₁ B hml hv
  obtain ⟨rfl, hsz, hP, hK, hD0, hN⟩ := hv
  have hx := B.exec
  have hb := B.bytes
  have hr := B.returns
  have hts := atoms_spec (ws := ow_k_X16_threes_v3) B.pre
  have hown : s.vm.findClass RX16 = some m.cls := findClass_of_methodNamed B.named
  have hlocks := B.notSynchronized
  subst hsz
  have hD := hD0.self (sz := s.heap.size)
  generalize hAe : va_A [] s.heap.size = A at hD hN ⊢
  have hA : ∀ q : Nat, s.heap.size ≤ q → A q := fun q h => by rw [← hAe]; exact Or.inr h
  have hS : va_S A s.heap s.heap [] := va_S.rf
  have hl := lv_entry ([.int 0, .int 0, .int c0, .int 0, .int c1]) (n := 5) (Nat.le_of_ble_eq_true rfl)
  rw [lg_entry_eq]
  generalize (lg_sl ([.int 0, .int 0, .int c0, .int 0, .int c1]) ++ List.replicate (5 - (lg_sl ([.int 0, .int 0, .int c0, .int 0, .int c1])).length) Slot.unset).toArray = ls at hl ⊢
  have hl : lv_has ls 5 [(0, .int 0), (1, .int 0), (2, .int c0), (3, .int 0), (4, .int c1)] := hl
  refine lv_bipush (v := 51) hx hb dX16_threes_0 (by decide) ?_
  refine lv_iload_n hx hb dX16_threes_2 rfl (lv_at hl 2 rfl) ?_
  refine lv_bipush (v := 7) hx hb dX16_threes_3 (by decide) ?_
  refine lv_ishl hx hb dX16_threes_5 ?_
  refine lv_ior hx hb dX16_threes_6 ?_
  refine lv_iload_n hx hb dX16_threes_7 rfl (lv_at hl 0 rfl) ?_
  refine lv_bipush (v := 12) hx hb dX16_threes_8 (by decide) ?_
  refine lv_ishl hx hb dX16_threes_10 ?_
  refine lv_topi (fun z1 ez1 => ?_)
  obtain rfl : z1 = 0 := ez1.trans (by decide)
  refine lv_ior hx hb dX16_threes_11 ?_
  refine lv_iload_n hx hb dX16_threes_12 rfl (lv_at hl 3 rfl) ?_
  refine lv_bipush (v := 15) hx hb dX16_threes_13 (by decide) ?_
  refine lv_ishl hx hb dX16_threes_15 ?_
  refine lv_topi (fun z2 ez2 => ?_)
  obtain rfl : z2 = 0 := ez2.trans (by decide)
  refine lv_ior hx hb dX16_threes_16 ?_
  refine lv_iload hx hb dX16_threes_17 (lv_at hl 4 rfl) ?_
  refine lv_bipush (v := 20) hx hb dX16_threes_19 (by decide) ?_
  refine lv_ishl hx hb dX16_threes_21 ?_
  refine lv_ior hx hb dX16_threes_22 ?_
  refine lv_iload_n hx hb dX16_threes_23 rfl (lv_at hl 1 rfl) ?_
  refine lv_bipush (v := 25) hx hb dX16_threes_24 (by decide) ?_
  refine lv_ishl hx hb dX16_threes_26 ?_
  refine lv_topi (fun z3 ez3 => ?_)
  obtain rfl : z3 = 0 := ez3.trans (by decide)
  refine lv_ior hx hb dX16_threes_27 ?_
  refine W.widen (k := 0) (n := 0) (by decide +kernel) (by decide +kernel) ?_
  exact W.iret (v := (((((51 ||| ((c0 : Int32) <<< ((7 : Int32) &&& 31))) ||| 0) ||| 0) ||| ((c1 : Int32) <<< ((20 : Int32) &&& 31))) ||| 0)) hx hb hr (fun t ht hW => ⟨⟨(((((51 ||| ((c0 : Int32) <<< ((7 : Int32) &&& 31))) ||| 0) ||| 0) ||| ((c1 : Int32) <<< ((20 : Int32) &&& 31))) ||| 0), (), rfl, Or.inl rfl, by rw [ht]; exact hP, va_K.moved hW.alike hK, hD⟩, hS.F ht⟩) hS.2.2 dX16_threes_28
def ow_k_X16_part_v27 : List Cond := .code yX16_part cX16_part 3 (some .int) :: ([] ++ [])
theorem gd_k_X16_part_v27 : ∀ w ∈ ow_k_X16_part_v27, (w.onTables && w.keeps) = true ∨ ∃ ty, w = Cond.arrayClass ty := List.forall_mem_cons.mpr ⟨good_of_word rfl, List.forall_mem_append.mpr ⟨fun w h => good_of_word (List.all_eq_true.mp (by decide +kernel) w h), fun _ h => nomatch h⟩⟩
set_option maxHeartbeats 40000000 in
set_option maxRecDepth 100000 in
theorem k_X16_part_v27 (l : Launch) (hlt : l.stackTraces = false) (dC : Nat → ClassId) (dI : Nat → Nat → Nat) (c0 : Int32) (sz : Nat) : Met l yX16_part ow_k_X16_part_v27 ({ frames := 0, cells := 0, slots := 0, locals := 0 }) (va_Pc [.int c0, .int 0, .int 5] (fun U => U.heap.size = sz ∧ va_P (dC, dI) vwCl [] U.heap ∧ va_K (dC, dI) vwCl [] U ∧ va_D (fun _ => True) [] ∧ nv_E (va_A [] sz) U)) (va_Qi (fun r _ => (r = ((((c0 : Int32).toUInt32 >>> ((0 : Int32).toUInt32 &&& Int32.toUInt32 31)).toInt32) &&& 31)) ∨ False) (fun (_ : Unit) t => va_P (dC, dI) vwCl [] t.heap ∧ va_K (dC, dI) vwCl [] t ∧ va_D (va_A [] sz) []) (va_A [] sz)) 0 0 (va_A [] sz) := by
  refine Met.ofW (cc := cX16_part) (maxL := 3) (ret := (some .int)) (by decide) rfl ?_
  intro p e s m args below meth c s₁ B hml hv
  obtain ⟨rfl, hsz, hP, hK, hD0, hN⟩ := hv
  have hx := B.exec
  have hb := B.bytes
  have hr := B.returns
  have hts := atoms_spec (ws := ow_k_X16_part_v27) B.pre
  have hown : s.vm.findClass RX16 = some m.cls := findClass_of_methodNamed B.named
  have hlocks := B.notSynchronized
  subst hsz
  have hD := hD0.self (sz := s.heap.size)
  generalize hAe : va_A [] s.heap.size = A at hD hN ⊢
  have hA : ∀ q : Nat, s.heap.size ≤ q → A q := fun q h => by rw [← hAe]; exact Or.inr h
  have hS : va_S A s.heap s.heap [] := va_S.rf
  have hl := lv_entry ([.int c0, .int 0, .int 5]) (n := 3) (Nat.le_of_ble_eq_true rfl)
  rw [lg_entry_eq]
  generalize (lg_sl ([.int c0, .int 0, .int 5]) ++ List.replicate (3 - (lg_sl ([.int c0, .int 0, .int 5])).length) Slot.unset).toArray = ls at hl ⊢
  have hl : lv_has ls 3 [(0, .int c0), (1, .int 0), (2, .int 5)] := hl
  refine lv_iload_n hx hb dX16_part_0 rfl (lv_at hl 0 rfl) ?_
  refine lv_iload_n hx hb dX16_part_1 rfl (lv_at hl 1 rfl) ?_
  refine lv_iushr hx hb dX16_part_2 rfl ?_
  refine lv_iconst (v := 1) hx hb dX16_part_3 (by decide) ?_
  refine lv_iload_n hx hb dX16_part_4 rfl (lv_at hl 2 rfl) ?_
  refine lv_ishl hx hb dX16_part_5 ?_
  refine lv_topi (fun z1 ez1 => ?_)
  obtain rfl : z1 = 32 := ez1.trans (by decide)
  refine lv_iconst (v := 1) hx hb dX16_part_6 (by decide) ?_
  refine lv_isub hx hb dX16_part_7 ?_
  refine lv_topi (fun z2 ez2 => ?_)
  obtain rfl : z2 = 31 := ez2.trans (by decide)
  refine lv_iand hx hb dX16_part_8 ?_
  refine W.widen (k := 0) (n := 0) (by decide +kernel) (by decide +kernel) ?_
  exact W.iret (v := ((((c0 : Int32).toUInt32 >>> ((0 : Int32).toUInt32 &&& Int32.toUInt32 31)).toInt32) &&& 31)) hx hb hr (fun t ht hW => ⟨⟨((((c0 : Int32).toUInt32 >>> ((0 : Int32).toUInt32 &&& Int32.toUInt32 31)).toInt32) &&& 31), (), rfl, Or.inl rfl, by rw [ht]; exact hP, va_K.moved hW.alike hK, hD⟩, hS.F ht⟩) hS.2.2 dX16_part_9
def ow_k_X16_bit_v21 : List Cond := .code yX16_bit cX16_bit 4 (some .int) :: ([.methodLink RX16 297 yX16_part, .static yX16_part, .initialized RX16] ++ (ow_k_X16_part_v27 ++ []))
theorem gd_k_X16_bit_v21 : ∀ w ∈ ow_k_X16_bit_v21, (w.onTables && w.keeps) = true ∨ ∃ ty, w = Cond.arrayClass ty := List.forall_mem_cons.mpr ⟨good_of_word rfl, List.forall_mem_append.mpr ⟨fun w h => good_of_word (List.all_eq_true.mp (by decide +kernel) w h), List.forall_mem_append.mpr ⟨gd_k_X16_part_v27, fun _ h => nomatch h⟩⟩⟩
theorem gi_k_X16_bit_v21_0 : GoodIn ow_k_X16_bit_v21 (wsS RX16 297 yX16_part ow_k_X16_part_v27) := goodIn_app (goodIn_of _ (by decide +kernel)) (fun w h => ⟨List.mem_cons_of_mem _ (List.mem_append_right _ (List.mem_append_left _ h)), gd_k_X16_part_v27 w h⟩)
set_option maxHeartbeats 40000000 in
set_option maxRecDepth 100000 in
theorem k_X16_bit_v21 (l : Launch) (hlt : l.stackTraces = false) (dC : Nat → ClassId) (dI : Nat → Nat → Nat) (c0 : Int32) (sz : Nat) : Met l yX16_bit ow_k_X16_bit_v21 ({ frames := 1, cells := 0, slots := 0, locals := 22 }) (va_Pc [.int c0, .int 0, .int 5, .int 7] (fun U => U.heap.size = sz ∧ va_P (dC, dI) vwCl [] U.heap ∧ va_K (dC, dI) vwCl [] U ∧ va_D (fun _ => True) [] ∧ nv_E (va_A [] sz) U)) (va_Qi (fun r _ => (r = ((((((c0 : Int32).toUInt32 >>> ((0 : Int32).toUInt32 &&& Int32.toUInt32 31)).toInt32) &&& 31) : Int32) <<< ((7 : Int32) &&& 31))) ∨ False) (fun (_ : Unit) t => va_P (dC, dI) vwCl [] t.heap ∧ va_K (dC, dI) vwCl [] t ∧ va_D (va_A [] sz) []) (va_A [] sz)) 0 0 (va_A [] sz) := by
  refine Met.ofW (cc := cX16_bit) (maxL := 4) (ret := (some .int)) (by decide) rfl ?_
  intro p e s m args below meth c s₁ B hml hv
  obtain ⟨rfl, hsz, hP, hK, hD0, hN⟩ := hv
  have hx := B.exec
  have hb := B.bytes
  have hr := B.returns
  have hts := atoms_spec (ws := ow_k_X16_bit_v21) B.pre
  have hown : s.vm.findClass RX16 = some m.cls := findClass_of_methodNamed B.named
  have hlocks := B.notSynchronized
  subst hsz
  have hD := hD0.self (sz := s.heap.size)
  generalize hAe : va_A [] s.heap.size = A at hD hN ⊢
  have hA : ∀ q : Nat, s.heap.size ≤ q → A q := fun q h => by rw [← hAe]; exact Or.inr h
  have hS : va_S A s.heap s.heap [] := va_S.rf
  have hl := lv_entry ([.int c0, .int 0, .int 5, .int 7]) (n := 4) (Nat.le_of_ble_eq_true rfl)
  rw [lg_entry_eq]
  generalize (lg_sl ([.int c0, .int 0, .int 5, .int 7]) ++ List.replicate (4 - (lg_sl ([.int c0, .int 0, .int 5, .int 7])).length) Slot.unset).toArray = ls at hl ⊢
  have hl : lv_has ls 4 [(0, .int c0), (1, .int 0), (2, .int 5), (3, .int 7)] := hl
  refine lv_iload_n hx hb dX16_bit_0 rfl (lv_at hl 0 rfl) ?_
  refine lv_iload_n hx hb dX16_bit_1 rfl (lv_at hl 1 rfl) ?_
  refine lv_iload_n hx hb dX16_bit_2 rfl (lv_at hl 2 rfl) ?_
  have hPc := hP.sub (ws' := []) [] rfl
  have hDc := hD.sub (ws' := []) [] (by decide) rfl
  have hKc := hK.sub (tys' := []) [] rfl
  have hFc := va_free (wc := []) hD hS hA [] rfl
  refine va_calli (va_runS (As := [.int c0, .int 0, .int 5]) (rest := []) ⟨hx, hb, hml, hown, hts⟩ (k_X16_part_v27 l hlt dC dI c0  s.heap.size) (cwS 3 hts gi_k_X16_bit_v21_0 rfl rfl rfl (by decide +kernel) ⟨Nat.le_of_ble_eq_true rfl, Nat.le_of_ble_eq_true rfl⟩) ⟨fun a U g mk q => by obtain ⟨q0, q1, qP, qK, qD, qN⟩ := q; exact ⟨q0, q1, qP, va_K.moved (u := U) (U := U.calling g mk a) (Vm.Alike.refl U.vm) qK, qD, nv_same rfl rfl qN⟩, fun U hU hW => ⟨rfl, by rw [hU], by rw [hU]; exact hPc, va_K.moved hW.alike hKc, hDc.weaken (fun _ _ _ _ => trivial), nv_call hS hFc hU hW hN⟩⟩ rfl rfl hl.1 rfl (lv_room (Nat.le_of_ble_eq_true rfl)) dX16_bit_3 ⟨by decide +kernel, by decide +kernel⟩) hS (fun q _ h => hFc q h) hFc (fun r1 u t H1 locs ht hvm hw hB hz1 hk1 hS => ?_)
  obtain ⟨hP1, hK1, hD1⟩ := hB
  rw [ht] at hP1
  have hK1 := va_K.moved hvm.symm hK1
  obtain ⟨hP, hD⟩ := va_join (wr := []) (w1 := []) hP hD [] [] rfl rfl (by decide) (by decide) hk1 hFc hP1 hD1
  have hK := (hK.sub (tys' := []) [] rfl).app hK1
  generalize H1 = H at hP hS ⊢
  have hP : va_P (dC, dI) vwCl [] H := hP
  have hD : va_D A [] := hD
  have hK : va_K (dC, dI) vwCl [] s := hK
  refine W.widen (k := 0) (n := 0) (by decide +kernel) (by decide +kernel) ?_
  rcases hw with h9 | h9
  · subst h9
    refine lv_iload_n hx hb dX16_bit_6 rfl (lv_at hl 3 rfl) ?_
    refine lv_ishl hx hb dX16_bit_7 ?_
    refine W.widen (k := 0) (n := 0) (by decide +kernel) (by decide +kernel) ?_
    exact W.iret (v := ((((((c0 : Int32).toUInt32 >>> ((0 : Int32).toUInt32 &&& Int32.toUInt32 31)).toInt32) &&& 31) : Int32) <<< ((7 : Int32) &&& 31))) hx hb hr (fun t ht hW => ⟨⟨((((((c0 : Int32).toUInt32 >>> ((0 : Int32).toUInt32 &&& Int32.toUInt32 31)).toInt32) &&& 31) : Int32) <<< ((7 : Int32) &&& 31)), (), rfl, Or.inl rfl, by rw [ht]; exact hP, va_K.moved hW.alike hK, hD⟩, hS.F ht⟩) hS.2.2 dX16_bit_8
  · exact h9.elim
def ow_k_X16_part_v28 : List Cond := .code yX16_part cX16_part 3 (some .int) :: ([] ++ [])
theorem gd_k_X16_part_v28 : ∀ w ∈ ow_k_X16_part_v28, (w.onTables && w.keeps) = true ∨ ∃ ty, w = Cond.arrayClass ty := List.forall_mem_cons.mpr ⟨good_of_word rfl, List.forall_mem_append.mpr ⟨fun w h => good_of_word (List.all_eq_true.mp (by decide +kernel) w h), fun _ h => nomatch h⟩⟩
set_option maxHeartbeats 40000000 in
set_option maxRecDepth 100000 in
theorem k_X16_part_v28 (l : Launch) (hlt : l.stackTraces = false) (dC : Nat → ClassId) (dI : Nat → Nat → Nat) (c0 : Int32) (sz : Nat) : Met l yX16_part ow_k_X16_part_v28 ({ frames := 0, cells := 0, slots := 0, locals := 0 }) (va_Pc [.int c0, .int 5, .int 7] (fun U => U.heap.size = sz ∧ va_P (dC, dI) vwCl [] U.heap ∧ va_K (dC, dI) vwCl [] U ∧ va_D (fun _ => True) [] ∧ nv_E (va_A [] sz) U)) (va_Qi (fun r _ => (r = ((((c0 : Int32).toUInt32 >>> ((5 : Int32).toUInt32 &&& Int32.toUInt32 31)).toInt32) &&& 127)) ∨ False) (fun (_ : Unit) t => va_P (dC, dI) vwCl [] t.heap ∧ va_K (dC, dI) vwCl [] t ∧ va_D (va_A [] sz) []) (va_A [] sz)) 0 0 (va_A [] sz) := by
  refine Met.ofW (cc := cX16_part) (maxL := 3) (ret := (some .int)) (by decide) rfl ?_
  intro p e s m args below meth c s₁ B hml hv
  obtain ⟨rfl, hsz, hP, hK, hD0, hN⟩ := hv
  have hx := B.exec
  have hb := B.bytes
  have hr := B.returns
  have hts := atoms_spec (ws := ow_k_X16_part_v28) B.pre
  have hown : s.vm.findClass RX16 = some m.cls := findClass_of_methodNamed B.named
  have hlocks := B.notSynchronized
  subst hsz
  have hD := hD0.self (sz := s.heap.size)
  generalize hAe : va_A [] s.heap.size = A at hD hN ⊢
  have hA : ∀ q : Nat, s.heap.size ≤ q → A q := fun q h => by rw [← hAe]; exact Or.inr h
  have hS : va_S A s.heap s.heap [] := va_S.rf
  have hl := lv_entry ([.int c0, .int 5, .int 7]) (n := 3) (Nat.le_of_ble_eq_true rfl)
  rw [lg_entry_eq]
  generalize (lg_sl ([.int c0, .int 5, .int 7]) ++ List.replicate (3 - (lg_sl ([.int c0, .int 5, .int 7])).length) Slot.unset).toArray = ls at hl ⊢
  have hl : lv_has ls 3 [(0, .int c0), (1, .int 5), (2, .int 7)] := hl
  refine lv_iload_n hx hb dX16_part_0 rfl (lv_at hl 0 rfl) ?_
  refine lv_iload_n hx hb dX16_part_1 rfl (lv_at hl 1 rfl) ?_
  refine lv_iushr hx hb dX16_part_2 rfl ?_
  refine lv_iconst (v := 1) hx hb dX16_part_3 (by decide) ?_
  refine lv_iload_n hx hb dX16_part_4 rfl (lv_at hl 2 rfl) ?_
  refine lv_ishl hx hb dX16_part_5 ?_
  refine lv_topi (fun z1 ez1 => ?_)
  obtain rfl : z1 = 128 := ez1.trans (by decide)
  refine lv_iconst (v := 1) hx hb dX16_part_6 (by decide) ?_
  refine lv_isub hx hb dX16_part_7 ?_
  refine lv_topi (fun z2 ez2 => ?_)
  obtain rfl : z2 = 127 := ez2.trans (by decide)
  refine lv_iand hx hb dX16_part_8 ?_
  refine W.widen (k := 0) (n := 0) (by decide +kernel) (by decide +kernel) ?_
  exact W.iret (v := ((((c0 : Int32).toUInt32 >>> ((5 : Int32).toUInt32 &&& Int32.toUInt32 31)).toInt32) &&& 127)) hx hb hr (fun t ht hW => ⟨⟨((((c0 : Int32).toUInt32 >>> ((5 : Int32).toUInt32 &&& Int32.toUInt32 31)).toInt32) &&& 127), (), rfl, Or.inl rfl, by rw [ht]; exact hP, va_K.moved hW.alike hK, hD⟩, hS.F ht⟩) hS.2.2 dX16_part_9
def ow_k_X16_bit_v22 : List Cond := .code yX16_bit cX16_bit 4 (some .int) :: ([.methodLink RX16 297 yX16_part, .static yX16_part, .initialized RX16] ++ (ow_k_X16_part_v28 ++ []))
theorem gd_k_X16_bit_v22 : ∀ w ∈ ow_k_X16_bit_v22, (w.onTables && w.keeps) = true ∨ ∃ ty, w = Cond.arrayClass ty := List.forall_mem_cons.mpr ⟨good_of_word rfl, List.forall_mem_append.mpr ⟨fun w h => good_of_word (List.all_eq_true.mp (by decide +kernel) w h), List.forall_mem_append.mpr ⟨gd_k_X16_part_v28, fun _ h => nomatch h⟩⟩⟩
theorem gi_k_X16_bit_v22_0 : GoodIn ow_k_X16_bit_v22 (wsS RX16 297 yX16_part ow_k_X16_part_v28) := goodIn_app (goodIn_of _ (by decide +kernel)) (fun w h => ⟨List.mem_cons_of_mem _ (List.mem_append_right _ (List.mem_append_left _ h)), gd_k_X16_part_v28 w h⟩)
set_option maxHeartbeats 40000000 in
set_option maxRecDepth 100000 in
theorem k_X16_bit_v22 (l : Launch) (hlt : l.stackTraces = false) (dC : Nat → ClassId) (dI : Nat → Nat → Nat) (c0 : Int32) (sz : Nat) : Met l yX16_bit ow_k_X16_bit_v22 ({ frames := 1, cells := 0, slots := 0, locals := 22 }) (va_Pc [.int c0, .int 5, .int 7, .int 25] (fun U => U.heap.size = sz ∧ va_P (dC, dI) vwCl [] U.heap ∧ va_K (dC, dI) vwCl [] U ∧ va_D (fun _ => True) [] ∧ nv_E (va_A [] sz) U)) (va_Qi (fun r _ => (r = ((((((c0 : Int32).toUInt32 >>> ((5 : Int32).toUInt32 &&& Int32.toUInt32 31)).toInt32) &&& 127) : Int32) <<< ((25 : Int32) &&& 31))) ∨ False) (fun (_ : Unit) t => va_P (dC, dI) vwCl [] t.heap ∧ va_K (dC, dI) vwCl [] t ∧ va_D (va_A [] sz) []) (va_A [] sz)) 0 0 (va_A [] sz) := by
  refine Met.ofW (cc := cX16_bit) (maxL := 4) (ret := (some .int)) (by decide) rfl ?_
  intro p e s m args below meth c s₁ B hml hv
  obtain ⟨rfl, hsz, hP, hK, hD0, hN⟩ := hv
  have hx := B.exec
  have hb := B.bytes
  have hr := B.returns
  have hts := atoms_spec (ws := ow_k_X16_bit_v22) B.pre
  have hown : s.vm.findClass RX16 = some m.cls := findClass_of_methodNamed B.named
  have hlocks := B.notSynchronized
  subst hsz
  have hD := hD0.self (sz := s.heap.size)
  generalize hAe : va_A [] s.heap.size = A at hD hN ⊢
  have hA : ∀ q : Nat, s.heap.size ≤ q → A q := fun q h => by rw [← hAe]; exact Or.inr h
  have hS : va_S A s.heap s.heap [] := va_S.rf
  have hl := lv_entry ([.int c0, .int 5, .int 7, .int 25]) (n := 4) (Nat.le_of_ble_eq_true rfl)
  rw [lg_entry_eq]
  generalize (lg_sl ([.int c0, .int 5, .int 7, .int 25]) ++ List.replicate (4 - (lg_sl ([.int c0, .int 5, .int 7, .int 25])).length) Slot.unset).toArray = ls at hl ⊢
  have hl : lv_has ls 4 [(0, .int c0), (1, .int 5), (2, .int 7), (3, .int 25)] := hl
  refine lv_iload_n hx hb dX16_bit_0 rfl (lv_at hl 0 rfl) ?_
  refine lv_iload_n hx hb dX16_bit_1 rfl (lv_at hl 1 rfl) ?_
  refine lv_iload_n hx hb dX16_bit_2 rfl (lv_at hl 2 rfl) ?_
  have hPc := hP.sub (ws' := []) [] rfl
  have hDc := hD.sub (ws' := []) [] (by decide) rfl
  have hKc := hK.sub (tys' := []) [] rfl
  have hFc := va_free (wc := []) hD hS hA [] rfl
  refine va_calli (va_runS (As := [.int c0, .int 5, .int 7]) (rest := []) ⟨hx, hb, hml, hown, hts⟩ (k_X16_part_v28 l hlt dC dI c0  s.heap.size) (cwS 3 hts gi_k_X16_bit_v22_0 rfl rfl rfl (by decide +kernel) ⟨Nat.le_of_ble_eq_true rfl, Nat.le_of_ble_eq_true rfl⟩) ⟨fun a U g mk q => by obtain ⟨q0, q1, qP, qK, qD, qN⟩ := q; exact ⟨q0, q1, qP, va_K.moved (u := U) (U := U.calling g mk a) (Vm.Alike.refl U.vm) qK, qD, nv_same rfl rfl qN⟩, fun U hU hW => ⟨rfl, by rw [hU], by rw [hU]; exact hPc, va_K.moved hW.alike hKc, hDc.weaken (fun _ _ _ _ => trivial), nv_call hS hFc hU hW hN⟩⟩ rfl rfl hl.1 rfl (lv_room (Nat.le_of_ble_eq_true rfl)) dX16_bit_3 ⟨by decide +kernel, by decide +kernel⟩) hS (fun q _ h => hFc q h) hFc (fun r1 u t H1 locs ht hvm hw hB hz1 hk1 hS => ?_)
  obtain ⟨hP1, hK1, hD1⟩ := hB
  rw [ht] at hP1
  have hK1 := va_K.moved hvm.symm hK1
  obtain ⟨hP, hD⟩ := va_join (wr := []) (w1 := []) hP hD [] [] rfl rfl (by decide) (by decide) hk1 hFc hP1 hD1
  have hK := (hK.sub (tys' := []) [] rfl).app hK1
  generalize H1 = H at hP hS ⊢
  have hP : va_P (dC, dI) vwCl [] H := hP
  have hD : va_D A [] := hD
  have hK : va_K (dC, dI) vwCl [] s := hK
  refine W.widen (k := 0) (n := 0) (by decide +kernel) (by decide +kernel) ?_
  rcases hw with h9 | h9
  · subst h9
    refine lv_iload_n hx hb dX16_bit_6 rfl (lv_at hl 3 rfl) ?_
    refine lv_ishl hx hb dX16_bit_7 ?_
    refine W.widen (k := 0) (n := 0) (by decide +kernel) (by decide +kernel) ?_
    exact W.iret (v := ((((((c0 : Int32).toUInt32 >>> ((5 : Int32).toUInt32 &&& Int32.toUInt32 31)).toInt32) &&& 127) : Int32) <<< ((25 : Int32) &&& 31))) hx hb hr (fun t ht hW => ⟨⟨((((((c0 : Int32).toUInt32 >>> ((5 : Int32).toUInt32 &&& Int32.toUInt32 31)).toInt32) &&& 127) : Int32) <<< ((25 : Int32) &&& 31)), (), rfl, Or.inl rfl, by rw [ht]; exact hP, va_K.moved hW.alike hK, hD⟩, hS.F ht⟩) hS.2.2 dX16_bit_8
  · exact h9.elim
def ow_k_X16_storing_v1 : List Cond := .code yX16_storing cX16_storing 3 (some .int) :: ([.methodLink RX16 300 yX16_bit, .static yX16_bit, .initialized RX16] ++ (ow_k_X16_bit_v21 ++ (ow_k_X16_bit_v22 ++ [])))
theorem gd_k_X16_storing_v1 : ∀ w ∈ ow_k_X16_storing_v1, (w.onTables && w.keeps) = true ∨ ∃ ty, w = Cond.arrayClass ty := List.forall_mem_cons.mpr ⟨good_of_word rfl, List.forall_mem_append.mpr ⟨fun w h => good_of_word (List.all_eq_true.mp (by decide +kernel) w h), List.forall_mem_append.mpr ⟨gd_k_X16_bit_v21, List.forall_mem_append.mpr ⟨gd_k_X16_bit_v22, fun _ h => nomatch h⟩⟩⟩⟩
theorem gi_k_X16_storing_v1_0 : GoodIn ow_k_X16_storing_v1 (wsS RX16 300 yX16_bit ow_k_X16_bit_v21) := goodIn_app (goodIn_of _ (by decide +kernel)) (fun w h => ⟨List.mem_cons_of_mem _ (List.mem_append_right _ (List.mem_append_left _ h)), gd_k_X16_bit_v21 w h⟩)
theorem gi_k_X16_storing_v1_1 : GoodIn ow_k_X16_storing_v1 (wsS RX16 300 yX16_bit ow_k_X16_bit_v22) := goodIn_app (goodIn_of _ (by decide +kernel)) (fun w h => ⟨List.mem_cons_of_mem _ (List.mem_append_right _ (List.mem_append_right _ (List.mem_append_left _ h))), gd_k_X16_bit_v22 w h⟩)
set_option maxHeartbeats 40000000 in
set_option maxRecDepth 100000 in
theorem k_X16_storing_v1 (l : Launch) (hlt : l.stackTraces = false) (dC : Nat → ClassId) (dI : Nat → Nat → Nat) (c0 : Int32) (c1 : Int32) (sz : Nat) : Met l yX16_storing ow_k_X16_storing_v1 ({ frames := 2, cells := 0, slots := 0, locals := 45 }) (va_Pc [.int 2, .int c0, .int c1] (fun U => U.heap.size = sz ∧ va_P (dC, dI) vwCl [] U.heap ∧ va_K (dC, dI) vwCl [] U ∧ va_D (fun _ => True) [] ∧ nv_E (va_A [] sz) U)) (va_Qi (fun r _ => (r = (((((35 ||| ((((((c1 : Int32).toUInt32 >>> ((0 : Int32).toUInt32 &&& Int32.toUInt32 31)).toInt32) &&& 31) : Int32) <<< ((7 : Int32) &&& 31))) ||| 8192) ||| 65536) ||| ((c0 : Int32) <<< ((20 : Int32) &&& 31))) ||| ((((((c1 : Int32).toUInt32 >>> ((5 : Int32).toUInt32 &&& Int32.toUInt32 31)).toInt32) &&& 127) : Int32) <<< ((25 : Int32) &&& 31)))) ∨ False) (fun (_ : Unit) t => va_P (dC, dI) vwCl [] t.heap ∧ va_K (dC, dI) vwCl [] t ∧ va_D (va_A [] sz) []) (va_A [] sz)) 0 0 (va_A [] sz) := by
  refine Met.ofW (cc := cX16_storing) (maxL := 3) (ret := (some .int)) (by decide) rfl ?_
  intro p e s m args below meth c s₁ B hml hv
  obtain ⟨rfl, hsz, hP, hK, hD0, hN⟩ := hv
  have hx := B.exec
  have hb := B.bytes
  have hr := B.returns
  have hts := atoms_spec (ws := ow_k_X16_storing_v1) B.pre
  have hown : s.vm.findClass RX16 = some m.cls := findClass_of_methodNamed B.named
  have hlocks := B.notSynchronized
  subst hsz
  have hD := hD0.self (sz := s.heap.size)
  generalize hAe : va_A [] s.heap.size = A at hD hN ⊢
  have hA : ∀ q : Nat, s.heap.size ≤ q → A q := fun q h => by rw [← hAe]; exact Or.inr h
  have hS : va_S A s.heap s.heap [] := va_S.rf
  have hl := lv_entry ([.int 2, .int c0, .int c1]) (n := 3) (Nat.le_of_ble_eq_true rfl)
  rw [lg_entry_eq]
  generalize (lg_sl ([.int 2, .int c0, .int c1]) ++ List.replicate (3 - (lg_sl ([.int 2, .int c0, .int c1])).length) Slot.unset).toArray = ls at hl ⊢
  have hl : lv_has ls 3 [(0, .int 2), (1, .int c0), (2, .int c1)] := hl
  refine lv_bipush (v := 35) hx hb dX16_storing_0 (by decide) ?_
  refine lv_iload_n hx hb dX16_storing_2 rfl (lv_at hl 2 rfl) ?_
  refine lv_iconst (v := 0) hx hb dX16_storing_3 (by decide) ?_
  refine lv_iconst (v := 5) hx hb dX16_storing_4 (by decide) ?_
  refine lv_bipush (v := 7) hx hb dX16_storing_5 (by decide) ?_
  have hPc := hP.sub (ws' := []) [] rfl
  have hDc := hD.sub (ws' := []) [] (by decide) rfl
  have hKc := hK.sub (tys' := []) [] rfl
  have hFc := va_free (wc := []) hD hS hA [] rfl
  refine va_calli (va_runS (As := [.int c1, .int 0, .int 5, .int 7]) (rest := [.int 35]) ⟨hx, hb, hml, hown, hts⟩ (k_X16_bit_v21 l hlt dC dI c1  s.heap.size) (cwS 4 hts gi_k_X16_storing_v1_0 rfl rfl rfl (by decide +kernel) ⟨Nat.le_of_ble_eq_true rfl, Nat.le_of_ble_eq_true rfl⟩) ⟨fun a U g mk q => by obtain ⟨q0, q1, qP, qK, qD, qN⟩ := q; exact ⟨q0, q1, qP, va_K.moved (u := U) (U := U.calling g mk a) (Vm.Alike.refl U.vm) qK, qD, nv_same rfl rfl qN⟩, fun U hU hW => ⟨rfl, by rw [hU], by rw [hU]; exact hPc, va_K.moved hW.alike hKc, hDc.weaken (fun _ _ _ _ => trivial), nv_call hS hFc hU hW hN⟩⟩ rfl rfl hl.1 rfl (lv_room (Nat.le_of_ble_eq_true rfl)) dX16_storing_7 ⟨by decide +kernel, by decide +kernel⟩) hS (fun q _ h => hFc q h) hFc (fun r1 u t H1 locs ht hvm hw hB hz1 hk1 hS => ?_)
  obtain ⟨hP1, hK1, hD1⟩ := hB
  rw [ht] at hP1
  have hK1 := va_K.moved hvm.symm hK1
  obtain ⟨hP, hD⟩ := va_join (wr := []) (w1 := []) hP hD [] [] rfl rfl (by decide) (by decide) hk1 hFc hP1 hD1
  have hK := (hK.sub (tys' := []) [] rfl).app hK1
  generalize H1 = H at hP hS ⊢
  have hP : va_P (dC, dI) vwCl [] H := hP
  have hD : va_D A [] := hD
  have hK : va_K (dC, dI) vwCl [] s := hK
  refine W.widen (k := 0) (n := 0) (by decide +kernel) (by decide +kernel) ?_
  rcases hw with h9 | h9
  · subst h9
    refine lv_ior hx hb dX16_storing_10 ?_
    refine lv_sipush (v := 8192) hx hb dX16_storing_11 (by decide) ?_
    refine lv_ior hx hb dX16_storing_14 ?_
    refine lv_iload_n hx hb dX16_storing_15 rfl (lv_at hl 0 rfl) ?_
    refine lv_bipush (v := 15) hx hb dX16_storing_16 (by decide) ?_
    refine lv_ishl hx hb dX16_storing_18 ?_
    refine lv_topi (fun z2 ez2 => ?_)
    obtain rfl : z2 = 65536 := ez2.trans (by decide)
    refine lv_ior hx hb dX16_storing_19 ?_
    refine lv_iload_n hx hb dX16_storing_20 rfl (lv_at hl 1 rfl) ?_
    refine lv_bipush (v := 20) hx hb dX16_storing_21 (by decide) ?_
    refine lv_ishl hx hb dX16_storing_23 ?_
    refine lv_ior hx hb dX16_storing_24 ?_
    refine lv_iload_n hx hb dX16_storing_25 rfl (lv_at hl 2 rfl) ?_
    refine lv_iconst (v := 5) hx hb dX16_storing_26 (by decide) ?_
    refine lv_bipush (v := 7) hx hb dX16_storing_27 (by decide) ?_
    refine lv_bipush (v := 25) hx hb dX16_storing_29 (by decide) ?_
    have hPc := hP.sub (ws' := []) [] rfl
    have hDc := hD.sub (ws' := []) [] (by decide) rfl
    have hKc := hK.sub (tys' := []) [] rfl
    have hFc := va_free (wc := []) hD hS hA [] rfl
    refine va_calli (va_runS (As := [.int c1, .int 5, .int 7, .int 25]) (rest := [.int ((((35 ||| ((((((c1 : Int32).toUInt32 >>> ((0 : Int32).toUInt32 &&& Int32.toUInt32 31)).toInt32) &&& 31) : Int32) <<< ((7 : Int32) &&& 31))) ||| 8192) ||| 65536) ||| ((c0 : Int32) <<< ((20 : Int32) &&& 31)))]) ⟨hx, hb, hml, hown, hts⟩ (k_X16_bit_v22 l hlt dC dI c1  H.size) (cwS 4 hts gi_k_X16_storing_v1_1 rfl rfl rfl (by decide +kernel) ⟨Nat.le_of_ble_eq_true rfl, Nat.le_of_ble_eq_true rfl⟩) ⟨fun a U g mk q => by obtain ⟨q0, q1, qP, qK, qD, qN⟩ := q; exact ⟨q0, q1, qP, va_K.moved (u := U) (U := U.calling g mk a) (Vm.Alike.refl U.vm) qK, qD, nv_same rfl rfl qN⟩, fun U hU hW => ⟨rfl, by rw [hU], by rw [hU]; exact hPc, va_K.moved hW.alike hKc, hDc.weaken (fun _ _ _ _ => trivial), nv_call hS hFc hU hW hN⟩⟩ rfl rfl hl.1 rfl (lv_room (Nat.le_of_ble_eq_true rfl)) dX16_storing_31 ⟨by decide +kernel, by decide +kernel⟩) hS (fun q _ h => hFc q h) hFc (fun r3 u t H1 locs ht hvm hw hB hz1 hk1 hS => ?_)
    obtain ⟨hP1, hK1, hD1⟩ := hB
    rw [ht] at hP1
    have hK1 := va_K.moved hvm.symm hK1
    obtain ⟨hP, hD⟩ := va_join (wr := []) (w1 := []) hP hD [] [] rfl rfl (by decide) (by decide) hk1 hFc hP1 hD1
    have hK := (hK.sub (tys' := []) [] rfl).app hK1
    generalize H1 = H at hP hS ⊢
    have hP : va_P (dC, dI) vwCl [] H := hP
    have hD : va_D A [] := hD
    have hK : va_K (dC, dI) vwCl [] s := hK
    refine W.widen (k := 0) (n := 0) (by decide +kernel) (by decide +kernel) ?_
    rcases hw with h9 | h9
    · subst h9
      refine lv_ior hx hb dX16_storing_34 ?_
      refine W.widen (k := 0) (n := 0) (by decide +kernel) (by decide +kernel) ?_
      exact W.iret (v := (((((35 ||| ((((((c1 : Int32).toUInt32 >>> ((0 : Int32).toUInt32 &&& Int32.toUInt32 31)).toInt32) &&& 31) : Int32) <<< ((7 : Int32) &&& 31))) ||| 8192) ||| 65536) ||| ((c0 : Int32) <<< ((20 : Int32) &&& 31))) ||| ((((((c1 : Int32).toUInt32 >>> ((5 : Int32).toUInt32 &&& Int32.toUInt32 31)).toInt32) &&& 127) : Int32) <<< ((25 : Int32) &&& 31)))) hx hb hr (fun t ht hW => ⟨⟨(((((35 ||| ((((((c1 : Int32).toUInt32 >>> ((0 : Int32).toUInt32 &&& Int32.toUInt32 31)).toInt32) &&& 31) : Int32) <<< ((7 : Int32) &&& 31))) ||| 8192) ||| 65536) ||| ((c0 : Int32) <<< ((20 : Int32) &&& 31))) ||| ((((((c1 : Int32).toUInt32 >>> ((5 : Int32).toUInt32 &&& Int32.toUInt32 31)).toInt32) &&& 127) : Int32) <<< ((25 : Int32) &&& 31))), (), rfl, Or.inl rfl, by rw [ht]; exact hP, va_K.moved hW.alike hK, hD⟩, hS.F ht⟩) hS.2.2 dX16_storing_35
    · exact h9.elim
  · exact h9.elim
def ow_k_X16_immediate_v5 : List Cond := .code yX16_immediate cX16_immediate 5 (some .int) :: ([] ++ [])
theorem gd_k_X16_immediate_v5 : ∀ w ∈ ow_k_X16_immediate_v5, (w.onTables && w.keeps) = true ∨ ∃ ty, w = Cond.arrayClass ty := List.forall_mem_cons.mpr ⟨good_of_word rfl, List.forall_mem_append.mpr ⟨fun w h => good_of_word (List.all_eq_true.mp (by decide +kernel) w h), fun _ h => nomatch h⟩⟩
