set_option maxHeartbeats 40000000 in
set_option maxRecDepth 100000 in
theorem k_X19_fails_v2 (l : Launch) (hlt : l.stackTraces = false) (dC : Nat → ClassId) (dI : Nat → Nat → Nat) (c0 : Nat) (c1 : Nat) (c2 : Nat) (c3 : Nat) (c4 : Nat) (c5 : Nat) (c6 : Nat) (c7 : Nat) (c8 : Nat) (c9 : Nat) (c10 : Nat) (c11 : Nat) (c12 : Nat) (c13 : Nat) (c14 : Nat) (c15 : Nat) (c16 : Nat) (c17 : Nat) (c18 : Nat) (c19 : Nat) (c20 : Nat) (c21 : Nat) (c22 : Nat) (c23 : Nat) (sz : Nat) : Met l yX19_fails ow_k_X19_fails_v2 ({ frames := 0, cells := 0, slots := 0, locals := 0 }) (va_Pc [.ref c0, .int 0, .int 1] (fun U => U.heap.size = sz ∧ va_P (dC, dI) vwCl [(c0, .inr (20, [.int 0, .ref c1, .int 0, .int 0, .ref c2, .ref c3, .ref c4, .ref c5, .ref c6, .ref c7, .ref c8, .ref c9, .ref c10, .ref c11, .ref c12, .ref c13, .ref c14, .int 0, .int 0, .int 0, .int 0, .int 0, .int 0, .int 0, .int 0, .int 0, .ref c15, .ref c16, .ref c17, .ref c18, .ref c19, .ref c20, .ref c21, .ref c22, .ref c23, .int 0]))] U.heap ∧ va_K (dC, dI) vwCl [] U ∧ va_D (fun _ => True) [(c0, .inr (20, [.int 0, .ref c1, .int 0, .int 0, .ref c2, .ref c3, .ref c4, .ref c5, .ref c6, .ref c7, .ref c8, .ref c9, .ref c10, .ref c11, .ref c12, .ref c13, .ref c14, .int 0, .int 0, .int 0, .int 0, .int 0, .int 0, .int 0, .int 0, .int 0, .ref c15, .ref c16, .ref c17, .ref c18, .ref c19, .ref c20, .ref c21, .ref c22, .ref c23, .int 0]))] ∧ nv_E (va_A [(c0, .inr (20, [.int 0, .ref c1, .int 0, .int 0, .ref c2, .ref c3, .ref c4, .ref c5, .ref c6, .ref c7, .ref c8, .ref c9, .ref c10, .ref c11, .ref c12, .ref c13, .ref c14, .int 0, .int 0, .int 0, .int 0, .int 0, .int 0, .int 0, .int 0, .int 0, .ref c15, .ref c16, .ref c17, .ref c18, .ref c19, .ref c20, .ref c21, .ref c22, .ref c23, .int 0]))] sz) U)) (va_Qi (fun r _ => r = 1) (fun (_ : Unit) t => va_P (dC, dI) vwCl [(c0, .inr (20, [.int 2, .ref c1, .int 0, .int 0, .ref c2, .ref c3, .ref c4, .ref c5, .ref c6, .ref c7, .ref c8, .ref c9, .ref c10, .ref c11, .ref c12, .ref c13, .ref c14, .int 0, .int 0, .int 0, .int 0, .int 0, .int 0, .int 0, .int 0, .int 0, .ref c15, .ref c16, .ref c17, .ref c18, .ref c19, .ref c20, .ref c21, .ref c22, .ref c23, .int 0]))] t.heap ∧ va_K (dC, dI) vwCl [] t ∧ va_D (va_A [(c0, .inr (20, [.int 0, .ref c1, .int 0, .int 0, .ref c2, .ref c3, .ref c4, .ref c5, .ref c6, .ref c7, .ref c8, .ref c9, .ref c10, .ref c11, .ref c12, .ref c13, .ref c14, .int 0, .int 0, .int 0, .int 0, .int 0, .int 0, .int 0, .int 0, .int 0, .ref c15, .ref c16, .ref c17, .ref c18, .ref c19, .ref c20, .ref c21, .ref c22, .ref c23, .int 0]))] sz) [(c0, .inr (20, [.int 2, .ref c1, .int 0, .int 0, .ref c2, .ref c3, .ref c4, .ref c5, .ref c6, .ref c7, .ref c8, .ref c9, .ref c10, .ref c11, .ref c12, .ref c13, .ref c14, .int 0, .int 0, .int 0, .int 0, .int 0, .int 0, .int 0, .int 0, .int 0, .ref c15, .ref c16, .ref c17, .ref c18, .ref c19, .ref c20, .ref c21, .ref c22, .ref c23, .int 0]))]) (va_A [(c0, .inr (20, [.int 0, .ref c1, .int 0, .int 0, .ref c2, .ref c3, .ref c4, .ref c5, .ref c6, .ref c7, .ref c8, .ref c9, .ref c10, .ref c11, .ref c12, .ref c13, .ref c14, .int 0, .int 0, .int 0, .int 0, .int 0, .int 0, .int 0, .int 0, .int 0, .ref c15, .ref c16, .ref c17, .ref c18, .ref c19, .ref c20, .ref c21, .ref c22, .ref c23, .int 0]))] sz)) 0 0 (va_A [(c0, .inr (20, [.int 0, .ref c1, .int 0, .int 0, .ref c2, .ref c3, .ref c4, .ref c5, .ref c6, .ref c7, .ref c8, .ref c9, .ref c10, .ref c11, .ref c12, .ref c13, .ref c14, .int 0, .int 0, .int 0, .int 0, .int 0, .int 0, .int 0, .int 0, .int 0, .ref c15, .ref c16, .ref c17, .ref c18, .ref c19, .ref c20, .ref c21, .ref c22, .ref c23, .int 0]))] sz) := by
  refine Met.ofW (cc := cX19_fails) (maxL := 3) (ret := (some .boolean)) (by decide) rfl ?_
  intro p e s m args below meth c s₁ B hml hv
  obtain ⟨rfl, hsz, hP, hK, hD0, hN⟩ := hv
  have hx := B.exec
  have hb := B.bytes
  have hr := B.returns
  have hts := atoms_spec (ws := ow_k_X19_fails_v2) B.pre
  have hown : s.vm.findClass RX19 = some m.cls := findClass_of_methodNamed B.named
  have hlocks := B.notSynchronized
  subst hsz
  have hD := hD0.self (sz := s.heap.size)
  generalize hAe : va_A [(c0, .inr (20, [.int 0, .ref c1, .int 0, .int 0, .ref c2, .ref c3, .ref c4, .ref c5, .ref c6, .ref c7, .ref c8, .ref c9, .ref c10, .ref c11, .ref c12, .ref c13, .ref c14, .int 0, .int 0, .int 0, .int 0, .int 0, .int 0, .int 0, .int 0, .int 0, .ref c15, .ref c16, .ref c17, .ref c18, .ref c19, .ref c20, .ref c21, .ref c22, .ref c23, .int 0]))] s.heap.size = A at hD hN ⊢
  have hA : ∀ q : Nat, s.heap.size ≤ q → A q := fun q h => by rw [← hAe]; exact Or.inr h
  have hS : va_S A s.heap s.heap [] := va_S.rf
  have hl := lv_entry ([.ref c0, .int 0, .int 1]) (n := 3) (Nat.le_of_ble_eq_true rfl)
  rw [lg_entry_eq]
  generalize (lg_sl ([.ref c0, .int 0, .int 1]) ++ List.replicate (3 - (lg_sl ([.ref c0, .int 0, .int 1])).length) Slot.unset).toArray = ls at hl ⊢
  have hl : lv_has ls 3 [(0, .ref c0), (1, .int 0), (2, .int 1)] := hl
  refine lv_aload_n hx hb dX19_fails_0 rfl (lv_at hl 0 rfl) ?_
  refine lv_iload_n hx hb dX19_fails_1 rfl (lv_at hl 1 rfl) ?_
  refine lv_if_eq (tgt := 9) hx hb dX19_fails_2 (by decide) (fun _ => ?_) (fun h9 => absurd (by decide) h9)
  refine lv_iload_n hx hb dX19_fails_9 rfl (lv_at hl 2 rfl) ?_
  refine lv_if_eq (tgt := 17) hx hb dX19_fails_10 (by decide) (fun h9 => absurd h9 (by decide)) (fun _ => ?_)
  refine lv_iconst (v := 2) hx hb dX19_fails_13 (by decide) ?_
  refine lv_goto (tgt := 18) hx hb dX19_fails_14 (by decide) ?_
  refine va_put (D := (dC, dI)) (ci := 20) (v := .int 2) (ty := .int) (C := RX19) (T := TX19) (N := 36) hx hb hts hi_k_X19_fails_v2_X19 tyX19 tyX19_ok nmX19 hown hK hP hD hS 0 rfl rfl 0 (by decide) (hts (.fieldLink RX19 113 "TimeMachineModel" "code" "I") (List.mem_of_getElem? (i := 1) rfl)) (fun _ h9 => h9) rfl (by decide +kernel) rfl rfl (Nat.le_of_ble_eq_true rfl) dX19_fails_18 (fun H locs hP hD hS => ?_)
  have hP : va_P (dC, dI) vwCl [(c0, .inr (20, [.int 2, .ref c1, .int 0, .int 0, .ref c2, .ref c3, .ref c4, .ref c5, .ref c6, .ref c7, .ref c8, .ref c9, .ref c10, .ref c11, .ref c12, .ref c13, .ref c14, .int 0, .int 0, .int 0, .int 0, .int 0, .int 0, .int 0, .int 0, .int 0, .ref c15, .ref c16, .ref c17, .ref c18, .ref c19, .ref c20, .ref c21, .ref c22, .ref c23, .int 0]))] H := hP
  have hD : va_D A [(c0, .inr (20, [.int 2, .ref c1, .int 0, .int 0, .ref c2, .ref c3, .ref c4, .ref c5, .ref c6, .ref c7, .ref c8, .ref c9, .ref c10, .ref c11, .ref c12, .ref c13, .ref c14, .int 0, .int 0, .int 0, .int 0, .int 0, .int 0, .int 0, .int 0, .int 0, .ref c15, .ref c16, .ref c17, .ref c18, .ref c19, .ref c20, .ref c21, .ref c22, .ref c23, .int 0]))] := hD
  refine lv_aload_n hx hb dX19_fails_21 rfl (lv_at hl 0 rfl) ?_
  refine va_get (D := (dC, dI)) (ci := 20) (v := .int 2) (C := RX19) (T := TX19) (N := 36) hx hb hts hi_k_X19_fails_v2_X19 hown hK hP 0 rfl rfl 0 (by decide) (hts (.fieldLink RX19 113 "TimeMachineModel" "code" "I") (List.mem_of_getElem? (i := 1) rfl)) (fun _ h9 => h9) rfl dX19_fails_22 ?_
  refine lv_if_le (tgt := 32) hx hb dX19_fails_25 (by decide) (fun h9 => absurd h9 (by decide)) (fun _ => ?_)
  refine lv_iconst (v := 1) hx hb dX19_fails_28 (by decide) ?_
  refine lv_goto (tgt := 33) hx hb dX19_fails_29 (by decide) ?_
  have hP9 := hP.sub (ws' := [(c0, .inr (20, [.int 2, .ref c1, .int 0, .int 0, .ref c2, .ref c3, .ref c4, .ref c5, .ref c6, .ref c7, .ref c8, .ref c9, .ref c10, .ref c11, .ref c12, .ref c13, .ref c14, .int 0, .int 0, .int 0, .int 0, .int 0, .int 0, .int 0, .int 0, .int 0, .ref c15, .ref c16, .ref c17, .ref c18, .ref c19, .ref c20, .ref c21, .ref c22, .ref c23, .int 0]))]) [0] rfl
  have hD9 := hD.sub (ws' := [(c0, .inr (20, [.int 2, .ref c1, .int 0, .int 0, .ref c2, .ref c3, .ref c4, .ref c5, .ref c6, .ref c7, .ref c8, .ref c9, .ref c10, .ref c11, .ref c12, .ref c13, .ref c14, .int 0, .int 0, .int 0, .int 0, .int 0, .int 0, .int 0, .int 0, .int 0, .ref c15, .ref c16, .ref c17, .ref c18, .ref c19, .ref c20, .ref c21, .ref c22, .ref c23, .int 0]))]) [0] (by decide) rfl
  have hK9 := hK.sub (tys' := []) [] rfl
  refine W.widen (k := 0) (n := 0) (by decide +kernel) (by decide +kernel) ?_
  exact W.zret (v := 1) hx hb hr (by decide) (fun t ht hW => ⟨⟨1, (), rfl, rfl, by rw [ht]; exact hP9, va_K.moved hW.alike hK9, hD9⟩, hS.F ht⟩) hS.2.2 dX19_fails_33
def ow_k_X19_boot : List Cond := .code yX19_boot cX19_boot 2 none :: ([.constantLong RX19 134 (3), .methodLink RX19 126 yX19_in, .static yX19_in, .initialized RX19, .methodLink RX19 136 yX19_fails, .instanceMethod yX19_fails, .selects RX19 yX19_fails yX19_fails, .fieldLink RX19 14 "TimeMachineModel" "isProgram" "[Z"] ++ (u_ws RX19 TX19 36 ++ (ow_k_X19_in ++ (ow_k_X19_fails ++ (ow_k_X19_fails_v2 ++ [])))))
theorem gd_k_X19_boot : ∀ w ∈ ow_k_X19_boot, (w.onTables && w.keeps) = true ∨ ∃ ty, w = Cond.arrayClass ty := List.forall_mem_cons.mpr ⟨good_of_word rfl, List.forall_mem_append.mpr ⟨fun w h => good_of_word (List.all_eq_true.mp (by decide +kernel) w h), List.forall_mem_append.mpr ⟨gu_X19, List.forall_mem_append.mpr ⟨gd_k_X19_in, List.forall_mem_append.mpr ⟨gd_k_X19_fails, List.forall_mem_append.mpr ⟨gd_k_X19_fails_v2, fun _ h => nomatch h⟩⟩⟩⟩⟩⟩
theorem hi_k_X19_boot_X19 : ∀ w ∈ u_ws RX19 TX19 36, w ∈ ow_k_X19_boot := fun w h => List.mem_cons_of_mem _ (List.mem_append_right _ (List.mem_append_left _ h))
theorem gi_k_X19_boot_0 : GoodIn ow_k_X19_boot (wsS RX19 126 yX19_in ow_k_X19_in) := goodIn_app (goodIn_of _ (by decide +kernel)) (fun w h => ⟨List.mem_cons_of_mem _ (List.mem_append_right _ (List.mem_append_right _ (List.mem_append_left _ h))), gd_k_X19_in w h⟩)
theorem gi_k_X19_boot_1 : GoodIn ow_k_X19_boot (wsV RX19 136 RX19 yX19_fails ow_k_X19_fails) := goodIn_app (goodIn_of _ (by decide +kernel)) (fun w h => ⟨List.mem_cons_of_mem _ (List.mem_append_right _ (List.mem_append_right _ (List.mem_append_right _ (List.mem_append_left _ h)))), gd_k_X19_fails w h⟩)
theorem gi_k_X19_boot_2 : GoodIn ow_k_X19_boot (wsV RX19 136 RX19 yX19_fails ow_k_X19_fails_v2) := goodIn_app (goodIn_of _ (by decide +kernel)) (fun w h => ⟨List.mem_cons_of_mem _ (List.mem_append_right _ (List.mem_append_right _ (List.mem_append_right _ (List.mem_append_right _ (List.mem_append_left _ h))))), gd_k_X19_fails_v2 w h⟩)
set_option maxHeartbeats 40000000 in
set_option maxRecDepth 100000 in
theorem k_X19_boot (l : Launch) (hlt : l.stackTraces = false) (dC : Nat → ClassId) (dI : Nat → Nat → Nat) (c0 : Nat) (c1 : Nat) (c2 : ClassId) (c3 : Int32) (c4 : Nat) (c5 : Nat) (c6 : Nat) (c7 : Nat) (c8 : Nat) (c9 : Nat) (c10 : Nat) (c11 : Nat) (c12 : Nat) (c13 : Nat) (c14 : Nat) (c15 : Nat) (c16 : Nat) (c17 : Nat) (c18 : Nat) (c19 : Nat) (c20 : Nat) (c21 : Nat) (c22 : Nat) (c23 : Nat) (c24 : Nat) (c25 : Nat) (sz : Nat) : Met l yX19_boot ow_k_X19_boot ({ frames := 1, cells := 0, slots := 0, locals := 25 }) (va_Pc [.ref c0, .int c3] (fun U => U.heap.size = sz ∧ va_P (dC, dI) vwCl [(c0, .inr (20, [.int 0, .ref c4, .int 0, .int 0, .ref c1, .ref c5, .ref c6, .ref c7, .ref c8, .ref c9, .ref c10, .ref c11, .ref c12, .ref c13, .ref c14, .ref c15, .ref c16, .int 0, .int 0, .int 0, .int 0, .int 0, .int 0, .int 0, .int 0, .int 0, .ref c17, .ref c18, .ref c19, .ref c20, .ref c21, .ref c22, .ref c23, .ref c24, .ref c25, .int 0])), (c1, .inl (c2, 4, .inl (fun _ => 0)))] U.heap ∧ va_K (dC, dI) vwCl [(c2, .boolean)] U ∧ va_D (fun _ => True) [(c0, .inr (20, [.int 0, .ref c4, .int 0, .int 0, .ref c1, .ref c5, .ref c6, .ref c7, .ref c8, .ref c9, .ref c10, .ref c11, .ref c12, .ref c13, .ref c14, .ref c15, .ref c16, .int 0, .int 0, .int 0, .int 0, .int 0, .int 0, .int 0, .int 0, .int 0, .ref c17, .ref c18, .ref c19, .ref c20, .ref c21, .ref c22, .ref c23, .ref c24, .ref c25, .int 0])), (c1, .inl (c2, 4, .inl (fun _ => 0)))] ∧ nv_E (va_A [(c0, .inr (20, [.int 0, .ref c4, .int 0, .int 0, .ref c1, .ref c5, .ref c6, .ref c7, .ref c8, .ref c9, .ref c10, .ref c11, .ref c12, .ref c13, .ref c14, .ref c15, .ref c16, .int 0, .int 0, .int 0, .int 0, .int 0, .int 0, .int 0, .int 0, .int 0, .ref c17, .ref c18, .ref c19, .ref c20, .ref c21, .ref c22, .ref c23, .ref c24, .ref c25, .int 0])), (c1, .inl (c2, 4, .inl (fun _ => 0)))] sz) U)) (va_Qv (fun u => ((c3 < 0) ∧ (c3 < 0) ∧ True ∧ u = [(c0, .inr (20, [.int 1, .ref c4, .int 0, .int 0, .ref c1, .ref c5, .ref c6, .ref c7, .ref c8, .ref c9, .ref c10, .ref c11, .ref c12, .ref c13, .ref c14, .ref c15, .ref c16, .int 0, .int 0, .int 0, .int 0, .int 0, .int 0, .int 0, .int 0, .int 0, .ref c17, .ref c18, .ref c19, .ref c20, .ref c21, .ref c22, .ref c23, .ref c24, .ref c25, .int 0]))]) ∨ ((¬ c3 < 0) ∧ (3 < c3) ∧ (¬ c3 < 0) ∧ (3 < c3) ∧ True ∧ u = [(c0, .inr (20, [.int 1, .ref c4, .int 0, .int 0, .ref c1, .ref c5, .ref c6, .ref c7, .ref c8, .ref c9, .ref c10, .ref c11, .ref c12, .ref c13, .ref c14, .ref c15, .ref c16, .int 0, .int 0, .int 0, .int 0, .int 0, .int 0, .int 0, .int 0, .int 0, .ref c17, .ref c18, .ref c19, .ref c20, .ref c21, .ref c22, .ref c23, .ref c24, .ref c25, .int 0]))]) ∨ ((¬ c3 < 0) ∧ (¬ 3 < c3) ∧ (¬ c3 < 0) ∧ (¬ 3 < c3) ∧ True ∧ u = [(c0, .inr (20, [.int 2, .ref c4, .int 0, .int 0, .ref c1, .ref c5, .ref c6, .ref c7, .ref c8, .ref c9, .ref c10, .ref c11, .ref c12, .ref c13, .ref c14, .ref c15, .ref c16, .int 0, .int 0, .int 0, .int 0, .int 0, .int 0, .int 0, .int 0, .int 0, .ref c17, .ref c18, .ref c19, .ref c20, .ref c21, .ref c22, .ref c23, .ref c24, .ref c25, .int 0]))]) ∨ False) (fun (u : va_W) t => va_P (dC, dI) vwCl u t.heap ∧ va_K (dC, dI) vwCl [] t ∧ va_D (va_A [(c0, .inr (20, [.int 0, .ref c4, .int 0, .int 0, .ref c1, .ref c5, .ref c6, .ref c7, .ref c8, .ref c9, .ref c10, .ref c11, .ref c12, .ref c13, .ref c14, .ref c15, .ref c16, .int 0, .int 0, .int 0, .int 0, .int 0, .int 0, .int 0, .int 0, .int 0, .ref c17, .ref c18, .ref c19, .ref c20, .ref c21, .ref c22, .ref c23, .ref c24, .ref c25, .int 0])), (c1, .inl (c2, 4, .inl (fun _ => 0)))] sz) u) (va_A [(c0, .inr (20, [.int 0, .ref c4, .int 0, .int 0, .ref c1, .ref c5, .ref c6, .ref c7, .ref c8, .ref c9, .ref c10, .ref c11, .ref c12, .ref c13, .ref c14, .ref c15, .ref c16, .int 0, .int 0, .int 0, .int 0, .int 0, .int 0, .int 0, .int 0, .int 0, .ref c17, .ref c18, .ref c19, .ref c20, .ref c21, .ref c22, .ref c23, .ref c24, .ref c25, .int 0])), (c1, .inl (c2, 4, .inl (fun _ => 0)))] sz)) 0 0 (va_A [(c0, .inr (20, [.int 0, .ref c4, .int 0, .int 0, .ref c1, .ref c5, .ref c6, .ref c7, .ref c8, .ref c9, .ref c10, .ref c11, .ref c12, .ref c13, .ref c14, .ref c15, .ref c16, .int 0, .int 0, .int 0, .int 0, .int 0, .int 0, .int 0, .int 0, .int 0, .ref c17, .ref c18, .ref c19, .ref c20, .ref c21, .ref c22, .ref c23, .ref c24, .ref c25, .int 0])), (c1, .inl (c2, 4, .inl (fun _ => 0)))] sz) := by
  refine Met.ofW (cc := cX19_boot) (maxL := 2) (ret := none) (by decide) rfl ?_
  intro p e s m args below meth c s₁ B hml hv
  obtain ⟨rfl, hsz, hP, hK, hD0, hN⟩ := hv
  have hx := B.exec
  have hb := B.bytes
  have hr := B.returns
  have hts := atoms_spec (ws := ow_k_X19_boot) B.pre
  have hown : s.vm.findClass RX19 = some m.cls := findClass_of_methodNamed B.named
  have hlocks := B.notSynchronized
  subst hsz
  have hD := hD0.self (sz := s.heap.size)
  generalize hAe : va_A [(c0, .inr (20, [.int 0, .ref c4, .int 0, .int 0, .ref c1, .ref c5, .ref c6, .ref c7, .ref c8, .ref c9, .ref c10, .ref c11, .ref c12, .ref c13, .ref c14, .ref c15, .ref c16, .int 0, .int 0, .int 0, .int 0, .int 0, .int 0, .int 0, .int 0, .int 0, .ref c17, .ref c18, .ref c19, .ref c20, .ref c21, .ref c22, .ref c23, .ref c24, .ref c25, .int 0])), (c1, .inl (c2, 4, .inl (fun _ => 0)))] s.heap.size = A at hD hN ⊢
  have hA : ∀ q : Nat, s.heap.size ≤ q → A q := fun q h => by rw [← hAe]; exact Or.inr h
  have hS : va_S A s.heap s.heap [] := va_S.rf
  have hl := lv_entry ([.ref c0, .int c3]) (n := 2) (Nat.le_of_ble_eq_true rfl)
  rw [lg_entry_eq]
  generalize (lg_sl ([.ref c0, .int c3]) ++ List.replicate (2 - (lg_sl ([.ref c0, .int c3])).length) Slot.unset).toArray = ls at hl ⊢
  have hl : lv_has ls 2 [(0, .ref c0), (1, .int c3)] := hl
  refine lv_aload_n hx hb dX19_boot_0 rfl (lv_at hl 0 rfl) ?_
  refine lv_iload_n hx hb dX19_boot_1 rfl (lv_at hl 1 rfl) ?_
  refine lv_i2l hx hb dX19_boot_2 rfl ?_
  refine lv_lconst (v := 0) hx hb dX19_boot_3 (by decide) ?_
  refine lv_ldc2 hx hb hown (hts (.constantLong RX19 134 (3)) (List.mem_of_getElem? (i := 1) rfl)) dX19_boot_4 ?_
  have hPc := hP.sub (ws' := []) [] rfl
  have hDc := hD.sub (ws' := []) [] (by decide) rfl
  have hKc := hK.sub (tys' := []) [] rfl
  have hFc := va_free (wc := []) hD hS hA [] rfl
  refine va_calli (va_runS (As := [.long (c3.toInt64), .long 0, .long 3]) (rest := [.ref c0]) ⟨hx, hb, hml, hown, hts⟩ (k_X19_in l hlt dC dI c3  s.heap.size) (cwS 3 hts gi_k_X19_boot_0 rfl rfl rfl (by decide +kernel) ⟨Nat.le_of_ble_eq_true rfl, Nat.le_of_ble_eq_true rfl⟩) ⟨fun a U g mk q => by obtain ⟨q0, q1, qP, qK, qD, qN⟩ := q; exact ⟨q0, q1, qP, va_K.moved (u := U) (U := U.calling g mk a) (Vm.Alike.refl U.vm) qK, qD, nv_same rfl rfl qN⟩, fun U hU hW => ⟨rfl, by rw [hU], by rw [hU]; exact hPc, va_K.moved hW.alike hKc, hDc.weaken (fun _ _ _ _ => trivial), nv_call hS hFc hU hW hN⟩⟩ rfl rfl hl.1 rfl (lv_room (Nat.le_of_ble_eq_true rfl)) dX19_boot_7 ⟨by decide +kernel, by decide +kernel⟩) hS (fun q _ h => hFc q h) hFc (fun r1 u t H1 locs ht hvm hw hB hz1 hk1 hS => ?_)
  obtain ⟨hP1, hK1, hD1⟩ := hB
  rw [ht] at hP1
  have hK1 := va_K.moved hvm.symm hK1
  obtain ⟨hP, hD⟩ := va_join (wr := [(c0, .inr (20, [.int 0, .ref c4, .int 0, .int 0, .ref c1, .ref c5, .ref c6, .ref c7, .ref c8, .ref c9, .ref c10, .ref c11, .ref c12, .ref c13, .ref c14, .ref c15, .ref c16, .int 0, .int 0, .int 0, .int 0, .int 0, .int 0, .int 0, .int 0, .int 0, .ref c17, .ref c18, .ref c19, .ref c20, .ref c21, .ref c22, .ref c23, .ref c24, .ref c25, .int 0])), (c1, .inl (c2, 4, .inl (fun _ => 0)))]) (w1 := []) hP hD [] [0, 1] rfl rfl (by decide) (by decide) hk1 hFc hP1 hD1
  have hK := (hK.sub (tys' := [(c2, .boolean)]) [0] rfl).app hK1
  generalize H1 = H at hP hS ⊢
  have hP : va_P (dC, dI) vwCl [(c0, .inr (20, [.int 0, .ref c4, .int 0, .int 0, .ref c1, .ref c5, .ref c6, .ref c7, .ref c8, .ref c9, .ref c10, .ref c11, .ref c12, .ref c13, .ref c14, .ref c15, .ref c16, .int 0, .int 0, .int 0, .int 0, .int 0, .int 0, .int 0, .int 0, .int 0, .ref c17, .ref c18, .ref c19, .ref c20, .ref c21, .ref c22, .ref c23, .ref c24, .ref c25, .int 0])), (c1, .inl (c2, 4, .inl (fun _ => 0)))] H := hP
  have hD : va_D A [(c0, .inr (20, [.int 0, .ref c4, .int 0, .int 0, .ref c1, .ref c5, .ref c6, .ref c7, .ref c8, .ref c9, .ref c10, .ref c11, .ref c12, .ref c13, .ref c14, .ref c15, .ref c16, .int 0, .int 0, .int 0, .int 0, .int 0, .int 0, .int 0, .int 0, .int 0, .ref c17, .ref c18, .ref c19, .ref c20, .ref c21, .ref c22, .ref c23, .ref c24, .ref c25, .int 0])), (c1, .inl (c2, 4, .inl (fun _ => 0)))] := hD
  have hK : va_K (dC, dI) vwCl [(c2, .boolean)] s := hK
  refine W.widen (k := 0) (n := 0) (by decide +kernel) (by decide +kernel) ?_
  rcases hw with ⟨c_1_0, h9⟩ | ⟨c_1_0, c_1_1, h9⟩ | ⟨c_1_0, c_1_1, h9⟩ | h9
  · subst h9
    refine lv_if_ne (tgt := 17) hx hb dX19_boot_10 (by decide) (fun h9 => absurd h9 (by decide)) (fun _ => ?_)
    refine lv_iconst (v := 1) hx hb dX19_boot_13 (by decide) ?_
    refine lv_goto (tgt := 18) hx hb dX19_boot_14 (by decide) ?_
    refine lv_iload_n hx hb dX19_boot_18 rfl (lv_at hl 1 rfl) ?_
    refine lv_i2l hx hb dX19_boot_19 rfl ?_
    refine lv_lconst (v := 0) hx hb dX19_boot_20 (by decide) ?_
    refine lv_ldc2 hx hb hown (hts (.constantLong RX19 134 (3)) (List.mem_of_getElem? (i := 1) rfl)) dX19_boot_21 ?_
    have hPc := hP.sub (ws' := []) [] rfl
    have hDc := hD.sub (ws' := []) [] (by decide) rfl
    have hKc := hK.sub (tys' := []) [] rfl
    have hFc := va_free (wc := []) hD hS hA [] rfl
    refine va_calli (va_runS (As := [.long (c3.toInt64), .long 0, .long 3]) (rest := [.int 1, .ref c0]) ⟨hx, hb, hml, hown, hts⟩ (k_X19_in l hlt dC dI c3  H.size) (cwS 3 hts gi_k_X19_boot_0 rfl rfl rfl (by decide +kernel) ⟨Nat.le_of_ble_eq_true rfl, Nat.le_of_ble_eq_true rfl⟩) ⟨fun a U g mk q => by obtain ⟨q0, q1, qP, qK, qD, qN⟩ := q; exact ⟨q0, q1, qP, va_K.moved (u := U) (U := U.calling g mk a) (Vm.Alike.refl U.vm) qK, qD, nv_same rfl rfl qN⟩, fun U hU hW => ⟨rfl, by rw [hU], by rw [hU]; exact hPc, va_K.moved hW.alike hKc, hDc.weaken (fun _ _ _ _ => trivial), nv_call hS hFc hU hW hN⟩⟩ rfl rfl hl.1 rfl (lv_room (Nat.le_of_ble_eq_true rfl)) dX19_boot_24 ⟨by decide +kernel, by decide +kernel⟩) hS (fun q _ h => hFc q h) hFc (fun r2 u t H1 locs ht hvm hw hB hz1 hk1 hS => ?_)
    obtain ⟨hP1, hK1, hD1⟩ := hB
    rw [ht] at hP1
    have hK1 := va_K.moved hvm.symm hK1
    obtain ⟨hP, hD⟩ := va_join (wr := [(c0, .inr (20, [.int 0, .ref c4, .int 0, .int 0, .ref c1, .ref c5, .ref c6, .ref c7, .ref c8, .ref c9, .ref c10, .ref c11, .ref c12, .ref c13, .ref c14, .ref c15, .ref c16, .int 0, .int 0, .int 0, .int 0, .int 0, .int 0, .int 0, .int 0, .int 0, .ref c17, .ref c18, .ref c19, .ref c20, .ref c21, .ref c22, .ref c23, .ref c24, .ref c25, .int 0])), (c1, .inl (c2, 4, .inl (fun _ => 0)))]) (w1 := []) hP hD [] [0, 1] rfl rfl (by decide) (by decide) hk1 hFc hP1 hD1
    have hK := (hK.sub (tys' := [(c2, .boolean)]) [0] rfl).app hK1
    generalize H1 = H at hP hS ⊢
    have hP : va_P (dC, dI) vwCl [(c0, .inr (20, [.int 0, .ref c4, .int 0, .int 0, .ref c1, .ref c5, .ref c6, .ref c7, .ref c8, .ref c9, .ref c10, .ref c11, .ref c12, .ref c13, .ref c14, .ref c15, .ref c16, .int 0, .int 0, .int 0, .int 0, .int 0, .int 0, .int 0, .int 0, .int 0, .ref c17, .ref c18, .ref c19, .ref c20, .ref c21, .ref c22, .ref c23, .ref c24, .ref c25, .int 0])), (c1, .inl (c2, 4, .inl (fun _ => 0)))] H := hP
    have hD : va_D A [(c0, .inr (20, [.int 0, .ref c4, .int 0, .int 0, .ref c1, .ref c5, .ref c6, .ref c7, .ref c8, .ref c9, .ref c10, .ref c11, .ref c12, .ref c13, .ref c14, .ref c15, .ref c16, .int 0, .int 0, .int 0, .int 0, .int 0, .int 0, .int 0, .int 0, .int 0, .ref c17, .ref c18, .ref c19, .ref c20, .ref c21, .ref c22, .ref c23, .ref c24, .ref c25, .int 0])), (c1, .inl (c2, 4, .inl (fun _ => 0)))] := hD
    have hK : va_K (dC, dI) vwCl [(c2, .boolean)] s := hK
    refine W.widen (k := 0) (n := 0) (by decide +kernel) (by decide +kernel) ?_
    rcases hw with ⟨c_2_0, h9⟩ | ⟨c_2_0, c_2_1, h9⟩ | ⟨c_2_0, c_2_1, h9⟩ | h9
    · subst h9
      refine lv_if_eq (tgt := 45) hx hb dX19_boot_27 (by decide) (fun _ => ?_) (fun h9 => absurd (by decide) h9)
      refine lv_iconst (v := 0) hx hb dX19_boot_45 (by decide) ?_
      have hPc := hP.sub (ws' := [(c0, .inr (20, [.int 0, .ref c4, .int 0, .int 0, .ref c1, .ref c5, .ref c6, .ref c7, .ref c8, .ref c9, .ref c10, .ref c11, .ref c12, .ref c13, .ref c14, .ref c15, .ref c16, .int 0, .int 0, .int 0, .int 0, .int 0, .int 0, .int 0, .int 0, .int 0, .ref c17, .ref c18, .ref c19, .ref c20, .ref c21, .ref c22, .ref c23, .ref c24, .ref c25, .int 0]))]) [0] rfl
      have hDc := hD.sub (ws' := [(c0, .inr (20, [.int 0, .ref c4, .int 0, .int 0, .ref c1, .ref c5, .ref c6, .ref c7, .ref c8, .ref c9, .ref c10, .ref c11, .ref c12, .ref c13, .ref c14, .ref c15, .ref c16, .int 0, .int 0, .int 0, .int 0, .int 0, .int 0, .int 0, .int 0, .int 0, .ref c17, .ref c18, .ref c19, .ref c20, .ref c21, .ref c22, .ref c23, .ref c24, .ref c25, .int 0]))]) [0] (by decide) rfl
      have hKc := hK.sub (tys' := []) [] rfl
      have hFc := va_free (wc := [(c0, .inr (20, [.int 0, .ref c4, .int 0, .int 0, .ref c1, .ref c5, .ref c6, .ref c7, .ref c8, .ref c9, .ref c10, .ref c11, .ref c12, .ref c13, .ref c14, .ref c15, .ref c16, .int 0, .int 0, .int 0, .int 0, .int 0, .int 0, .int 0, .int 0, .int 0, .ref c17, .ref c18, .ref c19, .ref c20, .ref c21, .ref c22, .ref c23, .ref c24, .ref c25, .int 0]))]) hD hS hA [0] rfl
      refine va_calli (va_runV (As := [.int 1, .int 0]) (rest := []) ⟨hx, hb, hml, hown, hts⟩ (k_X19_fails l hlt dC dI c0 c4 c1 c5 c6 c7 c8 c9 c10 c11 c12 c13 c14 c15 c16 c17 c18 c19 c20 c21 c22 c23 c24 c25  H.size) (cwV 2 hts gi_k_X19_boot_1 rfl rfl rfl (by decide +kernel) ⟨Nat.le_of_ble_eq_true rfl, Nat.le_of_ble_eq_true rfl⟩) ⟨fun a U g mk q => by obtain ⟨q0, q1, qP, qK, qD, qN⟩ := q; exact ⟨q0, q1, qP, va_K.moved (u := U) (U := U.calling g mk a) (Vm.Alike.refl U.vm) qK, qD, nv_same rfl rfl qN⟩, va_recv hKc hPc (ci := 20) (q0 := 0) rfl rfl, fun U hU hW => ⟨rfl, by rw [hU], by rw [hU]; exact hPc, va_K.moved hW.alike hKc, hDc.weaken (fun _ _ _ _ => trivial), nv_call hS hFc hU hW hN⟩⟩ rfl rfl hl.1 rfl (lv_room (Nat.le_of_ble_eq_true rfl)) dX19_boot_46 ⟨by decide +kernel, by decide +kernel⟩) hS (fun q _ h => hFc q h) hFc (fun r3 u t H1 locs ht hvm hw hB hz1 hk1 hS => ?_)
      obtain ⟨hP1, hK1, hD1⟩ := hB
      rw [ht] at hP1
      have hK1 := va_K.moved hvm.symm hK1
      obtain rfl : r3 = 1 := hw
      obtain ⟨hP, hD⟩ := va_join (wr := [(c1, .inl (c2, 4, .inl (fun _ => 0)))]) (w1 := [(c0, .inr (20, [.int 1, .ref c4, .int 0, .int 0, .ref c1, .ref c5, .ref c6, .ref c7, .ref c8, .ref c9, .ref c10, .ref c11, .ref c12, .ref c13, .ref c14, .ref c15, .ref c16, .int 0, .int 0, .int 0, .int 0, .int 0, .int 0, .int 0, .int 0, .int 0, .ref c17, .ref c18, .ref c19, .ref c20, .ref c21, .ref c22, .ref c23, .ref c24, .ref c25, .int 0]))]) hP hD [0] [1] rfl rfl (by decide) (by decide) hk1 hFc hP1 hD1
      have hK := (hK.sub (tys' := [(c2, .boolean)]) [0] rfl).app hK1
      generalize H1 = H at hP hS ⊢
      have hP : va_P (dC, dI) vwCl [(c1, .inl (c2, 4, .inl (fun _ => 0))), (c0, .inr (20, [.int 1, .ref c4, .int 0, .int 0, .ref c1, .ref c5, .ref c6, .ref c7, .ref c8, .ref c9, .ref c10, .ref c11, .ref c12, .ref c13, .ref c14, .ref c15, .ref c16, .int 0, .int 0, .int 0, .int 0, .int 0, .int 0, .int 0, .int 0, .int 0, .ref c17, .ref c18, .ref c19, .ref c20, .ref c21, .ref c22, .ref c23, .ref c24, .ref c25, .int 0]))] H := hP
      have hD : va_D A [(c1, .inl (c2, 4, .inl (fun _ => 0))), (c0, .inr (20, [.int 1, .ref c4, .int 0, .int 0, .ref c1, .ref c5, .ref c6, .ref c7, .ref c8, .ref c9, .ref c10, .ref c11, .ref c12, .ref c13, .ref c14, .ref c15, .ref c16, .int 0, .int 0, .int 0, .int 0, .int 0, .int 0, .int 0, .int 0, .int 0, .ref c17, .ref c18, .ref c19, .ref c20, .ref c21, .ref c22, .ref c23, .ref c24, .ref c25, .int 0]))] := hD
      have hK : va_K (dC, dI) vwCl [(c2, .boolean)] s := hK
      refine W.widen (k := 0) (n := 0) (by decide +kernel) (by decide +kernel) ?_
      refine lv_if_ne (tgt := 57) hx hb dX19_boot_49 (by decide) (fun _ => ?_) (fun h9 => absurd h9 (by decide))
      refine W.widen (k := 0) (n := 0) (by decide +kernel) (by decide +kernel) ?_
      exact W.vret hx hb hr (fun t ht hW => ⟨⟨[(c0, .inr (20, [.int 1, .ref c4, .int 0, .int 0, .ref c1, .ref c5, .ref c6, .ref c7, .ref c8, .ref c9, .ref c10, .ref c11, .ref c12, .ref c13, .ref c14, .ref c15, .ref c16, .int 0, .int 0, .int 0, .int 0, .int 0, .int 0, .int 0, .int 0, .int 0, .ref c17, .ref c18, .ref c19, .ref c20, .ref c21, .ref c22, .ref c23, .ref c24, .ref c25, .int 0]))], rfl, Or.inl ⟨c_1_0, c_2_0, trivial, rfl⟩, by rw [ht]; exact hP.sub (ws' := [(c0, .inr (20, [.int 1, .ref c4, .int 0, .int 0, .ref c1, .ref c5, .ref c6, .ref c7, .ref c8, .ref c9, .ref c10, .ref c11, .ref c12, .ref c13, .ref c14, .ref c15, .ref c16, .int 0, .int 0, .int 0, .int 0, .int 0, .int 0, .int 0, .int 0, .int 0, .ref c17, .ref c18, .ref c19, .ref c20, .ref c21, .ref c22, .ref c23, .ref c24, .ref c25, .int 0]))]) [1] rfl, va_K.moved hW.alike (hK.sub (tys' := []) [] rfl), hD.sub (ws' := [(c0, .inr (20, [.int 1, .ref c4, .int 0, .int 0, .ref c1, .ref c5, .ref c6, .ref c7, .ref c8, .ref c9, .ref c10, .ref c11, .ref c12, .ref c13, .ref c14, .ref c15, .ref c16, .int 0, .int 0, .int 0, .int 0, .int 0, .int 0, .int 0, .int 0, .int 0, .ref c17, .ref c18, .ref c19, .ref c20, .ref c21, .ref c22, .ref c23, .ref c24, .ref c25, .int 0]))]) [1] (by decide) rfl⟩, hS.F ht⟩) hS.2.2 dX19_boot_57
    · exact absurd c_1_0 c_2_0
    · exact absurd c_1_0 c_2_0
    · exact h9.elim
  · subst h9
    refine lv_if_ne (tgt := 17) hx hb dX19_boot_10 (by decide) (fun h9 => absurd h9 (by decide)) (fun _ => ?_)
    refine lv_iconst (v := 1) hx hb dX19_boot_13 (by decide) ?_
    refine lv_goto (tgt := 18) hx hb dX19_boot_14 (by decide) ?_
    refine lv_iload_n hx hb dX19_boot_18 rfl (lv_at hl 1 rfl) ?_
    refine lv_i2l hx hb dX19_boot_19 rfl ?_
    refine lv_lconst (v := 0) hx hb dX19_boot_20 (by decide) ?_
    refine lv_ldc2 hx hb hown (hts (.constantLong RX19 134 (3)) (List.mem_of_getElem? (i := 1) rfl)) dX19_boot_21 ?_
    have hPc := hP.sub (ws' := []) [] rfl
    have hDc := hD.sub (ws' := []) [] (by decide) rfl
    have hKc := hK.sub (tys' := []) [] rfl
    have hFc := va_free (wc := []) hD hS hA [] rfl
    refine va_calli (va_runS (As := [.long (c3.toInt64), .long 0, .long 3]) (rest := [.int 1, .ref c0]) ⟨hx, hb, hml, hown, hts⟩ (k_X19_in l hlt dC dI c3  H.size) (cwS 3 hts gi_k_X19_boot_0 rfl rfl rfl (by decide +kernel) ⟨Nat.le_of_ble_eq_true rfl, Nat.le_of_ble_eq_true rfl⟩) ⟨fun a U g mk q => by obtain ⟨q0, q1, qP, qK, qD, qN⟩ := q; exact ⟨q0, q1, qP, va_K.moved (u := U) (U := U.calling g mk a) (Vm.Alike.refl U.vm) qK, qD, nv_same rfl rfl qN⟩, fun U hU hW => ⟨rfl, by rw [hU], by rw [hU]; exact hPc, va_K.moved hW.alike hKc, hDc.weaken (fun _ _ _ _ => trivial), nv_call hS hFc hU hW hN⟩⟩ rfl rfl hl.1 rfl (lv_room (Nat.le_of_ble_eq_true rfl)) dX19_boot_24 ⟨by decide +kernel, by decide +kernel⟩) hS (fun q _ h => hFc q h) hFc (fun r4 u t H1 locs ht hvm hw hB hz1 hk1 hS => ?_)
    obtain ⟨hP1, hK1, hD1⟩ := hB
    rw [ht] at hP1
    have hK1 := va_K.moved hvm.symm hK1
    obtain ⟨hP, hD⟩ := va_join (wr := [(c0, .inr (20, [.int 0, .ref c4, .int 0, .int 0, .ref c1, .ref c5, .ref c6, .ref c7, .ref c8, .ref c9, .ref c10, .ref c11, .ref c12, .ref c13, .ref c14, .ref c15, .ref c16, .int 0, .int 0, .int 0, .int 0, .int 0, .int 0, .int 0, .int 0, .int 0, .ref c17, .ref c18, .ref c19, .ref c20, .ref c21, .ref c22, .ref c23, .ref c24, .ref c25, .int 0])), (c1, .inl (c2, 4, .inl (fun _ => 0)))]) (w1 := []) hP hD [] [0, 1] rfl rfl (by decide) (by decide) hk1 hFc hP1 hD1
    have hK := (hK.sub (tys' := [(c2, .boolean)]) [0] rfl).app hK1
    generalize H1 = H at hP hS ⊢
    have hP : va_P (dC, dI) vwCl [(c0, .inr (20, [.int 0, .ref c4, .int 0, .int 0, .ref c1, .ref c5, .ref c6, .ref c7, .ref c8, .ref c9, .ref c10, .ref c11, .ref c12, .ref c13, .ref c14, .ref c15, .ref c16, .int 0, .int 0, .int 0, .int 0, .int 0, .int 0, .int 0, .int 0, .int 0, .ref c17, .ref c18, .ref c19, .ref c20, .ref c21, .ref c22, .ref c23, .ref c24, .ref c25, .int 0])), (c1, .inl (c2, 4, .inl (fun _ => 0)))] H := hP
    have hD : va_D A [(c0, .inr (20, [.int 0, .ref c4, .int 0, .int 0, .ref c1, .ref c5, .ref c6, .ref c7, .ref c8, .ref c9, .ref c10, .ref c11, .ref c12, .ref c13, .ref c14, .ref c15, .ref c16, .int 0, .int 0, .int 0, .int 0, .int 0, .int 0, .int 0, .int 0, .int 0, .ref c17, .ref c18, .ref c19, .ref c20, .ref c21, .ref c22, .ref c23, .ref c24, .ref c25, .int 0])), (c1, .inl (c2, 4, .inl (fun _ => 0)))] := hD
    have hK : va_K (dC, dI) vwCl [(c2, .boolean)] s := hK
    refine W.widen (k := 0) (n := 0) (by decide +kernel) (by decide +kernel) ?_
    rcases hw with ⟨c_3_0, h9⟩ | ⟨c_3_0, c_3_1, h9⟩ | ⟨c_3_0, c_3_1, h9⟩ | h9
    · exact absurd c_3_0 c_1_0
    · subst h9
      refine lv_if_eq (tgt := 45) hx hb dX19_boot_27 (by decide) (fun _ => ?_) (fun h9 => absurd (by decide) h9)
      refine lv_iconst (v := 0) hx hb dX19_boot_45 (by decide) ?_
      have hPc := hP.sub (ws' := [(c0, .inr (20, [.int 0, .ref c4, .int 0, .int 0, .ref c1, .ref c5, .ref c6, .ref c7, .ref c8, .ref c9, .ref c10, .ref c11, .ref c12, .ref c13, .ref c14, .ref c15, .ref c16, .int 0, .int 0, .int 0, .int 0, .int 0, .int 0, .int 0, .int 0, .int 0, .ref c17, .ref c18, .ref c19, .ref c20, .ref c21, .ref c22, .ref c23, .ref c24, .ref c25, .int 0]))]) [0] rfl
      have hDc := hD.sub (ws' := [(c0, .inr (20, [.int 0, .ref c4, .int 0, .int 0, .ref c1, .ref c5, .ref c6, .ref c7, .ref c8, .ref c9, .ref c10, .ref c11, .ref c12, .ref c13, .ref c14, .ref c15, .ref c16, .int 0, .int 0, .int 0, .int 0, .int 0, .int 0, .int 0, .int 0, .int 0, .ref c17, .ref c18, .ref c19, .ref c20, .ref c21, .ref c22, .ref c23, .ref c24, .ref c25, .int 0]))]) [0] (by decide) rfl
      have hKc := hK.sub (tys' := []) [] rfl
      have hFc := va_free (wc := [(c0, .inr (20, [.int 0, .ref c4, .int 0, .int 0, .ref c1, .ref c5, .ref c6, .ref c7, .ref c8, .ref c9, .ref c10, .ref c11, .ref c12, .ref c13, .ref c14, .ref c15, .ref c16, .int 0, .int 0, .int 0, .int 0, .int 0, .int 0, .int 0, .int 0, .int 0, .ref c17, .ref c18, .ref c19, .ref c20, .ref c21, .ref c22, .ref c23, .ref c24, .ref c25, .int 0]))]) hD hS hA [0] rfl
      refine va_calli (va_runV (As := [.int 1, .int 0]) (rest := []) ⟨hx, hb, hml, hown, hts⟩ (k_X19_fails l hlt dC dI c0 c4 c1 c5 c6 c7 c8 c9 c10 c11 c12 c13 c14 c15 c16 c17 c18 c19 c20 c21 c22 c23 c24 c25  H.size) (cwV 2 hts gi_k_X19_boot_1 rfl rfl rfl (by decide +kernel) ⟨Nat.le_of_ble_eq_true rfl, Nat.le_of_ble_eq_true rfl⟩) ⟨fun a U g mk q => by obtain ⟨q0, q1, qP, qK, qD, qN⟩ := q; exact ⟨q0, q1, qP, va_K.moved (u := U) (U := U.calling g mk a) (Vm.Alike.refl U.vm) qK, qD, nv_same rfl rfl qN⟩, va_recv hKc hPc (ci := 20) (q0 := 0) rfl rfl, fun U hU hW => ⟨rfl, by rw [hU], by rw [hU]; exact hPc, va_K.moved hW.alike hKc, hDc.weaken (fun _ _ _ _ => trivial), nv_call hS hFc hU hW hN⟩⟩ rfl rfl hl.1 rfl (lv_room (Nat.le_of_ble_eq_true rfl)) dX19_boot_46 ⟨by decide +kernel, by decide +kernel⟩) hS (fun q _ h => hFc q h) hFc (fun r5 u t H1 locs ht hvm hw hB hz1 hk1 hS => ?_)
      obtain ⟨hP1, hK1, hD1⟩ := hB
      rw [ht] at hP1
      have hK1 := va_K.moved hvm.symm hK1
      obtain rfl : r5 = 1 := hw
      obtain ⟨hP, hD⟩ := va_join (wr := [(c1, .inl (c2, 4, .inl (fun _ => 0)))]) (w1 := [(c0, .inr (20, [.int 1, .ref c4, .int 0, .int 0, .ref c1, .ref c5, .ref c6, .ref c7, .ref c8, .ref c9, .ref c10, .ref c11, .ref c12, .ref c13, .ref c14, .ref c15, .ref c16, .int 0, .int 0, .int 0, .int 0, .int 0, .int 0, .int 0, .int 0, .int 0, .ref c17, .ref c18, .ref c19, .ref c20, .ref c21, .ref c22, .ref c23, .ref c24, .ref c25, .int 0]))]) hP hD [0] [1] rfl rfl (by decide) (by decide) hk1 hFc hP1 hD1
      have hK := (hK.sub (tys' := [(c2, .boolean)]) [0] rfl).app hK1
      generalize H1 = H at hP hS ⊢
      have hP : va_P (dC, dI) vwCl [(c1, .inl (c2, 4, .inl (fun _ => 0))), (c0, .inr (20, [.int 1, .ref c4, .int 0, .int 0, .ref c1, .ref c5, .ref c6, .ref c7, .ref c8, .ref c9, .ref c10, .ref c11, .ref c12, .ref c13, .ref c14, .ref c15, .ref c16, .int 0, .int 0, .int 0, .int 0, .int 0, .int 0, .int 0, .int 0, .int 0, .ref c17, .ref c18, .ref c19, .ref c20, .ref c21, .ref c22, .ref c23, .ref c24, .ref c25, .int 0]))] H := hP
      have hD : va_D A [(c1, .inl (c2, 4, .inl (fun _ => 0))), (c0, .inr (20, [.int 1, .ref c4, .int 0, .int 0, .ref c1, .ref c5, .ref c6, .ref c7, .ref c8, .ref c9, .ref c10, .ref c11, .ref c12, .ref c13, .ref c14, .ref c15, .ref c16, .int 0, .int 0, .int 0, .int 0, .int 0, .int 0, .int 0, .int 0, .int 0, .ref c17, .ref c18, .ref c19, .ref c20, .ref c21, .ref c22, .ref c23, .ref c24, .ref c25, .int 0]))] := hD
      have hK : va_K (dC, dI) vwCl [(c2, .boolean)] s := hK
      refine W.widen (k := 0) (n := 0) (by decide +kernel) (by decide +kernel) ?_
      refine lv_if_ne (tgt := 57) hx hb dX19_boot_49 (by decide) (fun _ => ?_) (fun h9 => absurd h9 (by decide))
      refine W.widen (k := 0) (n := 0) (by decide +kernel) (by decide +kernel) ?_
      exact W.vret hx hb hr (fun t ht hW => ⟨⟨[(c0, .inr (20, [.int 1, .ref c4, .int 0, .int 0, .ref c1, .ref c5, .ref c6, .ref c7, .ref c8, .ref c9, .ref c10, .ref c11, .ref c12, .ref c13, .ref c14, .ref c15, .ref c16, .int 0, .int 0, .int 0, .int 0, .int 0, .int 0, .int 0, .int 0, .int 0, .ref c17, .ref c18, .ref c19, .ref c20, .ref c21, .ref c22, .ref c23, .ref c24, .ref c25, .int 0]))], rfl, Or.inr (Or.inl ⟨c_1_0, c_1_1, c_3_0, c_3_1, trivial, rfl⟩), by rw [ht]; exact hP.sub (ws' := [(c0, .inr (20, [.int 1, .ref c4, .int 0, .int 0, .ref c1, .ref c5, .ref c6, .ref c7, .ref c8, .ref c9, .ref c10, .ref c11, .ref c12, .ref c13, .ref c14, .ref c15, .ref c16, .int 0, .int 0, .int 0, .int 0, .int 0, .int 0, .int 0, .int 0, .int 0, .ref c17, .ref c18, .ref c19, .ref c20, .ref c21, .ref c22, .ref c23, .ref c24, .ref c25, .int 0]))]) [1] rfl, va_K.moved hW.alike (hK.sub (tys' := []) [] rfl), hD.sub (ws' := [(c0, .inr (20, [.int 1, .ref c4, .int 0, .int 0, .ref c1, .ref c5, .ref c6, .ref c7, .ref c8, .ref c9, .ref c10, .ref c11, .ref c12, .ref c13, .ref c14, .ref c15, .ref c16, .int 0, .int 0, .int 0, .int 0, .int 0, .int 0, .int 0, .int 0, .int 0, .ref c17, .ref c18, .ref c19, .ref c20, .ref c21, .ref c22, .ref c23, .ref c24, .ref c25, .int 0]))]) [1] (by decide) rfl⟩, hS.F ht⟩) hS.2.2 dX19_boot_57
    · exact absurd c_1_1 c_3_1
    · exact h9.elim
  · subst h9
    refine lv_if_ne (tgt := 17) hx hb dX19_boot_10 (by decide) (fun _ => ?_) (fun h9 => absurd h9 (by decide))
    refine lv_iconst (v := 0) hx hb dX19_boot_17 (by decide) ?_
    refine lv_iload_n hx hb dX19_boot_18 rfl (lv_at hl 1 rfl) ?_
    refine lv_i2l hx hb dX19_boot_19 rfl ?_
    refine lv_lconst (v := 0) hx hb dX19_boot_20 (by decide) ?_
    refine lv_ldc2 hx hb hown (hts (.constantLong RX19 134 (3)) (List.mem_of_getElem? (i := 1) rfl)) dX19_boot_21 ?_
    have hPc := hP.sub (ws' := []) [] rfl
    have hDc := hD.sub (ws' := []) [] (by decide) rfl
    have hKc := hK.sub (tys' := []) [] rfl
    have hFc := va_free (wc := []) hD hS hA [] rfl
    refine va_calli (va_runS (As := [.long (c3.toInt64), .long 0, .long 3]) (rest := [.int 0, .ref c0]) ⟨hx, hb, hml, hown, hts⟩ (k_X19_in l hlt dC dI c3  H.size) (cwS 3 hts gi_k_X19_boot_0 rfl rfl rfl (by decide +kernel) ⟨Nat.le_of_ble_eq_true rfl, Nat.le_of_ble_eq_true rfl⟩) ⟨fun a U g mk q => by obtain ⟨q0, q1, qP, qK, qD, qN⟩ := q; exact ⟨q0, q1, qP, va_K.moved (u := U) (U := U.calling g mk a) (Vm.Alike.refl U.vm) qK, qD, nv_same rfl rfl qN⟩, fun U hU hW => ⟨rfl, by rw [hU], by rw [hU]; exact hPc, va_K.moved hW.alike hKc, hDc.weaken (fun _ _ _ _ => trivial), nv_call hS hFc hU hW hN⟩⟩ rfl rfl hl.1 rfl (lv_room (Nat.le_of_ble_eq_true rfl)) dX19_boot_24 ⟨by decide +kernel, by decide +kernel⟩) hS (fun q _ h => hFc q h) hFc (fun r6 u t H1 locs ht hvm hw hB hz1 hk1 hS => ?_)
    obtain ⟨hP1, hK1, hD1⟩ := hB
    rw [ht] at hP1
    have hK1 := va_K.moved hvm.symm hK1
    obtain ⟨hP, hD⟩ := va_join (wr := [(c0, .inr (20, [.int 0, .ref c4, .int 0, .int 0, .ref c1, .ref c5, .ref c6, .ref c7, .ref c8, .ref c9, .ref c10, .ref c11, .ref c12, .ref c13, .ref c14, .ref c15, .ref c16, .int 0, .int 0, .int 0, .int 0, .int 0, .int 0, .int 0, .int 0, .int 0, .ref c17, .ref c18, .ref c19, .ref c20, .ref c21, .ref c22, .ref c23, .ref c24, .ref c25, .int 0])), (c1, .inl (c2, 4, .inl (fun _ => 0)))]) (w1 := []) hP hD [] [0, 1] rfl rfl (by decide) (by decide) hk1 hFc hP1 hD1
    have hK := (hK.sub (tys' := [(c2, .boolean)]) [0] rfl).app hK1
    generalize H1 = H at hP hS ⊢
    have hP : va_P (dC, dI) vwCl [(c0, .inr (20, [.int 0, .ref c4, .int 0, .int 0, .ref c1, .ref c5, .ref c6, .ref c7, .ref c8, .ref c9, .ref c10, .ref c11, .ref c12, .ref c13, .ref c14, .ref c15, .ref c16, .int 0, .int 0, .int 0, .int 0, .int 0, .int 0, .int 0, .int 0, .int 0, .ref c17, .ref c18, .ref c19, .ref c20, .ref c21, .ref c22, .ref c23, .ref c24, .ref c25, .int 0])), (c1, .inl (c2, 4, .inl (fun _ => 0)))] H := hP
    have hD : va_D A [(c0, .inr (20, [.int 0, .ref c4, .int 0, .int 0, .ref c1, .ref c5, .ref c6, .ref c7, .ref c8, .ref c9, .ref c10, .ref c11, .ref c12, .ref c13, .ref c14, .ref c15, .ref c16, .int 0, .int 0, .int 0, .int 0, .int 0, .int 0, .int 0, .int 0, .int 0, .ref c17, .ref c18, .ref c19, .ref c20, .ref c21, .ref c22, .ref c23, .ref c24, .ref c25, .int 0])), (c1, .inl (c2, 4, .inl (fun _ => 0)))] := hD
    have hK : va_K (dC, dI) vwCl [(c2, .boolean)] s := hK
    refine W.widen (k := 0) (n := 0) (by decide +kernel) (by decide +kernel) ?_
    rcases hw with ⟨c_4_0, h9⟩ | ⟨c_4_0, c_4_1, h9⟩ | ⟨c_4_0, c_4_1, h9⟩ | h9
    · exact absurd c_4_0 c_1_0
    · exact absurd c_4_1 c_1_1
    · subst h9
      refine lv_if_eq (tgt := 45) hx hb dX19_boot_27 (by decide) (fun h9 => absurd h9 (by decide)) (fun _ => ?_)
      refine lv_aload_n hx hb dX19_boot_30 rfl (lv_at hl 0 rfl) ?_
      refine va_get (D := (dC, dI)) (ci := 20) (v := .ref c1) (C := RX19) (T := TX19) (N := 36) hx hb hts hi_k_X19_boot_X19 hown hK hP 0 rfl rfl 4 (by decide) (hts (.fieldLink RX19 14 "TimeMachineModel" "isProgram" "[Z") (List.mem_of_getElem? (i := 8) rfl)) (fun _ h9 => h9) rfl dX19_boot_31 ?_
      refine lv_iload_n hx hb dX19_boot_34 rfl (lv_at hl 1 rfl) ?_
      refine lv_iconst (v := 3) hx hb dX19_boot_35 (by decide) ?_
      refine lv_iand hx hb dX19_boot_36 ?_
      refine va_zald (i := (c3 &&& 3)) hx hb hK hP 1 0 rfl rfl (pk_andIn _ 2 (by decide) (by decide)) dX19_boot_37 ?_
      refine lv_topi (fun z7 ez7 => ?_)
      obtain rfl : z7 = 0 := ez7.trans (by decide)
      refine lv_if_ne (tgt := 45) hx hb dX19_boot_38 (by decide) (fun h9 => absurd h9 (by decide)) (fun _ => ?_)
      refine lv_iconst (v := 1) hx hb dX19_boot_41 (by decide) ?_
      refine lv_goto (tgt := 46) hx hb dX19_boot_42 (by decide) ?_
      have hPc := hP.sub (ws' := [(c0, .inr (20, [.int 0, .ref c4, .int 0, .int 0, .ref c1, .ref c5, .ref c6, .ref c7, .ref c8, .ref c9, .ref c10, .ref c11, .ref c12, .ref c13, .ref c14, .ref c15, .ref c16, .int 0, .int 0, .int 0, .int 0, .int 0, .int 0, .int 0, .int 0, .int 0, .ref c17, .ref c18, .ref c19, .ref c20, .ref c21, .ref c22, .ref c23, .ref c24, .ref c25, .int 0]))]) [0] rfl
      have hDc := hD.sub (ws' := [(c0, .inr (20, [.int 0, .ref c4, .int 0, .int 0, .ref c1, .ref c5, .ref c6, .ref c7, .ref c8, .ref c9, .ref c10, .ref c11, .ref c12, .ref c13, .ref c14, .ref c15, .ref c16, .int 0, .int 0, .int 0, .int 0, .int 0, .int 0, .int 0, .int 0, .int 0, .ref c17, .ref c18, .ref c19, .ref c20, .ref c21, .ref c22, .ref c23, .ref c24, .ref c25, .int 0]))]) [0] (by decide) rfl
      have hKc := hK.sub (tys' := []) [] rfl
      have hFc := va_free (wc := [(c0, .inr (20, [.int 0, .ref c4, .int 0, .int 0, .ref c1, .ref c5, .ref c6, .ref c7, .ref c8, .ref c9, .ref c10, .ref c11, .ref c12, .ref c13, .ref c14, .ref c15, .ref c16, .int 0, .int 0, .int 0, .int 0, .int 0, .int 0, .int 0, .int 0, .int 0, .ref c17, .ref c18, .ref c19, .ref c20, .ref c21, .ref c22, .ref c23, .ref c24, .ref c25, .int 0]))]) hD hS hA [0] rfl
      refine va_calli (va_runV (As := [.int 0, .int 1]) (rest := []) ⟨hx, hb, hml, hown, hts⟩ (k_X19_fails_v2 l hlt dC dI c0 c4 c1 c5 c6 c7 c8 c9 c10 c11 c12 c13 c14 c15 c16 c17 c18 c19 c20 c21 c22 c23 c24 c25  H.size) (cwV 2 hts gi_k_X19_boot_2 rfl rfl rfl (by decide +kernel) ⟨Nat.le_of_ble_eq_true rfl, Nat.le_of_ble_eq_true rfl⟩) ⟨fun a U g mk q => by obtain ⟨q0, q1, qP, qK, qD, qN⟩ := q; exact ⟨q0, q1, qP, va_K.moved (u := U) (U := U.calling g mk a) (Vm.Alike.refl U.vm) qK, qD, nv_same rfl rfl qN⟩, va_recv hKc hPc (ci := 20) (q0 := 0) rfl rfl, fun U hU hW => ⟨rfl, by rw [hU], by rw [hU]; exact hPc, va_K.moved hW.alike hKc, hDc.weaken (fun _ _ _ _ => trivial), nv_call hS hFc hU hW hN⟩⟩ rfl rfl hl.1 rfl (lv_room (Nat.le_of_ble_eq_true rfl)) dX19_boot_46 ⟨by decide +kernel, by decide +kernel⟩) hS (fun q _ h => hFc q h) hFc (fun r8 u t H1 locs ht hvm hw hB hz1 hk1 hS => ?_)
      obtain ⟨hP1, hK1, hD1⟩ := hB
      rw [ht] at hP1
      have hK1 := va_K.moved hvm.symm hK1
      obtain rfl : r8 = 1 := hw
      obtain ⟨hP, hD⟩ := va_join (wr := [(c1, .inl (c2, 4, .inl (fun _ => 0)))]) (w1 := [(c0, .inr (20, [.int 2, .ref c4, .int 0, .int 0, .ref c1, .ref c5, .ref c6, .ref c7, .ref c8, .ref c9, .ref c10, .ref c11, .ref c12, .ref c13, .ref c14, .ref c15, .ref c16, .int 0, .int 0, .int 0, .int 0, .int 0, .int 0, .int 0, .int 0, .int 0, .ref c17, .ref c18, .ref c19, .ref c20, .ref c21, .ref c22, .ref c23, .ref c24, .ref c25, .int 0]))]) hP hD [0] [1] rfl rfl (by decide) (by decide) hk1 hFc hP1 hD1
      have hK := (hK.sub (tys' := [(c2, .boolean)]) [0] rfl).app hK1
      generalize H1 = H at hP hS ⊢
      have hP : va_P (dC, dI) vwCl [(c1, .inl (c2, 4, .inl (fun _ => 0))), (c0, .inr (20, [.int 2, .ref c4, .int 0, .int 0, .ref c1, .ref c5, .ref c6, .ref c7, .ref c8, .ref c9, .ref c10, .ref c11, .ref c12, .ref c13, .ref c14, .ref c15, .ref c16, .int 0, .int 0, .int 0, .int 0, .int 0, .int 0, .int 0, .int 0, .int 0, .ref c17, .ref c18, .ref c19, .ref c20, .ref c21, .ref c22, .ref c23, .ref c24, .ref c25, .int 0]))] H := hP
      have hD : va_D A [(c1, .inl (c2, 4, .inl (fun _ => 0))), (c0, .inr (20, [.int 2, .ref c4, .int 0, .int 0, .ref c1, .ref c5, .ref c6, .ref c7, .ref c8, .ref c9, .ref c10, .ref c11, .ref c12, .ref c13, .ref c14, .ref c15, .ref c16, .int 0, .int 0, .int 0, .int 0, .int 0, .int 0, .int 0, .int 0, .int 0, .ref c17, .ref c18, .ref c19, .ref c20, .ref c21, .ref c22, .ref c23, .ref c24, .ref c25, .int 0]))] := hD
      have hK : va_K (dC, dI) vwCl [(c2, .boolean)] s := hK
      refine W.widen (k := 0) (n := 0) (by decide +kernel) (by decide +kernel) ?_
      refine lv_if_ne (tgt := 57) hx hb dX19_boot_49 (by decide) (fun _ => ?_) (fun h9 => absurd h9 (by decide))
      refine W.widen (k := 0) (n := 0) (by decide +kernel) (by decide +kernel) ?_
      exact W.vret hx hb hr (fun t ht hW => ⟨⟨[(c0, .inr (20, [.int 2, .ref c4, .int 0, .int 0, .ref c1, .ref c5, .ref c6, .ref c7, .ref c8, .ref c9, .ref c10, .ref c11, .ref c12, .ref c13, .ref c14, .ref c15, .ref c16, .int 0, .int 0, .int 0, .int 0, .int 0, .int 0, .int 0, .int 0, .int 0, .ref c17, .ref c18, .ref c19, .ref c20, .ref c21, .ref c22, .ref c23, .ref c24, .ref c25, .int 0]))], rfl, Or.inr (Or.inr (Or.inl ⟨c_1_0, c_1_1, c_4_0, c_4_1, trivial, rfl⟩)), by rw [ht]; exact hP.sub (ws' := [(c0, .inr (20, [.int 2, .ref c4, .int 0, .int 0, .ref c1, .ref c5, .ref c6, .ref c7, .ref c8, .ref c9, .ref c10, .ref c11, .ref c12, .ref c13, .ref c14, .ref c15, .ref c16, .int 0, .int 0, .int 0, .int 0, .int 0, .int 0, .int 0, .int 0, .int 0, .ref c17, .ref c18, .ref c19, .ref c20, .ref c21, .ref c22, .ref c23, .ref c24, .ref c25, .int 0]))]) [1] rfl, va_K.moved hW.alike (hK.sub (tys' := []) [] rfl), hD.sub (ws' := [(c0, .inr (20, [.int 2, .ref c4, .int 0, .int 0, .ref c1, .ref c5, .ref c6, .ref c7, .ref c8, .ref c9, .ref c10, .ref c11, .ref c12, .ref c13, .ref c14, .ref c15, .ref c16, .int 0, .int 0, .int 0, .int 0, .int 0, .int 0, .int 0, .int 0, .int 0, .ref c17, .ref c18, .ref c19, .ref c20, .ref c21, .ref c22, .ref c23, .ref c24, .ref c25, .int 0]))]) [1] (by decide) rfl⟩, hS.F ht⟩) hS.2.2 dX19_boot_57
    · exact h9.elim
  · exact h9.elim
def ow_k_X19_thrown_v2 : List Cond := .code yX19_thrown cX19_thrown 1 (some .int) :: ([.fieldLink RX19 113 "TimeMachineModel" "code" "I"] ++ (u_ws RX19 TX19 36 ++ []))
theorem gd_k_X19_thrown_v2 : ∀ w ∈ ow_k_X19_thrown_v2, (w.onTables && w.keeps) = true ∨ ∃ ty, w = Cond.arrayClass ty := List.forall_mem_cons.mpr ⟨good_of_word rfl, List.forall_mem_append.mpr ⟨fun w h => good_of_word (List.all_eq_true.mp (by decide +kernel) w h), List.forall_mem_append.mpr ⟨gu_X19, fun _ h => nomatch h⟩⟩⟩
theorem hi_k_X19_thrown_v2_X19 : ∀ w ∈ u_ws RX19 TX19 36, w ∈ ow_k_X19_thrown_v2 := fun w h => List.mem_cons_of_mem _ (List.mem_append_right _ (List.mem_append_left _ h))
set_option maxHeartbeats 40000000 in
set_option maxRecDepth 100000 in
theorem k_X19_thrown_v2 (l : Launch) (hlt : l.stackTraces = false) (dC : Nat → ClassId) (dI : Nat → Nat → Nat) (c0 : Nat) (c1 : Nat) (c2 : Nat) (c3 : Nat) (c4 : Nat) (c5 : Nat) (c6 : Nat) (c7 : Nat) (c8 : Nat) (c9 : Nat) (c10 : Nat) (c11 : Nat) (c12 : Nat) (c13 : Nat) (c14 : Nat) (c15 : Nat) (c16 : Nat) (c17 : Nat) (c18 : Nat) (c19 : Nat) (c20 : Nat) (c21 : Nat) (c22 : Nat) (c23 : Nat) (sz : Nat) : Met l yX19_thrown ow_k_X19_thrown_v2 ({ frames := 0, cells := 0, slots := 0, locals := 0 }) (va_Pc [.ref c0] (fun U => U.heap.size = sz ∧ va_P (dC, dI) vwCl [(c0, .inr (20, [.int 2, .ref c1, .int 0, .int 0, .ref c2, .ref c3, .ref c4, .ref c5, .ref c6, .ref c7, .ref c8, .ref c9, .ref c10, .ref c11, .ref c12, .ref c13, .ref c14, .int 0, .int 0, .int 0, .int 0, .int 0, .int 0, .int 0, .int 0, .int 0, .ref c15, .ref c16, .ref c17, .ref c18, .ref c19, .ref c20, .ref c21, .ref c22, .ref c23, .int 0]))] U.heap ∧ va_K (dC, dI) vwCl [] U ∧ va_D (fun _ => True) [(c0, .inr (20, [.int 2, .ref c1, .int 0, .int 0, .ref c2, .ref c3, .ref c4, .ref c5, .ref c6, .ref c7, .ref c8, .ref c9, .ref c10, .ref c11, .ref c12, .ref c13, .ref c14, .int 0, .int 0, .int 0, .int 0, .int 0, .int 0, .int 0, .int 0, .int 0, .ref c15, .ref c16, .ref c17, .ref c18, .ref c19, .ref c20, .ref c21, .ref c22, .ref c23, .int 0]))] ∧ nv_E (va_A [(c0, .inr (20, [.int 2, .ref c1, .int 0, .int 0, .ref c2, .ref c3, .ref c4, .ref c5, .ref c6, .ref c7, .ref c8, .ref c9, .ref c10, .ref c11, .ref c12, .ref c13, .ref c14, .int 0, .int 0, .int 0, .int 0, .int 0, .int 0, .int 0, .int 0, .int 0, .ref c15, .ref c16, .ref c17, .ref c18, .ref c19, .ref c20, .ref c21, .ref c22, .ref c23, .int 0]))] sz) U)) (va_Qi (fun r _ => r = 2) (fun (_ : Unit) t => va_P (dC, dI) vwCl [(c0, .inr (20, [.int 2, .ref c1, .int 0, .int 0, .ref c2, .ref c3, .ref c4, .ref c5, .ref c6, .ref c7, .ref c8, .ref c9, .ref c10, .ref c11, .ref c12, .ref c13, .ref c14, .int 0, .int 0, .int 0, .int 0, .int 0, .int 0, .int 0, .int 0, .int 0, .ref c15, .ref c16, .ref c17, .ref c18, .ref c19, .ref c20, .ref c21, .ref c22, .ref c23, .int 0]))] t.heap ∧ va_K (dC, dI) vwCl [] t ∧ va_D (va_A [(c0, .inr (20, [.int 2, .ref c1, .int 0, .int 0, .ref c2, .ref c3, .ref c4, .ref c5, .ref c6, .ref c7, .ref c8, .ref c9, .ref c10, .ref c11, .ref c12, .ref c13, .ref c14, .int 0, .int 0, .int 0, .int 0, .int 0, .int 0, .int 0, .int 0, .int 0, .ref c15, .ref c16, .ref c17, .ref c18, .ref c19, .ref c20, .ref c21, .ref c22, .ref c23, .int 0]))] sz) [(c0, .inr (20, [.int 2, .ref c1, .int 0, .int 0, .ref c2, .ref c3, .ref c4, .ref c5, .ref c6, .ref c7, .ref c8, .ref c9, .ref c10, .ref c11, .ref c12, .ref c13, .ref c14, .int 0, .int 0, .int 0, .int 0, .int 0, .int 0, .int 0, .int 0, .int 0, .ref c15, .ref c16, .ref c17, .ref c18, .ref c19, .ref c20, .ref c21, .ref c22, .ref c23, .int 0]))]) (va_A [(c0, .inr (20, [.int 2, .ref c1, .int 0, .int 0, .ref c2, .ref c3, .ref c4, .ref c5, .ref c6, .ref c7, .ref c8, .ref c9, .ref c10, .ref c11, .ref c12, .ref c13, .ref c14, .int 0, .int 0, .int 0, .int 0, .int 0, .int 0, .int 0, .int 0, .int 0, .ref c15, .ref c16, .ref c17, .ref c18, .ref c19, .ref c20, .ref c21, .ref c22, .ref c23, .int 0]))] sz)) 0 0 (va_A [(c0, .inr (20, [.int 2, .ref c1, .int 0, .int 0, .ref c2, .ref c3, .ref c4, .ref c5, .ref c6, .ref c7, .ref c8, .ref c9, .ref c10, .ref c11, .ref c12, .ref c13, .ref c14, .int 0, .int 0, .int 0, .int 0, .int 0, .int 0, .int 0, .int 0, .int 0, .ref c15, .ref c16, .ref c17, .ref c18, .ref c19, .ref c20, .ref c21, .ref c22, .ref c23, .int 0]))] sz) := by
  refine Met.ofW (cc := cX19_thrown) (maxL := 1) (ret := (some .int)) (by decide) rfl ?_
  intro p e s m args below meth c s₁ B hml hv
  obtain ⟨rfl, hsz, hP, hK, hD0, hN⟩ := hv
  have hx := B.exec
  have hb := B.bytes
  have hr := B.returns
  have hts := atoms_spec (ws := ow_k_X19_thrown_v2) B.pre
  have hown : s.vm.findClass RX19 = some m.cls := findClass_of_methodNamed B.named
  have hlocks := B.notSynchronized
  subst hsz
  have hD := hD0.self (sz := s.heap.size)
  generalize hAe : va_A [(c0, .inr (20, [.int 2, .ref c1, .int 0, .int 0, .ref c2, .ref c3, .ref c4, .ref c5, .ref c6, .ref c7, .ref c8, .ref c9, .ref c10, .ref c11, .ref c12, .ref c13, .ref c14, .int 0, .int 0, .int 0, .int 0, .int 0, .int 0, .int 0, .int 0, .int 0, .ref c15, .ref c16, .ref c17, .ref c18, .ref c19, .ref c20, .ref c21, .ref c22, .ref c23, .int 0]))] s.heap.size = A at hD hN ⊢
  have hA : ∀ q : Nat, s.heap.size ≤ q → A q := fun q h => by rw [← hAe]; exact Or.inr h
  have hS : va_S A s.heap s.heap [] := va_S.rf
  have hl := lv_entry ([.ref c0]) (n := 1) (Nat.le_of_ble_eq_true rfl)
  rw [lg_entry_eq]
  generalize (lg_sl ([.ref c0]) ++ List.replicate (1 - (lg_sl ([.ref c0])).length) Slot.unset).toArray = ls at hl ⊢
  have hl : lv_has ls 1 [(0, .ref c0)] := hl
  refine lv_aload_n hx hb dX19_thrown_0 rfl (lv_at hl 0 rfl) ?_
  refine va_get (D := (dC, dI)) (ci := 20) (v := .int 2) (C := RX19) (T := TX19) (N := 36) hx hb hts hi_k_X19_thrown_v2_X19 hown hK hP 0 rfl rfl 0 (by decide) (hts (.fieldLink RX19 113 "TimeMachineModel" "code" "I") (List.mem_of_getElem? (i := 1) rfl)) (fun _ h9 => h9) rfl dX19_thrown_1 ?_
  have hP9 := hP.sub (ws' := [(c0, .inr (20, [.int 2, .ref c1, .int 0, .int 0, .ref c2, .ref c3, .ref c4, .ref c5, .ref c6, .ref c7, .ref c8, .ref c9, .ref c10, .ref c11, .ref c12, .ref c13, .ref c14, .int 0, .int 0, .int 0, .int 0, .int 0, .int 0, .int 0, .int 0, .int 0, .ref c15, .ref c16, .ref c17, .ref c18, .ref c19, .ref c20, .ref c21, .ref c22, .ref c23, .int 0]))]) [0] rfl
  have hD9 := hD.sub (ws' := [(c0, .inr (20, [.int 2, .ref c1, .int 0, .int 0, .ref c2, .ref c3, .ref c4, .ref c5, .ref c6, .ref c7, .ref c8, .ref c9, .ref c10, .ref c11, .ref c12, .ref c13, .ref c14, .int 0, .int 0, .int 0, .int 0, .int 0, .int 0, .int 0, .int 0, .int 0, .ref c15, .ref c16, .ref c17, .ref c18, .ref c19, .ref c20, .ref c21, .ref c22, .ref c23, .int 0]))]) [0] (by decide) rfl
  have hK9 := hK.sub (tys' := []) [] rfl
  refine W.widen (k := 0) (n := 0) (by decide +kernel) (by decide +kernel) ?_
  exact W.iret (v := 2) hx hb hr (fun t ht hW => ⟨⟨2, (), rfl, rfl, by rw [ht]; exact hP9, va_K.moved hW.alike hK9, hD9⟩, hS.F ht⟩) hS.2.2 dX19_thrown_4
def ow_k_X12_replay : List Cond := .code yX12_replay cX12_replay 3 (some .int) :: ([.classLink RX12 70 "java/lang/IllegalArgumentException", .initialized "java/lang/IllegalArgumentException", .fieldLink RX12 16 "TimeMachine" "programs" "[LTimeMachine$Program;", .classLink RX12 118 "java/lang/IllegalStateException", .initialized "java/lang/IllegalStateException"] ++ (u_ws RX12 TX12 12 ++ ((vx_at0 RX12 72 "java/lang/IllegalArgumentException" ["java/lang/RuntimeException", "java/lang/Exception"]).filter goodWord ++ ((vx_at0 RX12 120 "java/lang/IllegalStateException" ["java/lang/RuntimeException", "java/lang/Exception"]).filter goodWord ++ []))))
theorem gd_k_X12_replay : ∀ w ∈ ow_k_X12_replay, (w.onTables && w.keeps) = true ∨ ∃ ty, w = Cond.arrayClass ty := List.forall_mem_cons.mpr ⟨good_of_word rfl, List.forall_mem_append.mpr ⟨fun w h => good_of_word (List.all_eq_true.mp (by decide +kernel) w h), List.forall_mem_append.mpr ⟨gu_X12, List.forall_mem_append.mpr ⟨fun w h => good_of_word (List.mem_filter.mp h).2, List.forall_mem_append.mpr ⟨fun w h => good_of_word (List.mem_filter.mp h).2, fun _ h => nomatch h⟩⟩⟩⟩⟩
theorem hi_k_X12_replay_X12 : ∀ w ∈ u_ws RX12 TX12 12, w ∈ ow_k_X12_replay := fun w h => List.mem_cons_of_mem _ (List.mem_append_right _ (List.mem_append_left _ h))
set_option maxHeartbeats 40000000 in
set_option maxRecDepth 100000 in
theorem k_X12_replay (l : Launch) (hlt : l.stackTraces = false) (dC : Nat → ClassId) (dI : Nat → Nat → Nat) (c0 : Nat) (c1 : Nat) (c2 : ClassId) (c3 : Int32) (c4 : Nat) (c5 : Nat) (c6 : Nat) (c7 : Nat) (c8 : Nat) (c9 : Nat) (c10 : Nat) (c11 : Nat) (sz : Nat) : vx_Met l yX12_replay ow_k_X12_replay ({ frames := 6, cells := 1, slots := 6, locals := 81 }) (va_Pc [.ref c0, .int c3] (fun U => U.heap.size = sz ∧ va_P (dC, dI) vwCl [(c0, .inr (13, [.ref c4, .int 0, .int 0, .ref c1, .ref c5, .ref c6, .ref c7, .ref c8, .ref c9, .ref c10, .int 0, .ref c11])), (c1, .inl (c2, 4, .inr (.inr (.inr (.inr (fun _ => none))))))] U.heap ∧ va_K (dC, dI) vwCl [(c2, .object RX8)] U ∧ va_D (fun _ => True) [(c0, .inr (13, [.ref c4, .int 0, .int 0, .ref c1, .ref c5, .ref c6, .ref c7, .ref c8, .ref c9, .ref c10, .int 0, .ref c11])), (c1, .inl (c2, 4, .inr (.inr (.inr (.inr (fun _ => none))))))] ∧ nv_E (va_A [(c0, .inr (13, [.ref c4, .int 0, .int 0, .ref c1, .ref c5, .ref c6, .ref c7, .ref c8, .ref c9, .ref c10, .int 0, .ref c11])), (c1, .inl (c2, 4, .inr (.inr (.inr (.inr (fun _ => none))))))] sz) U ∧ nv_Dc U)) (va_Qi (fun r _ => False) (fun (_ : Unit) t => True) (va_A [(c0, .inr (13, [.ref c4, .int 0, .int 0, .ref c1, .ref c5, .ref c6, .ref c7, .ref c8, .ref c9, .ref c10, .int 0, .ref c11])), (c1, .inl (c2, 4, .inr (.inr (.inr (.inr (fun _ => none))))))] sz)) (vx_X (fun _ : Unit => True) (fun E _ _ => ((c3 < 0) ∧ E = "java/lang/IllegalArgumentException") ∨ ((¬ c3 < 0) ∧ (c3 < 4) ∧ E = "java/lang/IllegalStateException") ∨ ((¬ c3 < 0) ∧ (¬ c3 < 4) ∧ E = "java/lang/IllegalArgumentException") ∨ False) (va_A [(c0, .inr (13, [.ref c4, .int 0, .int 0, .ref c1, .ref c5, .ref c6, .ref c7, .ref c8, .ref c9, .ref c10, .int 0, .ref c11])), (c1, .inl (c2, 4, .inr (.inr (.inr (.inr (fun _ => none))))))] sz)) 1 6 (va_A [(c0, .inr (13, [.ref c4, .int 0, .int 0, .ref c1, .ref c5, .ref c6, .ref c7, .ref c8, .ref c9, .ref c10, .int 0, .ref c11])), (c1, .inl (c2, 4, .inr (.inr (.inr (.inr (fun _ => none))))))] sz) := by
  refine vx_ofW (cc := cX12_replay) (maxL := 3) (ret := (some .int)) (by decide) rfl ?_
  intro p e s m args below meth c s₁ B hml htb hv
  obtain ⟨rfl, hsz, hP, hK, hD0, hN, hDe⟩ := hv
  have hx := B.exec
  have hb := B.bytes
  have hr := B.returns
  have hts := atoms_spec (ws := ow_k_X12_replay) B.pre
  have hown : s.vm.findClass RX12 = some m.cls := findClass_of_methodNamed B.named
  have hlocks := B.notSynchronized
  subst hsz
  have hD := hD0.self (sz := s.heap.size)
  generalize hAe : va_A [(c0, .inr (13, [.ref c4, .int 0, .int 0, .ref c1, .ref c5, .ref c6, .ref c7, .ref c8, .ref c9, .ref c10, .int 0, .ref c11])), (c1, .inl (c2, 4, .inr (.inr (.inr (.inr (fun _ => none))))))] s.heap.size = A at hD hN ⊢
  have hA : ∀ q : Nat, s.heap.size ≤ q → A q := fun q h => by rw [← hAe]; exact Or.inr h
  have hS : va_S A s.heap s.heap [] := va_S.rf
  have hl := lv_entry ([.ref c0, .int c3]) (n := 3) (Nat.le_of_ble_eq_true rfl)
  rw [lg_entry_eq]
  generalize (lg_sl ([.ref c0, .int c3]) ++ List.replicate (3 - (lg_sl ([.ref c0, .int c3])).length) Slot.unset).toArray = ls at hl ⊢
  have hl : lv_has ls 3 [(0, .ref c0), (1, .int c3)] := hl
  refine lv_iload_n hx hb dX12_replay_0 rfl (lv_at hl 1 rfl) ?_
  refine lv_if_lt (tgt := 9) hx hb dX12_replay_1 (by decide) (fun c_1 => ?_) (fun c_1 => ?_)
  · exact vx_throw0 (own := RX12) (cls := "java/lang/IllegalArgumentException") (names := ["java/lang/RuntimeException", "java/lang/Exception"]) (ik := 70) (ic := 72) (A := A) hx hb hlt hown (by decide +kernel) (by decide +kernel) (hts (.classLink RX12 70 "java/lang/IllegalArgumentException") (List.mem_of_getElem? (i := 1) rfl)) (hts (.initialized "java/lang/IllegalArgumentException") (List.mem_of_getElem? (i := 2) rfl)) (vx_hat (B := [.castable "java/lang/IllegalArgumentException" "java/lang/IllegalArgumentException", .declares ⟨"java/lang/RuntimeException", "<init>", "()V"⟩, .declares ⟨"java/lang/Exception", "<init>", "()V"⟩, .declares ⟨"java/lang/Throwable", "<init>", "()V"⟩]) (fun w h => hts w (List.mem_cons_of_mem _ (List.mem_append_right _ (List.mem_append_right _ (List.mem_append_left _ h))))) (by decide +kernel) (vx_c (va_Nw.use rfl hN.2.2.2.2.2.2.2.1) (vx_c (va_Nw.use rfl (hDe _ (by decide +kernel))) (vx_c (va_Nw.use rfl (hDe _ (by decide +kernel))) (vx_c (va_Nw.use rfl (hDe _ (by decide +kernel))) vx_n))))) (by decide +kernel) hN.2.2.2.2.2.1 hN.2.2.2.2.2.2.1 hS (by rw [hml]; exact hl.1) dX12_replay_9 dX12_replay_12 dX12_replay_13 dX12_replay_16 (fun x9 h9 => (htb x9 h9).elim) (Nat.le_of_ble_eq_true rfl) (Nat.le_of_ble_eq_true rfl) (by decide +kernel) (by decide +kernel) hlocks (fun t hvm hz hk => ⟨(), trivial, Or.inl ⟨c_1, rfl⟩, Nat.le_trans hS.1 hz, fun q h1 h2 => (hk q (Nat.lt_of_lt_of_le h1 hS.1)).trans (hS.2.1 q h1 h2)⟩) hS.2.2 (by decide +kernel) (by decide +kernel)
  · refine lv_iload_n hx hb dX12_replay_4 rfl (lv_at hl 1 rfl) ?_
    refine lv_iconst (v := 4) hx hb dX12_replay_5 (by decide) ?_
    refine lv_icmp_lt (tgt := 17) hx hb dX12_replay_6 (by decide) (fun c_2 => ?_) (fun c_2 => ?_)
    · refine lv_aload_n hx hb dX12_replay_17 rfl (lv_at hl 0 rfl) ?_
      refine va_get (D := (dC, dI)) (ci := 13) (v := .ref c1) (C := RX12) (T := TX12) (N := 12) hx hb hts hi_k_X12_replay_X12 hown hK hP 0 rfl rfl 3 (by decide) (hts (.fieldLink RX12 16 "TimeMachine" "programs" "[LTimeMachine$Program;") (List.mem_of_getElem? (i := 3) rfl)) (fun _ h9 => h9) rfl dX12_replay_18 ?_
      refine lv_iload_n hx hb dX12_replay_21 rfl (lv_at hl 1 rfl) ?_
      refine va_aldq (i := c3) hx hb hK hP 1 0 rfl rfl (nv_in1 (k := 4) c_1 c_2 (by decide) (by decide)) dX12_replay_22 ?_
      refine W.eq (g2 := F0 m 23 ls [.null]) rfl ?_
      refine lv_ifnonnullN hx hb dX12_replay_23 ?_
      exact vx_throw0 (own := RX12) (cls := "java/lang/IllegalStateException") (names := ["java/lang/RuntimeException", "java/lang/Exception"]) (ik := 118) (ic := 120) (A := A) hx hb hlt hown (by decide +kernel) (by decide +kernel) (hts (.classLink RX12 118 "java/lang/IllegalStateException") (List.mem_of_getElem? (i := 4) rfl)) (hts (.initialized "java/lang/IllegalStateException") (List.mem_of_getElem? (i := 5) rfl)) (vx_hat (B := [.castable "java/lang/IllegalStateException" "java/lang/IllegalStateException", .declares ⟨"java/lang/RuntimeException", "<init>", "()V"⟩, .declares ⟨"java/lang/Exception", "<init>", "()V"⟩, .declares ⟨"java/lang/Throwable", "<init>", "()V"⟩]) (fun w h => hts w (List.mem_cons_of_mem _ (List.mem_append_right _ (List.mem_append_right _ (List.mem_append_right _ (List.mem_append_left _ h)))))) (by decide +kernel) (vx_c (va_Nw.use rfl hN.2.2.2.2.2.2.2.2.1) (vx_c (va_Nw.use rfl (hDe _ (by decide +kernel))) (vx_c (va_Nw.use rfl (hDe _ (by decide +kernel))) (vx_c (va_Nw.use rfl (hDe _ (by decide +kernel))) vx_n))))) (by decide +kernel) hN.2.2.2.2.2.1 hN.2.2.2.2.2.2.1 hS (by rw [hml]; exact hl.1) dX12_replay_26 dX12_replay_29 dX12_replay_30 dX12_replay_33 (fun x9 h9 => (htb x9 h9).elim) (Nat.le_of_ble_eq_true rfl) (Nat.le_of_ble_eq_true rfl) (by decide +kernel) (by decide +kernel) hlocks (fun t hvm hz hk => ⟨(), trivial, Or.inr (Or.inl ⟨c_1, c_2, rfl⟩), Nat.le_trans hS.1 hz, fun q h1 h2 => (hk q (Nat.lt_of_lt_of_le h1 hS.1)).trans (hS.2.1 q h1 h2)⟩) hS.2.2 (by decide +kernel) (by decide +kernel)
    · exact vx_throw0 (own := RX12) (cls := "java/lang/IllegalArgumentException") (names := ["java/lang/RuntimeException", "java/lang/Exception"]) (ik := 70) (ic := 72) (A := A) hx hb hlt hown (by decide +kernel) (by decide +kernel) (hts (.classLink RX12 70 "java/lang/IllegalArgumentException") (List.mem_of_getElem? (i := 1) rfl)) (hts (.initialized "java/lang/IllegalArgumentException") (List.mem_of_getElem? (i := 2) rfl)) (vx_hat (B := [.castable "java/lang/IllegalArgumentException" "java/lang/IllegalArgumentException", .declares ⟨"java/lang/RuntimeException", "<init>", "()V"⟩, .declares ⟨"java/lang/Exception", "<init>", "()V"⟩, .declares ⟨"java/lang/Throwable", "<init>", "()V"⟩]) (fun w h => hts w (List.mem_cons_of_mem _ (List.mem_append_right _ (List.mem_append_right _ (List.mem_append_left _ h))))) (by decide +kernel) (vx_c (va_Nw.use rfl hN.2.2.2.2.2.2.2.1) (vx_c (va_Nw.use rfl (hDe _ (by decide +kernel))) (vx_c (va_Nw.use rfl (hDe _ (by decide +kernel))) (vx_c (va_Nw.use rfl (hDe _ (by decide +kernel))) vx_n))))) (by decide +kernel) hN.2.2.2.2.2.1 hN.2.2.2.2.2.2.1 hS (by rw [hml]; exact hl.1) dX12_replay_9 dX12_replay_12 dX12_replay_13 dX12_replay_16 (fun x9 h9 => (htb x9 h9).elim) (Nat.le_of_ble_eq_true rfl) (Nat.le_of_ble_eq_true rfl) (by decide +kernel) (by decide +kernel) hlocks (fun t hvm hz hk => ⟨(), trivial, Or.inr (Or.inr (Or.inl ⟨c_1, c_2, rfl⟩)), Nat.le_trans hS.1 hz, fun q h1 h2 => (hk q (Nat.lt_of_lt_of_le h1 hS.1)).trans (hS.2.1 q h1 h2)⟩) hS.2.2 (by decide +kernel) (by decide +kernel)
def ow_k_L_replay : List Cond := .codeWith yL_replay cL_replay 4 (some .int) [(0, 9, 12, 13), (0, 9, 15, 19)] :: ([.methodLink RL 21 yX12_replay, .instanceMethod yX12_replay, .selects RX12 yX12_replay yX12_replay, .initialized RX12, .classLink RL 13 "java/lang/IllegalArgumentException", .classLink RL 19 "java/lang/IllegalStateException"] ++ (ow_k_X12_replay ++ []))
theorem gd_k_L_replay : ∀ w ∈ ow_k_L_replay, (w.onTables && w.keeps) = true ∨ ∃ ty, w = Cond.arrayClass ty := List.forall_mem_cons.mpr ⟨good_of_word rfl, List.forall_mem_append.mpr ⟨fun w h => good_of_word (List.all_eq_true.mp (by decide +kernel) w h), List.forall_mem_append.mpr ⟨gd_k_X12_replay, fun _ h => nomatch h⟩⟩⟩
theorem gi_k_L_replay_0 : GoodIn ow_k_L_replay (wsV RL 21 RX12 yX12_replay ow_k_X12_replay) := goodIn_app (goodIn_of _ (by decide +kernel)) (fun w h => ⟨List.mem_cons_of_mem _ (List.mem_append_right _ (List.mem_append_left _ h)), gd_k_X12_replay w h⟩)
set_option maxHeartbeats 40000000 in
set_option maxRecDepth 100000 in
theorem k_L_replay (l : Launch) (hlt : l.stackTraces = false) (dC : Nat → ClassId) (dI : Nat → Nat → Nat) (c0 : Nat) (c1 : Nat) (c2 : ClassId) (c3 : Nat) (c4 : ClassId) (c5 : Int32) (c6 : Nat) (c7 : Nat) (c8 : Nat) (c9 : Nat) (c10 : Nat) (c11 : Nat) (c12 : Nat) (c13 : Nat) (sz : Nat) : Met l yL_replay ow_k_L_replay ({ frames := 7, cells := 1, slots := 6, locals := 103 }) (va_Pc [.ref c0, .int c5, .ref c3] (fun U => U.heap.size = sz ∧ va_P (dC, dI) vwCl [(c0, .inr (13, [.ref c6, .int 0, .int 0, .ref c1, .ref c7, .ref c8, .ref c9, .ref c10, .ref c11, .ref c12, .int 0, .ref c13])), (c1, .inl (c2, 4, .inr (.inr (.inr (.inr (fun _ => none)))))), (c3, .inl (c4, 1, .inr (.inl (fun _ => 0))))] U.heap ∧ va_K (dC, dI) vwCl [(c2, .object RX8), (c4, .long)] U ∧ va_D (fun _ => True) [(c0, .inr (13, [.ref c6, .int 0, .int 0, .ref c1, .ref c7, .ref c8, .ref c9, .ref c10, .ref c11, .ref c12, .int 0, .ref c13])), (c1, .inl (c2, 4, .inr (.inr (.inr (.inr (fun _ => none)))))), (c3, .inl (c4, 1, .inr (.inl (fun _ => 0))))] ∧ nv_E (va_A [(c0, .inr (13, [.ref c6, .int 0, .int 0, .ref c1, .ref c7, .ref c8, .ref c9, .ref c10, .ref c11, .ref c12, .int 0, .ref c13])), (c1, .inl (c2, 4, .inr (.inr (.inr (.inr (fun _ => none)))))), (c3, .inl (c4, 1, .inr (.inl (fun _ => 0))))] sz) U ∧ nv_Dc U)) (va_Qi (fun r u => ((c5 < 0) ∧ r = 1 ∧ u = [(c3, .inl (c4, 1, .inr (.inl (fun _ => 0))))]) ∨ ((¬ c5 < 0) ∧ (c5 < 4) ∧ r = 2 ∧ u = [(c3, .inl (c4, 1, .inr (.inl (fun _ => 0))))]) ∨ ((¬ c5 < 0) ∧ (¬ c5 < 4) ∧ r = 1 ∧ u = [(c3, .inl (c4, 1, .inr (.inl (fun _ => 0))))]) ∨ False) (fun (u : va_W) t => va_P (dC, dI) vwCl u t.heap ∧ va_K (dC, dI) vwCl [(c4, .long)] t ∧ va_D (va_A [(c0, .inr (13, [.ref c6, .int 0, .int 0, .ref c1, .ref c7, .ref c8, .ref c9, .ref c10, .ref c11, .ref c12, .int 0, .ref c13])), (c1, .inl (c2, 4, .inr (.inr (.inr (.inr (fun _ => none)))))), (c3, .inl (c4, 1, .inr (.inl (fun _ => 0))))] sz) u) (va_A [(c0, .inr (13, [.ref c6, .int 0, .int 0, .ref c1, .ref c7, .ref c8, .ref c9, .ref c10, .ref c11, .ref c12, .int 0, .ref c13])), (c1, .inl (c2, 4, .inr (.inr (.inr (.inr (fun _ => none)))))), (c3, .inl (c4, 1, .inr (.inl (fun _ => 0))))] sz)) 1 6 (va_A [(c0, .inr (13, [.ref c6, .int 0, .int 0, .ref c1, .ref c7, .ref c8, .ref c9, .ref c10, .ref c11, .ref c12, .int 0, .ref c13])), (c1, .inl (c2, 4, .inr (.inr (.inr (.inr (fun _ => none)))))), (c3, .inl (c4, 1, .inr (.inl (fun _ => 0))))] sz) := by
  refine va_MetW (hh := [(0, 9, 12, 13), (0, 9, 15, 19)]) (cc := cL_replay) (maxL := 4) (ret := (some .int)) (by decide) rfl ?_
  intro p e s m args below meth c s₁ B hml hv
  obtain ⟨rfl, hsz, hP, hK, hD0, hN, hDe⟩ := hv
  have hx := B.exec
  have hb := B.bytes
  have hr := B.returns
  have hts := atoms_spec (ws := ow_k_L_replay) B.pre
  have hown : s.vm.findClass RL = some m.cls := findClass_of_methodNamed B.named
  have hlocks := B.notSynchronized
  have htab : c.exceptionTable.toList = tableOf [(0, 9, 12, 13), (0, 9, 15, 19)] := vx_table (x := yL_replay) B (hts _ List.mem_cons_self)
  subst hsz
  have hD := hD0.self (sz := s.heap.size)
  generalize hAe : va_A [(c0, .inr (13, [.ref c6, .int 0, .int 0, .ref c1, .ref c7, .ref c8, .ref c9, .ref c10, .ref c11, .ref c12, .int 0, .ref c13])), (c1, .inl (c2, 4, .inr (.inr (.inr (.inr (fun _ => none)))))), (c3, .inl (c4, 1, .inr (.inl (fun _ => 0))))] s.heap.size = A at hD hN ⊢
  have hA : ∀ q : Nat, s.heap.size ≤ q → A q := fun q h => by rw [← hAe]; exact Or.inr h
  have hS : va_S A s.heap s.heap [] := va_S.rf
  have hl := lv_entry ([.ref c0, .int c5, .ref c3]) (n := 4) (Nat.le_of_ble_eq_true rfl)
  rw [lg_entry_eq]
  generalize (lg_sl ([.ref c0, .int c5, .ref c3]) ++ List.replicate (4 - (lg_sl ([.ref c0, .int c5, .ref c3])).length) Slot.unset).toArray = ls at hl ⊢
  have hl : lv_has ls 4 [(0, .ref c0), (1, .int c5), (2, .ref c3)] := hl
  refine lv_aload_n hx hb dL_replay_0 rfl (lv_at hl 2 rfl) ?_
  refine lv_iconst (v := 0) hx hb dL_replay_1 (by decide) ?_
  refine lv_aload_n hx hb dL_replay_2 rfl (lv_at hl 0 rfl) ?_
  refine lv_iload_n hx hb dL_replay_3 rfl (lv_at hl 1 rfl) ?_
  have hPc := hP.sub (ws' := [(c0, .inr (13, [.ref c6, .int 0, .int 0, .ref c1, .ref c7, .ref c8, .ref c9, .ref c10, .ref c11, .ref c12, .int 0, .ref c13])), (c1, .inl (c2, 4, .inr (.inr (.inr (.inr (fun _ => none))))))]) [0, 1] rfl
  have hDc := hD.sub (ws' := [(c0, .inr (13, [.ref c6, .int 0, .int 0, .ref c1, .ref c7, .ref c8, .ref c9, .ref c10, .ref c11, .ref c12, .int 0, .ref c13])), (c1, .inl (c2, 4, .inr (.inr (.inr (.inr (fun _ => none))))))]) [0, 1] (by decide) rfl
  have hKc := hK.sub (tys' := [(c2, .object RX8)]) [0] rfl
  have hFc := va_free (wc := [(c0, .inr (13, [.ref c6, .int 0, .int 0, .ref c1, .ref c7, .ref c8, .ref c9, .ref c10, .ref c11, .ref c12, .int 0, .ref c13])), (c1, .inl (c2, 4, .inr (.inr (.inr (.inr (fun _ => none))))))]) hD hS hA [0, 1] rfl
  refine vx_calli (vx_runV (As := [.int c5]) (rest := [.int 0, .ref c3]) ⟨hx, hb, hml, hown, hts⟩ (k_X12_replay l hlt dC dI c0 c1 c2 c5 c6 c7 c8 c9 c10 c11 c12 c13  s.heap.size) (cwV 1 hts gi_k_L_replay_0 rfl rfl rfl (by decide +kernel) ⟨Nat.le_of_ble_eq_true rfl, Nat.le_of_ble_eq_true rfl⟩) ⟨fun a U g mk q => by obtain ⟨q0, q1, qP, qK, qD, qN, qE⟩ := q; exact ⟨q0, q1, qP, va_K.moved (u := U) (U := U.calling g mk a) (Vm.Alike.refl U.vm) qK, qD, nv_same rfl rfl qN, nv_Dsame rfl qE⟩, va_recv hKc hPc (ci := 13) (q0 := 0) rfl rfl, fun U hU hW => ⟨rfl, by rw [hU], by rw [hU]; exact hPc, va_K.moved hW.alike hKc, hDc.weaken (fun _ _ _ _ => trivial), nv_call hS hFc hU hW hN, nv_Dcall hW hDe⟩⟩ rfl rfl hl.1 rfl (lv_room (Nat.le_of_ble_eq_true rfl)) dL_replay_4 ⟨by decide +kernel, by decide +kernel⟩) hS (fun q _ h => hFc q h) hFc (fun q _ h => hFc q h) (fun E9 ce q9 ux t H1 locs ht hvm _ hw _ hk1 hS hce hcv hcl => ?_) (fun r1 u t H1 locs ht hvm hw hB hz1 hk1 hS => ?_)
  · have hK1 := hK.sub (tys' := []) [] rfl
    obtain ⟨hP, hD⟩ := va_join (wr := [(c3, .inl (c4, 1, .inr (.inl (fun _ => 0))))]) (w1 := []) hP hD [0, 1] [2] rfl rfl (by decide) (by decide) hk1 hFc nv_P0 nv_D0
    have hK := (hK.sub (tys' := [(c4, .long)]) [1] rfl).app hK1
    generalize H1 = H at hP hS hce ⊢
    have hP : va_P (dC, dI) vwCl [(c3, .inl (c4, 1, .inr (.inl (fun _ => 0))))] H := hP
    have hD : va_D A [(c3, .inl (c4, 1, .inr (.inl (fun _ => 0))))] := hD
    have hK : va_K (dC, dI) vwCl [(c4, .long)] s := hK
    rcases hw with ⟨c_1_0, h9⟩ | ⟨c_1_0, c_1_1, h9⟩ | ⟨c_1_0, c_1_1, h9⟩ | h9
    · subst h9
      refine nw_catch (own := RL) (name := "java/lang/IllegalArgumentException") hown [] ⟨0, 9, 12, 13⟩ [⟨0, 9, 15, 19⟩] (htab.trans rfl) (fun z h9 => absurd h9 List.not_mem_nil) (by decide) (by decide) (hts (.classLink RL 13 "java/lang/IllegalArgumentException") (List.mem_of_getElem? (i := 5) rfl)) (va_Nw.use rfl hN.2.2.2.2.2.2.2.1) hce hcv hcl ?_
      refine W.eq (g2 := F0 m 12 ls [.ref q9]) rfl ?_
      refine W.widen (k := 1) (n := 6) (by decide +kernel) (by decide +kernel) ?_
      refine lv_astore_n (lv' := [(3, .ref q9), (0, .ref c0), (1, .int c5), (2, .ref c3)]) hx hb dL_replay_12 rfl hl (by decide) rfl (fun ls hl => ?_)
      refine lv_iconst (v := 1) hx hb dL_replay_13 (by decide) ?_
      refine W.widen (k := 1) (n := 6) (by decide +kernel) (by decide +kernel) ?_
      exact W.iret (v := 1) hx hb hr (fun t ht hW => ⟨⟨1, [(c3, .inl (c4, 1, .inr (.inl (fun _ => 0))))], rfl, Or.inl ⟨c_1_0, rfl, rfl⟩, by rw [ht]; exact hP.sub (ws' := [(c3, .inl (c4, 1, .inr (.inl (fun _ => 0))))]) [0] rfl, va_K.moved hW.alike (hK.sub (tys' := [(c4, .long)]) [0] rfl), hD.sub (ws' := [(c3, .inl (c4, 1, .inr (.inl (fun _ => 0))))]) [0] (by decide) rfl⟩, hS.F ht⟩) hS.2.2 dL_replay_14
    · subst h9
      refine nw_catch (own := RL) (name := "java/lang/IllegalStateException") hown [⟨0, 9, 12, 13⟩] ⟨0, 9, 15, 19⟩ [] (htab.trans rfl) (fun z h9 => by rcases List.mem_singleton.mp h9 with rfl; exact Or.inr ⟨by decide, _, (hts (.classLink RL 13 "java/lang/IllegalArgumentException") (List.mem_of_getElem? (i := 5) rfl)), hN.2.2.2.2.2.2.2.2.2⟩) (by decide) (by decide) (hts (.classLink RL 19 "java/lang/IllegalStateException") (List.mem_of_getElem? (i := 6) rfl)) (va_Nw.use rfl hN.2.2.2.2.2.2.2.2.1) hce hcv hcl ?_
      refine W.eq (g2 := F0 m 15 ls [.ref q9]) rfl ?_
      refine W.widen (k := 1) (n := 6) (by decide +kernel) (by decide +kernel) ?_
      refine lv_astore_n (lv' := [(3, .ref q9), (0, .ref c0), (1, .int c5), (2, .ref c3)]) hx hb dL_replay_15 rfl hl (by decide) rfl (fun ls hl => ?_)
      refine lv_iconst (v := 2) hx hb dL_replay_16 (by decide) ?_
      refine W.widen (k := 1) (n := 6) (by decide +kernel) (by decide +kernel) ?_
      exact W.iret (v := 2) hx hb hr (fun t ht hW => ⟨⟨2, [(c3, .inl (c4, 1, .inr (.inl (fun _ => 0))))], rfl, Or.inr (Or.inl ⟨c_1_0, c_1_1, rfl, rfl⟩), by rw [ht]; exact hP.sub (ws' := [(c3, .inl (c4, 1, .inr (.inl (fun _ => 0))))]) [0] rfl, va_K.moved hW.alike (hK.sub (tys' := [(c4, .long)]) [0] rfl), hD.sub (ws' := [(c3, .inl (c4, 1, .inr (.inl (fun _ => 0))))]) [0] (by decide) rfl⟩, hS.F ht⟩) hS.2.2 dL_replay_17
    · subst h9
      refine nw_catch (own := RL) (name := "java/lang/IllegalArgumentException") hown [] ⟨0, 9, 12, 13⟩ [⟨0, 9, 15, 19⟩] (htab.trans rfl) (fun z h9 => absurd h9 List.not_mem_nil) (by decide) (by decide) (hts (.classLink RL 13 "java/lang/IllegalArgumentException") (List.mem_of_getElem? (i := 5) rfl)) (va_Nw.use rfl hN.2.2.2.2.2.2.2.1) hce hcv hcl ?_
      refine W.eq (g2 := F0 m 12 ls [.ref q9]) rfl ?_
      refine W.widen (k := 1) (n := 6) (by decide +kernel) (by decide +kernel) ?_
      refine lv_astore_n (lv' := [(3, .ref q9), (0, .ref c0), (1, .int c5), (2, .ref c3)]) hx hb dL_replay_12 rfl hl (by decide) rfl (fun ls hl => ?_)
      refine lv_iconst (v := 1) hx hb dL_replay_13 (by decide) ?_
      refine W.widen (k := 1) (n := 6) (by decide +kernel) (by decide +kernel) ?_
      exact W.iret (v := 1) hx hb hr (fun t ht hW => ⟨⟨1, [(c3, .inl (c4, 1, .inr (.inl (fun _ => 0))))], rfl, Or.inr (Or.inr (Or.inl ⟨c_1_0, c_1_1, rfl, rfl⟩)), by rw [ht]; exact hP.sub (ws' := [(c3, .inl (c4, 1, .inr (.inl (fun _ => 0))))]) [0] rfl, va_K.moved hW.alike (hK.sub (tys' := [(c4, .long)]) [0] rfl), hD.sub (ws' := [(c3, .inl (c4, 1, .inr (.inl (fun _ => 0))))]) [0] (by decide) rfl⟩, hS.F ht⟩) hS.2.2 dL_replay_14
    · exact h9.elim
  exact hw.elim
def ow_k_X19_replay : List Cond := .code yX19_replay cX19_replay 6 (some .int) :: ([.constantLong RX19 134 (3), .methodLink RX19 126 yX19_in, .static yX19_in, .initialized RX19, .methodLink RX19 136 yX19_fails, .instanceMethod yX19_fails, .selects RX19 yX19_fails yX19_fails, .fieldLink RX19 14 "TimeMachineModel" "isProgram" "[Z"] ++ (u_ws RX19 TX19 36 ++ (ow_k_X19_in ++ (ow_k_X19_fails ++ (ow_k_X19_fails_v2 ++ [])))))
theorem gd_k_X19_replay : ∀ w ∈ ow_k_X19_replay, (w.onTables && w.keeps) = true ∨ ∃ ty, w = Cond.arrayClass ty := List.forall_mem_cons.mpr ⟨good_of_word rfl, List.forall_mem_append.mpr ⟨fun w h => good_of_word (List.all_eq_true.mp (by decide +kernel) w h), List.forall_mem_append.mpr ⟨gu_X19, List.forall_mem_append.mpr ⟨gd_k_X19_in, List.forall_mem_append.mpr ⟨gd_k_X19_fails, List.forall_mem_append.mpr ⟨gd_k_X19_fails_v2, fun _ h => nomatch h⟩⟩⟩⟩⟩⟩
theorem hi_k_X19_replay_X19 : ∀ w ∈ u_ws RX19 TX19 36, w ∈ ow_k_X19_replay := fun w h => List.mem_cons_of_mem _ (List.mem_append_right _ (List.mem_append_left _ h))
theorem gi_k_X19_replay_0 : GoodIn ow_k_X19_replay (wsS RX19 126 yX19_in ow_k_X19_in) := goodIn_app (goodIn_of _ (by decide +kernel)) (fun w h => ⟨List.mem_cons_of_mem _ (List.mem_append_right _ (List.mem_append_right _ (List.mem_append_left _ h))), gd_k_X19_in w h⟩)
theorem gi_k_X19_replay_1 : GoodIn ow_k_X19_replay (wsV RX19 136 RX19 yX19_fails ow_k_X19_fails) := goodIn_app (goodIn_of _ (by decide +kernel)) (fun w h => ⟨List.mem_cons_of_mem _ (List.mem_append_right _ (List.mem_append_right _ (List.mem_append_right _ (List.mem_append_left _ h)))), gd_k_X19_fails w h⟩)
theorem gi_k_X19_replay_2 : GoodIn ow_k_X19_replay (wsV RX19 136 RX19 yX19_fails ow_k_X19_fails_v2) := goodIn_app (goodIn_of _ (by decide +kernel)) (fun w h => ⟨List.mem_cons_of_mem _ (List.mem_append_right _ (List.mem_append_right _ (List.mem_append_right _ (List.mem_append_right _ (List.mem_append_left _ h))))), gd_k_X19_fails_v2 w h⟩)
set_option maxHeartbeats 40000000 in
set_option maxRecDepth 100000 in
theorem k_X19_replay (l : Launch) (hlt : l.stackTraces = false) (dC : Nat → ClassId) (dI : Nat → Nat → Nat) (c0 : Nat) (c1 : Nat) (c2 : ClassId) (c3 : Int32) (c4 : Nat) (c5 : Nat) (c6 : Nat) (c7 : Nat) (c8 : Nat) (c9 : Nat) (c10 : Nat) (c11 : Nat) (c12 : Nat) (c13 : Nat) (c14 : Nat) (c15 : Nat) (c16 : Nat) (c17 : Nat) (c18 : Nat) (c19 : Nat) (c20 : Nat) (c21 : Nat) (c22 : Nat) (c23 : Nat) (c24 : Nat) (c25 : Nat) (sz : Nat) : Met l yX19_replay ow_k_X19_replay ({ frames := 1, cells := 0, slots := 0, locals := 25 }) (va_Pc [.ref c0, .int c3] (fun U => U.heap.size = sz ∧ va_P (dC, dI) vwCl [(c0, .inr (20, [.int 0, .ref c4, .int 0, .int 0, .ref c1, .ref c5, .ref c6, .ref c7, .ref c8, .ref c9, .ref c10, .ref c11, .ref c12, .ref c13, .ref c14, .ref c15, .ref c16, .int 0, .int 0, .int 0, .int 0, .int 0, .int 0, .int 0, .int 0, .int 0, .ref c17, .ref c18, .ref c19, .ref c20, .ref c21, .ref c22, .ref c23, .ref c24, .ref c25, .int 0])), (c1, .inl (c2, 4, .inl (fun _ => 0)))] U.heap ∧ va_K (dC, dI) vwCl [(c2, .boolean)] U ∧ va_D (fun _ => True) [(c0, .inr (20, [.int 0, .ref c4, .int 0, .int 0, .ref c1, .ref c5, .ref c6, .ref c7, .ref c8, .ref c9, .ref c10, .ref c11, .ref c12, .ref c13, .ref c14, .ref c15, .ref c16, .int 0, .int 0, .int 0, .int 0, .int 0, .int 0, .int 0, .int 0, .int 0, .ref c17, .ref c18, .ref c19, .ref c20, .ref c21, .ref c22, .ref c23, .ref c24, .ref c25, .int 0])), (c1, .inl (c2, 4, .inl (fun _ => 0)))] ∧ nv_E (va_A [(c0, .inr (20, [.int 0, .ref c4, .int 0, .int 0, .ref c1, .ref c5, .ref c6, .ref c7, .ref c8, .ref c9, .ref c10, .ref c11, .ref c12, .ref c13, .ref c14, .ref c15, .ref c16, .int 0, .int 0, .int 0, .int 0, .int 0, .int 0, .int 0, .int 0, .int 0, .ref c17, .ref c18, .ref c19, .ref c20, .ref c21, .ref c22, .ref c23, .ref c24, .ref c25, .int 0])), (c1, .inl (c2, 4, .inl (fun _ => 0)))] sz) U)) (va_Qi (fun r u => ((c3 < 0) ∧ (c3 < 0) ∧ r = 0 ∧ u = [(c0, .inr (20, [.int 1, .ref c4, .int 0, .int 0, .ref c1, .ref c5, .ref c6, .ref c7, .ref c8, .ref c9, .ref c10, .ref c11, .ref c12, .ref c13, .ref c14, .ref c15, .ref c16, .int 0, .int 0, .int 0, .int 0, .int 0, .int 0, .int 0, .int 0, .int 0, .ref c17, .ref c18, .ref c19, .ref c20, .ref c21, .ref c22, .ref c23, .ref c24, .ref c25, .int 0]))]) ∨ ((¬ c3 < 0) ∧ (3 < c3) ∧ (¬ c3 < 0) ∧ (3 < c3) ∧ r = 0 ∧ u = [(c0, .inr (20, [.int 1, .ref c4, .int 0, .int 0, .ref c1, .ref c5, .ref c6, .ref c7, .ref c8, .ref c9, .ref c10, .ref c11, .ref c12, .ref c13, .ref c14, .ref c15, .ref c16, .int 0, .int 0, .int 0, .int 0, .int 0, .int 0, .int 0, .int 0, .int 0, .ref c17, .ref c18, .ref c19, .ref c20, .ref c21, .ref c22, .ref c23, .ref c24, .ref c25, .int 0]))]) ∨ ((¬ c3 < 0) ∧ (¬ 3 < c3) ∧ (¬ c3 < 0) ∧ (¬ 3 < c3) ∧ r = 0 ∧ u = [(c0, .inr (20, [.int 2, .ref c4, .int 0, .int 0, .ref c1, .ref c5, .ref c6, .ref c7, .ref c8, .ref c9, .ref c10, .ref c11, .ref c12, .ref c13, .ref c14, .ref c15, .ref c16, .int 0, .int 0, .int 0, .int 0, .int 0, .int 0, .int 0, .int 0, .int 0, .ref c17, .ref c18, .ref c19, .ref c20, .ref c21, .ref c22, .ref c23, .ref c24, .ref c25, .int 0]))]) ∨ False) (fun (u : va_W) t => va_P (dC, dI) vwCl u t.heap ∧ va_K (dC, dI) vwCl [] t ∧ va_D (va_A [(c0, .inr (20, [.int 0, .ref c4, .int 0, .int 0, .ref c1, .ref c5, .ref c6, .ref c7, .ref c8, .ref c9, .ref c10, .ref c11, .ref c12, .ref c13, .ref c14, .ref c15, .ref c16, .int 0, .int 0, .int 0, .int 0, .int 0, .int 0, .int 0, .int 0, .int 0, .ref c17, .ref c18, .ref c19, .ref c20, .ref c21, .ref c22, .ref c23, .ref c24, .ref c25, .int 0])), (c1, .inl (c2, 4, .inl (fun _ => 0)))] sz) u) (va_A [(c0, .inr (20, [.int 0, .ref c4, .int 0, .int 0, .ref c1, .ref c5, .ref c6, .ref c7, .ref c8, .ref c9, .ref c10, .ref c11, .ref c12, .ref c13, .ref c14, .ref c15, .ref c16, .int 0, .int 0, .int 0, .int 0, .int 0, .int 0, .int 0, .int 0, .int 0, .ref c17, .ref c18, .ref c19, .ref c20, .ref c21, .ref c22, .ref c23, .ref c24, .ref c25, .int 0])), (c1, .inl (c2, 4, .inl (fun _ => 0)))] sz)) 0 0 (va_A [(c0, .inr (20, [.int 0, .ref c4, .int 0, .int 0, .ref c1, .ref c5, .ref c6, .ref c7, .ref c8, .ref c9, .ref c10, .ref c11, .ref c12, .ref c13, .ref c14, .ref c15, .ref c16, .int 0, .int 0, .int 0, .int 0, .int 0, .int 0, .int 0, .int 0, .int 0, .ref c17, .ref c18, .ref c19, .ref c20, .ref c21, .ref c22, .ref c23, .ref c24, .ref c25, .int 0])), (c1, .inl (c2, 4, .inl (fun _ => 0)))] sz) := by
  refine Met.ofW (cc := cX19_replay) (maxL := 6) (ret := (some .int)) (by decide) rfl ?_
  intro p e s m args below meth c s₁ B hml hv
  obtain ⟨rfl, hsz, hP, hK, hD0, hN⟩ := hv
  have hx := B.exec
  have hb := B.bytes
  have hr := B.returns
  have hts := atoms_spec (ws := ow_k_X19_replay) B.pre
  have hown : s.vm.findClass RX19 = some m.cls := findClass_of_methodNamed B.named
  have hlocks := B.notSynchronized
  subst hsz
  have hD := hD0.self (sz := s.heap.size)
  generalize hAe : va_A [(c0, .inr (20, [.int 0, .ref c4, .int 0, .int 0, .ref c1, .ref c5, .ref c6, .ref c7, .ref c8, .ref c9, .ref c10, .ref c11, .ref c12, .ref c13, .ref c14, .ref c15, .ref c16, .int 0, .int 0, .int 0, .int 0, .int 0, .int 0, .int 0, .int 0, .int 0, .ref c17, .ref c18, .ref c19, .ref c20, .ref c21, .ref c22, .ref c23, .ref c24, .ref c25, .int 0])), (c1, .inl (c2, 4, .inl (fun _ => 0)))] s.heap.size = A at hD hN ⊢
  have hA : ∀ q : Nat, s.heap.size ≤ q → A q := fun q h => by rw [← hAe]; exact Or.inr h
  have hS : va_S A s.heap s.heap [] := va_S.rf
  have hl := lv_entry ([.ref c0, .int c3]) (n := 6) (Nat.le_of_ble_eq_true rfl)
  rw [lg_entry_eq]
  generalize (lg_sl ([.ref c0, .int c3]) ++ List.replicate (6 - (lg_sl ([.ref c0, .int c3])).length) Slot.unset).toArray = ls at hl ⊢
  have hl : lv_has ls 6 [(0, .ref c0), (1, .int c3)] := hl
  refine lv_aload_n hx hb dX19_replay_0 rfl (lv_at hl 0 rfl) ?_
  refine lv_iload_n hx hb dX19_replay_1 rfl (lv_at hl 1 rfl) ?_
  refine lv_i2l hx hb dX19_replay_2 rfl ?_
  refine lv_lconst (v := 0) hx hb dX19_replay_3 (by decide) ?_
  refine lv_ldc2 hx hb hown (hts (.constantLong RX19 134 (3)) (List.mem_of_getElem? (i := 1) rfl)) dX19_replay_4 ?_
  have hPc := hP.sub (ws' := []) [] rfl
  have hDc := hD.sub (ws' := []) [] (by decide) rfl
  have hKc := hK.sub (tys' := []) [] rfl
  have hFc := va_free (wc := []) hD hS hA [] rfl
  refine va_calli (va_runS (As := [.long (c3.toInt64), .long 0, .long 3]) (rest := [.ref c0]) ⟨hx, hb, hml, hown, hts⟩ (k_X19_in l hlt dC dI c3  s.heap.size) (cwS 3 hts gi_k_X19_replay_0 rfl rfl rfl (by decide +kernel) ⟨Nat.le_of_ble_eq_true rfl, Nat.le_of_ble_eq_true rfl⟩) ⟨fun a U g mk q => by obtain ⟨q0, q1, qP, qK, qD, qN⟩ := q; exact ⟨q0, q1, qP, va_K.moved (u := U) (U := U.calling g mk a) (Vm.Alike.refl U.vm) qK, qD, nv_same rfl rfl qN⟩, fun U hU hW => ⟨rfl, by rw [hU], by rw [hU]; exact hPc, va_K.moved hW.alike hKc, hDc.weaken (fun _ _ _ _ => trivial), nv_call hS hFc hU hW hN⟩⟩ rfl rfl hl.1 rfl (lv_room (Nat.le_of_ble_eq_true rfl)) dX19_replay_7 ⟨by decide +kernel, by decide +kernel⟩) hS (fun q _ h => hFc q h) hFc (fun r1 u t H1 locs ht hvm hw hB hz1 hk1 hS => ?_)
  obtain ⟨hP1, hK1, hD1⟩ := hB
  rw [ht] at hP1
  have hK1 := va_K.moved hvm.symm hK1
  obtain ⟨hP, hD⟩ := va_join (wr := [(c0, .inr (20, [.int 0, .ref c4, .int 0, .int 0, .ref c1, .ref c5, .ref c6, .ref c7, .ref c8, .ref c9, .ref c10, .ref c11, .ref c12, .ref c13, .ref c14, .ref c15, .ref c16, .int 0, .int 0, .int 0, .int 0, .int 0, .int 0, .int 0, .int 0, .int 0, .ref c17, .ref c18, .ref c19, .ref c20, .ref c21, .ref c22, .ref c23, .ref c24, .ref c25, .int 0])), (c1, .inl (c2, 4, .inl (fun _ => 0)))]) (w1 := []) hP hD [] [0, 1] rfl rfl (by decide) (by decide) hk1 hFc hP1 hD1
  have hK := (hK.sub (tys' := [(c2, .boolean)]) [0] rfl).app hK1
  generalize H1 = H at hP hS ⊢
  have hP : va_P (dC, dI) vwCl [(c0, .inr (20, [.int 0, .ref c4, .int 0, .int 0, .ref c1, .ref c5, .ref c6, .ref c7, .ref c8, .ref c9, .ref c10, .ref c11, .ref c12, .ref c13, .ref c14, .ref c15, .ref c16, .int 0, .int 0, .int 0, .int 0, .int 0, .int 0, .int 0, .int 0, .int 0, .ref c17, .ref c18, .ref c19, .ref c20, .ref c21, .ref c22, .ref c23, .ref c24, .ref c25, .int 0])), (c1, .inl (c2, 4, .inl (fun _ => 0)))] H := hP
  have hD : va_D A [(c0, .inr (20, [.int 0, .ref c4, .int 0, .int 0, .ref c1, .ref c5, .ref c6, .ref c7, .ref c8, .ref c9, .ref c10, .ref c11, .ref c12, .ref c13, .ref c14, .ref c15, .ref c16, .int 0, .int 0, .int 0, .int 0, .int 0, .int 0, .int 0, .int 0, .int 0, .ref c17, .ref c18, .ref c19, .ref c20, .ref c21, .ref c22, .ref c23, .ref c24, .ref c25, .int 0])), (c1, .inl (c2, 4, .inl (fun _ => 0)))] := hD
  have hK : va_K (dC, dI) vwCl [(c2, .boolean)] s := hK
  refine W.widen (k := 0) (n := 0) (by decide +kernel) (by decide +kernel) ?_
  rcases hw with ⟨c_1_0, h9⟩ | ⟨c_1_0, c_1_1, h9⟩ | ⟨c_1_0, c_1_1, h9⟩ | h9
  · subst h9
    refine lv_if_ne (tgt := 17) hx hb dX19_replay_10 (by decide) (fun h9 => absurd h9 (by decide)) (fun _ => ?_)
    refine lv_iconst (v := 1) hx hb dX19_replay_13 (by decide) ?_
    refine lv_goto (tgt := 18) hx hb dX19_replay_14 (by decide) ?_
    refine lv_iload_n hx hb dX19_replay_18 rfl (lv_at hl 1 rfl) ?_
    refine lv_i2l hx hb dX19_replay_19 rfl ?_
    refine lv_lconst (v := 0) hx hb dX19_replay_20 (by decide) ?_
    refine lv_ldc2 hx hb hown (hts (.constantLong RX19 134 (3)) (List.mem_of_getElem? (i := 1) rfl)) dX19_replay_21 ?_
    have hPc := hP.sub (ws' := []) [] rfl
    have hDc := hD.sub (ws' := []) [] (by decide) rfl
    have hKc := hK.sub (tys' := []) [] rfl
    have hFc := va_free (wc := []) hD hS hA [] rfl
    refine va_calli (va_runS (As := [.long (c3.toInt64), .long 0, .long 3]) (rest := [.int 1, .ref c0]) ⟨hx, hb, hml, hown, hts⟩ (k_X19_in l hlt dC dI c3  H.size) (cwS 3 hts gi_k_X19_replay_0 rfl rfl rfl (by decide +kernel) ⟨Nat.le_of_ble_eq_true rfl, Nat.le_of_ble_eq_true rfl⟩) ⟨fun a U g mk q => by obtain ⟨q0, q1, qP, qK, qD, qN⟩ := q; exact ⟨q0, q1, qP, va_K.moved (u := U) (U := U.calling g mk a) (Vm.Alike.refl U.vm) qK, qD, nv_same rfl rfl qN⟩, fun U hU hW => ⟨rfl, by rw [hU], by rw [hU]; exact hPc, va_K.moved hW.alike hKc, hDc.weaken (fun _ _ _ _ => trivial), nv_call hS hFc hU hW hN⟩⟩ rfl rfl hl.1 rfl (lv_room (Nat.le_of_ble_eq_true rfl)) dX19_replay_24 ⟨by decide +kernel, by decide +kernel⟩) hS (fun q _ h => hFc q h) hFc (fun r2 u t H1 locs ht hvm hw hB hz1 hk1 hS => ?_)
    obtain ⟨hP1, hK1, hD1⟩ := hB
    rw [ht] at hP1
    have hK1 := va_K.moved hvm.symm hK1
    obtain ⟨hP, hD⟩ := va_join (wr := [(c0, .inr (20, [.int 0, .ref c4, .int 0, .int 0, .ref c1, .ref c5, .ref c6, .ref c7, .ref c8, .ref c9, .ref c10, .ref c11, .ref c12, .ref c13, .ref c14, .ref c15, .ref c16, .int 0, .int 0, .int 0, .int 0, .int 0, .int 0, .int 0, .int 0, .int 0, .ref c17, .ref c18, .ref c19, .ref c20, .ref c21, .ref c22, .ref c23, .ref c24, .ref c25, .int 0])), (c1, .inl (c2, 4, .inl (fun _ => 0)))]) (w1 := []) hP hD [] [0, 1] rfl rfl (by decide) (by decide) hk1 hFc hP1 hD1
    have hK := (hK.sub (tys' := [(c2, .boolean)]) [0] rfl).app hK1
    generalize H1 = H at hP hS ⊢
    have hP : va_P (dC, dI) vwCl [(c0, .inr (20, [.int 0, .ref c4, .int 0, .int 0, .ref c1, .ref c5, .ref c6, .ref c7, .ref c8, .ref c9, .ref c10, .ref c11, .ref c12, .ref c13, .ref c14, .ref c15, .ref c16, .int 0, .int 0, .int 0, .int 0, .int 0, .int 0, .int 0, .int 0, .int 0, .ref c17, .ref c18, .ref c19, .ref c20, .ref c21, .ref c22, .ref c23, .ref c24, .ref c25, .int 0])), (c1, .inl (c2, 4, .inl (fun _ => 0)))] H := hP
    have hD : va_D A [(c0, .inr (20, [.int 0, .ref c4, .int 0, .int 0, .ref c1, .ref c5, .ref c6, .ref c7, .ref c8, .ref c9, .ref c10, .ref c11, .ref c12, .ref c13, .ref c14, .ref c15, .ref c16, .int 0, .int 0, .int 0, .int 0, .int 0, .int 0, .int 0, .int 0, .int 0, .ref c17, .ref c18, .ref c19, .ref c20, .ref c21, .ref c22, .ref c23, .ref c24, .ref c25, .int 0])), (c1, .inl (c2, 4, .inl (fun _ => 0)))] := hD
    have hK : va_K (dC, dI) vwCl [(c2, .boolean)] s := hK
    refine W.widen (k := 0) (n := 0) (by decide +kernel) (by decide +kernel) ?_
    rcases hw with ⟨c_2_0, h9⟩ | ⟨c_2_0, c_2_1, h9⟩ | ⟨c_2_0, c_2_1, h9⟩ | h9
    · subst h9
      refine lv_if_eq (tgt := 45) hx hb dX19_replay_27 (by decide) (fun _ => ?_) (fun h9 => absurd (by decide) h9)
      refine lv_iconst (v := 0) hx hb dX19_replay_45 (by decide) ?_
      have hPc := hP.sub (ws' := [(c0, .inr (20, [.int 0, .ref c4, .int 0, .int 0, .ref c1, .ref c5, .ref c6, .ref c7, .ref c8, .ref c9, .ref c10, .ref c11, .ref c12, .ref c13, .ref c14, .ref c15, .ref c16, .int 0, .int 0, .int 0, .int 0, .int 0, .int 0, .int 0, .int 0, .int 0, .ref c17, .ref c18, .ref c19, .ref c20, .ref c21, .ref c22, .ref c23, .ref c24, .ref c25, .int 0]))]) [0] rfl
      have hDc := hD.sub (ws' := [(c0, .inr (20, [.int 0, .ref c4, .int 0, .int 0, .ref c1, .ref c5, .ref c6, .ref c7, .ref c8, .ref c9, .ref c10, .ref c11, .ref c12, .ref c13, .ref c14, .ref c15, .ref c16, .int 0, .int 0, .int 0, .int 0, .int 0, .int 0, .int 0, .int 0, .int 0, .ref c17, .ref c18, .ref c19, .ref c20, .ref c21, .ref c22, .ref c23, .ref c24, .ref c25, .int 0]))]) [0] (by decide) rfl
      have hKc := hK.sub (tys' := []) [] rfl
      have hFc := va_free (wc := [(c0, .inr (20, [.int 0, .ref c4, .int 0, .int 0, .ref c1, .ref c5, .ref c6, .ref c7, .ref c8, .ref c9, .ref c10, .ref c11, .ref c12, .ref c13, .ref c14, .ref c15, .ref c16, .int 0, .int 0, .int 0, .int 0, .int 0, .int 0, .int 0, .int 0, .int 0, .ref c17, .ref c18, .ref c19, .ref c20, .ref c21, .ref c22, .ref c23, .ref c24, .ref c25, .int 0]))]) hD hS hA [0] rfl
      refine va_calli (va_runV (As := [.int 1, .int 0]) (rest := []) ⟨hx, hb, hml, hown, hts⟩ (k_X19_fails l hlt dC dI c0 c4 c1 c5 c6 c7 c8 c9 c10 c11 c12 c13 c14 c15 c16 c17 c18 c19 c20 c21 c22 c23 c24 c25  H.size) (cwV 2 hts gi_k_X19_replay_1 rfl rfl rfl (by decide +kernel) ⟨Nat.le_of_ble_eq_true rfl, Nat.le_of_ble_eq_true rfl⟩) ⟨fun a U g mk q => by obtain ⟨q0, q1, qP, qK, qD, qN⟩ := q; exact ⟨q0, q1, qP, va_K.moved (u := U) (U := U.calling g mk a) (Vm.Alike.refl U.vm) qK, qD, nv_same rfl rfl qN⟩, va_recv hKc hPc (ci := 20) (q0 := 0) rfl rfl, fun U hU hW => ⟨rfl, by rw [hU], by rw [hU]; exact hPc, va_K.moved hW.alike hKc, hDc.weaken (fun _ _ _ _ => trivial), nv_call hS hFc hU hW hN⟩⟩ rfl rfl hl.1 rfl (lv_room (Nat.le_of_ble_eq_true rfl)) dX19_replay_46 ⟨by decide +kernel, by decide +kernel⟩) hS (fun q _ h => hFc q h) hFc (fun r3 u t H1 locs ht hvm hw hB hz1 hk1 hS => ?_)
      obtain ⟨hP1, hK1, hD1⟩ := hB
      rw [ht] at hP1
      have hK1 := va_K.moved hvm.symm hK1
      obtain rfl : r3 = 1 := hw
      obtain ⟨hP, hD⟩ := va_join (wr := [(c1, .inl (c2, 4, .inl (fun _ => 0)))]) (w1 := [(c0, .inr (20, [.int 1, .ref c4, .int 0, .int 0, .ref c1, .ref c5, .ref c6, .ref c7, .ref c8, .ref c9, .ref c10, .ref c11, .ref c12, .ref c13, .ref c14, .ref c15, .ref c16, .int 0, .int 0, .int 0, .int 0, .int 0, .int 0, .int 0, .int 0, .int 0, .ref c17, .ref c18, .ref c19, .ref c20, .ref c21, .ref c22, .ref c23, .ref c24, .ref c25, .int 0]))]) hP hD [0] [1] rfl rfl (by decide) (by decide) hk1 hFc hP1 hD1
      have hK := (hK.sub (tys' := [(c2, .boolean)]) [0] rfl).app hK1
      generalize H1 = H at hP hS ⊢
      have hP : va_P (dC, dI) vwCl [(c1, .inl (c2, 4, .inl (fun _ => 0))), (c0, .inr (20, [.int 1, .ref c4, .int 0, .int 0, .ref c1, .ref c5, .ref c6, .ref c7, .ref c8, .ref c9, .ref c10, .ref c11, .ref c12, .ref c13, .ref c14, .ref c15, .ref c16, .int 0, .int 0, .int 0, .int 0, .int 0, .int 0, .int 0, .int 0, .int 0, .ref c17, .ref c18, .ref c19, .ref c20, .ref c21, .ref c22, .ref c23, .ref c24, .ref c25, .int 0]))] H := hP
      have hD : va_D A [(c1, .inl (c2, 4, .inl (fun _ => 0))), (c0, .inr (20, [.int 1, .ref c4, .int 0, .int 0, .ref c1, .ref c5, .ref c6, .ref c7, .ref c8, .ref c9, .ref c10, .ref c11, .ref c12, .ref c13, .ref c14, .ref c15, .ref c16, .int 0, .int 0, .int 0, .int 0, .int 0, .int 0, .int 0, .int 0, .int 0, .ref c17, .ref c18, .ref c19, .ref c20, .ref c21, .ref c22, .ref c23, .ref c24, .ref c25, .int 0]))] := hD
      have hK : va_K (dC, dI) vwCl [(c2, .boolean)] s := hK
      refine W.widen (k := 0) (n := 0) (by decide +kernel) (by decide +kernel) ?_
      refine lv_if_eq (tgt := 54) hx hb dX19_replay_49 (by decide) (fun h9 => absurd h9 (by decide)) (fun _ => ?_)
      refine lv_iconst (v := 0) hx hb dX19_replay_52 (by decide) ?_
      refine W.widen (k := 0) (n := 0) (by decide +kernel) (by decide +kernel) ?_
      exact W.iret (v := 0) hx hb hr (fun t ht hW => ⟨⟨0, [(c0, .inr (20, [.int 1, .ref c4, .int 0, .int 0, .ref c1, .ref c5, .ref c6, .ref c7, .ref c8, .ref c9, .ref c10, .ref c11, .ref c12, .ref c13, .ref c14, .ref c15, .ref c16, .int 0, .int 0, .int 0, .int 0, .int 0, .int 0, .int 0, .int 0, .int 0, .ref c17, .ref c18, .ref c19, .ref c20, .ref c21, .ref c22, .ref c23, .ref c24, .ref c25, .int 0]))], rfl, Or.inl ⟨c_1_0, c_2_0, rfl, rfl⟩, by rw [ht]; exact hP.sub (ws' := [(c0, .inr (20, [.int 1, .ref c4, .int 0, .int 0, .ref c1, .ref c5, .ref c6, .ref c7, .ref c8, .ref c9, .ref c10, .ref c11, .ref c12, .ref c13, .ref c14, .ref c15, .ref c16, .int 0, .int 0, .int 0, .int 0, .int 0, .int 0, .int 0, .int 0, .int 0, .ref c17, .ref c18, .ref c19, .ref c20, .ref c21, .ref c22, .ref c23, .ref c24, .ref c25, .int 0]))]) [1] rfl, va_K.moved hW.alike (hK.sub (tys' := []) [] rfl), hD.sub (ws' := [(c0, .inr (20, [.int 1, .ref c4, .int 0, .int 0, .ref c1, .ref c5, .ref c6, .ref c7, .ref c8, .ref c9, .ref c10, .ref c11, .ref c12, .ref c13, .ref c14, .ref c15, .ref c16, .int 0, .int 0, .int 0, .int 0, .int 0, .int 0, .int 0, .int 0, .int 0, .ref c17, .ref c18, .ref c19, .ref c20, .ref c21, .ref c22, .ref c23, .ref c24, .ref c25, .int 0]))]) [1] (by decide) rfl⟩, hS.F ht⟩) hS.2.2 dX19_replay_53
    · exact absurd c_1_0 c_2_0
    · exact absurd c_1_0 c_2_0
    · exact h9.elim
  · subst h9
    refine lv_if_ne (tgt := 17) hx hb dX19_replay_10 (by decide) (fun h9 => absurd h9 (by decide)) (fun _ => ?_)
    refine lv_iconst (v := 1) hx hb dX19_replay_13 (by decide) ?_
    refine lv_goto (tgt := 18) hx hb dX19_replay_14 (by decide) ?_
    refine lv_iload_n hx hb dX19_replay_18 rfl (lv_at hl 1 rfl) ?_
    refine lv_i2l hx hb dX19_replay_19 rfl ?_
    refine lv_lconst (v := 0) hx hb dX19_replay_20 (by decide) ?_
    refine lv_ldc2 hx hb hown (hts (.constantLong RX19 134 (3)) (List.mem_of_getElem? (i := 1) rfl)) dX19_replay_21 ?_
    have hPc := hP.sub (ws' := []) [] rfl
    have hDc := hD.sub (ws' := []) [] (by decide) rfl
    have hKc := hK.sub (tys' := []) [] rfl
    have hFc := va_free (wc := []) hD hS hA [] rfl
    refine va_calli (va_runS (As := [.long (c3.toInt64), .long 0, .long 3]) (rest := [.int 1, .ref c0]) ⟨hx, hb, hml, hown, hts⟩ (k_X19_in l hlt dC dI c3  H.size) (cwS 3 hts gi_k_X19_replay_0 rfl rfl rfl (by decide +kernel) ⟨Nat.le_of_ble_eq_true rfl, Nat.le_of_ble_eq_true rfl⟩) ⟨fun a U g mk q => by obtain ⟨q0, q1, qP, qK, qD, qN⟩ := q; exact ⟨q0, q1, qP, va_K.moved (u := U) (U := U.calling g mk a) (Vm.Alike.refl U.vm) qK, qD, nv_same rfl rfl qN⟩, fun U hU hW => ⟨rfl, by rw [hU], by rw [hU]; exact hPc, va_K.moved hW.alike hKc, hDc.weaken (fun _ _ _ _ => trivial), nv_call hS hFc hU hW hN⟩⟩ rfl rfl hl.1 rfl (lv_room (Nat.le_of_ble_eq_true rfl)) dX19_replay_24 ⟨by decide +kernel, by decide +kernel⟩) hS (fun q _ h => hFc q h) hFc (fun r4 u t H1 locs ht hvm hw hB hz1 hk1 hS => ?_)
    obtain ⟨hP1, hK1, hD1⟩ := hB
    rw [ht] at hP1
    have hK1 := va_K.moved hvm.symm hK1
    obtain ⟨hP, hD⟩ := va_join (wr := [(c0, .inr (20, [.int 0, .ref c4, .int 0, .int 0, .ref c1, .ref c5, .ref c6, .ref c7, .ref c8, .ref c9, .ref c10, .ref c11, .ref c12, .ref c13, .ref c14, .ref c15, .ref c16, .int 0, .int 0, .int 0, .int 0, .int 0, .int 0, .int 0, .int 0, .int 0, .ref c17, .ref c18, .ref c19, .ref c20, .ref c21, .ref c22, .ref c23, .ref c24, .ref c25, .int 0])), (c1, .inl (c2, 4, .inl (fun _ => 0)))]) (w1 := []) hP hD [] [0, 1] rfl rfl (by decide) (by decide) hk1 hFc hP1 hD1
    have hK := (hK.sub (tys' := [(c2, .boolean)]) [0] rfl).app hK1
    generalize H1 = H at hP hS ⊢
    have hP : va_P (dC, dI) vwCl [(c0, .inr (20, [.int 0, .ref c4, .int 0, .int 0, .ref c1, .ref c5, .ref c6, .ref c7, .ref c8, .ref c9, .ref c10, .ref c11, .ref c12, .ref c13, .ref c14, .ref c15, .ref c16, .int 0, .int 0, .int 0, .int 0, .int 0, .int 0, .int 0, .int 0, .int 0, .ref c17, .ref c18, .ref c19, .ref c20, .ref c21, .ref c22, .ref c23, .ref c24, .ref c25, .int 0])), (c1, .inl (c2, 4, .inl (fun _ => 0)))] H := hP
    have hD : va_D A [(c0, .inr (20, [.int 0, .ref c4, .int 0, .int 0, .ref c1, .ref c5, .ref c6, .ref c7, .ref c8, .ref c9, .ref c10, .ref c11, .ref c12, .ref c13, .ref c14, .ref c15, .ref c16, .int 0, .int 0, .int 0, .int 0, .int 0, .int 0, .int 0, .int 0, .int 0, .ref c17, .ref c18, .ref c19, .ref c20, .ref c21, .ref c22, .ref c23, .ref c24, .ref c25, .int 0])), (c1, .inl (c2, 4, .inl (fun _ => 0)))] := hD
    have hK : va_K (dC, dI) vwCl [(c2, .boolean)] s := hK
    refine W.widen (k := 0) (n := 0) (by decide +kernel) (by decide +kernel) ?_
    rcases hw with ⟨c_3_0, h9⟩ | ⟨c_3_0, c_3_1, h9⟩ | ⟨c_3_0, c_3_1, h9⟩ | h9
    · exact absurd c_3_0 c_1_0
    · subst h9
      refine lv_if_eq (tgt := 45) hx hb dX19_replay_27 (by decide) (fun _ => ?_) (fun h9 => absurd (by decide) h9)
      refine lv_iconst (v := 0) hx hb dX19_replay_45 (by decide) ?_
      have hPc := hP.sub (ws' := [(c0, .inr (20, [.int 0, .ref c4, .int 0, .int 0, .ref c1, .ref c5, .ref c6, .ref c7, .ref c8, .ref c9, .ref c10, .ref c11, .ref c12, .ref c13, .ref c14, .ref c15, .ref c16, .int 0, .int 0, .int 0, .int 0, .int 0, .int 0, .int 0, .int 0, .int 0, .ref c17, .ref c18, .ref c19, .ref c20, .ref c21, .ref c22, .ref c23, .ref c24, .ref c25, .int 0]))]) [0] rfl
      have hDc := hD.sub (ws' := [(c0, .inr (20, [.int 0, .ref c4, .int 0, .int 0, .ref c1, .ref c5, .ref c6, .ref c7, .ref c8, .ref c9, .ref c10, .ref c11, .ref c12, .ref c13, .ref c14, .ref c15, .ref c16, .int 0, .int 0, .int 0, .int 0, .int 0, .int 0, .int 0, .int 0, .int 0, .ref c17, .ref c18, .ref c19, .ref c20, .ref c21, .ref c22, .ref c23, .ref c24, .ref c25, .int 0]))]) [0] (by decide) rfl
      have hKc := hK.sub (tys' := []) [] rfl
      have hFc := va_free (wc := [(c0, .inr (20, [.int 0, .ref c4, .int 0, .int 0, .ref c1, .ref c5, .ref c6, .ref c7, .ref c8, .ref c9, .ref c10, .ref c11, .ref c12, .ref c13, .ref c14, .ref c15, .ref c16, .int 0, .int 0, .int 0, .int 0, .int 0, .int 0, .int 0, .int 0, .int 0, .ref c17, .ref c18, .ref c19, .ref c20, .ref c21, .ref c22, .ref c23, .ref c24, .ref c25, .int 0]))]) hD hS hA [0] rfl
      refine va_calli (va_runV (As := [.int 1, .int 0]) (rest := []) ⟨hx, hb, hml, hown, hts⟩ (k_X19_fails l hlt dC dI c0 c4 c1 c5 c6 c7 c8 c9 c10 c11 c12 c13 c14 c15 c16 c17 c18 c19 c20 c21 c22 c23 c24 c25  H.size) (cwV 2 hts gi_k_X19_replay_1 rfl rfl rfl (by decide +kernel) ⟨Nat.le_of_ble_eq_true rfl, Nat.le_of_ble_eq_true rfl⟩) ⟨fun a U g mk q => by obtain ⟨q0, q1, qP, qK, qD, qN⟩ := q; exact ⟨q0, q1, qP, va_K.moved (u := U) (U := U.calling g mk a) (Vm.Alike.refl U.vm) qK, qD, nv_same rfl rfl qN⟩, va_recv hKc hPc (ci := 20) (q0 := 0) rfl rfl, fun U hU hW => ⟨rfl, by rw [hU], by rw [hU]; exact hPc, va_K.moved hW.alike hKc, hDc.weaken (fun _ _ _ _ => trivial), nv_call hS hFc hU hW hN⟩⟩ rfl rfl hl.1 rfl (lv_room (Nat.le_of_ble_eq_true rfl)) dX19_replay_46 ⟨by decide +kernel, by decide +kernel⟩) hS (fun q _ h => hFc q h) hFc (fun r5 u t H1 locs ht hvm hw hB hz1 hk1 hS => ?_)
      obtain ⟨hP1, hK1, hD1⟩ := hB
      rw [ht] at hP1
      have hK1 := va_K.moved hvm.symm hK1
      obtain rfl : r5 = 1 := hw
      obtain ⟨hP, hD⟩ := va_join (wr := [(c1, .inl (c2, 4, .inl (fun _ => 0)))]) (w1 := [(c0, .inr (20, [.int 1, .ref c4, .int 0, .int 0, .ref c1, .ref c5, .ref c6, .ref c7, .ref c8, .ref c9, .ref c10, .ref c11, .ref c12, .ref c13, .ref c14, .ref c15, .ref c16, .int 0, .int 0, .int 0, .int 0, .int 0, .int 0, .int 0, .int 0, .int 0, .ref c17, .ref c18, .ref c19, .ref c20, .ref c21, .ref c22, .ref c23, .ref c24, .ref c25, .int 0]))]) hP hD [0] [1] rfl rfl (by decide) (by decide) hk1 hFc hP1 hD1
      have hK := (hK.sub (tys' := [(c2, .boolean)]) [0] rfl).app hK1
      generalize H1 = H at hP hS ⊢
      have hP : va_P (dC, dI) vwCl [(c1, .inl (c2, 4, .inl (fun _ => 0))), (c0, .inr (20, [.int 1, .ref c4, .int 0, .int 0, .ref c1, .ref c5, .ref c6, .ref c7, .ref c8, .ref c9, .ref c10, .ref c11, .ref c12, .ref c13, .ref c14, .ref c15, .ref c16, .int 0, .int 0, .int 0, .int 0, .int 0, .int 0, .int 0, .int 0, .int 0, .ref c17, .ref c18, .ref c19, .ref c20, .ref c21, .ref c22, .ref c23, .ref c24, .ref c25, .int 0]))] H := hP
      have hD : va_D A [(c1, .inl (c2, 4, .inl (fun _ => 0))), (c0, .inr (20, [.int 1, .ref c4, .int 0, .int 0, .ref c1, .ref c5, .ref c6, .ref c7, .ref c8, .ref c9, .ref c10, .ref c11, .ref c12, .ref c13, .ref c14, .ref c15, .ref c16, .int 0, .int 0, .int 0, .int 0, .int 0, .int 0, .int 0, .int 0, .int 0, .ref c17, .ref c18, .ref c19, .ref c20, .ref c21, .ref c22, .ref c23, .ref c24, .ref c25, .int 0]))] := hD
      have hK : va_K (dC, dI) vwCl [(c2, .boolean)] s := hK
      refine W.widen (k := 0) (n := 0) (by decide +kernel) (by decide +kernel) ?_
      refine lv_if_eq (tgt := 54) hx hb dX19_replay_49 (by decide) (fun h9 => absurd h9 (by decide)) (fun _ => ?_)
      refine lv_iconst (v := 0) hx hb dX19_replay_52 (by decide) ?_
      refine W.widen (k := 0) (n := 0) (by decide +kernel) (by decide +kernel) ?_
      exact W.iret (v := 0) hx hb hr (fun t ht hW => ⟨⟨0, [(c0, .inr (20, [.int 1, .ref c4, .int 0, .int 0, .ref c1, .ref c5, .ref c6, .ref c7, .ref c8, .ref c9, .ref c10, .ref c11, .ref c12, .ref c13, .ref c14, .ref c15, .ref c16, .int 0, .int 0, .int 0, .int 0, .int 0, .int 0, .int 0, .int 0, .int 0, .ref c17, .ref c18, .ref c19, .ref c20, .ref c21, .ref c22, .ref c23, .ref c24, .ref c25, .int 0]))], rfl, Or.inr (Or.inl ⟨c_1_0, c_1_1, c_3_0, c_3_1, rfl, rfl⟩), by rw [ht]; exact hP.sub (ws' := [(c0, .inr (20, [.int 1, .ref c4, .int 0, .int 0, .ref c1, .ref c5, .ref c6, .ref c7, .ref c8, .ref c9, .ref c10, .ref c11, .ref c12, .ref c13, .ref c14, .ref c15, .ref c16, .int 0, .int 0, .int 0, .int 0, .int 0, .int 0, .int 0, .int 0, .int 0, .ref c17, .ref c18, .ref c19, .ref c20, .ref c21, .ref c22, .ref c23, .ref c24, .ref c25, .int 0]))]) [1] rfl, va_K.moved hW.alike (hK.sub (tys' := []) [] rfl), hD.sub (ws' := [(c0, .inr (20, [.int 1, .ref c4, .int 0, .int 0, .ref c1, .ref c5, .ref c6, .ref c7, .ref c8, .ref c9, .ref c10, .ref c11, .ref c12, .ref c13, .ref c14, .ref c15, .ref c16, .int 0, .int 0, .int 0, .int 0, .int 0, .int 0, .int 0, .int 0, .int 0, .ref c17, .ref c18, .ref c19, .ref c20, .ref c21, .ref c22, .ref c23, .ref c24, .ref c25, .int 0]))]) [1] (by decide) rfl⟩, hS.F ht⟩) hS.2.2 dX19_replay_53
    · exact absurd c_1_1 c_3_1
    · exact h9.elim
  · subst h9
    refine lv_if_ne (tgt := 17) hx hb dX19_replay_10 (by decide) (fun _ => ?_) (fun h9 => absurd h9 (by decide))
    refine lv_iconst (v := 0) hx hb dX19_replay_17 (by decide) ?_
    refine lv_iload_n hx hb dX19_replay_18 rfl (lv_at hl 1 rfl) ?_
    refine lv_i2l hx hb dX19_replay_19 rfl ?_
    refine lv_lconst (v := 0) hx hb dX19_replay_20 (by decide) ?_
    refine lv_ldc2 hx hb hown (hts (.constantLong RX19 134 (3)) (List.mem_of_getElem? (i := 1) rfl)) dX19_replay_21 ?_
    have hPc := hP.sub (ws' := []) [] rfl
    have hDc := hD.sub (ws' := []) [] (by decide) rfl
    have hKc := hK.sub (tys' := []) [] rfl
    have hFc := va_free (wc := []) hD hS hA [] rfl
    refine va_calli (va_runS (As := [.long (c3.toInt64), .long 0, .long 3]) (rest := [.int 0, .ref c0]) ⟨hx, hb, hml, hown, hts⟩ (k_X19_in l hlt dC dI c3  H.size) (cwS 3 hts gi_k_X19_replay_0 rfl rfl rfl (by decide +kernel) ⟨Nat.le_of_ble_eq_true rfl, Nat.le_of_ble_eq_true rfl⟩) ⟨fun a U g mk q => by obtain ⟨q0, q1, qP, qK, qD, qN⟩ := q; exact ⟨q0, q1, qP, va_K.moved (u := U) (U := U.calling g mk a) (Vm.Alike.refl U.vm) qK, qD, nv_same rfl rfl qN⟩, fun U hU hW => ⟨rfl, by rw [hU], by rw [hU]; exact hPc, va_K.moved hW.alike hKc, hDc.weaken (fun _ _ _ _ => trivial), nv_call hS hFc hU hW hN⟩⟩ rfl rfl hl.1 rfl (lv_room (Nat.le_of_ble_eq_true rfl)) dX19_replay_24 ⟨by decide +kernel, by decide +kernel⟩) hS (fun q _ h => hFc q h) hFc (fun r6 u t H1 locs ht hvm hw hB hz1 hk1 hS => ?_)
    obtain ⟨hP1, hK1, hD1⟩ := hB
    rw [ht] at hP1
    have hK1 := va_K.moved hvm.symm hK1
    obtain ⟨hP, hD⟩ := va_join (wr := [(c0, .inr (20, [.int 0, .ref c4, .int 0, .int 0, .ref c1, .ref c5, .ref c6, .ref c7, .ref c8, .ref c9, .ref c10, .ref c11, .ref c12, .ref c13, .ref c14, .ref c15, .ref c16, .int 0, .int 0, .int 0, .int 0, .int 0, .int 0, .int 0, .int 0, .int 0, .ref c17, .ref c18, .ref c19, .ref c20, .ref c21, .ref c22, .ref c23, .ref c24, .ref c25, .int 0])), (c1, .inl (c2, 4, .inl (fun _ => 0)))]) (w1 := []) hP hD [] [0, 1] rfl rfl (by decide) (by decide) hk1 hFc hP1 hD1
    have hK := (hK.sub (tys' := [(c2, .boolean)]) [0] rfl).app hK1
    generalize H1 = H at hP hS ⊢
    have hP : va_P (dC, dI) vwCl [(c0, .inr (20, [.int 0, .ref c4, .int 0, .int 0, .ref c1, .ref c5, .ref c6, .ref c7, .ref c8, .ref c9, .ref c10, .ref c11, .ref c12, .ref c13, .ref c14, .ref c15, .ref c16, .int 0, .int 0, .int 0, .int 0, .int 0, .int 0, .int 0, .int 0, .int 0, .ref c17, .ref c18, .ref c19, .ref c20, .ref c21, .ref c22, .ref c23, .ref c24, .ref c25, .int 0])), (c1, .inl (c2, 4, .inl (fun _ => 0)))] H := hP
    have hD : va_D A [(c0, .inr (20, [.int 0, .ref c4, .int 0, .int 0, .ref c1, .ref c5, .ref c6, .ref c7, .ref c8, .ref c9, .ref c10, .ref c11, .ref c12, .ref c13, .ref c14, .ref c15, .ref c16, .int 0, .int 0, .int 0, .int 0, .int 0, .int 0, .int 0, .int 0, .int 0, .ref c17, .ref c18, .ref c19, .ref c20, .ref c21, .ref c22, .ref c23, .ref c24, .ref c25, .int 0])), (c1, .inl (c2, 4, .inl (fun _ => 0)))] := hD
    have hK : va_K (dC, dI) vwCl [(c2, .boolean)] s := hK
    refine W.widen (k := 0) (n := 0) (by decide +kernel) (by decide +kernel) ?_
    rcases hw with ⟨c_4_0, h9⟩ | ⟨c_4_0, c_4_1, h9⟩ | ⟨c_4_0, c_4_1, h9⟩ | h9
    · exact absurd c_4_0 c_1_0
    · exact absurd c_4_1 c_1_1
    · subst h9
      refine lv_if_eq (tgt := 45) hx hb dX19_replay_27 (by decide) (fun h9 => absurd h9 (by decide)) (fun _ => ?_)
      refine lv_aload_n hx hb dX19_replay_30 rfl (lv_at hl 0 rfl) ?_
      refine va_get (D := (dC, dI)) (ci := 20) (v := .ref c1) (C := RX19) (T := TX19) (N := 36) hx hb hts hi_k_X19_replay_X19 hown hK hP 0 rfl rfl 4 (by decide) (hts (.fieldLink RX19 14 "TimeMachineModel" "isProgram" "[Z") (List.mem_of_getElem? (i := 8) rfl)) (fun _ h9 => h9) rfl dX19_replay_31 ?_
      refine lv_iload_n hx hb dX19_replay_34 rfl (lv_at hl 1 rfl) ?_
      refine lv_iconst (v := 3) hx hb dX19_replay_35 (by decide) ?_
      refine lv_iand hx hb dX19_replay_36 ?_
      refine va_zald (i := (c3 &&& 3)) hx hb hK hP 1 0 rfl rfl (pk_andIn _ 2 (by decide) (by decide)) dX19_replay_37 ?_
      refine lv_topi (fun z7 ez7 => ?_)
      obtain rfl : z7 = 0 := ez7.trans (by decide)
      refine lv_if_ne (tgt := 45) hx hb dX19_replay_38 (by decide) (fun h9 => absurd h9 (by decide)) (fun _ => ?_)
      refine lv_iconst (v := 1) hx hb dX19_replay_41 (by decide) ?_
      refine lv_goto (tgt := 46) hx hb dX19_replay_42 (by decide) ?_
      have hPc := hP.sub (ws' := [(c0, .inr (20, [.int 0, .ref c4, .int 0, .int 0, .ref c1, .ref c5, .ref c6, .ref c7, .ref c8, .ref c9, .ref c10, .ref c11, .ref c12, .ref c13, .ref c14, .ref c15, .ref c16, .int 0, .int 0, .int 0, .int 0, .int 0, .int 0, .int 0, .int 0, .int 0, .ref c17, .ref c18, .ref c19, .ref c20, .ref c21, .ref c22, .ref c23, .ref c24, .ref c25, .int 0]))]) [0] rfl
      have hDc := hD.sub (ws' := [(c0, .inr (20, [.int 0, .ref c4, .int 0, .int 0, .ref c1, .ref c5, .ref c6, .ref c7, .ref c8, .ref c9, .ref c10, .ref c11, .ref c12, .ref c13, .ref c14, .ref c15, .ref c16, .int 0, .int 0, .int 0, .int 0, .int 0, .int 0, .int 0, .int 0, .int 0, .ref c17, .ref c18, .ref c19, .ref c20, .ref c21, .ref c22, .ref c23, .ref c24, .ref c25, .int 0]))]) [0] (by decide) rfl
      have hKc := hK.sub (tys' := []) [] rfl
      have hFc := va_free (wc := [(c0, .inr (20, [.int 0, .ref c4, .int 0, .int 0, .ref c1, .ref c5, .ref c6, .ref c7, .ref c8, .ref c9, .ref c10, .ref c11, .ref c12, .ref c13, .ref c14, .ref c15, .ref c16, .int 0, .int 0, .int 0, .int 0, .int 0, .int 0, .int 0, .int 0, .int 0, .ref c17, .ref c18, .ref c19, .ref c20, .ref c21, .ref c22, .ref c23, .ref c24, .ref c25, .int 0]))]) hD hS hA [0] rfl
      refine va_calli (va_runV (As := [.int 0, .int 1]) (rest := []) ⟨hx, hb, hml, hown, hts⟩ (k_X19_fails_v2 l hlt dC dI c0 c4 c1 c5 c6 c7 c8 c9 c10 c11 c12 c13 c14 c15 c16 c17 c18 c19 c20 c21 c22 c23 c24 c25  H.size) (cwV 2 hts gi_k_X19_replay_2 rfl rfl rfl (by decide +kernel) ⟨Nat.le_of_ble_eq_true rfl, Nat.le_of_ble_eq_true rfl⟩) ⟨fun a U g mk q => by obtain ⟨q0, q1, qP, qK, qD, qN⟩ := q; exact ⟨q0, q1, qP, va_K.moved (u := U) (U := U.calling g mk a) (Vm.Alike.refl U.vm) qK, qD, nv_same rfl rfl qN⟩, va_recv hKc hPc (ci := 20) (q0 := 0) rfl rfl, fun U hU hW => ⟨rfl, by rw [hU], by rw [hU]; exact hPc, va_K.moved hW.alike hKc, hDc.weaken (fun _ _ _ _ => trivial), nv_call hS hFc hU hW hN⟩⟩ rfl rfl hl.1 rfl (lv_room (Nat.le_of_ble_eq_true rfl)) dX19_replay_46 ⟨by decide +kernel, by decide +kernel⟩) hS (fun q _ h => hFc q h) hFc (fun r8 u t H1 locs ht hvm hw hB hz1 hk1 hS => ?_)
      obtain ⟨hP1, hK1, hD1⟩ := hB
      rw [ht] at hP1
      have hK1 := va_K.moved hvm.symm hK1
      obtain rfl : r8 = 1 := hw
      obtain ⟨hP, hD⟩ := va_join (wr := [(c1, .inl (c2, 4, .inl (fun _ => 0)))]) (w1 := [(c0, .inr (20, [.int 2, .ref c4, .int 0, .int 0, .ref c1, .ref c5, .ref c6, .ref c7, .ref c8, .ref c9, .ref c10, .ref c11, .ref c12, .ref c13, .ref c14, .ref c15, .ref c16, .int 0, .int 0, .int 0, .int 0, .int 0, .int 0, .int 0, .int 0, .int 0, .ref c17, .ref c18, .ref c19, .ref c20, .ref c21, .ref c22, .ref c23, .ref c24, .ref c25, .int 0]))]) hP hD [0] [1] rfl rfl (by decide) (by decide) hk1 hFc hP1 hD1
      have hK := (hK.sub (tys' := [(c2, .boolean)]) [0] rfl).app hK1
      generalize H1 = H at hP hS ⊢
      have hP : va_P (dC, dI) vwCl [(c1, .inl (c2, 4, .inl (fun _ => 0))), (c0, .inr (20, [.int 2, .ref c4, .int 0, .int 0, .ref c1, .ref c5, .ref c6, .ref c7, .ref c8, .ref c9, .ref c10, .ref c11, .ref c12, .ref c13, .ref c14, .ref c15, .ref c16, .int 0, .int 0, .int 0, .int 0, .int 0, .int 0, .int 0, .int 0, .int 0, .ref c17, .ref c18, .ref c19, .ref c20, .ref c21, .ref c22, .ref c23, .ref c24, .ref c25, .int 0]))] H := hP
      have hD : va_D A [(c1, .inl (c2, 4, .inl (fun _ => 0))), (c0, .inr (20, [.int 2, .ref c4, .int 0, .int 0, .ref c1, .ref c5, .ref c6, .ref c7, .ref c8, .ref c9, .ref c10, .ref c11, .ref c12, .ref c13, .ref c14, .ref c15, .ref c16, .int 0, .int 0, .int 0, .int 0, .int 0, .int 0, .int 0, .int 0, .int 0, .ref c17, .ref c18, .ref c19, .ref c20, .ref c21, .ref c22, .ref c23, .ref c24, .ref c25, .int 0]))] := hD
      have hK : va_K (dC, dI) vwCl [(c2, .boolean)] s := hK
      refine W.widen (k := 0) (n := 0) (by decide +kernel) (by decide +kernel) ?_
      refine lv_if_eq (tgt := 54) hx hb dX19_replay_49 (by decide) (fun h9 => absurd h9 (by decide)) (fun _ => ?_)
      refine lv_iconst (v := 0) hx hb dX19_replay_52 (by decide) ?_
      refine W.widen (k := 0) (n := 0) (by decide +kernel) (by decide +kernel) ?_
      exact W.iret (v := 0) hx hb hr (fun t ht hW => ⟨⟨0, [(c0, .inr (20, [.int 2, .ref c4, .int 0, .int 0, .ref c1, .ref c5, .ref c6, .ref c7, .ref c8, .ref c9, .ref c10, .ref c11, .ref c12, .ref c13, .ref c14, .ref c15, .ref c16, .int 0, .int 0, .int 0, .int 0, .int 0, .int 0, .int 0, .int 0, .int 0, .ref c17, .ref c18, .ref c19, .ref c20, .ref c21, .ref c22, .ref c23, .ref c24, .ref c25, .int 0]))], rfl, Or.inr (Or.inr (Or.inl ⟨c_1_0, c_1_1, c_4_0, c_4_1, rfl, rfl⟩)), by rw [ht]; exact hP.sub (ws' := [(c0, .inr (20, [.int 2, .ref c4, .int 0, .int 0, .ref c1, .ref c5, .ref c6, .ref c7, .ref c8, .ref c9, .ref c10, .ref c11, .ref c12, .ref c13, .ref c14, .ref c15, .ref c16, .int 0, .int 0, .int 0, .int 0, .int 0, .int 0, .int 0, .int 0, .int 0, .ref c17, .ref c18, .ref c19, .ref c20, .ref c21, .ref c22, .ref c23, .ref c24, .ref c25, .int 0]))]) [1] rfl, va_K.moved hW.alike (hK.sub (tys' := []) [] rfl), hD.sub (ws' := [(c0, .inr (20, [.int 2, .ref c4, .int 0, .int 0, .ref c1, .ref c5, .ref c6, .ref c7, .ref c8, .ref c9, .ref c10, .ref c11, .ref c12, .ref c13, .ref c14, .ref c15, .ref c16, .int 0, .int 0, .int 0, .int 0, .int 0, .int 0, .int 0, .int 0, .int 0, .ref c17, .ref c18, .ref c19, .ref c20, .ref c21, .ref c22, .ref c23, .ref c24, .ref c25, .int 0]))]) [1] (by decide) rfl⟩, hS.F ht⟩) hS.2.2 dX19_replay_53
    · exact h9.elim
  · exact h9.elim
def ow_k_X3_isEvent : List Cond := .code yX3_isEvent cX3_isEvent 4 (some .boolean) :: ([.constantLong RX3 29 (16), .constantLong RX3 31 (1099511627776)] ++ [])
theorem gd_k_X3_isEvent : ∀ w ∈ ow_k_X3_isEvent, (w.onTables && w.keeps) = true ∨ ∃ ty, w = Cond.arrayClass ty := List.forall_mem_cons.mpr ⟨good_of_word rfl, List.forall_mem_append.mpr ⟨fun w h => good_of_word (List.all_eq_true.mp (by decide +kernel) w h), fun _ h => nomatch h⟩⟩
set_option maxHeartbeats 40000000 in
set_option maxRecDepth 100000 in
theorem k_X3_isEvent (l : Launch) (hlt : l.stackTraces = false) (dC : Nat → ClassId) (dI : Nat → Nat → Nat) (c0 : Int32) (c1 : Int64) (c2 : Int32) (sz : Nat) : Met l yX3_isEvent ow_k_X3_isEvent ({ frames := 0, cells := 0, slots := 0, locals := 0 }) (va_Pc [.int c0, .long c1, .int c2] (fun U => U.heap.size = sz ∧ va_P (dC, dI) vwCl [] U.heap ∧ va_K (dC, dI) vwCl [] U ∧ va_D (fun _ => True) [] ∧ nv_E (va_A [] sz) U)) (va_Qi (fun r _ => ((c0 = 0) ∧ (c1 < 0) ∧ r = 0) ∨ ((c0 = 0) ∧ (¬ c1 < 0) ∧ (16 ≤ c1) ∧ r = 0) ∨ ((c0 = 0) ∧ (¬ c1 < 0) ∧ (¬ 16 ≤ c1) ∧ r = 1) ∨ ((¬ c0 = 0) ∧ (c0 = 1) ∧ (c2 < 1) ∧ r = 0) ∨ ((¬ c0 = 0) ∧ (c0 = 1) ∧ (¬ c2 < 1) ∧ (8 < c2) ∧ r = 0) ∨ ((¬ c0 = 0) ∧ (c0 = 1) ∧ (¬ c2 < 1) ∧ (¬ 8 < c2) ∧ r = 1) ∨ ((¬ c0 = 0) ∧ (¬ c0 = 1) ∧ (c0 = 2) ∧ (c1 < 0) ∧ r = 0) ∨ ((¬ c0 = 0) ∧ (¬ c0 = 1) ∧ (c0 = 2) ∧ (¬ c1 < 0) ∧ (16 ≤ c1) ∧ r = 0) ∨ ((¬ c0 = 0) ∧ (¬ c0 = 1) ∧ (c0 = 2) ∧ (¬ c1 < 0) ∧ (¬ 16 ≤ c1) ∧ (c2 < 1) ∧ r = 0) ∨ ((¬ c0 = 0) ∧ (¬ c0 = 1) ∧ (c0 = 2) ∧ (¬ c1 < 0) ∧ (¬ 16 ≤ c1) ∧ (¬ c2 < 1) ∧ (31 < c2) ∧ r = 0) ∨ ((¬ c0 = 0) ∧ (¬ c0 = 1) ∧ (c0 = 2) ∧ (¬ c1 < 0) ∧ (¬ 16 ≤ c1) ∧ (¬ c2 < 1) ∧ (¬ 31 < c2) ∧ r = 1) ∨ ((¬ c0 = 0) ∧ (¬ c0 = 1) ∧ (¬ c0 = 2) ∧ (c0 = 3) ∧ (c1 < 0) ∧ r = 0) ∨ ((¬ c0 = 0) ∧ (¬ c0 = 1) ∧ (¬ c0 = 2) ∧ (c0 = 3) ∧ (¬ c1 < 0) ∧ (1099511627776 < c1) ∧ r = 0) ∨ ((¬ c0 = 0) ∧ (¬ c0 = 1) ∧ (¬ c0 = 2) ∧ (c0 = 3) ∧ (¬ c1 < 0) ∧ (¬ 1099511627776 < c1) ∧ r = 1) ∨ ((¬ c0 = 0) ∧ (¬ c0 = 1) ∧ (¬ c0 = 2) ∧ (¬ c0 = 3) ∧ (¬ c0 = 4) ∧ r = 0) ∨ ((¬ c0 = 0) ∧ (¬ c0 = 1) ∧ (¬ c0 = 2) ∧ (¬ c0 = 3) ∧ (c0 = 4) ∧ r = 1) ∨ False) (fun (_ : Unit) t => va_P (dC, dI) vwCl [] t.heap ∧ va_K (dC, dI) vwCl [] t ∧ va_D (va_A [] sz) []) (va_A [] sz)) 0 0 (va_A [] sz) := by
  refine Met.ofW (cc := cX3_isEvent) (maxL := 4) (ret := (some .boolean)) (by decide) rfl ?_
  intro p e s m args below meth c s₁ B hml hv
  obtain ⟨rfl, hsz, hP, hK, hD0, hN⟩ := hv
  have hx := B.exec
  have hb := B.bytes
  have hr := B.returns
  have hts := atoms_spec (ws := ow_k_X3_isEvent) B.pre
  have hown : s.vm.findClass RX3 = some m.cls := findClass_of_methodNamed B.named
  have hlocks := B.notSynchronized
  subst hsz
  have hD := hD0.self (sz := s.heap.size)
  generalize hAe : va_A [] s.heap.size = A at hD hN ⊢
  have hA : ∀ q : Nat, s.heap.size ≤ q → A q := fun q h => by rw [← hAe]; exact Or.inr h
  have hS : va_S A s.heap s.heap [] := va_S.rf
  have hl := lv_entry ([.int c0, .long c1, .int c2]) (n := 4) (Nat.le_of_ble_eq_true rfl)
  rw [lg_entry_eq]
  generalize (lg_sl ([.int c0, .long c1, .int c2]) ++ List.replicate (4 - (lg_sl ([.int c0, .long c1, .int c2])).length) Slot.unset).toArray = ls at hl ⊢
  have hl : lv_has ls 4 [(0, .int c0), (1, .long c1), (3, .int c2)] := hl
  refine lv_iload_n hx hb dX3_isEvent_0 rfl (lv_at hl 0 rfl) ?_
  by_cases c_1 : c0 = 0
  · refine lv_tableIn (off := 31) (tgt := 32) hx hb dX3_isEvent_1 (by rw [c_1]; decide) (by rw [c_1]; decide) (by rw [c_1]; decide) (by decide) ?_
    refine lv_lload_n hx hb dX3_isEvent_32 rfl (lv_at hl 1 rfl) ?_
    refine lv_lconst (v := 0) hx hb dX3_isEvent_33 (by decide) ?_
    refine W.lcmp hx hb dX3_isEvent_34 ?_
    refine lv_if_lt (tgt := 50) hx hb dX3_isEvent_35 (by decide) (fun h9 => (fun (c_2 : c1 < 0) => ?_) ((nv_cl_lt (a := c1) (b := 0)).mp h9)) (fun h9 => (fun (c_2 : ¬ c1 < 0) => ?_) (fun h8 => h9 ((nv_cl_lt (a := c1) (b := 0)).mpr h8)))
    · refine lv_iconst (v := 0) hx hb dX3_isEvent_50 (by decide) ?_
      refine W.widen (k := 0) (n := 0) (by decide +kernel) (by decide +kernel) ?_
      exact W.zret (v := 0) hx hb hr (by first | rfl | decide) (fun t ht hW => ⟨⟨0, (), rfl, Or.inl ⟨c_1, c_2, rfl⟩, by rw [ht]; exact hP, va_K.moved hW.alike hK, hD⟩, hS.F ht⟩) hS.2.2 dX3_isEvent_51
    · refine lv_lload_n hx hb dX3_isEvent_38 rfl (lv_at hl 1 rfl) ?_
      refine lv_ldc2 hx hb hown (hts (.constantLong RX3 29 (16)) (List.mem_of_getElem? (i := 1) rfl)) dX3_isEvent_39 ?_
      refine W.lcmp hx hb dX3_isEvent_42 ?_
      refine lv_if_ge (tgt := 50) hx hb dX3_isEvent_43 (by decide) (fun h9 => (fun (c_3 : 16 ≤ c1) => ?_) ((nv_cl_ge (a := c1) (b := 16)).mp h9)) (fun h9 => (fun (c_3 : ¬ 16 ≤ c1) => ?_) (fun h8 => h9 ((nv_cl_ge (a := c1) (b := 16)).mpr h8)))
      · refine lv_iconst (v := 0) hx hb dX3_isEvent_50 (by decide) ?_
        refine W.widen (k := 0) (n := 0) (by decide +kernel) (by decide +kernel) ?_
        exact W.zret (v := 0) hx hb hr (by first | rfl | decide) (fun t ht hW => ⟨⟨0, (), rfl, Or.inr (Or.inl ⟨c_1, c_2, c_3, rfl⟩), by rw [ht]; exact hP, va_K.moved hW.alike hK, hD⟩, hS.F ht⟩) hS.2.2 dX3_isEvent_51
      · refine lv_iconst (v := 1) hx hb dX3_isEvent_46 (by decide) ?_
        refine lv_goto (tgt := 51) hx hb dX3_isEvent_47 (by decide) ?_
        refine W.widen (k := 0) (n := 0) (by decide +kernel) (by decide +kernel) ?_
        exact W.zret (v := 1) hx hb hr (by first | rfl | decide) (fun t ht hW => ⟨⟨1, (), rfl, Or.inr (Or.inr (Or.inl ⟨c_1, c_2, c_3, rfl⟩)), by rw [ht]; exact hP, va_K.moved hW.alike hK, hD⟩, hS.F ht⟩) hS.2.2 dX3_isEvent_51
  by_cases c_4 : c0 = 1
  · refine lv_tableIn (off := 51) (tgt := 52) hx hb dX3_isEvent_1 (by rw [c_4]; decide) (by rw [c_4]; decide) (by rw [c_4]; decide) (by decide) ?_
    refine lv_iload_n hx hb dX3_isEvent_52 rfl (lv_at hl 2 rfl) ?_
    refine lv_iconst (v := 1) hx hb dX3_isEvent_53 (by decide) ?_
    refine lv_icmp_lt (tgt := 67) hx hb dX3_isEvent_54 (by decide) (fun c_5 => ?_) (fun c_5 => ?_)
    · refine lv_iconst (v := 0) hx hb dX3_isEvent_67 (by decide) ?_
      refine W.widen (k := 0) (n := 0) (by decide +kernel) (by decide +kernel) ?_
      exact W.zret (v := 0) hx hb hr (by first | rfl | decide) (fun t ht hW => ⟨⟨0, (), rfl, Or.inr (Or.inr (Or.inr (Or.inl ⟨c_1, c_4, c_5, rfl⟩))), by rw [ht]; exact hP, va_K.moved hW.alike hK, hD⟩, hS.F ht⟩) hS.2.2 dX3_isEvent_68
    · refine lv_iload_n hx hb dX3_isEvent_57 rfl (lv_at hl 2 rfl) ?_
      refine lv_bipush (v := 8) hx hb dX3_isEvent_58 (by decide) ?_
      refine lv_icmp_gt (tgt := 67) hx hb dX3_isEvent_60 (by decide) (fun c_6 => ?_) (fun c_6 => ?_)
      · refine lv_iconst (v := 0) hx hb dX3_isEvent_67 (by decide) ?_
        refine W.widen (k := 0) (n := 0) (by decide +kernel) (by decide +kernel) ?_
        exact W.zret (v := 0) hx hb hr (by first | rfl | decide) (fun t ht hW => ⟨⟨0, (), rfl, Or.inr (Or.inr (Or.inr (Or.inr (Or.inl ⟨c_1, c_4, c_5, c_6, rfl⟩)))), by rw [ht]; exact hP, va_K.moved hW.alike hK, hD⟩, hS.F ht⟩) hS.2.2 dX3_isEvent_68
      · refine lv_iconst (v := 1) hx hb dX3_isEvent_63 (by decide) ?_
        refine lv_goto (tgt := 68) hx hb dX3_isEvent_64 (by decide) ?_
        refine W.widen (k := 0) (n := 0) (by decide +kernel) (by decide +kernel) ?_
        exact W.zret (v := 1) hx hb hr (by first | rfl | decide) (fun t ht hW => ⟨⟨1, (), rfl, Or.inr (Or.inr (Or.inr (Or.inr (Or.inr (Or.inl ⟨c_1, c_4, c_5, c_6, rfl⟩))))), by rw [ht]; exact hP, va_K.moved hW.alike hK, hD⟩, hS.F ht⟩) hS.2.2 dX3_isEvent_68
  by_cases c_7 : c0 = 2
  · refine lv_tableIn (off := 68) (tgt := 69) hx hb dX3_isEvent_1 (by rw [c_7]; decide) (by rw [c_7]; decide) (by rw [c_7]; decide) (by decide) ?_
    refine lv_lload_n hx hb dX3_isEvent_69 rfl (lv_at hl 1 rfl) ?_
    refine lv_lconst (v := 0) hx hb dX3_isEvent_70 (by decide) ?_
    refine W.lcmp hx hb dX3_isEvent_71 ?_
    refine lv_if_lt (tgt := 98) hx hb dX3_isEvent_72 (by decide) (fun h9 => (fun (c_8 : c1 < 0) => ?_) ((nv_cl_lt (a := c1) (b := 0)).mp h9)) (fun h9 => (fun (c_8 : ¬ c1 < 0) => ?_) (fun h8 => h9 ((nv_cl_lt (a := c1) (b := 0)).mpr h8)))
    · refine lv_iconst (v := 0) hx hb dX3_isEvent_98 (by decide) ?_
      refine W.widen (k := 0) (n := 0) (by decide +kernel) (by decide +kernel) ?_
      exact W.zret (v := 0) hx hb hr (by first | rfl | decide) (fun t ht hW => ⟨⟨0, (), rfl, Or.inr (Or.inr (Or.inr (Or.inr (Or.inr (Or.inr (Or.inl ⟨c_1, c_4, c_7, c_8, rfl⟩)))))), by rw [ht]; exact hP, va_K.moved hW.alike hK, hD⟩, hS.F ht⟩) hS.2.2 dX3_isEvent_99
    · refine lv_lload_n hx hb dX3_isEvent_75 rfl (lv_at hl 1 rfl) ?_
      refine lv_ldc2 hx hb hown (hts (.constantLong RX3 29 (16)) (List.mem_of_getElem? (i := 1) rfl)) dX3_isEvent_76 ?_
      refine W.lcmp hx hb dX3_isEvent_79 ?_
      refine lv_if_ge (tgt := 98) hx hb dX3_isEvent_80 (by decide) (fun h9 => (fun (c_9 : 16 ≤ c1) => ?_) ((nv_cl_ge (a := c1) (b := 16)).mp h9)) (fun h9 => (fun (c_9 : ¬ 16 ≤ c1) => ?_) (fun h8 => h9 ((nv_cl_ge (a := c1) (b := 16)).mpr h8)))
      · refine lv_iconst (v := 0) hx hb dX3_isEvent_98 (by decide) ?_
        refine W.widen (k := 0) (n := 0) (by decide +kernel) (by decide +kernel) ?_
        exact W.zret (v := 0) hx hb hr (by first | rfl | decide) (fun t ht hW => ⟨⟨0, (), rfl, Or.inr (Or.inr (Or.inr (Or.inr (Or.inr (Or.inr (Or.inr (Or.inl ⟨c_1, c_4, c_7, c_8, c_9, rfl⟩))))))), by rw [ht]; exact hP, va_K.moved hW.alike hK, hD⟩, hS.F ht⟩) hS.2.2 dX3_isEvent_99
      · refine lv_iload_n hx hb dX3_isEvent_83 rfl (lv_at hl 2 rfl) ?_
        refine lv_iconst (v := 1) hx hb dX3_isEvent_84 (by decide) ?_
        refine lv_icmp_lt (tgt := 98) hx hb dX3_isEvent_85 (by decide) (fun c_10 => ?_) (fun c_10 => ?_)
        · refine lv_iconst (v := 0) hx hb dX3_isEvent_98 (by decide) ?_
          refine W.widen (k := 0) (n := 0) (by decide +kernel) (by decide +kernel) ?_
          exact W.zret (v := 0) hx hb hr (by first | rfl | decide) (fun t ht hW => ⟨⟨0, (), rfl, Or.inr (Or.inr (Or.inr (Or.inr (Or.inr (Or.inr (Or.inr (Or.inr (Or.inl ⟨c_1, c_4, c_7, c_8, c_9, c_10, rfl⟩)))))))), by rw [ht]; exact hP, va_K.moved hW.alike hK, hD⟩, hS.F ht⟩) hS.2.2 dX3_isEvent_99
        · refine lv_iload_n hx hb dX3_isEvent_88 rfl (lv_at hl 2 rfl) ?_
          refine lv_bipush (v := 31) hx hb dX3_isEvent_89 (by decide) ?_
          refine lv_icmp_gt (tgt := 98) hx hb dX3_isEvent_91 (by decide) (fun c_11 => ?_) (fun c_11 => ?_)
          · refine lv_iconst (v := 0) hx hb dX3_isEvent_98 (by decide) ?_
            refine W.widen (k := 0) (n := 0) (by decide +kernel) (by decide +kernel) ?_
            exact W.zret (v := 0) hx hb hr (by first | rfl | decide) (fun t ht hW => ⟨⟨0, (), rfl, Or.inr (Or.inr (Or.inr (Or.inr (Or.inr (Or.inr (Or.inr (Or.inr (Or.inr (Or.inl ⟨c_1, c_4, c_7, c_8, c_9, c_10, c_11, rfl⟩))))))))), by rw [ht]; exact hP, va_K.moved hW.alike hK, hD⟩, hS.F ht⟩) hS.2.2 dX3_isEvent_99
          · refine lv_iconst (v := 1) hx hb dX3_isEvent_94 (by decide) ?_
            refine lv_goto (tgt := 99) hx hb dX3_isEvent_95 (by decide) ?_
            refine W.widen (k := 0) (n := 0) (by decide +kernel) (by decide +kernel) ?_
            exact W.zret (v := 1) hx hb hr (by first | rfl | decide) (fun t ht hW => ⟨⟨1, (), rfl, Or.inr (Or.inr (Or.inr (Or.inr (Or.inr (Or.inr (Or.inr (Or.inr (Or.inr (Or.inr (Or.inl ⟨c_1, c_4, c_7, c_8, c_9, c_10, c_11, rfl⟩)))))))))), by rw [ht]; exact hP, va_K.moved hW.alike hK, hD⟩, hS.F ht⟩) hS.2.2 dX3_isEvent_99
  by_cases c_12 : c0 = 3
  · refine lv_tableIn (off := 99) (tgt := 100) hx hb dX3_isEvent_1 (by rw [c_12]; decide) (by rw [c_12]; decide) (by rw [c_12]; decide) (by decide) ?_
    refine lv_lload_n hx hb dX3_isEvent_100 rfl (lv_at hl 1 rfl) ?_
    refine lv_lconst (v := 0) hx hb dX3_isEvent_101 (by decide) ?_
    refine W.lcmp hx hb dX3_isEvent_102 ?_
    refine lv_if_lt (tgt := 118) hx hb dX3_isEvent_103 (by decide) (fun h9 => (fun (c_13 : c1 < 0) => ?_) ((nv_cl_lt (a := c1) (b := 0)).mp h9)) (fun h9 => (fun (c_13 : ¬ c1 < 0) => ?_) (fun h8 => h9 ((nv_cl_lt (a := c1) (b := 0)).mpr h8)))
    · refine lv_iconst (v := 0) hx hb dX3_isEvent_118 (by decide) ?_
      refine W.widen (k := 0) (n := 0) (by decide +kernel) (by decide +kernel) ?_
      exact W.zret (v := 0) hx hb hr (by first | rfl | decide) (fun t ht hW => ⟨⟨0, (), rfl, Or.inr (Or.inr (Or.inr (Or.inr (Or.inr (Or.inr (Or.inr (Or.inr (Or.inr (Or.inr (Or.inr (Or.inl ⟨c_1, c_4, c_7, c_12, c_13, rfl⟩))))))))))), by rw [ht]; exact hP, va_K.moved hW.alike hK, hD⟩, hS.F ht⟩) hS.2.2 dX3_isEvent_119
    · refine lv_lload_n hx hb dX3_isEvent_106 rfl (lv_at hl 1 rfl) ?_
      refine lv_ldc2 hx hb hown (hts (.constantLong RX3 31 (1099511627776)) (List.mem_of_getElem? (i := 2) rfl)) dX3_isEvent_107 ?_
      refine W.lcmp hx hb dX3_isEvent_110 ?_
      refine lv_if_gt (tgt := 118) hx hb dX3_isEvent_111 (by decide) (fun h9 => (fun (c_14 : 1099511627776 < c1) => ?_) ((nv_cl_gt (a := c1) (b := 1099511627776)).mp h9)) (fun h9 => (fun (c_14 : ¬ 1099511627776 < c1) => ?_) (fun h8 => h9 ((nv_cl_gt (a := c1) (b := 1099511627776)).mpr h8)))
      · refine lv_iconst (v := 0) hx hb dX3_isEvent_118 (by decide) ?_
        refine W.widen (k := 0) (n := 0) (by decide +kernel) (by decide +kernel) ?_
        exact W.zret (v := 0) hx hb hr (by first | rfl | decide) (fun t ht hW => ⟨⟨0, (), rfl, Or.inr (Or.inr (Or.inr (Or.inr (Or.inr (Or.inr (Or.inr (Or.inr (Or.inr (Or.inr (Or.inr (Or.inr (Or.inl ⟨c_1, c_4, c_7, c_12, c_13, c_14, rfl⟩)))))))))))), by rw [ht]; exact hP, va_K.moved hW.alike hK, hD⟩, hS.F ht⟩) hS.2.2 dX3_isEvent_119
      · refine lv_iconst (v := 1) hx hb dX3_isEvent_114 (by decide) ?_
        refine lv_goto (tgt := 119) hx hb dX3_isEvent_115 (by decide) ?_
        refine W.widen (k := 0) (n := 0) (by decide +kernel) (by decide +kernel) ?_
        exact W.zret (v := 1) hx hb hr (by first | rfl | decide) (fun t ht hW => ⟨⟨1, (), rfl, Or.inr (Or.inr (Or.inr (Or.inr (Or.inr (Or.inr (Or.inr (Or.inr (Or.inr (Or.inr (Or.inr (Or.inr (Or.inr (Or.inl ⟨c_1, c_4, c_7, c_12, c_13, c_14, rfl⟩))))))))))))), by rw [ht]; exact hP, va_K.moved hW.alike hK, hD⟩, hS.F ht⟩) hS.2.2 dX3_isEvent_119
  refine lv_tableOut (tgt := 120) hx hb dX3_isEvent_1 (by have g0 := nv_nei c_1 (k := 0) (by decide); have g1 := nv_nei c_4 (k := 1) (by decide); have g2 := nv_nei c_7 (k := 2) (by decide); have g3 := nv_nei c_12 (k := 3) (by decide); omega) (by decide) ?_
  refine lv_iload_n hx hb dX3_isEvent_120 rfl (lv_at hl 0 rfl) ?_
  refine lv_iconst (v := 4) hx hb dX3_isEvent_121 (by decide) ?_
  refine lv_icmp_ne (tgt := 129) hx hb dX3_isEvent_122 (by decide) (fun c_15 => ?_) (fun c_15 => ?_)
  · refine lv_iconst (v := 0) hx hb dX3_isEvent_129 (by decide) ?_
    refine W.widen (k := 0) (n := 0) (by decide +kernel) (by decide +kernel) ?_
    exact W.zret (v := 0) hx hb hr (by first | rfl | decide) (fun t ht hW => ⟨⟨0, (), rfl, Or.inr (Or.inr (Or.inr (Or.inr (Or.inr (Or.inr (Or.inr (Or.inr (Or.inr (Or.inr (Or.inr (Or.inr (Or.inr (Or.inr (Or.inl ⟨c_1, c_4, c_7, c_12, c_15, rfl⟩)))))))))))))), by rw [ht]; exact hP, va_K.moved hW.alike hK, hD⟩, hS.F ht⟩) hS.2.2 dX3_isEvent_130
  · refine lv_iconst (v := 1) hx hb dX3_isEvent_125 (by decide) ?_
    refine lv_goto (tgt := 130) hx hb dX3_isEvent_126 (by decide) ?_
    refine W.widen (k := 0) (n := 0) (by decide +kernel) (by decide +kernel) ?_
    exact W.zret (v := 1) hx hb hr (by first | rfl | decide) (fun t ht hW => ⟨⟨1, (), rfl, Or.inr (Or.inr (Or.inr (Or.inr (Or.inr (Or.inr (Or.inr (Or.inr (Or.inr (Or.inr (Or.inr (Or.inr (Or.inr (Or.inr (Or.inr (Or.inl ⟨c_1, c_4, c_7, c_12, c_15, rfl⟩))))))))))))))), by rw [ht]; exact hP, va_K.moved hW.alike hK, hD⟩, hS.F ht⟩) hS.2.2 dX3_isEvent_130
def ow_k_X12_outside : List Cond := .code yX12_outside cX12_outside 5 (some .int) :: ([.methodLink RX12 138 yX3_isEvent, .static yX3_isEvent, .initialized RX3, .classLink RX12 70 "java/lang/IllegalArgumentException", .initialized "java/lang/IllegalArgumentException", .fieldLink RX12 33 "TimeMachine" "timeline" "LTimeMachine$Timeline;", .fieldLink RX12 142 "TimeMachine$Timeline" "booted" "Z", .classLink RX12 118 "java/lang/IllegalStateException", .initialized "java/lang/IllegalStateException"] ++ (u_ws RX12 TX12 12 ++ (u_ws RX11 TX11 16 ++ (ow_k_X3_isEvent ++ ((vx_at0 RX12 72 "java/lang/IllegalArgumentException" ["java/lang/RuntimeException", "java/lang/Exception"]).filter goodWord ++ ((vx_at0 RX12 120 "java/lang/IllegalStateException" ["java/lang/RuntimeException", "java/lang/Exception"]).filter goodWord ++ []))))))
theorem gd_k_X12_outside : ∀ w ∈ ow_k_X12_outside, (w.onTables && w.keeps) = true ∨ ∃ ty, w = Cond.arrayClass ty := List.forall_mem_cons.mpr ⟨good_of_word rfl, List.forall_mem_append.mpr ⟨fun w h => good_of_word (List.all_eq_true.mp (by decide +kernel) w h), List.forall_mem_append.mpr ⟨gu_X12, List.forall_mem_append.mpr ⟨gu_X11, List.forall_mem_append.mpr ⟨gd_k_X3_isEvent, List.forall_mem_append.mpr ⟨fun w h => good_of_word (List.mem_filter.mp h).2, List.forall_mem_append.mpr ⟨fun w h => good_of_word (List.mem_filter.mp h).2, fun _ h => nomatch h⟩⟩⟩⟩⟩⟩⟩
theorem hi_k_X12_outside_X12 : ∀ w ∈ u_ws RX12 TX12 12, w ∈ ow_k_X12_outside := fun w h => List.mem_cons_of_mem _ (List.mem_append_right _ (List.mem_append_left _ h))
theorem hi_k_X12_outside_X11 : ∀ w ∈ u_ws RX11 TX11 16, w ∈ ow_k_X12_outside := fun w h => List.mem_cons_of_mem _ (List.mem_append_right _ (List.mem_append_right _ (List.mem_append_left _ h)))
theorem gi_k_X12_outside_0 : GoodIn ow_k_X12_outside (va_wsS RX12 138 yX3_isEvent ow_k_X3_isEvent) := goodIn_app (goodIn_of _ (by decide +kernel)) (fun w h => ⟨List.mem_cons_of_mem _ (List.mem_append_right _ (List.mem_append_right _ (List.mem_append_right _ (List.mem_append_left _ h)))), gd_k_X3_isEvent w h⟩)
