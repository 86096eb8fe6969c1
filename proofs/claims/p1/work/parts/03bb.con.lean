def ow_k_X12_shown : List Cond := .code yX12_shown cX12_shown 2 (some .int) :: ([.fieldLink RX12 33 "TimeMachine" "timeline" "LTimeMachine$Timeline;", .fieldLink RX12 142 "TimeMachine$Timeline" "booted" "Z"] ++ (u_ws RX12 TX12 12 ++ (u_ws RX11 TX11 16 ++ [])))
theorem gd_k_X12_shown : ∀ w ∈ ow_k_X12_shown, (w.onTables && w.keeps) = true ∨ ∃ ty, w = Cond.arrayClass ty := List.forall_mem_cons.mpr ⟨good_of_word rfl, List.forall_mem_append.mpr ⟨fun w h => good_of_word (List.all_eq_true.mp (by decide +kernel) w h), List.forall_mem_append.mpr ⟨gu_X12, List.forall_mem_append.mpr ⟨gu_X11, fun _ h => nomatch h⟩⟩⟩⟩
theorem hi_k_X12_shown_X12 : ∀ w ∈ u_ws RX12 TX12 12, w ∈ ow_k_X12_shown := fun w h => List.mem_cons_of_mem _ (List.mem_append_right _ (List.mem_append_left _ h))
theorem hi_k_X12_shown_X11 : ∀ w ∈ u_ws RX11 TX11 16, w ∈ ow_k_X12_shown := fun w h => List.mem_cons_of_mem _ (List.mem_append_right _ (List.mem_append_right _ (List.mem_append_left _ h)))
set_option maxHeartbeats 40000000 in
set_option maxRecDepth 100000 in
theorem k_X12_shown (l : Launch) (hlt : l.stackTraces = false) (dC : Nat → ClassId) (dI : Nat → Nat → Nat) (c0 : Nat) (c1 : Nat) (c2 : Int32) (c3 : Nat) (c4 : Nat) (c5 : Nat) (c6 : Nat) (c7 : Nat) (c8 : Nat) (c9 : Nat) (c10 : Nat) (c11 : Nat) (c12 : Nat) (c13 : Nat) (c14 : Nat) (c15 : Nat) (c16 : Nat) (c17 : Nat) (c18 : Nat) (sz : Nat) : Met l yX12_shown ow_k_X12_shown ({ frames := 0, cells := 0, slots := 0, locals := 0 }) (va_Pc [.ref c0, .int c2] (fun U => U.heap.size = sz ∧ va_P (dC, dI) vwCl [(c0, .inr (13, [.ref c3, .int 0, .int 0, .ref c4, .ref c5, .ref c6, .ref c1, .ref c7, .ref c8, .ref c9, .int 0, .ref c10])), (c1, .inr (12, [.ref c11, .ref c12, .ref c13, .ref c14, .ref c15, .ref c16, .int 0, .ref c17, .ref c18, .int 0, .int 0, .int 0, .int 0, .int 0, .int 0, .int 0]))] U.heap ∧ va_K (dC, dI) vwCl [] U ∧ va_D (fun _ => True) [(c0, .inr (13, [.ref c3, .int 0, .int 0, .ref c4, .ref c5, .ref c6, .ref c1, .ref c7, .ref c8, .ref c9, .int 0, .ref c10])), (c1, .inr (12, [.ref c11, .ref c12, .ref c13, .ref c14, .ref c15, .ref c16, .int 0, .ref c17, .ref c18, .int 0, .int 0, .int 0, .int 0, .int 0, .int 0, .int 0]))] ∧ nv_E (va_A [(c0, .inr (13, [.ref c3, .int 0, .int 0, .ref c4, .ref c5, .ref c6, .ref c1, .ref c7, .ref c8, .ref c9, .int 0, .ref c10])), (c1, .inr (12, [.ref c11, .ref c12, .ref c13, .ref c14, .ref c15, .ref c16, .int 0, .ref c17, .ref c18, .int 0, .int 0, .int 0, .int 0, .int 0, .int 0, .int 0]))] sz) U)) (va_Qi (fun r _ => r = (-1)) (fun (_ : Unit) t => va_P (dC, dI) vwCl [(c0, .inr (13, [.ref c3, .int 0, .int 0, .ref c4, .ref c5, .ref c6, .ref c1, .ref c7, .ref c8, .ref c9, .int 0, .ref c10])), (c1, .inr (12, [.ref c11, .ref c12, .ref c13, .ref c14, .ref c15, .ref c16, .int 0, .ref c17, .ref c18, .int 0, .int 0, .int 0, .int 0, .int 0, .int 0, .int 0]))] t.heap ∧ va_K (dC, dI) vwCl [] t ∧ va_D (va_A [(c0, .inr (13, [.ref c3, .int 0, .int 0, .ref c4, .ref c5, .ref c6, .ref c1, .ref c7, .ref c8, .ref c9, .int 0, .ref c10])), (c1, .inr (12, [.ref c11, .ref c12, .ref c13, .ref c14, .ref c15, .ref c16, .int 0, .ref c17, .ref c18, .int 0, .int 0, .int 0, .int 0, .int 0, .int 0, .int 0]))] sz) [(c0, .inr (13, [.ref c3, .int 0, .int 0, .ref c4, .ref c5, .ref c6, .ref c1, .ref c7, .ref c8, .ref c9, .int 0, .ref c10])), (c1, .inr (12, [.ref c11, .ref c12, .ref c13, .ref c14, .ref c15, .ref c16, .int 0, .ref c17, .ref c18, .int 0, .int 0, .int 0, .int 0, .int 0, .int 0, .int 0]))]) (va_A [(c0, .inr (13, [.ref c3, .int 0, .int 0, .ref c4, .ref c5, .ref c6, .ref c1, .ref c7, .ref c8, .ref c9, .int 0, .ref c10])), (c1, .inr (12, [.ref c11, .ref c12, .ref c13, .ref c14, .ref c15, .ref c16, .int 0, .ref c17, .ref c18, .int 0, .int 0, .int 0, .int 0, .int 0, .int 0, .int 0]))] sz)) 0 0 (va_A [(c0, .inr (13, [.ref c3, .int 0, .int 0, .ref c4, .ref c5, .ref c6, .ref c1, .ref c7, .ref c8, .ref c9, .int 0, .ref c10])), (c1, .inr (12, [.ref c11, .ref c12, .ref c13, .ref c14, .ref c15, .ref c16, .int 0, .ref c17, .ref c18, .int 0, .int 0, .int 0, .int 0, .int 0, .int 0, .int 0]))] sz) := by
  refine Met.ofW (cc := cX12_shown) (maxL := 2) (ret := (some .int)) (by decide) rfl ?_
  intro p e s m args below meth c s₁ B hml hv
  obtain ⟨rfl, hsz, hP, hK, hD0, hN⟩ := hv
  have hx := B.exec
  have hb := B.bytes
  have hr := B.returns
  have hts := atoms_spec (ws := ow_k_X12_shown) B.pre
  have hown : s.vm.findClass RX12 = some m.cls := findClass_of_methodNamed B.named
  have hlocks := B.notSynchronized
  subst hsz
  have hD := hD0.self (sz := s.heap.size)
  generalize hAe : va_A [(c0, .inr (13, [.ref c3, .int 0, .int 0, .ref c4, .ref c5, .ref c6, .ref c1, .ref c7, .ref c8, .ref c9, .int 0, .ref c10])), (c1, .inr (12, [.ref c11, .ref c12, .ref c13, .ref c14, .ref c15, .ref c16, .int 0, .ref c17, .ref c18, .int 0, .int 0, .int 0, .int 0, .int 0, .int 0, .int 0]))] s.heap.size = A at hD hN ⊢
  have hA : ∀ q : Nat, s.heap.size ≤ q → A q := fun q h => by rw [← hAe]; exact Or.inr h
  have hS : va_S A s.heap s.heap [] := va_S.rf
  have hl := lv_entry ([.ref c0, .int c2]) (n := 2) (Nat.le_of_ble_eq_true rfl)
  rw [lg_entry_eq]
  generalize (lg_sl ([.ref c0, .int c2]) ++ List.replicate (2 - (lg_sl ([.ref c0, .int c2])).length) Slot.unset).toArray = ls at hl ⊢
  have hl : lv_has ls 2 [(0, .ref c0), (1, .int c2)] := hl
  refine lv_aload_n hx hb dX12_shown_0 rfl (lv_at hl 0 rfl) ?_
  refine va_get (D := (dC, dI)) (ci := 13) (v := .ref c1) (C := RX12) (T := TX12) (N := 12) hx hb hts hi_k_X12_shown_X12 hown hK hP 0 rfl rfl 6 (by decide) (hts (.fieldLink RX12 33 "TimeMachine" "timeline" "LTimeMachine$Timeline;") (List.mem_of_getElem? (i := 1) rfl)) (fun _ h9 => h9) rfl dX12_shown_1 ?_
  refine va_get (D := (dC, dI)) (ci := 12) (v := .int 0) (C := RX11) (T := TX11) (N := 16) hx hb hts hi_k_X12_shown_X11 hown hK hP 1 rfl rfl 6 (by decide) (hts (.fieldLink RX12 142 "TimeMachine$Timeline" "booted" "Z") (List.mem_of_getElem? (i := 2) rfl)) (fun _ h9 => h9) rfl dX12_shown_4 ?_
  refine lv_if_eq (tgt := 27) hx hb dX12_shown_7 (by decide) (fun _ => ?_) (fun h9 => absurd (by decide) h9)
  refine lv_iconst (v := (-1)) hx hb dX12_shown_27 (by decide) ?_
  have hP9 := hP.sub (ws' := [(c0, .inr (13, [.ref c3, .int 0, .int 0, .ref c4, .ref c5, .ref c6, .ref c1, .ref c7, .ref c8, .ref c9, .int 0, .ref c10])), (c1, .inr (12, [.ref c11, .ref c12, .ref c13, .ref c14, .ref c15, .ref c16, .int 0, .ref c17, .ref c18, .int 0, .int 0, .int 0, .int 0, .int 0, .int 0, .int 0]))]) [0, 1] rfl
  have hD9 := hD.sub (ws' := [(c0, .inr (13, [.ref c3, .int 0, .int 0, .ref c4, .ref c5, .ref c6, .ref c1, .ref c7, .ref c8, .ref c9, .int 0, .ref c10])), (c1, .inr (12, [.ref c11, .ref c12, .ref c13, .ref c14, .ref c15, .ref c16, .int 0, .ref c17, .ref c18, .int 0, .int 0, .int 0, .int 0, .int 0, .int 0, .int 0]))]) [0, 1] (by decide) rfl
  have hK9 := hK.sub (tys' := []) [] rfl
  refine W.widen (k := 0) (n := 0) (by decide +kernel) (by decide +kernel) ?_
  exact W.iret (v := (-1)) hx hb hr (fun t ht hW => ⟨⟨(-1), (), rfl, rfl, by rw [ht]; exact hP9, va_K.moved hW.alike hK9, hD9⟩, hS.F ht⟩) hS.2.2 dX12_shown_28
def ow_k_X19_shown : List Cond := .code yX19_shown cX19_shown 2 (some .int) :: ([.methodLink RX19 315 yX19_shows, .instanceMethod yX19_shows, .selects RX19 yX19_shows yX19_shows, .initialized RX19] ++ (ow_k_X19_shows ++ []))
theorem gd_k_X19_shown : ∀ w ∈ ow_k_X19_shown, (w.onTables && w.keeps) = true ∨ ∃ ty, w = Cond.arrayClass ty := List.forall_mem_cons.mpr ⟨good_of_word rfl, List.forall_mem_append.mpr ⟨fun w h => good_of_word (List.all_eq_true.mp (by decide +kernel) w h), List.forall_mem_append.mpr ⟨gd_k_X19_shows, fun _ h => nomatch h⟩⟩⟩
theorem gi_k_X19_shown_0 : GoodIn ow_k_X19_shown (wsV RX19 315 RX19 yX19_shows ow_k_X19_shows) := goodIn_app (goodIn_of _ (by decide +kernel)) (fun w h => ⟨List.mem_cons_of_mem _ (List.mem_append_right _ (List.mem_append_left _ h)), gd_k_X19_shows w h⟩)
set_option maxHeartbeats 40000000 in
set_option maxRecDepth 100000 in
theorem k_X19_shown (l : Launch) (hlt : l.stackTraces = false) (dC : Nat → ClassId) (dI : Nat → Nat → Nat) (c0 : Nat) (c1 : Int32) (c2 : Nat) (c3 : Nat) (c4 : Nat) (c5 : Nat) (c6 : Nat) (c7 : Nat) (c8 : Nat) (c9 : Nat) (c10 : Nat) (c11 : Nat) (c12 : Nat) (c13 : Nat) (c14 : Nat) (c15 : Nat) (c16 : Nat) (c17 : Nat) (c18 : Nat) (c19 : Nat) (c20 : Nat) (c21 : Nat) (c22 : Nat) (c23 : Nat) (c24 : Nat) (sz : Nat) : Met l yX19_shown ow_k_X19_shown ({ frames := 1, cells := 0, slots := 0, locals := 20 }) (va_Pc [.ref c0, .int c1] (fun U => U.heap.size = sz ∧ va_P (dC, dI) vwCl [(c0, .inr (20, [.int 0, .ref c2, .int 0, .int 0, .ref c3, .ref c4, .ref c5, .ref c6, .ref c7, .ref c8, .ref c9, .ref c10, .ref c11, .ref c12, .ref c13, .ref c14, .ref c15, .int 0, .int 0, .int 0, .int 0, .int 0, .int 0, .int 0, .int 0, .int 0, .ref c16, .ref c17, .ref c18, .ref c19, .ref c20, .ref c21, .ref c22, .ref c23, .ref c24, .int 0]))] U.heap ∧ va_K (dC, dI) vwCl [] U ∧ va_D (fun _ => True) [(c0, .inr (20, [.int 0, .ref c2, .int 0, .int 0, .ref c3, .ref c4, .ref c5, .ref c6, .ref c7, .ref c8, .ref c9, .ref c10, .ref c11, .ref c12, .ref c13, .ref c14, .ref c15, .int 0, .int 0, .int 0, .int 0, .int 0, .int 0, .int 0, .int 0, .int 0, .ref c16, .ref c17, .ref c18, .ref c19, .ref c20, .ref c21, .ref c22, .ref c23, .ref c24, .int 0]))] ∧ nv_E (va_A [(c0, .inr (20, [.int 0, .ref c2, .int 0, .int 0, .ref c3, .ref c4, .ref c5, .ref c6, .ref c7, .ref c8, .ref c9, .ref c10, .ref c11, .ref c12, .ref c13, .ref c14, .ref c15, .int 0, .int 0, .int 0, .int 0, .int 0, .int 0, .int 0, .int 0, .int 0, .ref c16, .ref c17, .ref c18, .ref c19, .ref c20, .ref c21, .ref c22, .ref c23, .ref c24, .int 0]))] sz) U)) (va_Qi (fun r _ => r = (-1)) (fun (_ : Unit) t => va_P (dC, dI) vwCl [(c0, .inr (20, [.int 0, .ref c2, .int 0, .int 0, .ref c3, .ref c4, .ref c5, .ref c6, .ref c7, .ref c8, .ref c9, .ref c10, .ref c11, .ref c12, .ref c13, .ref c14, .ref c15, .int 0, .int 0, .int 0, .int 0, .int 0, .int 0, .int 0, .int 0, .int 0, .ref c16, .ref c17, .ref c18, .ref c19, .ref c20, .ref c21, .ref c22, .ref c23, .ref c24, .int 0]))] t.heap ∧ va_K (dC, dI) vwCl [] t ∧ va_D (va_A [(c0, .inr (20, [.int 0, .ref c2, .int 0, .int 0, .ref c3, .ref c4, .ref c5, .ref c6, .ref c7, .ref c8, .ref c9, .ref c10, .ref c11, .ref c12, .ref c13, .ref c14, .ref c15, .int 0, .int 0, .int 0, .int 0, .int 0, .int 0, .int 0, .int 0, .int 0, .ref c16, .ref c17, .ref c18, .ref c19, .ref c20, .ref c21, .ref c22, .ref c23, .ref c24, .int 0]))] sz) [(c0, .inr (20, [.int 0, .ref c2, .int 0, .int 0, .ref c3, .ref c4, .ref c5, .ref c6, .ref c7, .ref c8, .ref c9, .ref c10, .ref c11, .ref c12, .ref c13, .ref c14, .ref c15, .int 0, .int 0, .int 0, .int 0, .int 0, .int 0, .int 0, .int 0, .int 0, .ref c16, .ref c17, .ref c18, .ref c19, .ref c20, .ref c21, .ref c22, .ref c23, .ref c24, .int 0]))]) (va_A [(c0, .inr (20, [.int 0, .ref c2, .int 0, .int 0, .ref c3, .ref c4, .ref c5, .ref c6, .ref c7, .ref c8, .ref c9, .ref c10, .ref c11, .ref c12, .ref c13, .ref c14, .ref c15, .int 0, .int 0, .int 0, .int 0, .int 0, .int 0, .int 0, .int 0, .int 0, .ref c16, .ref c17, .ref c18, .ref c19, .ref c20, .ref c21, .ref c22, .ref c23, .ref c24, .int 0]))] sz)) 0 0 (va_A [(c0, .inr (20, [.int 0, .ref c2, .int 0, .int 0, .ref c3, .ref c4, .ref c5, .ref c6, .ref c7, .ref c8, .ref c9, .ref c10, .ref c11, .ref c12, .ref c13, .ref c14, .ref c15, .int 0, .int 0, .int 0, .int 0, .int 0, .int 0, .int 0, .int 0, .int 0, .ref c16, .ref c17, .ref c18, .ref c19, .ref c20, .ref c21, .ref c22, .ref c23, .ref c24, .int 0]))] sz) := by
  refine Met.ofW (cc := cX19_shown) (maxL := 2) (ret := (some .int)) (by decide) rfl ?_
  intro p e s m args below meth c s₁ B hml hv
  obtain ⟨rfl, hsz, hP, hK, hD0, hN⟩ := hv
  have hx := B.exec
  have hb := B.bytes
  have hr := B.returns
  have hts := atoms_spec (ws := ow_k_X19_shown) B.pre
  have hown : s.vm.findClass RX19 = some m.cls := findClass_of_methodNamed B.named
  have hlocks := B.notSynchronized
  subst hsz
  have hD := hD0.self (sz := s.heap.size)
  generalize hAe : va_A [(c0, .inr (20, [.int 0, .ref c2, .int 0, .int 0, .ref c3, .ref c4, .ref c5, .ref c6, .ref c7, .ref c8, .ref c9, .ref c10, .ref c11, .ref c12, .ref c13, .ref c14, .ref c15, .int 0, .int 0, .int 0, .int 0, .int 0, .int 0, .int 0, .int 0, .int 0, .ref c16, .ref c17, .ref c18, .ref c19, .ref c20, .ref c21, .ref c22, .ref c23, .ref c24, .int 0]))] s.heap.size = A at hD hN ⊢
  have hA : ∀ q : Nat, s.heap.size ≤ q → A q := fun q h => by rw [← hAe]; exact Or.inr h
  have hS : va_S A s.heap s.heap [] := va_S.rf
  have hl := lv_entry ([.ref c0, .int c1]) (n := 2) (Nat.le_of_ble_eq_true rfl)
  rw [lg_entry_eq]
  generalize (lg_sl ([.ref c0, .int c1]) ++ List.replicate (2 - (lg_sl ([.ref c0, .int c1])).length) Slot.unset).toArray = ls at hl ⊢
  have hl : lv_has ls 2 [(0, .ref c0), (1, .int c1)] := hl
  refine lv_aload_n hx hb dX19_shown_0 rfl (lv_at hl 0 rfl) ?_
  have hPc := hP.sub (ws' := [(c0, .inr (20, [.int 0, .ref c2, .int 0, .int 0, .ref c3, .ref c4, .ref c5, .ref c6, .ref c7, .ref c8, .ref c9, .ref c10, .ref c11, .ref c12, .ref c13, .ref c14, .ref c15, .int 0, .int 0, .int 0, .int 0, .int 0, .int 0, .int 0, .int 0, .int 0, .ref c16, .ref c17, .ref c18, .ref c19, .ref c20, .ref c21, .ref c22, .ref c23, .ref c24, .int 0]))]) [0] rfl
  have hDc := hD.sub (ws' := [(c0, .inr (20, [.int 0, .ref c2, .int 0, .int 0, .ref c3, .ref c4, .ref c5, .ref c6, .ref c7, .ref c8, .ref c9, .ref c10, .ref c11, .ref c12, .ref c13, .ref c14, .ref c15, .int 0, .int 0, .int 0, .int 0, .int 0, .int 0, .int 0, .int 0, .int 0, .ref c16, .ref c17, .ref c18, .ref c19, .ref c20, .ref c21, .ref c22, .ref c23, .ref c24, .int 0]))]) [0] (by decide) rfl
  have hKc := hK.sub (tys' := []) [] rfl
  have hFc := va_free (wc := [(c0, .inr (20, [.int 0, .ref c2, .int 0, .int 0, .ref c3, .ref c4, .ref c5, .ref c6, .ref c7, .ref c8, .ref c9, .ref c10, .ref c11, .ref c12, .ref c13, .ref c14, .ref c15, .int 0, .int 0, .int 0, .int 0, .int 0, .int 0, .int 0, .int 0, .int 0, .ref c16, .ref c17, .ref c18, .ref c19, .ref c20, .ref c21, .ref c22, .ref c23, .ref c24, .int 0]))]) hD hS hA [0] rfl
  refine va_calli (va_runV (As := []) (rest := []) ⟨hx, hb, hml, hown, hts⟩ (k_X19_shows l hlt dC dI c0 c2 c3 c4 c5 c6 c7 c8 c9 c10 c11 c12 c13 c14 c15 c16 c17 c18 c19 c20 c21 c22 c23 c24  s.heap.size) (cwV 0 hts gi_k_X19_shown_0 rfl rfl rfl (by decide +kernel) ⟨Nat.le_of_ble_eq_true rfl, Nat.le_of_ble_eq_true rfl⟩) ⟨fun a U g mk q => by obtain ⟨q0, q1, qP, qK, qD, qN⟩ := q; exact ⟨q0, q1, qP, va_K.moved (u := U) (U := U.calling g mk a) (Vm.Alike.refl U.vm) qK, qD, nv_same rfl rfl qN⟩, va_recv hKc hPc (ci := 20) (q0 := 0) rfl rfl, fun U hU hW => ⟨rfl, by rw [hU], by rw [hU]; exact hPc, va_K.moved hW.alike hKc, hDc.weaken (fun _ _ _ _ => trivial), nv_call hS hFc hU hW hN⟩⟩ rfl rfl hl.1 rfl (lv_room (Nat.le_of_ble_eq_true rfl)) dX19_shown_1 ⟨by decide +kernel, by decide +kernel⟩) hS (fun q _ h => hFc q h) hFc (fun r1 u t H1 locs ht hvm hw hB hz1 hk1 hS => ?_)
  obtain ⟨hP1, hK1, hD1⟩ := hB
  rw [ht] at hP1
  have hK1 := va_K.moved hvm.symm hK1
  obtain rfl : r1 = 0 := hw
  obtain ⟨hP, hD⟩ := va_join (wr := []) (w1 := [(c0, .inr (20, [.int 0, .ref c2, .int 0, .int 0, .ref c3, .ref c4, .ref c5, .ref c6, .ref c7, .ref c8, .ref c9, .ref c10, .ref c11, .ref c12, .ref c13, .ref c14, .ref c15, .int 0, .int 0, .int 0, .int 0, .int 0, .int 0, .int 0, .int 0, .int 0, .ref c16, .ref c17, .ref c18, .ref c19, .ref c20, .ref c21, .ref c22, .ref c23, .ref c24, .int 0]))]) hP hD [0] [] rfl rfl (by decide) (by decide) hk1 hFc hP1 hD1
  have hK := (hK.sub (tys' := []) [] rfl).app hK1
  generalize H1 = H at hP hS ⊢
  have hP : va_P (dC, dI) vwCl [(c0, .inr (20, [.int 0, .ref c2, .int 0, .int 0, .ref c3, .ref c4, .ref c5, .ref c6, .ref c7, .ref c8, .ref c9, .ref c10, .ref c11, .ref c12, .ref c13, .ref c14, .ref c15, .int 0, .int 0, .int 0, .int 0, .int 0, .int 0, .int 0, .int 0, .int 0, .ref c16, .ref c17, .ref c18, .ref c19, .ref c20, .ref c21, .ref c22, .ref c23, .ref c24, .int 0]))] H := hP
  have hD : va_D A [(c0, .inr (20, [.int 0, .ref c2, .int 0, .int 0, .ref c3, .ref c4, .ref c5, .ref c6, .ref c7, .ref c8, .ref c9, .ref c10, .ref c11, .ref c12, .ref c13, .ref c14, .ref c15, .int 0, .int 0, .int 0, .int 0, .int 0, .int 0, .int 0, .int 0, .int 0, .ref c16, .ref c17, .ref c18, .ref c19, .ref c20, .ref c21, .ref c22, .ref c23, .ref c24, .int 0]))] := hD
  have hK : va_K (dC, dI) vwCl [] s := hK
  refine W.widen (k := 0) (n := 0) (by decide +kernel) (by decide +kernel) ?_
  refine lv_if_eq (tgt := 18) hx hb dX19_shown_4 (by decide) (fun _ => ?_) (fun h9 => absurd (by decide) h9)
  refine lv_iconst (v := (-1)) hx hb dX19_shown_18 (by decide) ?_
  have hP9 := hP.sub (ws' := [(c0, .inr (20, [.int 0, .ref c2, .int 0, .int 0, .ref c3, .ref c4, .ref c5, .ref c6, .ref c7, .ref c8, .ref c9, .ref c10, .ref c11, .ref c12, .ref c13, .ref c14, .ref c15, .int 0, .int 0, .int 0, .int 0, .int 0, .int 0, .int 0, .int 0, .int 0, .ref c16, .ref c17, .ref c18, .ref c19, .ref c20, .ref c21, .ref c22, .ref c23, .ref c24, .int 0]))]) [0] rfl
  have hD9 := hD.sub (ws' := [(c0, .inr (20, [.int 0, .ref c2, .int 0, .int 0, .ref c3, .ref c4, .ref c5, .ref c6, .ref c7, .ref c8, .ref c9, .ref c10, .ref c11, .ref c12, .ref c13, .ref c14, .ref c15, .int 0, .int 0, .int 0, .int 0, .int 0, .int 0, .int 0, .int 0, .int 0, .ref c16, .ref c17, .ref c18, .ref c19, .ref c20, .ref c21, .ref c22, .ref c23, .ref c24, .int 0]))]) [0] (by decide) rfl
  have hK9 := hK.sub (tys' := []) [] rfl
  refine W.widen (k := 0) (n := 0) (by decide +kernel) (by decide +kernel) ?_
  exact W.iret (v := (-1)) hx hb hr (fun t ht hW => ⟨⟨(-1), (), rfl, rfl, by rw [ht]; exact hP9, va_K.moved hW.alike hK9, hD9⟩, hS.F ht⟩) hS.2.2 dX19_shown_19
def ow_k_X12_breaksThere : List Cond := .code yX12_breaksThere cX12_breaksThere 3 (some .int) :: ([.fieldLink RX12 39 "TimeMachine" "breaks" "[LTimeMachine$Condition;"] ++ (u_ws RX12 TX12 12 ++ []))
theorem gd_k_X12_breaksThere : ∀ w ∈ ow_k_X12_breaksThere, (w.onTables && w.keeps) = true ∨ ∃ ty, w = Cond.arrayClass ty := List.forall_mem_cons.mpr ⟨good_of_word rfl, List.forall_mem_append.mpr ⟨fun w h => good_of_word (List.all_eq_true.mp (by decide +kernel) w h), List.forall_mem_append.mpr ⟨gu_X12, fun _ h => nomatch h⟩⟩⟩
theorem hi_k_X12_breaksThere_X12 : ∀ w ∈ u_ws RX12 TX12 12, w ∈ ow_k_X12_breaksThere := fun w h => List.mem_cons_of_mem _ (List.mem_append_right _ (List.mem_append_left _ h))
set_option maxHeartbeats 40000000 in
set_option maxRecDepth 100000 in
theorem k_X12_breaksThere (l : Launch) (hlt : l.stackTraces = false) (dC : Nat → ClassId) (dI : Nat → Nat → Nat) (c0 : Nat) (c1 : Nat) (c2 : ClassId) (c3 : Nat) (c4 : Nat) (c5 : Nat) (c6 : Nat) (c7 : Nat) (c8 : Nat) (c9 : Nat) (c10 : Nat) (sz : Nat) : Met l yX12_breaksThere ow_k_X12_breaksThere ({ frames := 0, cells := 0, slots := 0, locals := 0 }) (va_Pc [.ref c0] (fun U => U.heap.size = sz ∧ va_P (dC, dI) vwCl [(c0, .inr (13, [.ref c3, .int 0, .int 0, .ref c4, .ref c5, .ref c6, .ref c7, .ref c1, .ref c8, .ref c9, .int 0, .ref c10])), (c1, .inl (c2, 8, .inr (.inr (.inr (.inr (fun _ => none))))))] U.heap ∧ va_K (dC, dI) vwCl [(c2, .object RX2)] U ∧ va_D (fun _ => True) [(c0, .inr (13, [.ref c3, .int 0, .int 0, .ref c4, .ref c5, .ref c6, .ref c7, .ref c1, .ref c8, .ref c9, .int 0, .ref c10])), (c1, .inl (c2, 8, .inr (.inr (.inr (.inr (fun _ => none))))))] ∧ nv_E (va_A [(c0, .inr (13, [.ref c3, .int 0, .int 0, .ref c4, .ref c5, .ref c6, .ref c7, .ref c1, .ref c8, .ref c9, .int 0, .ref c10])), (c1, .inl (c2, 8, .inr (.inr (.inr (.inr (fun _ => none))))))] sz) U)) (va_Qi (fun r _ => r = 0) (fun (_ : Unit) t => va_P (dC, dI) vwCl [(c0, .inr (13, [.ref c3, .int 0, .int 0, .ref c4, .ref c5, .ref c6, .ref c7, .ref c1, .ref c8, .ref c9, .int 0, .ref c10])), (c1, .inl (c2, 8, .inr (.inr (.inr (.inr (fun _ => none))))))] t.heap ∧ va_K (dC, dI) vwCl [(c2, .object RX2)] t ∧ va_D (va_A [(c0, .inr (13, [.ref c3, .int 0, .int 0, .ref c4, .ref c5, .ref c6, .ref c7, .ref c1, .ref c8, .ref c9, .int 0, .ref c10])), (c1, .inl (c2, 8, .inr (.inr (.inr (.inr (fun _ => none))))))] sz) [(c0, .inr (13, [.ref c3, .int 0, .int 0, .ref c4, .ref c5, .ref c6, .ref c7, .ref c1, .ref c8, .ref c9, .int 0, .ref c10])), (c1, .inl (c2, 8, .inr (.inr (.inr (.inr (fun _ => none))))))]) (va_A [(c0, .inr (13, [.ref c3, .int 0, .int 0, .ref c4, .ref c5, .ref c6, .ref c7, .ref c1, .ref c8, .ref c9, .int 0, .ref c10])), (c1, .inl (c2, 8, .inr (.inr (.inr (.inr (fun _ => none))))))] sz)) 0 0 (va_A [(c0, .inr (13, [.ref c3, .int 0, .int 0, .ref c4, .ref c5, .ref c6, .ref c7, .ref c1, .ref c8, .ref c9, .int 0, .ref c10])), (c1, .inl (c2, 8, .inr (.inr (.inr (.inr (fun _ => none))))))] sz) := by
  refine Met.ofW (cc := cX12_breaksThere) (maxL := 3) (ret := (some .int)) (by decide) rfl ?_
  intro p e s m args below meth c s₁ B hml hv
  obtain ⟨rfl, hsz, hP, hK, hD0, hN⟩ := hv
  have hx := B.exec
  have hb := B.bytes
  have hr := B.returns
  have hts := atoms_spec (ws := ow_k_X12_breaksThere) B.pre
  have hown : s.vm.findClass RX12 = some m.cls := findClass_of_methodNamed B.named
  have hlocks := B.notSynchronized
  subst hsz
  have hD := hD0.self (sz := s.heap.size)
  generalize hAe : va_A [(c0, .inr (13, [.ref c3, .int 0, .int 0, .ref c4, .ref c5, .ref c6, .ref c7, .ref c1, .ref c8, .ref c9, .int 0, .ref c10])), (c1, .inl (c2, 8, .inr (.inr (.inr (.inr (fun _ => none))))))] s.heap.size = A at hD hN ⊢
  have hA : ∀ q : Nat, s.heap.size ≤ q → A q := fun q h => by rw [← hAe]; exact Or.inr h
  have hS : va_S A s.heap s.heap [] := va_S.rf
  have hl := lv_entry ([.ref c0]) (n := 3) (Nat.le_of_ble_eq_true rfl)
  rw [lg_entry_eq]
  generalize (lg_sl ([.ref c0]) ++ List.replicate (3 - (lg_sl ([.ref c0])).length) Slot.unset).toArray = ls at hl ⊢
  have hl : lv_has ls 3 [(0, .ref c0)] := hl
  refine lv_iconst (v := 0) hx hb dX12_breaksThere_0 (by decide) ?_
  refine lv_istore_n (lv' := [(1, .int 0), (0, .ref c0)]) hx hb dX12_breaksThere_1 rfl hl (by decide) rfl (fun ls hl => ?_)
  refine lv_iconst (v := 0) hx hb dX12_breaksThere_2 (by decide) ?_
  refine lv_istore_n (lv' := [(2, .int 0), (1, .int 0), (0, .ref c0)]) hx hb dX12_breaksThere_3 rfl hl (by decide) rfl (fun ls hl => ?_)
  refine lv_iload_n hx hb dX12_breaksThere_4 rfl (lv_at hl 0 rfl) ?_
  refine lv_bipush (v := 8) hx hb dX12_breaksThere_5 (by decide) ?_
  refine lv_icmp_ge (tgt := 28) hx hb dX12_breaksThere_7 (by decide) (fun h9 => absurd h9 (by decide)) (fun _ => ?_)
  refine lv_aload_n hx hb dX12_breaksThere_10 rfl (lv_at hl 2 rfl) ?_
  refine va_get (D := (dC, dI)) (ci := 13) (v := .ref c1) (C := RX12) (T := TX12) (N := 12) hx hb hts hi_k_X12_breaksThere_X12 hown hK hP 0 rfl rfl 7 (by decide) (hts (.fieldLink RX12 39 "TimeMachine" "breaks" "[LTimeMachine$Condition;") (List.mem_of_getElem? (i := 1) rfl)) (fun _ h9 => h9) rfl dX12_breaksThere_11 ?_
  refine lv_iload_n hx hb dX12_breaksThere_14 rfl (lv_at hl 0 rfl) ?_
  refine va_aldq (i := 0) hx hb hK hP 1 0 rfl rfl (vp_in_iff.mpr ⟨by decide, by decide⟩) dX12_breaksThere_15 ?_
  refine W.eq (g2 := F0 m 16 ls [.null]) rfl ?_
  refine lv_ifnullN (tgt := 22) hx hb dX12_breaksThere_16 (by decide) ?_
  refine lv_iinc (v := 1) (lv' := [(2, .int 1), (1, .int 0), (0, .ref c0)]) hx hb dX12_breaksThere_22 hl (k := 0) rfl (by decide) (by decide) rfl (fun ls hl => ?_)
  refine lv_goto (tgt := 4) hx hb dX12_breaksThere_25 (by decide) ?_
  refine lv_iload_n hx hb dX12_breaksThere_4 rfl (lv_at hl 0 rfl) ?_
  refine lv_bipush (v := 8) hx hb dX12_breaksThere_5 (by decide) ?_
  refine lv_icmp_ge (tgt := 28) hx hb dX12_breaksThere_7 (by decide) (fun h9 => absurd h9 (by decide)) (fun _ => ?_)
  refine lv_aload_n hx hb dX12_breaksThere_10 rfl (lv_at hl 2 rfl) ?_
  refine va_get (D := (dC, dI)) (ci := 13) (v := .ref c1) (C := RX12) (T := TX12) (N := 12) hx hb hts hi_k_X12_breaksThere_X12 hown hK hP 0 rfl rfl 7 (by decide) (hts (.fieldLink RX12 39 "TimeMachine" "breaks" "[LTimeMachine$Condition;") (List.mem_of_getElem? (i := 1) rfl)) (fun _ h9 => h9) rfl dX12_breaksThere_11 ?_
  refine lv_iload_n hx hb dX12_breaksThere_14 rfl (lv_at hl 0 rfl) ?_
  refine va_aldq (i := 1) hx hb hK hP 1 0 rfl rfl (vp_in_iff.mpr ⟨by decide, by decide⟩) dX12_breaksThere_15 ?_
  refine W.eq (g2 := F0 m 16 ls [.null]) rfl ?_
  refine lv_ifnullN (tgt := 22) hx hb dX12_breaksThere_16 (by decide) ?_
  refine lv_iinc (v := 2) (lv' := [(2, .int 2), (1, .int 0), (0, .ref c0)]) hx hb dX12_breaksThere_22 hl (k := 0) rfl (by decide) (by decide) rfl (fun ls hl => ?_)
  refine lv_goto (tgt := 4) hx hb dX12_breaksThere_25 (by decide) ?_
  refine lv_iload_n hx hb dX12_breaksThere_4 rfl (lv_at hl 0 rfl) ?_
  refine lv_bipush (v := 8) hx hb dX12_breaksThere_5 (by decide) ?_
  refine lv_icmp_ge (tgt := 28) hx hb dX12_breaksThere_7 (by decide) (fun h9 => absurd h9 (by decide)) (fun _ => ?_)
  refine lv_aload_n hx hb dX12_breaksThere_10 rfl (lv_at hl 2 rfl) ?_
  refine va_get (D := (dC, dI)) (ci := 13) (v := .ref c1) (C := RX12) (T := TX12) (N := 12) hx hb hts hi_k_X12_breaksThere_X12 hown hK hP 0 rfl rfl 7 (by decide) (hts (.fieldLink RX12 39 "TimeMachine" "breaks" "[LTimeMachine$Condition;") (List.mem_of_getElem? (i := 1) rfl)) (fun _ h9 => h9) rfl dX12_breaksThere_11 ?_
  refine lv_iload_n hx hb dX12_breaksThere_14 rfl (lv_at hl 0 rfl) ?_
  refine va_aldq (i := 2) hx hb hK hP 1 0 rfl rfl (vp_in_iff.mpr ⟨by decide, by decide⟩) dX12_breaksThere_15 ?_
  refine W.eq (g2 := F0 m 16 ls [.null]) rfl ?_
  refine lv_ifnullN (tgt := 22) hx hb dX12_breaksThere_16 (by decide) ?_
  refine lv_iinc (v := 3) (lv' := [(2, .int 3), (1, .int 0), (0, .ref c0)]) hx hb dX12_breaksThere_22 hl (k := 0) rfl (by decide) (by decide) rfl (fun ls hl => ?_)
  refine lv_goto (tgt := 4) hx hb dX12_breaksThere_25 (by decide) ?_
  refine lv_iload_n hx hb dX12_breaksThere_4 rfl (lv_at hl 0 rfl) ?_
  refine lv_bipush (v := 8) hx hb dX12_breaksThere_5 (by decide) ?_
  refine lv_icmp_ge (tgt := 28) hx hb dX12_breaksThere_7 (by decide) (fun h9 => absurd h9 (by decide)) (fun _ => ?_)
  refine lv_aload_n hx hb dX12_breaksThere_10 rfl (lv_at hl 2 rfl) ?_
  refine va_get (D := (dC, dI)) (ci := 13) (v := .ref c1) (C := RX12) (T := TX12) (N := 12) hx hb hts hi_k_X12_breaksThere_X12 hown hK hP 0 rfl rfl 7 (by decide) (hts (.fieldLink RX12 39 "TimeMachine" "breaks" "[LTimeMachine$Condition;") (List.mem_of_getElem? (i := 1) rfl)) (fun _ h9 => h9) rfl dX12_breaksThere_11 ?_
  refine lv_iload_n hx hb dX12_breaksThere_14 rfl (lv_at hl 0 rfl) ?_
  refine va_aldq (i := 3) hx hb hK hP 1 0 rfl rfl (vp_in_iff.mpr ⟨by decide, by decide⟩) dX12_breaksThere_15 ?_
  refine W.eq (g2 := F0 m 16 ls [.null]) rfl ?_
  refine lv_ifnullN (tgt := 22) hx hb dX12_breaksThere_16 (by decide) ?_
  refine lv_iinc (v := 4) (lv' := [(2, .int 4), (1, .int 0), (0, .ref c0)]) hx hb dX12_breaksThere_22 hl (k := 0) rfl (by decide) (by decide) rfl (fun ls hl => ?_)
  refine lv_goto (tgt := 4) hx hb dX12_breaksThere_25 (by decide) ?_
  refine lv_iload_n hx hb dX12_breaksThere_4 rfl (lv_at hl 0 rfl) ?_
  refine lv_bipush (v := 8) hx hb dX12_breaksThere_5 (by decide) ?_
  refine lv_icmp_ge (tgt := 28) hx hb dX12_breaksThere_7 (by decide) (fun h9 => absurd h9 (by decide)) (fun _ => ?_)
  refine lv_aload_n hx hb dX12_breaksThere_10 rfl (lv_at hl 2 rfl) ?_
  refine va_get (D := (dC, dI)) (ci := 13) (v := .ref c1) (C := RX12) (T := TX12) (N := 12) hx hb hts hi_k_X12_breaksThere_X12 hown hK hP 0 rfl rfl 7 (by decide) (hts (.fieldLink RX12 39 "TimeMachine" "breaks" "[LTimeMachine$Condition;") (List.mem_of_getElem? (i := 1) rfl)) (fun _ h9 => h9) rfl dX12_breaksThere_11 ?_
  refine lv_iload_n hx hb dX12_breaksThere_14 rfl (lv_at hl 0 rfl) ?_
  refine va_aldq (i := 4) hx hb hK hP 1 0 rfl rfl (vp_in_iff.mpr ⟨by decide, by decide⟩) dX12_breaksThere_15 ?_
  refine W.eq (g2 := F0 m 16 ls [.null]) rfl ?_
  refine lv_ifnullN (tgt := 22) hx hb dX12_breaksThere_16 (by decide) ?_
  refine lv_iinc (v := 5) (lv' := [(2, .int 5), (1, .int 0), (0, .ref c0)]) hx hb dX12_breaksThere_22 hl (k := 0) rfl (by decide) (by decide) rfl (fun ls hl => ?_)
  refine lv_goto (tgt := 4) hx hb dX12_breaksThere_25 (by decide) ?_
  refine lv_iload_n hx hb dX12_breaksThere_4 rfl (lv_at hl 0 rfl) ?_
  refine lv_bipush (v := 8) hx hb dX12_breaksThere_5 (by decide) ?_
  refine lv_icmp_ge (tgt := 28) hx hb dX12_breaksThere_7 (by decide) (fun h9 => absurd h9 (by decide)) (fun _ => ?_)
  refine lv_aload_n hx hb dX12_breaksThere_10 rfl (lv_at hl 2 rfl) ?_
  refine va_get (D := (dC, dI)) (ci := 13) (v := .ref c1) (C := RX12) (T := TX12) (N := 12) hx hb hts hi_k_X12_breaksThere_X12 hown hK hP 0 rfl rfl 7 (by decide) (hts (.fieldLink RX12 39 "TimeMachine" "breaks" "[LTimeMachine$Condition;") (List.mem_of_getElem? (i := 1) rfl)) (fun _ h9 => h9) rfl dX12_breaksThere_11 ?_
  refine lv_iload_n hx hb dX12_breaksThere_14 rfl (lv_at hl 0 rfl) ?_
  refine va_aldq (i := 5) hx hb hK hP 1 0 rfl rfl (vp_in_iff.mpr ⟨by decide, by decide⟩) dX12_breaksThere_15 ?_
  refine W.eq (g2 := F0 m 16 ls [.null]) rfl ?_
  refine lv_ifnullN (tgt := 22) hx hb dX12_breaksThere_16 (by decide) ?_
  refine lv_iinc (v := 6) (lv' := [(2, .int 6), (1, .int 0), (0, .ref c0)]) hx hb dX12_breaksThere_22 hl (k := 0) rfl (by decide) (by decide) rfl (fun ls hl => ?_)
  refine lv_goto (tgt := 4) hx hb dX12_breaksThere_25 (by decide) ?_
  refine lv_iload_n hx hb dX12_breaksThere_4 rfl (lv_at hl 0 rfl) ?_
  refine lv_bipush (v := 8) hx hb dX12_breaksThere_5 (by decide) ?_
  refine lv_icmp_ge (tgt := 28) hx hb dX12_breaksThere_7 (by decide) (fun h9 => absurd h9 (by decide)) (fun _ => ?_)
  refine lv_aload_n hx hb dX12_breaksThere_10 rfl (lv_at hl 2 rfl) ?_
  refine va_get (D := (dC, dI)) (ci := 13) (v := .ref c1) (C := RX12) (T := TX12) (N := 12) hx hb hts hi_k_X12_breaksThere_X12 hown hK hP 0 rfl rfl 7 (by decide) (hts (.fieldLink RX12 39 "TimeMachine" "breaks" "[LTimeMachine$Condition;") (List.mem_of_getElem? (i := 1) rfl)) (fun _ h9 => h9) rfl dX12_breaksThere_11 ?_
  refine lv_iload_n hx hb dX12_breaksThere_14 rfl (lv_at hl 0 rfl) ?_
  refine va_aldq (i := 6) hx hb hK hP 1 0 rfl rfl (vp_in_iff.mpr ⟨by decide, by decide⟩) dX12_breaksThere_15 ?_
  refine W.eq (g2 := F0 m 16 ls [.null]) rfl ?_
  refine lv_ifnullN (tgt := 22) hx hb dX12_breaksThere_16 (by decide) ?_
  refine lv_iinc (v := 7) (lv' := [(2, .int 7), (1, .int 0), (0, .ref c0)]) hx hb dX12_breaksThere_22 hl (k := 0) rfl (by decide) (by decide) rfl (fun ls hl => ?_)
  refine lv_goto (tgt := 4) hx hb dX12_breaksThere_25 (by decide) ?_
  refine lv_iload_n hx hb dX12_breaksThere_4 rfl (lv_at hl 0 rfl) ?_
  refine lv_bipush (v := 8) hx hb dX12_breaksThere_5 (by decide) ?_
  refine lv_icmp_ge (tgt := 28) hx hb dX12_breaksThere_7 (by decide) (fun h9 => absurd h9 (by decide)) (fun _ => ?_)
  refine lv_aload_n hx hb dX12_breaksThere_10 rfl (lv_at hl 2 rfl) ?_
  refine va_get (D := (dC, dI)) (ci := 13) (v := .ref c1) (C := RX12) (T := TX12) (N := 12) hx hb hts hi_k_X12_breaksThere_X12 hown hK hP 0 rfl rfl 7 (by decide) (hts (.fieldLink RX12 39 "TimeMachine" "breaks" "[LTimeMachine$Condition;") (List.mem_of_getElem? (i := 1) rfl)) (fun _ h9 => h9) rfl dX12_breaksThere_11 ?_
  refine lv_iload_n hx hb dX12_breaksThere_14 rfl (lv_at hl 0 rfl) ?_
  refine va_aldq (i := 7) hx hb hK hP 1 0 rfl rfl (vp_in_iff.mpr ⟨by decide, by decide⟩) dX12_breaksThere_15 ?_
  refine W.eq (g2 := F0 m 16 ls [.null]) rfl ?_
  refine lv_ifnullN (tgt := 22) hx hb dX12_breaksThere_16 (by decide) ?_
  refine lv_iinc (v := 8) (lv' := [(2, .int 8), (1, .int 0), (0, .ref c0)]) hx hb dX12_breaksThere_22 hl (k := 0) rfl (by decide) (by decide) rfl (fun ls hl => ?_)
  refine lv_goto (tgt := 4) hx hb dX12_breaksThere_25 (by decide) ?_
  refine lv_iload_n hx hb dX12_breaksThere_4 rfl (lv_at hl 0 rfl) ?_
  refine lv_bipush (v := 8) hx hb dX12_breaksThere_5 (by decide) ?_
  refine lv_icmp_ge (tgt := 28) hx hb dX12_breaksThere_7 (by decide) (fun _ => ?_) (fun h9 => absurd (by decide) h9)
  refine lv_iload_n hx hb dX12_breaksThere_28 rfl (lv_at hl 1 rfl) ?_
  have hP9 := hP.sub (ws' := [(c0, .inr (13, [.ref c3, .int 0, .int 0, .ref c4, .ref c5, .ref c6, .ref c7, .ref c1, .ref c8, .ref c9, .int 0, .ref c10])), (c1, .inl (c2, 8, .inr (.inr (.inr (.inr (fun _ => none))))))]) [0, 1] rfl
  have hD9 := hD.sub (ws' := [(c0, .inr (13, [.ref c3, .int 0, .int 0, .ref c4, .ref c5, .ref c6, .ref c7, .ref c1, .ref c8, .ref c9, .int 0, .ref c10])), (c1, .inl (c2, 8, .inr (.inr (.inr (.inr (fun _ => none))))))]) [0, 1] (by decide) rfl
  have hK9 := hK.sub (tys' := [(c2, .object RX2)]) [0] rfl
  refine W.widen (k := 0) (n := 0) (by decide +kernel) (by decide +kernel) ?_
  exact W.iret (v := 0) hx hb hr (fun t ht hW => ⟨⟨0, (), rfl, rfl, by rw [ht]; exact hP9, va_K.moved hW.alike hK9, hD9⟩, hS.F ht⟩) hS.2.2 dX12_breaksThere_29
def ow_k_X12_count : List Cond := .code yX12_count cX12_count 2 (some .long) :: ([.constantLong RX12 272 (-1), .fieldLink RX12 33 "TimeMachine" "timeline" "LTimeMachine$Timeline;", .fieldLink RX12 142 "TimeMachine$Timeline" "booted" "Z", .methodLink RX12 269 yX12_breaksThere, .instanceMethod yX12_breaksThere, .selects RX12 yX12_breaksThere yX12_breaksThere, .initialized RX12, .fieldLink RX12 58 "TimeMachine" "taped" "I"] ++ (u_ws RX12 TX12 12 ++ (u_ws RX11 TX11 16 ++ (ow_k_X12_breaksThere ++ []))))
theorem gd_k_X12_count : ∀ w ∈ ow_k_X12_count, (w.onTables && w.keeps) = true ∨ ∃ ty, w = Cond.arrayClass ty := List.forall_mem_cons.mpr ⟨good_of_word rfl, List.forall_mem_append.mpr ⟨fun w h => good_of_word (List.all_eq_true.mp (by decide +kernel) w h), List.forall_mem_append.mpr ⟨gu_X12, List.forall_mem_append.mpr ⟨gu_X11, List.forall_mem_append.mpr ⟨gd_k_X12_breaksThere, fun _ h => nomatch h⟩⟩⟩⟩⟩
theorem hi_k_X12_count_X12 : ∀ w ∈ u_ws RX12 TX12 12, w ∈ ow_k_X12_count := fun w h => List.mem_cons_of_mem _ (List.mem_append_right _ (List.mem_append_left _ h))
theorem hi_k_X12_count_X11 : ∀ w ∈ u_ws RX11 TX11 16, w ∈ ow_k_X12_count := fun w h => List.mem_cons_of_mem _ (List.mem_append_right _ (List.mem_append_right _ (List.mem_append_left _ h)))
theorem gi_k_X12_count_0 : GoodIn ow_k_X12_count (wsV RX12 269 RX12 yX12_breaksThere ow_k_X12_breaksThere) := goodIn_app (goodIn_of _ (by decide +kernel)) (fun w h => ⟨List.mem_cons_of_mem _ (List.mem_append_right _ (List.mem_append_right _ (List.mem_append_right _ (List.mem_append_left _ h)))), gd_k_X12_breaksThere w h⟩)
set_option maxHeartbeats 40000000 in
set_option maxRecDepth 100000 in
theorem k_X12_count (l : Launch) (hlt : l.stackTraces = false) (dC : Nat → ClassId) (dI : Nat → Nat → Nat) (c0 : Nat) (c1 : Nat) (c2 : Nat) (c3 : ClassId) (c4 : Int32) (c5 : Nat) (c6 : Nat) (c7 : Nat) (c8 : Nat) (c9 : Nat) (c10 : Nat) (c11 : Nat) (c12 : Nat) (c13 : Nat) (c14 : Nat) (c15 : Nat) (c16 : Nat) (c17 : Nat) (c18 : Nat) (c19 : Nat) (sz : Nat) : Met l yX12_count ow_k_X12_count ({ frames := 1, cells := 0, slots := 0, locals := 22 }) (va_Pc [.ref c0, .int c4] (fun U => U.heap.size = sz ∧ va_P (dC, dI) vwCl [(c0, .inr (13, [.ref c5, .int 0, .int 0, .ref c6, .ref c7, .ref c8, .ref c1, .ref c2, .ref c9, .ref c10, .int 0, .ref c11])), (c1, .inr (12, [.ref c12, .ref c13, .ref c14, .ref c15, .ref c16, .ref c17, .int 0, .ref c18, .ref c19, .int 0, .int 0, .int 0, .int 0, .int 0, .int 0, .int 0])), (c2, .inl (c3, 8, .inr (.inr (.inr (.inr (fun _ => none))))))] U.heap ∧ va_K (dC, dI) vwCl [(c3, .object RX2)] U ∧ va_D (fun _ => True) [(c0, .inr (13, [.ref c5, .int 0, .int 0, .ref c6, .ref c7, .ref c8, .ref c1, .ref c2, .ref c9, .ref c10, .int 0, .ref c11])), (c1, .inr (12, [.ref c12, .ref c13, .ref c14, .ref c15, .ref c16, .ref c17, .int 0, .ref c18, .ref c19, .int 0, .int 0, .int 0, .int 0, .int 0, .int 0, .int 0])), (c2, .inl (c3, 8, .inr (.inr (.inr (.inr (fun _ => none))))))] ∧ nv_E (va_A [(c0, .inr (13, [.ref c5, .int 0, .int 0, .ref c6, .ref c7, .ref c8, .ref c1, .ref c2, .ref c9, .ref c10, .int 0, .ref c11])), (c1, .inr (12, [.ref c12, .ref c13, .ref c14, .ref c15, .ref c16, .ref c17, .int 0, .ref c18, .ref c19, .int 0, .int 0, .int 0, .int 0, .int 0, .int 0, .int 0])), (c2, .inl (c3, 8, .inr (.inr (.inr (.inr (fun _ => none))))))] sz) U)) (va_Ql (fun r _ => ((¬ c4 = 15) ∧ (¬ c4 = 16) ∧ (c4 < 0) ∧ r = (-1)) ∨ ((¬ c4 = 15) ∧ (¬ c4 = 16) ∧ (¬ c4 < 0) ∧ (c4 ≤ 14) ∧ (¬ c4 = 2) ∧ r = 0) ∨ ((¬ c4 = 15) ∧ (¬ c4 = 16) ∧ (¬ c4 < 0) ∧ (c4 ≤ 14) ∧ (c4 = 2) ∧ r = (-1)) ∨ ((¬ c4 = 15) ∧ (¬ c4 = 16) ∧ (¬ c4 < 0) ∧ (¬ c4 ≤ 14) ∧ r = (-1)) ∨ ((¬ c4 = 15) ∧ (c4 = 16) ∧ r = 0) ∨ ((c4 = 15) ∧ r = 0) ∨ False) (fun (_ : Unit) t => True) (va_A [(c0, .inr (13, [.ref c5, .int 0, .int 0, .ref c6, .ref c7, .ref c8, .ref c1, .ref c2, .ref c9, .ref c10, .int 0, .ref c11])), (c1, .inr (12, [.ref c12, .ref c13, .ref c14, .ref c15, .ref c16, .ref c17, .int 0, .ref c18, .ref c19, .int 0, .int 0, .int 0, .int 0, .int 0, .int 0, .int 0])), (c2, .inl (c3, 8, .inr (.inr (.inr (.inr (fun _ => none))))))] sz)) 0 0 (va_A [(c0, .inr (13, [.ref c5, .int 0, .int 0, .ref c6, .ref c7, .ref c8, .ref c1, .ref c2, .ref c9, .ref c10, .int 0, .ref c11])), (c1, .inr (12, [.ref c12, .ref c13, .ref c14, .ref c15, .ref c16, .ref c17, .int 0, .ref c18, .ref c19, .int 0, .int 0, .int 0, .int 0, .int 0, .int 0, .int 0])), (c2, .inl (c3, 8, .inr (.inr (.inr (.inr (fun _ => none))))))] sz) := by
  refine Met.ofW (cc := cX12_count) (maxL := 2) (ret := (some .long)) (by decide) rfl ?_
  intro p e s m args below meth c s₁ B hml hv
  obtain ⟨rfl, hsz, hP, hK, hD0, hN⟩ := hv
  have hx := B.exec
  have hb := B.bytes
  have hr := B.returns
  have hts := atoms_spec (ws := ow_k_X12_count) B.pre
  have hown : s.vm.findClass RX12 = some m.cls := findClass_of_methodNamed B.named
  have hlocks := B.notSynchronized
  subst hsz
  have hD := hD0.self (sz := s.heap.size)
  generalize hAe : va_A [(c0, .inr (13, [.ref c5, .int 0, .int 0, .ref c6, .ref c7, .ref c8, .ref c1, .ref c2, .ref c9, .ref c10, .int 0, .ref c11])), (c1, .inr (12, [.ref c12, .ref c13, .ref c14, .ref c15, .ref c16, .ref c17, .int 0, .ref c18, .ref c19, .int 0, .int 0, .int 0, .int 0, .int 0, .int 0, .int 0])), (c2, .inl (c3, 8, .inr (.inr (.inr (.inr (fun _ => none))))))] s.heap.size = A at hD hN ⊢
  have hA : ∀ q : Nat, s.heap.size ≤ q → A q := fun q h => by rw [← hAe]; exact Or.inr h
  have hS : va_S A s.heap s.heap [] := va_S.rf
  have hl := lv_entry ([.ref c0, .int c4]) (n := 2) (Nat.le_of_ble_eq_true rfl)
  rw [lg_entry_eq]
  generalize (lg_sl ([.ref c0, .int c4]) ++ List.replicate (2 - (lg_sl ([.ref c0, .int c4])).length) Slot.unset).toArray = ls at hl ⊢
  have hl : lv_has ls 2 [(0, .ref c0), (1, .int c4)] := hl
  refine lv_iload_n hx hb dX12_count_0 rfl (lv_at hl 1 rfl) ?_
  refine lv_bipush (v := 15) hx hb dX12_count_1 (by decide) ?_
  refine lv_icmp_ne (tgt := 12) hx hb dX12_count_3 (by decide) (fun c_1 => ?_) (fun c_1 => ?_)
  · refine lv_iload_n hx hb dX12_count_12 rfl (lv_at hl 1 rfl) ?_
    refine lv_bipush (v := 16) hx hb dX12_count_13 (by decide) ?_
    refine lv_icmp_ne (tgt := 24) hx hb dX12_count_15 (by decide) (fun c_2 => ?_) (fun c_2 => ?_)
    · refine lv_iload_n hx hb dX12_count_24 rfl (lv_at hl 1 rfl) ?_
      refine lv_if_lt (tgt := 34) hx hb dX12_count_25 (by decide) (fun c_3 => ?_) (fun c_3 => ?_)
      · refine lv_ldc2 hx hb hown (hts (.constantLong RX12 272 (-1)) (List.mem_of_getElem? (i := 1) rfl)) dX12_count_34 ?_
        refine W.widen (k := 0) (n := 0) (by decide +kernel) (by decide +kernel) ?_
        exact W.lret (v := (-1)) hx hb hr (fun t ht hW => ⟨⟨(-1), (), rfl, Or.inl ⟨c_1, c_2, c_3, rfl⟩, trivial⟩, hS.F ht⟩) hS.2.2 dX12_count_37
      · refine lv_iload_n hx hb dX12_count_28 rfl (lv_at hl 1 rfl) ?_
        refine lv_bipush (v := 14) hx hb dX12_count_29 (by decide) ?_
        refine lv_icmp_le (tgt := 38) hx hb dX12_count_31 (by decide) (fun c_4 => ?_) (fun c_4 => ?_)
        · refine lv_aload_n hx hb dX12_count_38 rfl (lv_at hl 0 rfl) ?_
          refine va_get (D := (dC, dI)) (ci := 13) (v := .ref c1) (C := RX12) (T := TX12) (N := 12) hx hb hts hi_k_X12_count_X12 hown hK hP 0 rfl rfl 6 (by decide) (hts (.fieldLink RX12 33 "TimeMachine" "timeline" "LTimeMachine$Timeline;") (List.mem_of_getElem? (i := 2) rfl)) (fun _ h9 => h9) rfl dX12_count_39 ?_
          refine va_get (D := (dC, dI)) (ci := 12) (v := .int 0) (C := RX11) (T := TX11) (N := 16) hx hb hts hi_k_X12_count_X11 hown hK hP 1 rfl rfl 6 (by decide) (hts (.fieldLink RX12 142 "TimeMachine$Timeline" "booted" "Z") (List.mem_of_getElem? (i := 3) rfl)) (fun _ h9 => h9) rfl dX12_count_42 ?_
          refine lv_if_ne (tgt := 61) hx hb dX12_count_45 (by decide) (fun h9 => absurd h9 (by decide)) (fun _ => ?_)
          refine lv_iload_n hx hb dX12_count_48 rfl (lv_at hl 1 rfl) ?_
          refine lv_iconst (v := 2) hx hb dX12_count_49 (by decide) ?_
          refine lv_icmp_ne (tgt := 59) hx hb dX12_count_50 (by decide) (fun c_5 => ?_) (fun c_5 => ?_)
          · refine lv_lconst (v := 0) hx hb dX12_count_59 (by decide) ?_
            refine W.widen (k := 0) (n := 0) (by decide +kernel) (by decide +kernel) ?_
            exact W.lret (v := 0) hx hb hr (fun t ht hW => ⟨⟨0, (), rfl, Or.inr (Or.inl ⟨c_1, c_2, c_3, c_4, c_5, rfl⟩), trivial⟩, hS.F ht⟩) hS.2.2 dX12_count_60
          · refine lv_ldc2 hx hb hown (hts (.constantLong RX12 272 (-1)) (List.mem_of_getElem? (i := 1) rfl)) dX12_count_53 ?_
            refine lv_goto (tgt := 60) hx hb dX12_count_56 (by decide) ?_
            refine W.widen (k := 0) (n := 0) (by decide +kernel) (by decide +kernel) ?_
            exact W.lret (v := (-1)) hx hb hr (fun t ht hW => ⟨⟨(-1), (), rfl, Or.inr (Or.inr (Or.inl ⟨c_1, c_2, c_3, c_4, c_5, rfl⟩)), trivial⟩, hS.F ht⟩) hS.2.2 dX12_count_60
        · refine lv_ldc2 hx hb hown (hts (.constantLong RX12 272 (-1)) (List.mem_of_getElem? (i := 1) rfl)) dX12_count_34 ?_
          refine W.widen (k := 0) (n := 0) (by decide +kernel) (by decide +kernel) ?_
          exact W.lret (v := (-1)) hx hb hr (fun t ht hW => ⟨⟨(-1), (), rfl, Or.inr (Or.inr (Or.inr (Or.inl ⟨c_1, c_2, c_3, c_4, rfl⟩))), trivial⟩, hS.F ht⟩) hS.2.2 dX12_count_37
    · refine lv_aload_n hx hb dX12_count_18 rfl (lv_at hl 0 rfl) ?_
      have hPc := hP.sub (ws' := [(c0, .inr (13, [.ref c5, .int 0, .int 0, .ref c6, .ref c7, .ref c8, .ref c1, .ref c2, .ref c9, .ref c10, .int 0, .ref c11])), (c2, .inl (c3, 8, .inr (.inr (.inr (.inr (fun _ => none))))))]) [0, 2] rfl
      have hDc := hD.sub (ws' := [(c0, .inr (13, [.ref c5, .int 0, .int 0, .ref c6, .ref c7, .ref c8, .ref c1, .ref c2, .ref c9, .ref c10, .int 0, .ref c11])), (c2, .inl (c3, 8, .inr (.inr (.inr (.inr (fun _ => none))))))]) [0, 2] (by decide) rfl
      have hKc := hK.sub (tys' := [(c3, .object RX2)]) [0] rfl
      have hFc := va_free (wc := [(c0, .inr (13, [.ref c5, .int 0, .int 0, .ref c6, .ref c7, .ref c8, .ref c1, .ref c2, .ref c9, .ref c10, .int 0, .ref c11])), (c2, .inl (c3, 8, .inr (.inr (.inr (.inr (fun _ => none))))))]) hD hS hA [0, 2] rfl
      refine va_calli (va_runV (As := []) (rest := []) ⟨hx, hb, hml, hown, hts⟩ (k_X12_breaksThere l hlt dC dI c0 c2 c3 c5 c6 c7 c8 c1 c9 c10 c11  s.heap.size) (cwV 0 hts gi_k_X12_count_0 rfl rfl rfl (by decide +kernel) ⟨Nat.le_of_ble_eq_true rfl, Nat.le_of_ble_eq_true rfl⟩) ⟨fun a U g mk q => by obtain ⟨q0, q1, qP, qK, qD, qN⟩ := q; exact ⟨q0, q1, qP, va_K.moved (u := U) (U := U.calling g mk a) (Vm.Alike.refl U.vm) qK, qD, nv_same rfl rfl qN⟩, va_recv hKc hPc (ci := 13) (q0 := 0) rfl rfl, fun U hU hW => ⟨rfl, by rw [hU], by rw [hU]; exact hPc, va_K.moved hW.alike hKc, hDc.weaken (fun _ _ _ _ => trivial), nv_call hS hFc hU hW hN⟩⟩ rfl rfl hl.1 rfl (lv_room (Nat.le_of_ble_eq_true rfl)) dX12_count_19 ⟨by decide +kernel, by decide +kernel⟩) hS (fun q _ h => hFc q h) hFc (fun r1 u t H1 locs ht hvm hw hB hz1 hk1 hS => ?_)
      obtain ⟨hP1, hK1, hD1⟩ := hB
      rw [ht] at hP1
      have hK1 := va_K.moved hvm.symm hK1
      obtain rfl : r1 = 0 := hw
      obtain ⟨hP, hD⟩ := va_join (wr := [(c1, .inr (12, [.ref c12, .ref c13, .ref c14, .ref c15, .ref c16, .ref c17, .int 0, .ref c18, .ref c19, .int 0, .int 0, .int 0, .int 0, .int 0, .int 0, .int 0]))]) (w1 := [(c0, .inr (13, [.ref c5, .int 0, .int 0, .ref c6, .ref c7, .ref c8, .ref c1, .ref c2, .ref c9, .ref c10, .int 0, .ref c11])), (c2, .inl (c3, 8, .inr (.inr (.inr (.inr (fun _ => none))))))]) hP hD [0, 2] [1] rfl rfl (by decide) (by decide) hk1 hFc hP1 hD1
      have hK := (hK.sub (tys' := []) [] rfl).app hK1
      generalize H1 = H at hP hS ⊢
      have hP : va_P (dC, dI) vwCl [(c1, .inr (12, [.ref c12, .ref c13, .ref c14, .ref c15, .ref c16, .ref c17, .int 0, .ref c18, .ref c19, .int 0, .int 0, .int 0, .int 0, .int 0, .int 0, .int 0])), (c0, .inr (13, [.ref c5, .int 0, .int 0, .ref c6, .ref c7, .ref c8, .ref c1, .ref c2, .ref c9, .ref c10, .int 0, .ref c11])), (c2, .inl (c3, 8, .inr (.inr (.inr (.inr (fun _ => none))))))] H := hP
      have hD : va_D A [(c1, .inr (12, [.ref c12, .ref c13, .ref c14, .ref c15, .ref c16, .ref c17, .int 0, .ref c18, .ref c19, .int 0, .int 0, .int 0, .int 0, .int 0, .int 0, .int 0])), (c0, .inr (13, [.ref c5, .int 0, .int 0, .ref c6, .ref c7, .ref c8, .ref c1, .ref c2, .ref c9, .ref c10, .int 0, .ref c11])), (c2, .inl (c3, 8, .inr (.inr (.inr (.inr (fun _ => none))))))] := hD
      have hK : va_K (dC, dI) vwCl [(c3, .object RX2)] s := hK
      refine W.widen (k := 0) (n := 0) (by decide +kernel) (by decide +kernel) ?_
      refine lv_i2l (v := 0) hx hb dX12_count_22 (by decide) ?_
      refine W.widen (k := 0) (n := 0) (by decide +kernel) (by decide +kernel) ?_
      exact W.lret (v := 0) hx hb hr (fun t ht hW => ⟨⟨0, (), rfl, Or.inr (Or.inr (Or.inr (Or.inr (Or.inl ⟨c_1, c_2, rfl⟩)))), trivial⟩, hS.F ht⟩) hS.2.2 dX12_count_23
  · refine lv_aload_n hx hb dX12_count_6 rfl (lv_at hl 0 rfl) ?_
    refine va_get (D := (dC, dI)) (ci := 13) (v := .int 0) (C := RX12) (T := TX12) (N := 12) hx hb hts hi_k_X12_count_X12 hown hK hP 0 rfl rfl 1 (by decide) (hts (.fieldLink RX12 58 "TimeMachine" "taped" "I") (List.mem_of_getElem? (i := 8) rfl)) (fun _ h9 => h9) rfl dX12_count_7 ?_
    refine lv_i2l (v := 0) hx hb dX12_count_10 (by decide) ?_
    refine W.widen (k := 0) (n := 0) (by decide +kernel) (by decide +kernel) ?_
    exact W.lret (v := 0) hx hb hr (fun t ht hW => ⟨⟨0, (), rfl, Or.inr (Or.inr (Or.inr (Or.inr (Or.inr (Or.inl ⟨c_1, rfl⟩))))), trivial⟩, hS.F ht⟩) hS.2.2 dX12_count_11
def ow_k_X19_in_v9 : List Cond := .code yX19_in cX19_in 6 (some .boolean) :: ([] ++ [])
theorem gd_k_X19_in_v9 : ∀ w ∈ ow_k_X19_in_v9, (w.onTables && w.keeps) = true ∨ ∃ ty, w = Cond.arrayClass ty := List.forall_mem_cons.mpr ⟨good_of_word rfl, List.forall_mem_append.mpr ⟨fun w h => good_of_word (List.all_eq_true.mp (by decide +kernel) w h), fun _ h => nomatch h⟩⟩
set_option maxHeartbeats 40000000 in
set_option maxRecDepth 100000 in
theorem k_X19_in_v9 (l : Launch) (hlt : l.stackTraces = false) (dC : Nat → ClassId) (dI : Nat → Nat → Nat) (c0 : Int32) (sz : Nat) : Met l yX19_in ow_k_X19_in_v9 ({ frames := 0, cells := 0, slots := 0, locals := 0 }) (va_Pc [.long (c0.toInt64), .long 0, .long 14] (fun U => U.heap.size = sz ∧ va_P (dC, dI) vwCl [] U.heap ∧ va_K (dC, dI) vwCl [] U ∧ va_D (fun _ => True) [] ∧ nv_E (va_A [] sz) U)) (va_Qi (fun r _ => ((c0 < 0) ∧ r = 0) ∨ ((¬ c0 < 0) ∧ (14 < c0) ∧ r = 0) ∨ ((¬ c0 < 0) ∧ (¬ 14 < c0) ∧ r = 1) ∨ False) (fun (_ : Unit) t => va_P (dC, dI) vwCl [] t.heap ∧ va_K (dC, dI) vwCl [] t ∧ va_D (va_A [] sz) []) (va_A [] sz)) 0 0 (va_A [] sz) := by
  refine Met.ofW (cc := cX19_in) (maxL := 6) (ret := (some .boolean)) (by decide) rfl ?_
  intro p e s m args below meth c s₁ B hml hv
  obtain ⟨rfl, hsz, hP, hK, hD0, hN⟩ := hv
  have hx := B.exec
  have hb := B.bytes
  have hr := B.returns
  have hts := atoms_spec (ws := ow_k_X19_in_v9) B.pre
  have hown : s.vm.findClass RX19 = some m.cls := findClass_of_methodNamed B.named
  have hlocks := B.notSynchronized
  subst hsz
  have hD := hD0.self (sz := s.heap.size)
  generalize hAe : va_A [] s.heap.size = A at hD hN ⊢
  have hA : ∀ q : Nat, s.heap.size ≤ q → A q := fun q h => by rw [← hAe]; exact Or.inr h
  have hS : va_S A s.heap s.heap [] := va_S.rf
  have hl := lv_entry ([.long (c0.toInt64), .long 0, .long 14]) (n := 6) (Nat.le_of_ble_eq_true rfl)
  rw [lg_entry_eq]
  generalize (lg_sl ([.long (c0.toInt64), .long 0, .long 14]) ++ List.replicate (6 - (lg_sl ([.long (c0.toInt64), .long 0, .long 14])).length) Slot.unset).toArray = ls at hl ⊢
  have hl : lv_has ls 6 [(0, .long (c0.toInt64)), (2, .long 0), (4, .long 14)] := hl
  refine lv_lload_n hx hb dX19_in_0 rfl (lv_at hl 0 rfl) ?_
  refine lv_lload_n hx hb dX19_in_1 rfl (lv_at hl 1 rfl) ?_
  refine W.lcmp hx hb dX19_in_2 ?_
  refine lv_if_lt (tgt := 17) hx hb dX19_in_3 (by decide) (fun h9 => (fun (c_1 : c0 < 0) => ?_) ((nv_ci_lt (x := c0) (k := 0) (K := 0) (by decide)).mp h9)) (fun h9 => (fun (c_1 : ¬ c0 < 0) => ?_) (fun h8 => h9 ((nv_ci_lt (x := c0) (k := 0) (K := 0) (by decide)).mpr h8)))
  · refine lv_iconst (v := 0) hx hb dX19_in_17 (by decide) ?_
    refine W.widen (k := 0) (n := 0) (by decide +kernel) (by decide +kernel) ?_
    exact W.zret (v := 0) hx hb hr (by first | rfl | decide) (fun t ht hW => ⟨⟨0, (), rfl, Or.inl ⟨c_1, rfl⟩, by rw [ht]; exact hP, va_K.moved hW.alike hK, hD⟩, hS.F ht⟩) hS.2.2 dX19_in_18
  · refine lv_lload_n hx hb dX19_in_6 rfl (lv_at hl 0 rfl) ?_
    refine lv_lload hx hb dX19_in_7 (lv_at hl 2 rfl) ?_
    refine W.lcmp hx hb dX19_in_9 ?_
    refine lv_if_gt (tgt := 17) hx hb dX19_in_10 (by decide) (fun h9 => (fun (c_2 : 14 < c0) => ?_) ((nv_ci_gt (x := c0) (k := 14) (K := 14) (by decide)).mp h9)) (fun h9 => (fun (c_2 : ¬ 14 < c0) => ?_) (fun h8 => h9 ((nv_ci_gt (x := c0) (k := 14) (K := 14) (by decide)).mpr h8)))
    · refine lv_iconst (v := 0) hx hb dX19_in_17 (by decide) ?_
      refine W.widen (k := 0) (n := 0) (by decide +kernel) (by decide +kernel) ?_
      exact W.zret (v := 0) hx hb hr (by first | rfl | decide) (fun t ht hW => ⟨⟨0, (), rfl, Or.inr (Or.inl ⟨c_1, c_2, rfl⟩), by rw [ht]; exact hP, va_K.moved hW.alike hK, hD⟩, hS.F ht⟩) hS.2.2 dX19_in_18
    · refine lv_iconst (v := 1) hx hb dX19_in_13 (by decide) ?_
      refine lv_goto (tgt := 18) hx hb dX19_in_14 (by decide) ?_
      refine W.widen (k := 0) (n := 0) (by decide +kernel) (by decide +kernel) ?_
      exact W.zret (v := 1) hx hb hr (by first | rfl | decide) (fun t ht hW => ⟨⟨1, (), rfl, Or.inr (Or.inr (Or.inl ⟨c_1, c_2, rfl⟩)), by rw [ht]; exact hP, va_K.moved hW.alike hK, hD⟩, hS.F ht⟩) hS.2.2 dX19_in_18
def ow_k_X15_size : List Cond := .code yX15_size cX15_size 3 (some .int) :: ([.fieldLink RX15 13 "TimeMachineModel$Conditions" "there" "[Z"] ++ (u_ws RX15 TX15 28 ++ []))
theorem gd_k_X15_size : ∀ w ∈ ow_k_X15_size, (w.onTables && w.keeps) = true ∨ ∃ ty, w = Cond.arrayClass ty := List.forall_mem_cons.mpr ⟨good_of_word rfl, List.forall_mem_append.mpr ⟨fun w h => good_of_word (List.all_eq_true.mp (by decide +kernel) w h), List.forall_mem_append.mpr ⟨gu_X15, fun _ h => nomatch h⟩⟩⟩
theorem hi_k_X15_size_X15 : ∀ w ∈ u_ws RX15 TX15 28, w ∈ ow_k_X15_size := fun w h => List.mem_cons_of_mem _ (List.mem_append_right _ (List.mem_append_left _ h))
set_option maxHeartbeats 40000000 in
set_option maxRecDepth 100000 in
theorem k_X15_size_s0 {p : Program} {l : Launch} {e : Env} {s : State} {m : MethodId} {args : Array Value} {below : List Frame} {meth : Method} {c : Code} {Q : State → Prop} {A : Nat → Prop} (dC : Nat → ClassId) (dI : Nat → Nat → Nat) (c0 : Nat) (c1 : Nat) (c2 : ClassId) (c3 : Nat) (c4 : Nat) (c5 : Nat) (c6 : Nat) (c7 : Nat) (c8 : Nat) (c9 : Nat) (c10 : Nat) (c11 : Nat) (c12 : Nat) (c13 : Nat) (c14 : Nat) (c15 : Nat) (c16 : Nat) (c17 : Nat) (c18 : Nat) (hlt : l.stackTraces = false) (hx : p.tables.exec = Jvm.exec) (hb : c.code = cX15_size) (hml : c.maxLocals = 3) (hown : s.vm.findClass RX15 = some m.cls) (hts : ∀ w ∈ ow_k_X15_size, w.before args s = true) (hN : nv_E A s) (hA : ∀ q : Nat, s.heap.size ≤ q → A q) {H : Heap} {locs : List Loc} {ls : Array Slot} (hK : va_K (dC, dI) vwCl [(c2, .boolean)] s) (hP : va_P (dC, dI) vwCl [(c0, .inr (16, [.ref c3, .int 0, .ref c4, .ref c1, .ref c5, .ref c6, .ref c7, .ref c8, .ref c9, .int 0, .int 0, .int 0, .int 0, .int 0, .int 0, .long 0, .ref c10, .ref c11, .ref c12, .ref c13, .int 0, .int 0, .long 0, .ref c14, .ref c15, .ref c16, .ref c17, .ref c18])), (c1, .inl (c2, 8, .inl (fun _ => 0)))] H) (hD : va_D A [(c0, .inr (16, [.ref c3, .int 0, .ref c4, .ref c1, .ref c5, .ref c6, .ref c7, .ref c8, .ref c9, .int 0, .int 0, .int 0, .int 0, .int 0, .int 0, .long 0, .ref c10, .ref c11, .ref c12, .ref c13, .int 0, .int 0, .long 0, .ref c14, .ref c15, .ref c16, .ref c17, .ref c18])), (c1, .inl (c2, 8, .inl (fun _ => 0)))]) (hS : va_S A s.heap H locs) (hl : lv_has ls 3 [(0, .ref c0)]) (kk : ∀ (H : Heap) (locs : List Loc) (ls : Array Slot), va_K (dC, dI) vwCl [(c2, .boolean)] s → va_P (dC, dI) vwCl [(c0, .inr (16, [.ref c3, .int 0, .ref c4, .ref c1, .ref c5, .ref c6, .ref c7, .ref c8, .ref c9, .int 0, .int 0, .int 0, .int 0, .int 0, .int 0, .long 0, .ref c10, .ref c11, .ref c12, .ref c13, .int 0, .int 0, .long 0, .ref c14, .ref c15, .ref c16, .ref c17, .ref c18])), (c1, .inl (c2, 8, .inl (fun _ => 0)))] H → va_D A [(c0, .inr (16, [.ref c3, .int 0, .ref c4, .ref c1, .ref c5, .ref c6, .ref c7, .ref c8, .ref c9, .int 0, .int 0, .int 0, .int 0, .int 0, .int 0, .long 0, .ref c10, .ref c11, .ref c12, .ref c13, .int 0, .int 0, .long 0, .ref c14, .ref c15, .ref c16, .ref c17, .ref c18])), (c1, .inl (c2, 8, .inl (fun _ => 0)))] → va_S A s.heap H locs → lv_has ls 3 [(2, .int 7), (1, .int 0), (0, .ref c0)] → W p l e (headSpec ow_k_X15_size ({ frames := 0, cells := 0, slots := 0, locals := 0 })).room s m args below meth c H locs 0 0 Q (F0 m 7 ls [.int 8, .int 7])) : W p l e (headSpec ow_k_X15_size ({ frames := 0, cells := 0, slots := 0, locals := 0 })).room s m args below meth c H locs 0 0 Q (F0 m 0 ls []) := by
  refine lv_iconst (v := 0) hx hb dX15_size_0 (by decide) ?_
  refine lv_istore_n (lv' := [(1, .int 0), (0, .ref c0)]) hx hb dX15_size_1 rfl hl (by decide) rfl (fun ls hl => ?_)
  refine lv_iconst (v := 0) hx hb dX15_size_2 (by decide) ?_
  refine lv_istore_n (lv' := [(2, .int 0), (1, .int 0), (0, .ref c0)]) hx hb dX15_size_3 rfl hl (by decide) rfl (fun ls hl => ?_)
  refine lv_iload_n hx hb dX15_size_4 rfl (lv_at hl 0 rfl) ?_
  refine lv_bipush (v := 8) hx hb dX15_size_5 (by decide) ?_
  refine lv_icmp_ge (tgt := 33) hx hb dX15_size_7 (by decide) (fun h9 => absurd h9 (by decide)) (fun _ => ?_)
  refine lv_aload_n hx hb dX15_size_10 rfl (lv_at hl 2 rfl) ?_
  refine va_get (D := (dC, dI)) (ci := 16) (v := .ref c1) (C := RX15) (T := TX15) (N := 28) hx hb hts hi_k_X15_size_X15 hown hK hP 0 rfl rfl 3 (by decide) (hts (.fieldLink RX15 13 "TimeMachineModel$Conditions" "there" "[Z") (List.mem_of_getElem? (i := 1) rfl)) (fun _ h9 => h9) rfl dX15_size_11 ?_
  refine lv_iload_n hx hb dX15_size_14 rfl (lv_at hl 0 rfl) ?_
  refine va_zald (i := 0) hx hb hK hP 1 0 rfl rfl (vp_in_iff.mpr ⟨by decide, by decide⟩) dX15_size_15 ?_
  refine lv_topi (fun z1 ez1 => ?_)
  obtain rfl : z1 = 0 := ez1.trans (by decide)
  refine lv_if_eq (tgt := 25) hx hb dX15_size_16 (by decide) (fun _ => ?_) (fun h9 => absurd (by decide) h9)
  refine lv_iload_n hx hb dX15_size_25 rfl (lv_at hl 1 rfl) ?_
  refine lv_istore_n (lv' := [(1, .int 0), (2, .int 0), (0, .ref c0)]) hx hb dX15_size_26 rfl hl (by decide) rfl (fun ls hl => ?_)
  refine lv_iinc (v := 1) (lv' := [(2, .int 1), (1, .int 0), (0, .ref c0)]) hx hb dX15_size_27 hl (k := 1) rfl (by decide) (by decide) rfl (fun ls hl => ?_)
  refine lv_goto (tgt := 4) hx hb dX15_size_30 (by decide) ?_
  refine lv_iload_n hx hb dX15_size_4 rfl (lv_at hl 0 rfl) ?_
  refine lv_bipush (v := 8) hx hb dX15_size_5 (by decide) ?_
  refine lv_icmp_ge (tgt := 33) hx hb dX15_size_7 (by decide) (fun h9 => absurd h9 (by decide)) (fun _ => ?_)
  refine lv_aload_n hx hb dX15_size_10 rfl (lv_at hl 2 rfl) ?_
  refine va_get (D := (dC, dI)) (ci := 16) (v := .ref c1) (C := RX15) (T := TX15) (N := 28) hx hb hts hi_k_X15_size_X15 hown hK hP 0 rfl rfl 3 (by decide) (hts (.fieldLink RX15 13 "TimeMachineModel$Conditions" "there" "[Z") (List.mem_of_getElem? (i := 1) rfl)) (fun _ h9 => h9) rfl dX15_size_11 ?_
  refine lv_iload_n hx hb dX15_size_14 rfl (lv_at hl 0 rfl) ?_
  refine va_zald (i := 1) hx hb hK hP 1 0 rfl rfl (vp_in_iff.mpr ⟨by decide, by decide⟩) dX15_size_15 ?_
  refine lv_topi (fun z2 ez2 => ?_)
  obtain rfl : z2 = 0 := ez2.trans (by decide)
  refine lv_if_eq (tgt := 25) hx hb dX15_size_16 (by decide) (fun _ => ?_) (fun h9 => absurd (by decide) h9)
  refine lv_iload_n hx hb dX15_size_25 rfl (lv_at hl 1 rfl) ?_
  refine lv_istore_n (lv' := [(1, .int 0), (2, .int 1), (0, .ref c0)]) hx hb dX15_size_26 rfl hl (by decide) rfl (fun ls hl => ?_)
  refine lv_iinc (v := 2) (lv' := [(2, .int 2), (1, .int 0), (0, .ref c0)]) hx hb dX15_size_27 hl (k := 1) rfl (by decide) (by decide) rfl (fun ls hl => ?_)
  refine lv_goto (tgt := 4) hx hb dX15_size_30 (by decide) ?_
  refine lv_iload_n hx hb dX15_size_4 rfl (lv_at hl 0 rfl) ?_
  refine lv_bipush (v := 8) hx hb dX15_size_5 (by decide) ?_
  refine lv_icmp_ge (tgt := 33) hx hb dX15_size_7 (by decide) (fun h9 => absurd h9 (by decide)) (fun _ => ?_)
  refine lv_aload_n hx hb dX15_size_10 rfl (lv_at hl 2 rfl) ?_
  refine va_get (D := (dC, dI)) (ci := 16) (v := .ref c1) (C := RX15) (T := TX15) (N := 28) hx hb hts hi_k_X15_size_X15 hown hK hP 0 rfl rfl 3 (by decide) (hts (.fieldLink RX15 13 "TimeMachineModel$Conditions" "there" "[Z") (List.mem_of_getElem? (i := 1) rfl)) (fun _ h9 => h9) rfl dX15_size_11 ?_
  refine lv_iload_n hx hb dX15_size_14 rfl (lv_at hl 0 rfl) ?_
  refine va_zald (i := 2) hx hb hK hP 1 0 rfl rfl (vp_in_iff.mpr ⟨by decide, by decide⟩) dX15_size_15 ?_
  refine lv_topi (fun z3 ez3 => ?_)
  obtain rfl : z3 = 0 := ez3.trans (by decide)
  refine lv_if_eq (tgt := 25) hx hb dX15_size_16 (by decide) (fun _ => ?_) (fun h9 => absurd (by decide) h9)
  refine lv_iload_n hx hb dX15_size_25 rfl (lv_at hl 1 rfl) ?_
  refine lv_istore_n (lv' := [(1, .int 0), (2, .int 2), (0, .ref c0)]) hx hb dX15_size_26 rfl hl (by decide) rfl (fun ls hl => ?_)
  refine lv_iinc (v := 3) (lv' := [(2, .int 3), (1, .int 0), (0, .ref c0)]) hx hb dX15_size_27 hl (k := 1) rfl (by decide) (by decide) rfl (fun ls hl => ?_)
  refine lv_goto (tgt := 4) hx hb dX15_size_30 (by decide) ?_
  refine lv_iload_n hx hb dX15_size_4 rfl (lv_at hl 0 rfl) ?_
  refine lv_bipush (v := 8) hx hb dX15_size_5 (by decide) ?_
  refine lv_icmp_ge (tgt := 33) hx hb dX15_size_7 (by decide) (fun h9 => absurd h9 (by decide)) (fun _ => ?_)
  refine lv_aload_n hx hb dX15_size_10 rfl (lv_at hl 2 rfl) ?_
  refine va_get (D := (dC, dI)) (ci := 16) (v := .ref c1) (C := RX15) (T := TX15) (N := 28) hx hb hts hi_k_X15_size_X15 hown hK hP 0 rfl rfl 3 (by decide) (hts (.fieldLink RX15 13 "TimeMachineModel$Conditions" "there" "[Z") (List.mem_of_getElem? (i := 1) rfl)) (fun _ h9 => h9) rfl dX15_size_11 ?_
  refine lv_iload_n hx hb dX15_size_14 rfl (lv_at hl 0 rfl) ?_
  refine va_zald (i := 3) hx hb hK hP 1 0 rfl rfl (vp_in_iff.mpr ⟨by decide, by decide⟩) dX15_size_15 ?_
  refine lv_topi (fun z4 ez4 => ?_)
  obtain rfl : z4 = 0 := ez4.trans (by decide)
  refine lv_if_eq (tgt := 25) hx hb dX15_size_16 (by decide) (fun _ => ?_) (fun h9 => absurd (by decide) h9)
  refine lv_iload_n hx hb dX15_size_25 rfl (lv_at hl 1 rfl) ?_
  refine lv_istore_n (lv' := [(1, .int 0), (2, .int 3), (0, .ref c0)]) hx hb dX15_size_26 rfl hl (by decide) rfl (fun ls hl => ?_)
  refine lv_iinc (v := 4) (lv' := [(2, .int 4), (1, .int 0), (0, .ref c0)]) hx hb dX15_size_27 hl (k := 1) rfl (by decide) (by decide) rfl (fun ls hl => ?_)
  refine lv_goto (tgt := 4) hx hb dX15_size_30 (by decide) ?_
  refine lv_iload_n hx hb dX15_size_4 rfl (lv_at hl 0 rfl) ?_
  refine lv_bipush (v := 8) hx hb dX15_size_5 (by decide) ?_
  refine lv_icmp_ge (tgt := 33) hx hb dX15_size_7 (by decide) (fun h9 => absurd h9 (by decide)) (fun _ => ?_)
  refine lv_aload_n hx hb dX15_size_10 rfl (lv_at hl 2 rfl) ?_
  refine va_get (D := (dC, dI)) (ci := 16) (v := .ref c1) (C := RX15) (T := TX15) (N := 28) hx hb hts hi_k_X15_size_X15 hown hK hP 0 rfl rfl 3 (by decide) (hts (.fieldLink RX15 13 "TimeMachineModel$Conditions" "there" "[Z") (List.mem_of_getElem? (i := 1) rfl)) (fun _ h9 => h9) rfl dX15_size_11 ?_
  refine lv_iload_n hx hb dX15_size_14 rfl (lv_at hl 0 rfl) ?_
  refine va_zald (i := 4) hx hb hK hP 1 0 rfl rfl (vp_in_iff.mpr ⟨by decide, by decide⟩) dX15_size_15 ?_
  refine lv_topi (fun z5 ez5 => ?_)
  obtain rfl : z5 = 0 := ez5.trans (by decide)
  refine lv_if_eq (tgt := 25) hx hb dX15_size_16 (by decide) (fun _ => ?_) (fun h9 => absurd (by decide) h9)
  refine lv_iload_n hx hb dX15_size_25 rfl (lv_at hl 1 rfl) ?_
  refine lv_istore_n (lv' := [(1, .int 0), (2, .int 4), (0, .ref c0)]) hx hb dX15_size_26 rfl hl (by decide) rfl (fun ls hl => ?_)
  refine lv_iinc (v := 5) (lv' := [(2, .int 5), (1, .int 0), (0, .ref c0)]) hx hb dX15_size_27 hl (k := 1) rfl (by decide) (by decide) rfl (fun ls hl => ?_)
  refine lv_goto (tgt := 4) hx hb dX15_size_30 (by decide) ?_
  refine lv_iload_n hx hb dX15_size_4 rfl (lv_at hl 0 rfl) ?_
  refine lv_bipush (v := 8) hx hb dX15_size_5 (by decide) ?_
  refine lv_icmp_ge (tgt := 33) hx hb dX15_size_7 (by decide) (fun h9 => absurd h9 (by decide)) (fun _ => ?_)
  refine lv_aload_n hx hb dX15_size_10 rfl (lv_at hl 2 rfl) ?_
  refine va_get (D := (dC, dI)) (ci := 16) (v := .ref c1) (C := RX15) (T := TX15) (N := 28) hx hb hts hi_k_X15_size_X15 hown hK hP 0 rfl rfl 3 (by decide) (hts (.fieldLink RX15 13 "TimeMachineModel$Conditions" "there" "[Z") (List.mem_of_getElem? (i := 1) rfl)) (fun _ h9 => h9) rfl dX15_size_11 ?_
  refine lv_iload_n hx hb dX15_size_14 rfl (lv_at hl 0 rfl) ?_
  refine va_zald (i := 5) hx hb hK hP 1 0 rfl rfl (vp_in_iff.mpr ⟨by decide, by decide⟩) dX15_size_15 ?_
  refine lv_topi (fun z6 ez6 => ?_)
  obtain rfl : z6 = 0 := ez6.trans (by decide)
  refine lv_if_eq (tgt := 25) hx hb dX15_size_16 (by decide) (fun _ => ?_) (fun h9 => absurd (by decide) h9)
  refine lv_iload_n hx hb dX15_size_25 rfl (lv_at hl 1 rfl) ?_
  refine lv_istore_n (lv' := [(1, .int 0), (2, .int 5), (0, .ref c0)]) hx hb dX15_size_26 rfl hl (by decide) rfl (fun ls hl => ?_)
  refine lv_iinc (v := 6) (lv' := [(2, .int 6), (1, .int 0), (0, .ref c0)]) hx hb dX15_size_27 hl (k := 1) rfl (by decide) (by decide) rfl (fun ls hl => ?_)
  refine lv_goto (tgt := 4) hx hb dX15_size_30 (by decide) ?_
  refine lv_iload_n hx hb dX15_size_4 rfl (lv_at hl 0 rfl) ?_
  refine lv_bipush (v := 8) hx hb dX15_size_5 (by decide) ?_
  refine lv_icmp_ge (tgt := 33) hx hb dX15_size_7 (by decide) (fun h9 => absurd h9 (by decide)) (fun _ => ?_)
  refine lv_aload_n hx hb dX15_size_10 rfl (lv_at hl 2 rfl) ?_
  refine va_get (D := (dC, dI)) (ci := 16) (v := .ref c1) (C := RX15) (T := TX15) (N := 28) hx hb hts hi_k_X15_size_X15 hown hK hP 0 rfl rfl 3 (by decide) (hts (.fieldLink RX15 13 "TimeMachineModel$Conditions" "there" "[Z") (List.mem_of_getElem? (i := 1) rfl)) (fun _ h9 => h9) rfl dX15_size_11 ?_
  refine lv_iload_n hx hb dX15_size_14 rfl (lv_at hl 0 rfl) ?_
  refine va_zald (i := 6) hx hb hK hP 1 0 rfl rfl (vp_in_iff.mpr ⟨by decide, by decide⟩) dX15_size_15 ?_
  refine lv_topi (fun z7 ez7 => ?_)
  obtain rfl : z7 = 0 := ez7.trans (by decide)
  refine lv_if_eq (tgt := 25) hx hb dX15_size_16 (by decide) (fun _ => ?_) (fun h9 => absurd (by decide) h9)
  refine lv_iload_n hx hb dX15_size_25 rfl (lv_at hl 1 rfl) ?_
  refine lv_istore_n (lv' := [(1, .int 0), (2, .int 6), (0, .ref c0)]) hx hb dX15_size_26 rfl hl (by decide) rfl (fun ls hl => ?_)
  refine lv_iinc (v := 7) (lv' := [(2, .int 7), (1, .int 0), (0, .ref c0)]) hx hb dX15_size_27 hl (k := 1) rfl (by decide) (by decide) rfl (fun ls hl => ?_)
  refine lv_goto (tgt := 4) hx hb dX15_size_30 (by decide) ?_
  refine lv_iload_n hx hb dX15_size_4 rfl (lv_at hl 0 rfl) ?_
  refine lv_bipush (v := 8) hx hb dX15_size_5 (by decide) ?_
  exact kk _ _ _ hK hP hD hS hl
set_option maxHeartbeats 40000000 in
set_option maxRecDepth 100000 in
theorem k_X15_size (l : Launch) (hlt : l.stackTraces = false) (dC : Nat → ClassId) (dI : Nat → Nat → Nat) (c0 : Nat) (c1 : Nat) (c2 : ClassId) (c3 : Nat) (c4 : Nat) (c5 : Nat) (c6 : Nat) (c7 : Nat) (c8 : Nat) (c9 : Nat) (c10 : Nat) (c11 : Nat) (c12 : Nat) (c13 : Nat) (c14 : Nat) (c15 : Nat) (c16 : Nat) (c17 : Nat) (c18 : Nat) (sz : Nat) : Met l yX15_size ow_k_X15_size ({ frames := 0, cells := 0, slots := 0, locals := 0 }) (va_Pc [.ref c0] (fun U => U.heap.size = sz ∧ va_P (dC, dI) vwCl [(c0, .inr (16, [.ref c3, .int 0, .ref c4, .ref c1, .ref c5, .ref c6, .ref c7, .ref c8, .ref c9, .int 0, .int 0, .int 0, .int 0, .int 0, .int 0, .long 0, .ref c10, .ref c11, .ref c12, .ref c13, .int 0, .int 0, .long 0, .ref c14, .ref c15, .ref c16, .ref c17, .ref c18])), (c1, .inl (c2, 8, .inl (fun _ => 0)))] U.heap ∧ va_K (dC, dI) vwCl [(c2, .boolean)] U ∧ va_D (fun _ => True) [(c0, .inr (16, [.ref c3, .int 0, .ref c4, .ref c1, .ref c5, .ref c6, .ref c7, .ref c8, .ref c9, .int 0, .int 0, .int 0, .int 0, .int 0, .int 0, .long 0, .ref c10, .ref c11, .ref c12, .ref c13, .int 0, .int 0, .long 0, .ref c14, .ref c15, .ref c16, .ref c17, .ref c18])), (c1, .inl (c2, 8, .inl (fun _ => 0)))] ∧ nv_E (va_A [(c0, .inr (16, [.ref c3, .int 0, .ref c4, .ref c1, .ref c5, .ref c6, .ref c7, .ref c8, .ref c9, .int 0, .int 0, .int 0, .int 0, .int 0, .int 0, .long 0, .ref c10, .ref c11, .ref c12, .ref c13, .int 0, .int 0, .long 0, .ref c14, .ref c15, .ref c16, .ref c17, .ref c18])), (c1, .inl (c2, 8, .inl (fun _ => 0)))] sz) U)) (va_Qi (fun r _ => r = 0) (fun (_ : Unit) t => va_P (dC, dI) vwCl [(c0, .inr (16, [.ref c3, .int 0, .ref c4, .ref c1, .ref c5, .ref c6, .ref c7, .ref c8, .ref c9, .int 0, .int 0, .int 0, .int 0, .int 0, .int 0, .long 0, .ref c10, .ref c11, .ref c12, .ref c13, .int 0, .int 0, .long 0, .ref c14, .ref c15, .ref c16, .ref c17, .ref c18])), (c1, .inl (c2, 8, .inl (fun _ => 0)))] t.heap ∧ va_K (dC, dI) vwCl [(c2, .boolean)] t ∧ va_D (va_A [(c0, .inr (16, [.ref c3, .int 0, .ref c4, .ref c1, .ref c5, .ref c6, .ref c7, .ref c8, .ref c9, .int 0, .int 0, .int 0, .int 0, .int 0, .int 0, .long 0, .ref c10, .ref c11, .ref c12, .ref c13, .int 0, .int 0, .long 0, .ref c14, .ref c15, .ref c16, .ref c17, .ref c18])), (c1, .inl (c2, 8, .inl (fun _ => 0)))] sz) [(c0, .inr (16, [.ref c3, .int 0, .ref c4, .ref c1, .ref c5, .ref c6, .ref c7, .ref c8, .ref c9, .int 0, .int 0, .int 0, .int 0, .int 0, .int 0, .long 0, .ref c10, .ref c11, .ref c12, .ref c13, .int 0, .int 0, .long 0, .ref c14, .ref c15, .ref c16, .ref c17, .ref c18])), (c1, .inl (c2, 8, .inl (fun _ => 0)))]) (va_A [(c0, .inr (16, [.ref c3, .int 0, .ref c4, .ref c1, .ref c5, .ref c6, .ref c7, .ref c8, .ref c9, .int 0, .int 0, .int 0, .int 0, .int 0, .int 0, .long 0, .ref c10, .ref c11, .ref c12, .ref c13, .int 0, .int 0, .long 0, .ref c14, .ref c15, .ref c16, .ref c17, .ref c18])), (c1, .inl (c2, 8, .inl (fun _ => 0)))] sz)) 0 0 (va_A [(c0, .inr (16, [.ref c3, .int 0, .ref c4, .ref c1, .ref c5, .ref c6, .ref c7, .ref c8, .ref c9, .int 0, .int 0, .int 0, .int 0, .int 0, .int 0, .long 0, .ref c10, .ref c11, .ref c12, .ref c13, .int 0, .int 0, .long 0, .ref c14, .ref c15, .ref c16, .ref c17, .ref c18])), (c1, .inl (c2, 8, .inl (fun _ => 0)))] sz) := by
  refine Met.ofW (cc := cX15_size) (maxL := 3) (ret := (some .int)) (by decide) rfl ?_
  intro p e s m args below meth c s₁ B hml hv
  obtain ⟨rfl, hsz, hP, hK, hD0, hN⟩ := hv
  have hx := B.exec
  have hb := B.bytes
  have hr := B.returns
  have hts := atoms_spec (ws := ow_k_X15_size) B.pre
  have hown : s.vm.findClass RX15 = some m.cls := findClass_of_methodNamed B.named
  have hlocks := B.notSynchronized
  subst hsz
  have hD := hD0.self (sz := s.heap.size)
  generalize hAe : va_A [(c0, .inr (16, [.ref c3, .int 0, .ref c4, .ref c1, .ref c5, .ref c6, .ref c7, .ref c8, .ref c9, .int 0, .int 0, .int 0, .int 0, .int 0, .int 0, .long 0, .ref c10, .ref c11, .ref c12, .ref c13, .int 0, .int 0, .long 0, .ref c14, .ref c15, .ref c16, .ref c17, .ref c18])), (c1, .inl (c2, 8, .inl (fun _ => 0)))] s.heap.size = A at hD hN ⊢
  have hA : ∀ q : Nat, s.heap.size ≤ q → A q := fun q h => by rw [← hAe]; exact Or.inr h
  have hS : va_S A s.heap s.heap [] := va_S.rf
  have hl := lv_entry ([.ref c0]) (n := 3) (Nat.le_of_ble_eq_true rfl)
  rw [lg_entry_eq]
  generalize (lg_sl ([.ref c0]) ++ List.replicate (3 - (lg_sl ([.ref c0])).length) Slot.unset).toArray = ls at hl ⊢
  have hl : lv_has ls 3 [(0, .ref c0)] := hl
  refine k_X15_size_s0 dC dI c0 c1 c2 c3 c4 c5 c6 c7 c8 c9 c10 c11 c12 c13 c14 c15 c16 c17 c18 hlt hx hb hml hown hts hN hA hK hP hD hS hl (fun H locs ls hK hP hD hS hl => ?_)
  refine lv_icmp_ge (tgt := 33) hx hb dX15_size_7 (by decide) (fun h9 => absurd h9 (by decide)) (fun _ => ?_)
  refine lv_aload_n hx hb dX15_size_10 rfl (lv_at hl 2 rfl) ?_
  refine va_get (D := (dC, dI)) (ci := 16) (v := .ref c1) (C := RX15) (T := TX15) (N := 28) hx hb hts hi_k_X15_size_X15 hown hK hP 0 rfl rfl 3 (by decide) (hts (.fieldLink RX15 13 "TimeMachineModel$Conditions" "there" "[Z") (List.mem_of_getElem? (i := 1) rfl)) (fun _ h9 => h9) rfl dX15_size_11 ?_
  refine lv_iload_n hx hb dX15_size_14 rfl (lv_at hl 0 rfl) ?_
  refine va_zald (i := 7) hx hb hK hP 1 0 rfl rfl (vp_in_iff.mpr ⟨by decide, by decide⟩) dX15_size_15 ?_
  refine lv_topi (fun z8 ez8 => ?_)
  obtain rfl : z8 = 0 := ez8.trans (by decide)
  refine lv_if_eq (tgt := 25) hx hb dX15_size_16 (by decide) (fun _ => ?_) (fun h9 => absurd (by decide) h9)
  refine lv_iload_n hx hb dX15_size_25 rfl (lv_at hl 1 rfl) ?_
  refine lv_istore_n (lv' := [(1, .int 0), (2, .int 7), (0, .ref c0)]) hx hb dX15_size_26 rfl hl (by decide) rfl (fun ls hl => ?_)
  refine lv_iinc (v := 8) (lv' := [(2, .int 8), (1, .int 0), (0, .ref c0)]) hx hb dX15_size_27 hl (k := 1) rfl (by decide) (by decide) rfl (fun ls hl => ?_)
  refine lv_goto (tgt := 4) hx hb dX15_size_30 (by decide) ?_
  refine lv_iload_n hx hb dX15_size_4 rfl (lv_at hl 0 rfl) ?_
  refine lv_bipush (v := 8) hx hb dX15_size_5 (by decide) ?_
  refine lv_icmp_ge (tgt := 33) hx hb dX15_size_7 (by decide) (fun _ => ?_) (fun h9 => absurd (by decide) h9)
  refine lv_iload_n hx hb dX15_size_33 rfl (lv_at hl 1 rfl) ?_
  have hP9 := hP.sub (ws' := [(c0, .inr (16, [.ref c3, .int 0, .ref c4, .ref c1, .ref c5, .ref c6, .ref c7, .ref c8, .ref c9, .int 0, .int 0, .int 0, .int 0, .int 0, .int 0, .long 0, .ref c10, .ref c11, .ref c12, .ref c13, .int 0, .int 0, .long 0, .ref c14, .ref c15, .ref c16, .ref c17, .ref c18])), (c1, .inl (c2, 8, .inl (fun _ => 0)))]) [0, 1] rfl
  have hD9 := hD.sub (ws' := [(c0, .inr (16, [.ref c3, .int 0, .ref c4, .ref c1, .ref c5, .ref c6, .ref c7, .ref c8, .ref c9, .int 0, .int 0, .int 0, .int 0, .int 0, .int 0, .long 0, .ref c10, .ref c11, .ref c12, .ref c13, .int 0, .int 0, .long 0, .ref c14, .ref c15, .ref c16, .ref c17, .ref c18])), (c1, .inl (c2, 8, .inl (fun _ => 0)))]) [0, 1] (by decide) rfl
  have hK9 := hK.sub (tys' := [(c2, .boolean)]) [0] rfl
  refine W.widen (k := 0) (n := 0) (by decide +kernel) (by decide +kernel) ?_
  exact W.iret (v := 0) hx hb hr (fun t ht hW => ⟨⟨0, (), rfl, rfl, by rw [ht]; exact hP9, va_K.moved hW.alike hK9, hD9⟩, hS.F ht⟩) hS.2.2 dX15_size_34
def ow_k_X19_count : List Cond := .code yX19_count cX19_count 3 (some .long) :: ([.fieldLink RX19 113 "TimeMachineModel" "code" "I", .fieldLink RX19 117 "TimeMachineModel" "taped" "I", .methodLink RX19 315 yX19_shows, .instanceMethod yX19_shows, .selects RX19 yX19_shows yX19_shows, .initialized RX19, .constantLong RX19 292 (-1), .constantLong RX19 352 (14), .methodLink RX19 126 yX19_in, .static yX19_in, .fieldLink RX19 67 "TimeMachineModel" "conditions" "LTimeMachineModel$Conditions;", .methodLink RX19 350 yX15_size, .instanceMethod yX15_size, .selects RX15 yX15_size yX15_size, .initialized RX15] ++ (u_ws RX19 TX19 36 ++ (ow_k_X19_shows ++ (ow_k_X19_in_v9 ++ (ow_k_X15_size ++ [])))))
theorem gd_k_X19_count : ∀ w ∈ ow_k_X19_count, (w.onTables && w.keeps) = true ∨ ∃ ty, w = Cond.arrayClass ty := List.forall_mem_cons.mpr ⟨good_of_word rfl, List.forall_mem_append.mpr ⟨fun w h => good_of_word (List.all_eq_true.mp (by decide +kernel) w h), List.forall_mem_append.mpr ⟨gu_X19, List.forall_mem_append.mpr ⟨gd_k_X19_shows, List.forall_mem_append.mpr ⟨gd_k_X19_in_v9, List.forall_mem_append.mpr ⟨gd_k_X15_size, fun _ h => nomatch h⟩⟩⟩⟩⟩⟩
theorem hi_k_X19_count_X19 : ∀ w ∈ u_ws RX19 TX19 36, w ∈ ow_k_X19_count := fun w h => List.mem_cons_of_mem _ (List.mem_append_right _ (List.mem_append_left _ h))
theorem gi_k_X19_count_0 : GoodIn ow_k_X19_count (wsV RX19 315 RX19 yX19_shows ow_k_X19_shows) := goodIn_app (goodIn_of _ (by decide +kernel)) (fun w h => ⟨List.mem_cons_of_mem _ (List.mem_append_right _ (List.mem_append_right _ (List.mem_append_left _ h))), gd_k_X19_shows w h⟩)
theorem gi_k_X19_count_1 : GoodIn ow_k_X19_count (wsS RX19 126 yX19_in ow_k_X19_in_v9) := goodIn_app (goodIn_of _ (by decide +kernel)) (fun w h => ⟨List.mem_cons_of_mem _ (List.mem_append_right _ (List.mem_append_right _ (List.mem_append_right _ (List.mem_append_left _ h)))), gd_k_X19_in_v9 w h⟩)
theorem gi_k_X19_count_2 : GoodIn ow_k_X19_count (wsV RX19 350 RX15 yX15_size ow_k_X15_size) := goodIn_app (goodIn_of _ (by decide +kernel)) (fun w h => ⟨List.mem_cons_of_mem _ (List.mem_append_right _ (List.mem_append_right _ (List.mem_append_right _ (List.mem_append_right _ (List.mem_append_left _ h))))), gd_k_X15_size w h⟩)
set_option maxHeartbeats 40000000 in
set_option maxRecDepth 100000 in
theorem k_X19_count (l : Launch) (hlt : l.stackTraces = false) (dC : Nat → ClassId) (dI : Nat → Nat → Nat) (c0 : Nat) (c1 : Nat) (c2 : Nat) (c3 : ClassId) (c4 : Int32) (c5 : Nat) (c6 : Nat) (c7 : Nat) (c8 : Nat) (c9 : Nat) (c10 : Nat) (c11 : Nat) (c12 : Nat) (c13 : Nat) (c14 : Nat) (c15 : Nat) (c16 : Nat) (c17 : Nat) (c18 : Nat) (c19 : Nat) (c20 : Nat) (c21 : Nat) (c22 : Nat) (c23 : Nat) (c24 : Nat) (c25 : Nat) (c26 : Nat) (c27 : Nat) (c28 : Nat) (c29 : Nat) (c30 : Nat) (c31 : Nat) (c32 : Nat) (c33 : Nat) (c34 : Nat) (c35 : Nat) (c36 : Nat) (c37 : Nat) (c38 : Nat) (c39 : Nat) (c40 : Nat) (c41 : Nat) (sz : Nat) : Met l yX19_count ow_k_X19_count ({ frames := 1, cells := 0, slots := 0, locals := 25 }) (va_Pc [.ref c0, .int c4] (fun U => U.heap.size = sz ∧ va_P (dC, dI) vwCl [(c0, .inr (20, [.int 0, .ref c5, .int 0, .int 0, .ref c6, .ref c7, .ref c8, .ref c9, .ref c10, .ref c11, .ref c12, .ref c13, .ref c14, .ref c15, .ref c1, .ref c16, .ref c17, .int 0, .int 0, .int 0, .int 0, .int 0, .int 0, .int 0, .int 0, .int 0, .ref c18, .ref c19, .ref c20, .ref c21, .ref c22, .ref c23, .ref c24, .ref c25, .ref c26, .int 0])), (c1, .inr (16, [.ref c15, .int 0, .ref c27, .ref c2, .ref c28, .ref c29, .ref c30, .ref c31, .ref c32, .int 0, .int 0, .int 0, .int 0, .int 0, .int 0, .long 0, .ref c33, .ref c34, .ref c35, .ref c36, .int 0, .int 0, .long 0, .ref c37, .ref c38, .ref c39, .ref c40, .ref c41])), (c2, .inl (c3, 8, .inl (fun _ => 0)))] U.heap ∧ va_K (dC, dI) vwCl [(c3, .boolean)] U ∧ va_D (fun _ => True) [(c0, .inr (20, [.int 0, .ref c5, .int 0, .int 0, .ref c6, .ref c7, .ref c8, .ref c9, .ref c10, .ref c11, .ref c12, .ref c13, .ref c14, .ref c15, .ref c1, .ref c16, .ref c17, .int 0, .int 0, .int 0, .int 0, .int 0, .int 0, .int 0, .int 0, .int 0, .ref c18, .ref c19, .ref c20, .ref c21, .ref c22, .ref c23, .ref c24, .ref c25, .ref c26, .int 0])), (c1, .inr (16, [.ref c15, .int 0, .ref c27, .ref c2, .ref c28, .ref c29, .ref c30, .ref c31, .ref c32, .int 0, .int 0, .int 0, .int 0, .int 0, .int 0, .long 0, .ref c33, .ref c34, .ref c35, .ref c36, .int 0, .int 0, .long 0, .ref c37, .ref c38, .ref c39, .ref c40, .ref c41])), (c2, .inl (c3, 8, .inl (fun _ => 0)))] ∧ nv_E (va_A [(c0, .inr (20, [.int 0, .ref c5, .int 0, .int 0, .ref c6, .ref c7, .ref c8, .ref c9, .ref c10, .ref c11, .ref c12, .ref c13, .ref c14, .ref c15, .ref c1, .ref c16, .ref c17, .int 0, .int 0, .int 0, .int 0, .int 0, .int 0, .int 0, .int 0, .int 0, .ref c18, .ref c19, .ref c20, .ref c21, .ref c22, .ref c23, .ref c24, .ref c25, .ref c26, .int 0])), (c1, .inr (16, [.ref c15, .int 0, .ref c27, .ref c2, .ref c28, .ref c29, .ref c30, .ref c31, .ref c32, .int 0, .int 0, .int 0, .int 0, .int 0, .int 0, .long 0, .ref c33, .ref c34, .ref c35, .ref c36, .int 0, .int 0, .long 0, .ref c37, .ref c38, .ref c39, .ref c40, .ref c41])), (c2, .inl (c3, 8, .inl (fun _ => 0)))] sz) U)) (va_Ql (fun r _ => ((c4 = 15) ∧ r = 0) ∨ ((¬ c4 = 15) ∧ (¬ c4 = 16) ∧ (c4 = 2) ∧ r = (-1)) ∨ ((¬ c4 = 15) ∧ (¬ c4 = 16) ∧ (¬ c4 = 2) ∧ (c4 < 0) ∧ r = (-1)) ∨ ((¬ c4 = 15) ∧ (¬ c4 = 16) ∧ (¬ c4 = 2) ∧ (¬ c4 < 0) ∧ (14 < c4) ∧ r = (-1)) ∨ ((¬ c4 = 15) ∧ (¬ c4 = 16) ∧ (¬ c4 = 2) ∧ (¬ c4 < 0) ∧ (¬ 14 < c4) ∧ r = 0) ∨ ((¬ c4 = 15) ∧ (c4 = 16) ∧ r = 0) ∨ False) (fun (_ : Unit) t => True) (va_A [(c0, .inr (20, [.int 0, .ref c5, .int 0, .int 0, .ref c6, .ref c7, .ref c8, .ref c9, .ref c10, .ref c11, .ref c12, .ref c13, .ref c14, .ref c15, .ref c1, .ref c16, .ref c17, .int 0, .int 0, .int 0, .int 0, .int 0, .int 0, .int 0, .int 0, .int 0, .ref c18, .ref c19, .ref c20, .ref c21, .ref c22, .ref c23, .ref c24, .ref c25, .ref c26, .int 0])), (c1, .inr (16, [.ref c15, .int 0, .ref c27, .ref c2, .ref c28, .ref c29, .ref c30, .ref c31, .ref c32, .int 0, .int 0, .int 0, .int 0, .int 0, .int 0, .long 0, .ref c33, .ref c34, .ref c35, .ref c36, .int 0, .int 0, .long 0, .ref c37, .ref c38, .ref c39, .ref c40, .ref c41])), (c2, .inl (c3, 8, .inl (fun _ => 0)))] sz)) 0 0 (va_A [(c0, .inr (20, [.int 0, .ref c5, .int 0, .int 0, .ref c6, .ref c7, .ref c8, .ref c9, .ref c10, .ref c11, .ref c12, .ref c13, .ref c14, .ref c15, .ref c1, .ref c16, .ref c17, .int 0, .int 0, .int 0, .int 0, .int 0, .int 0, .int 0, .int 0, .int 0, .ref c18, .ref c19, .ref c20, .ref c21, .ref c22, .ref c23, .ref c24, .ref c25, .ref c26, .int 0])), (c1, .inr (16, [.ref c15, .int 0, .ref c27, .ref c2, .ref c28, .ref c29, .ref c30, .ref c31, .ref c32, .int 0, .int 0, .int 0, .int 0, .int 0, .int 0, .long 0, .ref c33, .ref c34, .ref c35, .ref c36, .int 0, .int 0, .long 0, .ref c37, .ref c38, .ref c39, .ref c40, .ref c41])), (c2, .inl (c3, 8, .inl (fun _ => 0)))] sz) := by
  refine Met.ofW (cc := cX19_count) (maxL := 3) (ret := (some .long)) (by decide) rfl ?_
  intro p e s m args below meth c s₁ B hml hv
  obtain ⟨rfl, hsz, hP, hK, hD0, hN⟩ := hv
  have hx := B.exec
  have hb := B.bytes
  have hr := B.returns
  have hts := atoms_spec (ws := ow_k_X19_count) B.pre
  have hown : s.vm.findClass RX19 = some m.cls := findClass_of_methodNamed B.named
  have hlocks := B.notSynchronized
  subst hsz
  have hD := hD0.self (sz := s.heap.size)
  generalize hAe : va_A [(c0, .inr (20, [.int 0, .ref c5, .int 0, .int 0, .ref c6, .ref c7, .ref c8, .ref c9, .ref c10, .ref c11, .ref c12, .ref c13, .ref c14, .ref c15, .ref c1, .ref c16, .ref c17, .int 0, .int 0, .int 0, .int 0, .int 0, .int 0, .int 0, .int 0, .int 0, .ref c18, .ref c19, .ref c20, .ref c21, .ref c22, .ref c23, .ref c24, .ref c25, .ref c26, .int 0])), (c1, .inr (16, [.ref c15, .int 0, .ref c27, .ref c2, .ref c28, .ref c29, .ref c30, .ref c31, .ref c32, .int 0, .int 0, .int 0, .int 0, .int 0, .int 0, .long 0, .ref c33, .ref c34, .ref c35, .ref c36, .int 0, .int 0, .long 0, .ref c37, .ref c38, .ref c39, .ref c40, .ref c41])), (c2, .inl (c3, 8, .inl (fun _ => 0)))] s.heap.size = A at hD hN ⊢
  have hA : ∀ q : Nat, s.heap.size ≤ q → A q := fun q h => by rw [← hAe]; exact Or.inr h
  have hS : va_S A s.heap s.heap [] := va_S.rf
  have hl := lv_entry ([.ref c0, .int c4]) (n := 3) (Nat.le_of_ble_eq_true rfl)
  rw [lg_entry_eq]
  generalize (lg_sl ([.ref c0, .int c4]) ++ List.replicate (3 - (lg_sl ([.ref c0, .int c4])).length) Slot.unset).toArray = ls at hl ⊢
  have hl : lv_has ls 3 [(0, .ref c0), (1, .int c4)] := hl
  refine lv_iload_n hx hb dX19_count_0 rfl (lv_at hl 1 rfl) ?_
  refine lv_bipush (v := 15) hx hb dX19_count_1 (by decide) ?_
  refine lv_icmp_eq (tgt := 12) hx hb dX19_count_3 (by decide) (fun c_1 => ?_) (fun c_1 => ?_)
  · refine lv_aload_n hx hb dX19_count_12 rfl (lv_at hl 0 rfl) ?_
    refine lv_iconst (v := 0) hx hb dX19_count_13 (by decide) ?_
    refine va_put (D := (dC, dI)) (ci := 20) (v := .int 0) (ty := .int) (C := RX19) (T := TX19) (N := 36) hx hb hts hi_k_X19_count_X19 tyX19 tyX19_ok nmX19 hown hK hP hD hS 0 rfl rfl 0 (by decide) (hts (.fieldLink RX19 113 "TimeMachineModel" "code" "I") (List.mem_of_getElem? (i := 1) rfl)) (fun _ h9 => h9) rfl (by decide +kernel) rfl rfl (Nat.le_of_ble_eq_true rfl) dX19_count_14 (fun H locs hP hD hS => ?_)
    have hP : va_P (dC, dI) vwCl [(c0, .inr (20, [.int 0, .ref c5, .int 0, .int 0, .ref c6, .ref c7, .ref c8, .ref c9, .ref c10, .ref c11, .ref c12, .ref c13, .ref c14, .ref c15, .ref c1, .ref c16, .ref c17, .int 0, .int 0, .int 0, .int 0, .int 0, .int 0, .int 0, .int 0, .int 0, .ref c18, .ref c19, .ref c20, .ref c21, .ref c22, .ref c23, .ref c24, .ref c25, .ref c26, .int 0])), (c1, .inr (16, [.ref c15, .int 0, .ref c27, .ref c2, .ref c28, .ref c29, .ref c30, .ref c31, .ref c32, .int 0, .int 0, .int 0, .int 0, .int 0, .int 0, .long 0, .ref c33, .ref c34, .ref c35, .ref c36, .int 0, .int 0, .long 0, .ref c37, .ref c38, .ref c39, .ref c40, .ref c41])), (c2, .inl (c3, 8, .inl (fun _ => 0)))] H := hP
    have hD : va_D A [(c0, .inr (20, [.int 0, .ref c5, .int 0, .int 0, .ref c6, .ref c7, .ref c8, .ref c9, .ref c10, .ref c11, .ref c12, .ref c13, .ref c14, .ref c15, .ref c1, .ref c16, .ref c17, .int 0, .int 0, .int 0, .int 0, .int 0, .int 0, .int 0, .int 0, .int 0, .ref c18, .ref c19, .ref c20, .ref c21, .ref c22, .ref c23, .ref c24, .ref c25, .ref c26, .int 0])), (c1, .inr (16, [.ref c15, .int 0, .ref c27, .ref c2, .ref c28, .ref c29, .ref c30, .ref c31, .ref c32, .int 0, .int 0, .int 0, .int 0, .int 0, .int 0, .long 0, .ref c33, .ref c34, .ref c35, .ref c36, .int 0, .int 0, .long 0, .ref c37, .ref c38, .ref c39, .ref c40, .ref c41])), (c2, .inl (c3, 8, .inl (fun _ => 0)))] := hD
    refine lv_iload_n hx hb dX19_count_17 rfl (lv_at hl 1 rfl) ?_
    refine lv_bipush (v := 15) hx hb dX19_count_18 (by decide) ?_
    refine lv_icmp_ne (tgt := 31) hx hb dX19_count_20 (by decide) (fun h9 => absurd c_1 h9) (fun _ => ?_)
    refine lv_aload_n hx hb dX19_count_23 rfl (lv_at hl 0 rfl) ?_
    refine va_get (D := (dC, dI)) (ci := 20) (v := .int 0) (C := RX19) (T := TX19) (N := 36) hx hb hts hi_k_X19_count_X19 hown hK hP 0 rfl rfl 2 (by decide) (hts (.fieldLink RX19 117 "TimeMachineModel" "taped" "I") (List.mem_of_getElem? (i := 2) rfl)) (fun _ h9 => h9) rfl dX19_count_24 ?_
    refine lv_i2l (v := 0) hx hb dX19_count_27 (by decide) ?_
    refine lv_goto (tgt := 39) hx hb dX19_count_28 (by decide) ?_
    refine W.widen (k := 0) (n := 0) (by decide +kernel) (by decide +kernel) ?_
    exact W.lret (v := 0) hx hb hr (fun t ht hW => ⟨⟨0, (), rfl, Or.inl ⟨c_1, rfl⟩, trivial⟩, hS.F ht⟩) hS.2.2 dX19_count_39
  · refine lv_iload_n hx hb dX19_count_6 rfl (lv_at hl 1 rfl) ?_
    refine lv_bipush (v := 16) hx hb dX19_count_7 (by decide) ?_
    refine lv_icmp_ne (tgt := 40) hx hb dX19_count_9 (by decide) (fun c_3 => ?_) (fun c_3 => ?_)
    · refine lv_aload_n hx hb dX19_count_40 rfl (lv_at hl 0 rfl) ?_
      have hPc := hP.sub (ws' := [(c0, .inr (20, [.int 0, .ref c5, .int 0, .int 0, .ref c6, .ref c7, .ref c8, .ref c9, .ref c10, .ref c11, .ref c12, .ref c13, .ref c14, .ref c15, .ref c1, .ref c16, .ref c17, .int 0, .int 0, .int 0, .int 0, .int 0, .int 0, .int 0, .int 0, .int 0, .ref c18, .ref c19, .ref c20, .ref c21, .ref c22, .ref c23, .ref c24, .ref c25, .ref c26, .int 0]))]) [0] rfl
      have hDc := hD.sub (ws' := [(c0, .inr (20, [.int 0, .ref c5, .int 0, .int 0, .ref c6, .ref c7, .ref c8, .ref c9, .ref c10, .ref c11, .ref c12, .ref c13, .ref c14, .ref c15, .ref c1, .ref c16, .ref c17, .int 0, .int 0, .int 0, .int 0, .int 0, .int 0, .int 0, .int 0, .int 0, .ref c18, .ref c19, .ref c20, .ref c21, .ref c22, .ref c23, .ref c24, .ref c25, .ref c26, .int 0]))]) [0] (by decide) rfl
      have hKc := hK.sub (tys' := []) [] rfl
      have hFc := va_free (wc := [(c0, .inr (20, [.int 0, .ref c5, .int 0, .int 0, .ref c6, .ref c7, .ref c8, .ref c9, .ref c10, .ref c11, .ref c12, .ref c13, .ref c14, .ref c15, .ref c1, .ref c16, .ref c17, .int 0, .int 0, .int 0, .int 0, .int 0, .int 0, .int 0, .int 0, .int 0, .ref c18, .ref c19, .ref c20, .ref c21, .ref c22, .ref c23, .ref c24, .ref c25, .ref c26, .int 0]))]) hD hS hA [0] rfl
      refine va_calli (va_runV (As := []) (rest := []) ⟨hx, hb, hml, hown, hts⟩ (k_X19_shows l hlt dC dI c0 c5 c6 c7 c8 c9 c10 c11 c12 c13 c14 c15 c1 c16 c17 c18 c19 c20 c21 c22 c23 c24 c25 c26  s.heap.size) (cwV 0 hts gi_k_X19_count_0 rfl rfl rfl (by decide +kernel) ⟨Nat.le_of_ble_eq_true rfl, Nat.le_of_ble_eq_true rfl⟩) ⟨fun a U g mk q => by obtain ⟨q0, q1, qP, qK, qD, qN⟩ := q; exact ⟨q0, q1, qP, va_K.moved (u := U) (U := U.calling g mk a) (Vm.Alike.refl U.vm) qK, qD, nv_same rfl rfl qN⟩, va_recv hKc hPc (ci := 20) (q0 := 0) rfl rfl, fun U hU hW => ⟨rfl, by rw [hU], by rw [hU]; exact hPc, va_K.moved hW.alike hKc, hDc.weaken (fun _ _ _ _ => trivial), nv_call hS hFc hU hW hN⟩⟩ rfl rfl hl.1 rfl (lv_room (Nat.le_of_ble_eq_true rfl)) dX19_count_41 ⟨by decide +kernel, by decide +kernel⟩) hS (fun q _ h => hFc q h) hFc (fun r1 u t H1 locs ht hvm hw hB hz1 hk1 hS => ?_)
      obtain ⟨hP1, hK1, hD1⟩ := hB
      rw [ht] at hP1
      have hK1 := va_K.moved hvm.symm hK1
      obtain rfl : r1 = 0 := hw
      obtain ⟨hP, hD⟩ := va_join (wr := [(c1, .inr (16, [.ref c15, .int 0, .ref c27, .ref c2, .ref c28, .ref c29, .ref c30, .ref c31, .ref c32, .int 0, .int 0, .int 0, .int 0, .int 0, .int 0, .long 0, .ref c33, .ref c34, .ref c35, .ref c36, .int 0, .int 0, .long 0, .ref c37, .ref c38, .ref c39, .ref c40, .ref c41])), (c2, .inl (c3, 8, .inl (fun _ => 0)))]) (w1 := [(c0, .inr (20, [.int 0, .ref c5, .int 0, .int 0, .ref c6, .ref c7, .ref c8, .ref c9, .ref c10, .ref c11, .ref c12, .ref c13, .ref c14, .ref c15, .ref c1, .ref c16, .ref c17, .int 0, .int 0, .int 0, .int 0, .int 0, .int 0, .int 0, .int 0, .int 0, .ref c18, .ref c19, .ref c20, .ref c21, .ref c22, .ref c23, .ref c24, .ref c25, .ref c26, .int 0]))]) hP hD [0] [1, 2] rfl rfl (by decide) (by decide) hk1 hFc hP1 hD1
      have hK := (hK.sub (tys' := [(c3, .boolean)]) [0] rfl).app hK1
      generalize H1 = H at hP hS ⊢
      have hP : va_P (dC, dI) vwCl [(c1, .inr (16, [.ref c15, .int 0, .ref c27, .ref c2, .ref c28, .ref c29, .ref c30, .ref c31, .ref c32, .int 0, .int 0, .int 0, .int 0, .int 0, .int 0, .long 0, .ref c33, .ref c34, .ref c35, .ref c36, .int 0, .int 0, .long 0, .ref c37, .ref c38, .ref c39, .ref c40, .ref c41])), (c2, .inl (c3, 8, .inl (fun _ => 0))), (c0, .inr (20, [.int 0, .ref c5, .int 0, .int 0, .ref c6, .ref c7, .ref c8, .ref c9, .ref c10, .ref c11, .ref c12, .ref c13, .ref c14, .ref c15, .ref c1, .ref c16, .ref c17, .int 0, .int 0, .int 0, .int 0, .int 0, .int 0, .int 0, .int 0, .int 0, .ref c18, .ref c19, .ref c20, .ref c21, .ref c22, .ref c23, .ref c24, .ref c25, .ref c26, .int 0]))] H := hP
      have hD : va_D A [(c1, .inr (16, [.ref c15, .int 0, .ref c27, .ref c2, .ref c28, .ref c29, .ref c30, .ref c31, .ref c32, .int 0, .int 0, .int 0, .int 0, .int 0, .int 0, .long 0, .ref c33, .ref c34, .ref c35, .ref c36, .int 0, .int 0, .long 0, .ref c37, .ref c38, .ref c39, .ref c40, .ref c41])), (c2, .inl (c3, 8, .inl (fun _ => 0))), (c0, .inr (20, [.int 0, .ref c5, .int 0, .int 0, .ref c6, .ref c7, .ref c8, .ref c9, .ref c10, .ref c11, .ref c12, .ref c13, .ref c14, .ref c15, .ref c1, .ref c16, .ref c17, .int 0, .int 0, .int 0, .int 0, .int 0, .int 0, .int 0, .int 0, .int 0, .ref c18, .ref c19, .ref c20, .ref c21, .ref c22, .ref c23, .ref c24, .ref c25, .ref c26, .int 0]))] := hD
      have hK : va_K (dC, dI) vwCl [(c3, .boolean)] s := hK
      refine W.widen (k := 0) (n := 0) (by decide +kernel) (by decide +kernel) ?_
      refine lv_if_ne (tgt := 72) hx hb dX19_count_44 (by decide) (fun h9 => absurd h9 (by decide)) (fun _ => ?_)
      refine lv_iload_n hx hb dX19_count_47 rfl (lv_at hl 1 rfl) ?_
      refine lv_iconst (v := 2) hx hb dX19_count_48 (by decide) ?_
      refine lv_icmp_eq (tgt := 64) hx hb dX19_count_49 (by decide) (fun c_4 => ?_) (fun c_4 => ?_)
      · refine lv_ldc2 hx hb hown (hts (.constantLong RX19 292 (-1)) (List.mem_of_getElem? (i := 7) rfl)) dX19_count_64 ?_
        refine lv_goto (tgt := 71) hx hb dX19_count_67 (by decide) ?_
        refine W.widen (k := 0) (n := 0) (by decide +kernel) (by decide +kernel) ?_
        exact W.lret (v := (-1)) hx hb hr (fun t ht hW => ⟨⟨(-1), (), rfl, Or.inr (Or.inl ⟨c_1, c_3, c_4, rfl⟩), trivial⟩, hS.F ht⟩) hS.2.2 dX19_count_71
      · refine lv_iload_n hx hb dX19_count_52 rfl (lv_at hl 1 rfl) ?_
        refine lv_i2l hx hb dX19_count_53 rfl ?_
        refine lv_lconst (v := 0) hx hb dX19_count_54 (by decide) ?_
        refine lv_ldc2 hx hb hown (hts (.constantLong RX19 352 (14)) (List.mem_of_getElem? (i := 8) rfl)) dX19_count_55 ?_
        have hPc := hP.sub (ws' := []) [] rfl
        have hDc := hD.sub (ws' := []) [] (by decide) rfl
        have hKc := hK.sub (tys' := []) [] rfl
        have hFc := va_free (wc := []) hD hS hA [] rfl
        refine va_calli (va_runS (As := [.long (c4.toInt64), .long 0, .long 14]) (rest := []) ⟨hx, hb, hml, hown, hts⟩ (k_X19_in_v9 l hlt dC dI c4  H.size) (cwS 3 hts gi_k_X19_count_1 rfl rfl rfl (by decide +kernel) ⟨Nat.le_of_ble_eq_true rfl, Nat.le_of_ble_eq_true rfl⟩) ⟨fun a U g mk q => by obtain ⟨q0, q1, qP, qK, qD, qN⟩ := q; exact ⟨q0, q1, qP, va_K.moved (u := U) (U := U.calling g mk a) (Vm.Alike.refl U.vm) qK, qD, nv_same rfl rfl qN⟩, fun U hU hW => ⟨rfl, by rw [hU], by rw [hU]; exact hPc, va_K.moved hW.alike hKc, hDc.weaken (fun _ _ _ _ => trivial), nv_call hS hFc hU hW hN⟩⟩ rfl rfl hl.1 rfl (lv_room (Nat.le_of_ble_eq_true rfl)) dX19_count_58 ⟨by decide +kernel, by decide +kernel⟩) hS (fun q _ h => hFc q h) hFc (fun r2 u t H1 locs ht hvm hw hB hz1 hk1 hS => ?_)
        obtain ⟨hP1, hK1, hD1⟩ := hB
        rw [ht] at hP1
        have hK1 := va_K.moved hvm.symm hK1
        obtain ⟨hP, hD⟩ := va_join (wr := [(c1, .inr (16, [.ref c15, .int 0, .ref c27, .ref c2, .ref c28, .ref c29, .ref c30, .ref c31, .ref c32, .int 0, .int 0, .int 0, .int 0, .int 0, .int 0, .long 0, .ref c33, .ref c34, .ref c35, .ref c36, .int 0, .int 0, .long 0, .ref c37, .ref c38, .ref c39, .ref c40, .ref c41])), (c2, .inl (c3, 8, .inl (fun _ => 0))), (c0, .inr (20, [.int 0, .ref c5, .int 0, .int 0, .ref c6, .ref c7, .ref c8, .ref c9, .ref c10, .ref c11, .ref c12, .ref c13, .ref c14, .ref c15, .ref c1, .ref c16, .ref c17, .int 0, .int 0, .int 0, .int 0, .int 0, .int 0, .int 0, .int 0, .int 0, .ref c18, .ref c19, .ref c20, .ref c21, .ref c22, .ref c23, .ref c24, .ref c25, .ref c26, .int 0]))]) (w1 := []) hP hD [] [0, 1, 2] rfl rfl (by decide) (by decide) hk1 hFc hP1 hD1
        have hK := (hK.sub (tys' := [(c3, .boolean)]) [0] rfl).app hK1
        generalize H1 = H at hP hS ⊢
        have hP : va_P (dC, dI) vwCl [(c1, .inr (16, [.ref c15, .int 0, .ref c27, .ref c2, .ref c28, .ref c29, .ref c30, .ref c31, .ref c32, .int 0, .int 0, .int 0, .int 0, .int 0, .int 0, .long 0, .ref c33, .ref c34, .ref c35, .ref c36, .int 0, .int 0, .long 0, .ref c37, .ref c38, .ref c39, .ref c40, .ref c41])), (c2, .inl (c3, 8, .inl (fun _ => 0))), (c0, .inr (20, [.int 0, .ref c5, .int 0, .int 0, .ref c6, .ref c7, .ref c8, .ref c9, .ref c10, .ref c11, .ref c12, .ref c13, .ref c14, .ref c15, .ref c1, .ref c16, .ref c17, .int 0, .int 0, .int 0, .int 0, .int 0, .int 0, .int 0, .int 0, .int 0, .ref c18, .ref c19, .ref c20, .ref c21, .ref c22, .ref c23, .ref c24, .ref c25, .ref c26, .int 0]))] H := hP
        have hD : va_D A [(c1, .inr (16, [.ref c15, .int 0, .ref c27, .ref c2, .ref c28, .ref c29, .ref c30, .ref c31, .ref c32, .int 0, .int 0, .int 0, .int 0, .int 0, .int 0, .long 0, .ref c33, .ref c34, .ref c35, .ref c36, .int 0, .int 0, .long 0, .ref c37, .ref c38, .ref c39, .ref c40, .ref c41])), (c2, .inl (c3, 8, .inl (fun _ => 0))), (c0, .inr (20, [.int 0, .ref c5, .int 0, .int 0, .ref c6, .ref c7, .ref c8, .ref c9, .ref c10, .ref c11, .ref c12, .ref c13, .ref c14, .ref c15, .ref c1, .ref c16, .ref c17, .int 0, .int 0, .int 0, .int 0, .int 0, .int 0, .int 0, .int 0, .int 0, .ref c18, .ref c19, .ref c20, .ref c21, .ref c22, .ref c23, .ref c24, .ref c25, .ref c26, .int 0]))] := hD
        have hK : va_K (dC, dI) vwCl [(c3, .boolean)] s := hK
        refine W.widen (k := 0) (n := 0) (by decide +kernel) (by decide +kernel) ?_
        rcases hw with ⟨c_5_0, h9⟩ | ⟨c_5_0, c_5_1, h9⟩ | ⟨c_5_0, c_5_1, h9⟩ | h9
        · subst h9
          refine lv_if_ne (tgt := 70) hx hb dX19_count_61 (by decide) (fun h9 => absurd h9 (by decide)) (fun _ => ?_)
          refine lv_ldc2 hx hb hown (hts (.constantLong RX19 292 (-1)) (List.mem_of_getElem? (i := 7) rfl)) dX19_count_64 ?_
          refine lv_goto (tgt := 71) hx hb dX19_count_67 (by decide) ?_
          refine W.widen (k := 0) (n := 0) (by decide +kernel) (by decide +kernel) ?_
          exact W.lret (v := (-1)) hx hb hr (fun t ht hW => ⟨⟨(-1), (), rfl, Or.inr (Or.inr (Or.inl ⟨c_1, c_3, c_4, c_5_0, rfl⟩)), trivial⟩, hS.F ht⟩) hS.2.2 dX19_count_71
        · subst h9
          refine lv_if_ne (tgt := 70) hx hb dX19_count_61 (by decide) (fun h9 => absurd h9 (by decide)) (fun _ => ?_)
          refine lv_ldc2 hx hb hown (hts (.constantLong RX19 292 (-1)) (List.mem_of_getElem? (i := 7) rfl)) dX19_count_64 ?_
          refine lv_goto (tgt := 71) hx hb dX19_count_67 (by decide) ?_
          refine W.widen (k := 0) (n := 0) (by decide +kernel) (by decide +kernel) ?_
          exact W.lret (v := (-1)) hx hb hr (fun t ht hW => ⟨⟨(-1), (), rfl, Or.inr (Or.inr (Or.inr (Or.inl ⟨c_1, c_3, c_4, c_5_0, c_5_1, rfl⟩))), trivial⟩, hS.F ht⟩) hS.2.2 dX19_count_71
        · subst h9
          refine lv_if_ne (tgt := 70) hx hb dX19_count_61 (by decide) (fun _ => ?_) (fun h9 => absurd h9 (by decide))
          refine lv_lconst (v := 0) hx hb dX19_count_70 (by decide) ?_
          refine W.widen (k := 0) (n := 0) (by decide +kernel) (by decide +kernel) ?_
          exact W.lret (v := 0) hx hb hr (fun t ht hW => ⟨⟨0, (), rfl, Or.inr (Or.inr (Or.inr (Or.inr (Or.inl ⟨c_1, c_3, c_4, c_5_0, c_5_1, rfl⟩)))), trivial⟩, hS.F ht⟩) hS.2.2 dX19_count_71
        · exact h9.elim
    · refine lv_aload_n hx hb dX19_count_12 rfl (lv_at hl 0 rfl) ?_
      refine lv_iconst (v := 0) hx hb dX19_count_13 (by decide) ?_
      refine va_put (D := (dC, dI)) (ci := 20) (v := .int 0) (ty := .int) (C := RX19) (T := TX19) (N := 36) hx hb hts hi_k_X19_count_X19 tyX19 tyX19_ok nmX19 hown hK hP hD hS 0 rfl rfl 0 (by decide) (hts (.fieldLink RX19 113 "TimeMachineModel" "code" "I") (List.mem_of_getElem? (i := 1) rfl)) (fun _ h9 => h9) rfl (by decide +kernel) rfl rfl (Nat.le_of_ble_eq_true rfl) dX19_count_14 (fun H locs hP hD hS => ?_)
      have hP : va_P (dC, dI) vwCl [(c0, .inr (20, [.int 0, .ref c5, .int 0, .int 0, .ref c6, .ref c7, .ref c8, .ref c9, .ref c10, .ref c11, .ref c12, .ref c13, .ref c14, .ref c15, .ref c1, .ref c16, .ref c17, .int 0, .int 0, .int 0, .int 0, .int 0, .int 0, .int 0, .int 0, .int 0, .ref c18, .ref c19, .ref c20, .ref c21, .ref c22, .ref c23, .ref c24, .ref c25, .ref c26, .int 0])), (c1, .inr (16, [.ref c15, .int 0, .ref c27, .ref c2, .ref c28, .ref c29, .ref c30, .ref c31, .ref c32, .int 0, .int 0, .int 0, .int 0, .int 0, .int 0, .long 0, .ref c33, .ref c34, .ref c35, .ref c36, .int 0, .int 0, .long 0, .ref c37, .ref c38, .ref c39, .ref c40, .ref c41])), (c2, .inl (c3, 8, .inl (fun _ => 0)))] H := hP
      have hD : va_D A [(c0, .inr (20, [.int 0, .ref c5, .int 0, .int 0, .ref c6, .ref c7, .ref c8, .ref c9, .ref c10, .ref c11, .ref c12, .ref c13, .ref c14, .ref c15, .ref c1, .ref c16, .ref c17, .int 0, .int 0, .int 0, .int 0, .int 0, .int 0, .int 0, .int 0, .int 0, .ref c18, .ref c19, .ref c20, .ref c21, .ref c22, .ref c23, .ref c24, .ref c25, .ref c26, .int 0])), (c1, .inr (16, [.ref c15, .int 0, .ref c27, .ref c2, .ref c28, .ref c29, .ref c30, .ref c31, .ref c32, .int 0, .int 0, .int 0, .int 0, .int 0, .int 0, .long 0, .ref c33, .ref c34, .ref c35, .ref c36, .int 0, .int 0, .long 0, .ref c37, .ref c38, .ref c39, .ref c40, .ref c41])), (c2, .inl (c3, 8, .inl (fun _ => 0)))] := hD
      refine lv_iload_n hx hb dX19_count_17 rfl (lv_at hl 1 rfl) ?_
      refine lv_bipush (v := 15) hx hb dX19_count_18 (by decide) ?_
      refine lv_icmp_ne (tgt := 31) hx hb dX19_count_20 (by decide) (fun _ => ?_) (fun h9 => absurd h9 c_1)
      refine lv_aload_n hx hb dX19_count_31 rfl (lv_at hl 0 rfl) ?_
      refine va_get (D := (dC, dI)) (ci := 20) (v := .ref c1) (C := RX19) (T := TX19) (N := 36) hx hb hts hi_k_X19_count_X19 hown hK hP 0 rfl rfl 14 (by decide) (hts (.fieldLink RX19 67 "TimeMachineModel" "conditions" "LTimeMachineModel$Conditions;") (List.mem_of_getElem? (i := 11) rfl)) (fun _ h9 => h9) rfl dX19_count_32 ?_
      have hPc := hP.sub (ws' := [(c1, .inr (16, [.ref c15, .int 0, .ref c27, .ref c2, .ref c28, .ref c29, .ref c30, .ref c31, .ref c32, .int 0, .int 0, .int 0, .int 0, .int 0, .int 0, .long 0, .ref c33, .ref c34, .ref c35, .ref c36, .int 0, .int 0, .long 0, .ref c37, .ref c38, .ref c39, .ref c40, .ref c41])), (c2, .inl (c3, 8, .inl (fun _ => 0)))]) [1, 2] rfl
      have hDc := hD.sub (ws' := [(c1, .inr (16, [.ref c15, .int 0, .ref c27, .ref c2, .ref c28, .ref c29, .ref c30, .ref c31, .ref c32, .int 0, .int 0, .int 0, .int 0, .int 0, .int 0, .long 0, .ref c33, .ref c34, .ref c35, .ref c36, .int 0, .int 0, .long 0, .ref c37, .ref c38, .ref c39, .ref c40, .ref c41])), (c2, .inl (c3, 8, .inl (fun _ => 0)))]) [1, 2] (by decide) rfl
      have hKc := hK.sub (tys' := [(c3, .boolean)]) [0] rfl
      have hFc := va_free (wc := [(c1, .inr (16, [.ref c15, .int 0, .ref c27, .ref c2, .ref c28, .ref c29, .ref c30, .ref c31, .ref c32, .int 0, .int 0, .int 0, .int 0, .int 0, .int 0, .long 0, .ref c33, .ref c34, .ref c35, .ref c36, .int 0, .int 0, .long 0, .ref c37, .ref c38, .ref c39, .ref c40, .ref c41])), (c2, .inl (c3, 8, .inl (fun _ => 0)))]) hD hS hA [1, 2] rfl
      refine va_calli (va_runV (As := []) (rest := []) ⟨hx, hb, hml, hown, hts⟩ (k_X15_size l hlt dC dI c1 c2 c3 c15 c27 c28 c29 c30 c31 c32 c33 c34 c35 c36 c37 c38 c39 c40 c41  H.size) (cwV 0 hts gi_k_X19_count_2 rfl rfl rfl (by decide +kernel) ⟨Nat.le_of_ble_eq_true rfl, Nat.le_of_ble_eq_true rfl⟩) ⟨fun a U g mk q => by obtain ⟨q0, q1, qP, qK, qD, qN⟩ := q; exact ⟨q0, q1, qP, va_K.moved (u := U) (U := U.calling g mk a) (Vm.Alike.refl U.vm) qK, qD, nv_same rfl rfl qN⟩, va_recv hKc hPc (ci := 16) (q0 := 0) rfl rfl, fun U hU hW => ⟨rfl, by rw [hU], by rw [hU]; exact hPc, va_K.moved hW.alike hKc, hDc.weaken (fun _ _ _ _ => trivial), nv_call hS hFc hU hW hN⟩⟩ rfl rfl hl.1 rfl (lv_room (Nat.le_of_ble_eq_true rfl)) dX19_count_35 ⟨by decide +kernel, by decide +kernel⟩) hS (fun q _ h => hFc q h) hFc (fun r3 u t H1 locs ht hvm hw hB hz1 hk1 hS => ?_)
      obtain ⟨hP1, hK1, hD1⟩ := hB
      rw [ht] at hP1
      have hK1 := va_K.moved hvm.symm hK1
      obtain rfl : r3 = 0 := hw
      obtain ⟨hP, hD⟩ := va_join (wr := [(c0, .inr (20, [.int 0, .ref c5, .int 0, .int 0, .ref c6, .ref c7, .ref c8, .ref c9, .ref c10, .ref c11, .ref c12, .ref c13, .ref c14, .ref c15, .ref c1, .ref c16, .ref c17, .int 0, .int 0, .int 0, .int 0, .int 0, .int 0, .int 0, .int 0, .int 0, .ref c18, .ref c19, .ref c20, .ref c21, .ref c22, .ref c23, .ref c24, .ref c25, .ref c26, .int 0]))]) (w1 := [(c1, .inr (16, [.ref c15, .int 0, .ref c27, .ref c2, .ref c28, .ref c29, .ref c30, .ref c31, .ref c32, .int 0, .int 0, .int 0, .int 0, .int 0, .int 0, .long 0, .ref c33, .ref c34, .ref c35, .ref c36, .int 0, .int 0, .long 0, .ref c37, .ref c38, .ref c39, .ref c40, .ref c41])), (c2, .inl (c3, 8, .inl (fun _ => 0)))]) hP hD [1, 2] [0] rfl rfl (by decide) (by decide) hk1 hFc hP1 hD1
      have hK := (hK.sub (tys' := []) [] rfl).app hK1
      generalize H1 = H at hP hS ⊢
      have hP : va_P (dC, dI) vwCl [(c0, .inr (20, [.int 0, .ref c5, .int 0, .int 0, .ref c6, .ref c7, .ref c8, .ref c9, .ref c10, .ref c11, .ref c12, .ref c13, .ref c14, .ref c15, .ref c1, .ref c16, .ref c17, .int 0, .int 0, .int 0, .int 0, .int 0, .int 0, .int 0, .int 0, .int 0, .ref c18, .ref c19, .ref c20, .ref c21, .ref c22, .ref c23, .ref c24, .ref c25, .ref c26, .int 0])), (c1, .inr (16, [.ref c15, .int 0, .ref c27, .ref c2, .ref c28, .ref c29, .ref c30, .ref c31, .ref c32, .int 0, .int 0, .int 0, .int 0, .int 0, .int 0, .long 0, .ref c33, .ref c34, .ref c35, .ref c36, .int 0, .int 0, .long 0, .ref c37, .ref c38, .ref c39, .ref c40, .ref c41])), (c2, .inl (c3, 8, .inl (fun _ => 0)))] H := hP
      have hD : va_D A [(c0, .inr (20, [.int 0, .ref c5, .int 0, .int 0, .ref c6, .ref c7, .ref c8, .ref c9, .ref c10, .ref c11, .ref c12, .ref c13, .ref c14, .ref c15, .ref c1, .ref c16, .ref c17, .int 0, .int 0, .int 0, .int 0, .int 0, .int 0, .int 0, .int 0, .int 0, .ref c18, .ref c19, .ref c20, .ref c21, .ref c22, .ref c23, .ref c24, .ref c25, .ref c26, .int 0])), (c1, .inr (16, [.ref c15, .int 0, .ref c27, .ref c2, .ref c28, .ref c29, .ref c30, .ref c31, .ref c32, .int 0, .int 0, .int 0, .int 0, .int 0, .int 0, .long 0, .ref c33, .ref c34, .ref c35, .ref c36, .int 0, .int 0, .long 0, .ref c37, .ref c38, .ref c39, .ref c40, .ref c41])), (c2, .inl (c3, 8, .inl (fun _ => 0)))] := hD
      have hK : va_K (dC, dI) vwCl [(c3, .boolean)] s := hK
      refine W.widen (k := 0) (n := 0) (by decide +kernel) (by decide +kernel) ?_
      refine lv_i2l (v := 0) hx hb dX19_count_38 (by decide) ?_
      refine W.widen (k := 0) (n := 0) (by decide +kernel) (by decide +kernel) ?_
      exact W.lret (v := 0) hx hb hr (fun t ht hW => ⟨⟨0, (), rfl, Or.inr (Or.inr (Or.inr (Or.inr (Or.inr (Or.inl ⟨c_1, c_3, rfl⟩))))), trivial⟩, hS.F ht⟩) hS.2.2 dX19_count_39
def ow_k_X3_putByte : List Cond := .code yX3_putByte cX3_putByte 2 none :: ([.fieldLink RX3 44 "TimeMachine$Events" "place" "I", .fieldLink RX3 23 "TimeMachine$Events" "row" "[B"] ++ (u_ws RX3 TX3 11 ++ []))
theorem gd_k_X3_putByte : ∀ w ∈ ow_k_X3_putByte, (w.onTables && w.keeps) = true ∨ ∃ ty, w = Cond.arrayClass ty := List.forall_mem_cons.mpr ⟨good_of_word rfl, List.forall_mem_append.mpr ⟨fun w h => good_of_word (List.all_eq_true.mp (by decide +kernel) w h), List.forall_mem_append.mpr ⟨gu_X3, fun _ h => nomatch h⟩⟩⟩
theorem hi_k_X3_putByte_X3 : ∀ w ∈ u_ws RX3 TX3 11, w ∈ ow_k_X3_putByte := fun w h => List.mem_cons_of_mem _ (List.mem_append_right _ (List.mem_append_left _ h))
set_option maxHeartbeats 40000000 in
set_option maxRecDepth 100000 in
theorem k_X3_putByte (l : Launch) (hlt : l.stackTraces = false) (dC : Nat → ClassId) (dI : Nat → Nat → Nat) (c0 : Nat) (c1 : Nat) (c2 : ClassId) (c3 : Nat) (c4 : Nat) (c5 : Nat) (c6 : Nat) (sz : Nat) : Met l yX3_putByte ow_k_X3_putByte ({ frames := 0, cells := 0, slots := 0, locals := 0 }) (va_Pc [.ref c0, .int 0] (fun U => U.heap.size = sz ∧ va_P (dC, dI) vwCl [(c0, .inr (4, [.ref c3, .ref c4, .ref c5, .ref c6, .int 0, .int 0, .ref c1, .int 0, .int 0, .int 0, .int 0])), (c1, .inl (c2, 32768, .inl (fun _ => 0)))] U.heap ∧ va_K (dC, dI) vwCl [(c2, .byte)] U ∧ va_D (fun _ => True) [(c0, .inr (4, [.ref c3, .ref c4, .ref c5, .ref c6, .int 0, .int 0, .ref c1, .int 0, .int 0, .int 0, .int 0])), (c1, .inl (c2, 32768, .inl (fun _ => 0)))] ∧ nv_E (va_A [(c0, .inr (4, [.ref c3, .ref c4, .ref c5, .ref c6, .int 0, .int 0, .ref c1, .int 0, .int 0, .int 0, .int 0])), (c1, .inl (c2, 32768, .inl (fun _ => 0)))] sz) U)) (va_Qv (fun _ => True) (fun (_ : Unit) t => ∃ (f1 : Nat → Int32), va_P (dC, dI) vwCl [(c0, .inr (4, [.ref c3, .ref c4, .ref c5, .ref c6, .int 0, .int 0, .ref c1, .int 1, .int 0, .int 0, .int 0])), (c1, .inl (c2, 32768, .inl f1))] t.heap ∧ va_K (dC, dI) vwCl [(c2, .byte)] t ∧ va_D (va_A [(c0, .inr (4, [.ref c3, .ref c4, .ref c5, .ref c6, .int 0, .int 0, .ref c1, .int 0, .int 0, .int 0, .int 0])), (c1, .inl (c2, 32768, .inl (fun _ => 0)))] sz) [(c0, .inr (4, [.ref c3, .ref c4, .ref c5, .ref c6, .int 0, .int 0, .ref c1, .int 1, .int 0, .int 0, .int 0])), (c1, .inl (c2, 32768, .inl f1))]) (va_A [(c0, .inr (4, [.ref c3, .ref c4, .ref c5, .ref c6, .int 0, .int 0, .ref c1, .int 0, .int 0, .int 0, .int 0])), (c1, .inl (c2, 32768, .inl (fun _ => 0)))] sz)) 0 0 (va_A [(c0, .inr (4, [.ref c3, .ref c4, .ref c5, .ref c6, .int 0, .int 0, .ref c1, .int 0, .int 0, .int 0, .int 0])), (c1, .inl (c2, 32768, .inl (fun _ => 0)))] sz) := by
  refine Met.ofW (cc := cX3_putByte) (maxL := 2) (ret := none) (by decide) rfl ?_
  intro p e s m args below meth c s₁ B hml hv
  obtain ⟨rfl, hsz, hP, hK, hD0, hN⟩ := hv
  have hx := B.exec
  have hb := B.bytes
  have hr := B.returns
  have hts := atoms_spec (ws := ow_k_X3_putByte) B.pre
  have hown : s.vm.findClass RX3 = some m.cls := findClass_of_methodNamed B.named
  have hlocks := B.notSynchronized
  subst hsz
  have hD := hD0.self (sz := s.heap.size)
  generalize hAe : va_A [(c0, .inr (4, [.ref c3, .ref c4, .ref c5, .ref c6, .int 0, .int 0, .ref c1, .int 0, .int 0, .int 0, .int 0])), (c1, .inl (c2, 32768, .inl (fun _ => 0)))] s.heap.size = A at hD hN ⊢
  have hA : ∀ q : Nat, s.heap.size ≤ q → A q := fun q h => by rw [← hAe]; exact Or.inr h
  have hS : va_S A s.heap s.heap [] := va_S.rf
  have hl := lv_entry ([.ref c0, .int 0]) (n := 2) (Nat.le_of_ble_eq_true rfl)
  rw [lg_entry_eq]
  generalize (lg_sl ([.ref c0, .int 0]) ++ List.replicate (2 - (lg_sl ([.ref c0, .int 0])).length) Slot.unset).toArray = ls at hl ⊢
  have hl : lv_has ls 2 [(0, .ref c0), (1, .int 0)] := hl
  refine lv_aload_n hx hb dX3_putByte_0 rfl (lv_at hl 0 rfl) ?_
  refine va_get (D := (dC, dI)) (ci := 4) (v := .int 0) (C := RX3) (T := TX3) (N := 11) hx hb hts hi_k_X3_putByte_X3 hown hK hP 0 rfl rfl 7 (by decide) (hts (.fieldLink RX3 44 "TimeMachine$Events" "place" "I") (List.mem_of_getElem? (i := 1) rfl)) (fun _ h9 => h9) rfl dX3_putByte_1 ?_
  refine lv_aload_n hx hb dX3_putByte_4 rfl (lv_at hl 0 rfl) ?_
  refine va_get (D := (dC, dI)) (ci := 4) (v := .ref c1) (C := RX3) (T := TX3) (N := 11) hx hb hts hi_k_X3_putByte_X3 hown hK hP 0 rfl rfl 6 (by decide) (hts (.fieldLink RX3 23 "TimeMachine$Events" "row" "[B") (List.mem_of_getElem? (i := 2) rfl)) (fun _ h9 => h9) rfl dX3_putByte_5 ?_
  refine va_alen (v := 32768) hx hb hK hP 1 0 rfl rfl (show Int32.ofNat 32768 = 32768 by decide) dX3_putByte_8 ?_
  refine lv_icmp_ge (tgt := 33) hx hb dX3_putByte_9 (by decide) (fun h9 => absurd h9 (by decide)) (fun _ => ?_)
  refine lv_aload_n hx hb dX3_putByte_12 rfl (lv_at hl 0 rfl) ?_
  refine va_get (D := (dC, dI)) (ci := 4) (v := .ref c1) (C := RX3) (T := TX3) (N := 11) hx hb hts hi_k_X3_putByte_X3 hown hK hP 0 rfl rfl 6 (by decide) (hts (.fieldLink RX3 23 "TimeMachine$Events" "row" "[B") (List.mem_of_getElem? (i := 2) rfl)) (fun _ h9 => h9) rfl dX3_putByte_13 ?_
  refine lv_aload_n hx hb dX3_putByte_16 rfl (lv_at hl 0 rfl) ?_
  refine va_get (D := (dC, dI)) (ci := 4) (v := .int 0) (C := RX3) (T := TX3) (N := 11) hx hb hts hi_k_X3_putByte_X3 hown hK hP 0 rfl rfl 7 (by decide) (hts (.fieldLink RX3 44 "TimeMachine$Events" "place" "I") (List.mem_of_getElem? (i := 1) rfl)) (fun _ h9 => h9) rfl dX3_putByte_17 ?_
  refine lv_iload_n hx hb dX3_putByte_20 rfl (lv_at hl 1 rfl) ?_
  refine lv_i2b (v := 0) hx hb dX3_putByte_21 (by decide) ?_
  refine va_bast (i := 0) (x := 0) hx hb hK hP hD hS 1 0 rfl rfl (vp_in_iff.mpr ⟨by decide, by decide⟩) dX3_putByte_22 (fun H locs hP hD hS => ?_)
  generalize hf1 : upd (fun _ => 0) (Int32.toNatClampNeg 0) (vp_nar .byte 0) = f1 at hP hD
  have hP : va_P (dC, dI) vwCl [(c0, .inr (4, [.ref c3, .ref c4, .ref c5, .ref c6, .int 0, .int 0, .ref c1, .int 0, .int 0, .int 0, .int 0])), (c1, .inl (c2, 32768, .inl f1))] H := hP
  have hD : va_D A [(c0, .inr (4, [.ref c3, .ref c4, .ref c5, .ref c6, .int 0, .int 0, .ref c1, .int 0, .int 0, .int 0, .int 0])), (c1, .inl (c2, 32768, .inl f1))] := hD
  refine lv_aload_n hx hb dX3_putByte_23 rfl (lv_at hl 0 rfl) ?_
  refine lv_dup hx hb dX3_putByte_24 rfl ?_
  refine va_get (D := (dC, dI)) (ci := 4) (v := .int 0) (C := RX3) (T := TX3) (N := 11) hx hb hts hi_k_X3_putByte_X3 hown hK hP 0 rfl rfl 7 (by decide) (hts (.fieldLink RX3 44 "TimeMachine$Events" "place" "I") (List.mem_of_getElem? (i := 1) rfl)) (fun _ h9 => h9) rfl dX3_putByte_25 ?_
  refine lv_iconst (v := 1) hx hb dX3_putByte_28 (by decide) ?_
  refine lv_iadd hx hb dX3_putByte_29 ?_
  refine lv_topi (fun z2 ez2 => ?_)
  obtain rfl : z2 = 1 := ez2.trans (by decide)
  refine va_put (D := (dC, dI)) (ci := 4) (v := .int 1) (ty := .int) (C := RX3) (T := TX3) (N := 11) hx hb hts hi_k_X3_putByte_X3 tyX3 tyX3_ok nmX3 hown hK hP hD hS 0 rfl rfl 7 (by decide) (hts (.fieldLink RX3 44 "TimeMachine$Events" "place" "I") (List.mem_of_getElem? (i := 1) rfl)) (fun _ h9 => h9) rfl (by decide +kernel) rfl rfl (Nat.le_of_ble_eq_true rfl) dX3_putByte_30 (fun H locs hP hD hS => ?_)
  have hP : va_P (dC, dI) vwCl [(c0, .inr (4, [.ref c3, .ref c4, .ref c5, .ref c6, .int 0, .int 0, .ref c1, .int 1, .int 0, .int 0, .int 0])), (c1, .inl (c2, 32768, .inl f1))] H := hP
  have hD : va_D A [(c0, .inr (4, [.ref c3, .ref c4, .ref c5, .ref c6, .int 0, .int 0, .ref c1, .int 1, .int 0, .int 0, .int 0])), (c1, .inl (c2, 32768, .inl f1))] := hD
  have hP9 := hP.sub (ws' := [(c0, .inr (4, [.ref c3, .ref c4, .ref c5, .ref c6, .int 0, .int 0, .ref c1, .int 1, .int 0, .int 0, .int 0])), (c1, .inl (c2, 32768, .inl f1))]) [0, 1] rfl
  have hD9 := hD.sub (ws' := [(c0, .inr (4, [.ref c3, .ref c4, .ref c5, .ref c6, .int 0, .int 0, .ref c1, .int 1, .int 0, .int 0, .int 0])), (c1, .inl (c2, 32768, .inl f1))]) [0, 1] (by decide) rfl
  have hK9 := hK.sub (tys' := [(c2, .byte)]) [0] rfl
  refine W.widen (k := 0) (n := 0) (by decide +kernel) (by decide +kernel) ?_
  exact W.vret hx hb hr (fun t ht hW => ⟨⟨(), rfl, trivial, f1, by rw [ht]; exact hP9, va_K.moved hW.alike hK9, hD9⟩, hS.F ht⟩) hS.2.2 dX3_putByte_33
def ow_k_X3_putVarint : List Cond := .code yX3_putVarint cX3_putVarint 6 none :: ([.constantLong RX3 84 (127), .methodLink RX3 59 yX3_putByte, .instanceMethod yX3_putByte, .selects RX3 yX3_putByte yX3_putByte, .initialized RX3] ++ (ow_k_X3_putByte ++ []))
theorem gd_k_X3_putVarint : ∀ w ∈ ow_k_X3_putVarint, (w.onTables && w.keeps) = true ∨ ∃ ty, w = Cond.arrayClass ty := List.forall_mem_cons.mpr ⟨good_of_word rfl, List.forall_mem_append.mpr ⟨fun w h => good_of_word (List.all_eq_true.mp (by decide +kernel) w h), List.forall_mem_append.mpr ⟨gd_k_X3_putByte, fun _ h => nomatch h⟩⟩⟩
theorem gi_k_X3_putVarint_0 : GoodIn ow_k_X3_putVarint (wsV RX3 59 RX3 yX3_putByte ow_k_X3_putByte) := goodIn_app (goodIn_of _ (by decide +kernel)) (fun w h => ⟨List.mem_cons_of_mem _ (List.mem_append_right _ (List.mem_append_left _ h)), gd_k_X3_putByte w h⟩)
set_option maxHeartbeats 40000000 in
set_option maxRecDepth 100000 in
theorem k_X3_putVarint (l : Launch) (hlt : l.stackTraces = false) (dC : Nat → ClassId) (dI : Nat → Nat → Nat) (c0 : Nat) (c1 : Nat) (c2 : ClassId) (c3 : Nat) (c4 : Nat) (c5 : Nat) (c6 : Nat) (sz : Nat) : Met l yX3_putVarint ow_k_X3_putVarint ({ frames := 1, cells := 0, slots := 0, locals := 21 }) (va_Pc [.ref c0, .long 0] (fun U => U.heap.size = sz ∧ va_P (dC, dI) vwCl [(c0, .inr (4, [.ref c3, .ref c4, .ref c5, .ref c6, .int 0, .int 0, .ref c1, .int 0, .int 0, .int 0, .int 0])), (c1, .inl (c2, 32768, .inl (fun _ => 0)))] U.heap ∧ va_K (dC, dI) vwCl [(c2, .byte)] U ∧ va_D (fun _ => True) [(c0, .inr (4, [.ref c3, .ref c4, .ref c5, .ref c6, .int 0, .int 0, .ref c1, .int 0, .int 0, .int 0, .int 0])), (c1, .inl (c2, 32768, .inl (fun _ => 0)))] ∧ nv_E (va_A [(c0, .inr (4, [.ref c3, .ref c4, .ref c5, .ref c6, .int 0, .int 0, .ref c1, .int 0, .int 0, .int 0, .int 0])), (c1, .inl (c2, 32768, .inl (fun _ => 0)))] sz) U)) (va_Qv (fun _ => True) (fun (_ : Unit) t => ∃ (f2 : Nat → Int32), va_P (dC, dI) vwCl [(c0, .inr (4, [.ref c3, .ref c4, .ref c5, .ref c6, .int 0, .int 0, .ref c1, .int 1, .int 0, .int 0, .int 0])), (c1, .inl (c2, 32768, .inl f2))] t.heap ∧ va_K (dC, dI) vwCl [(c2, .byte)] t ∧ va_D (va_A [(c0, .inr (4, [.ref c3, .ref c4, .ref c5, .ref c6, .int 0, .int 0, .ref c1, .int 0, .int 0, .int 0, .int 0])), (c1, .inl (c2, 32768, .inl (fun _ => 0)))] sz) [(c0, .inr (4, [.ref c3, .ref c4, .ref c5, .ref c6, .int 0, .int 0, .ref c1, .int 1, .int 0, .int 0, .int 0])), (c1, .inl (c2, 32768, .inl f2))]) (va_A [(c0, .inr (4, [.ref c3, .ref c4, .ref c5, .ref c6, .int 0, .int 0, .ref c1, .int 0, .int 0, .int 0, .int 0])), (c1, .inl (c2, 32768, .inl (fun _ => 0)))] sz)) 0 0 (va_A [(c0, .inr (4, [.ref c3, .ref c4, .ref c5, .ref c6, .int 0, .int 0, .ref c1, .int 0, .int 0, .int 0, .int 0])), (c1, .inl (c2, 32768, .inl (fun _ => 0)))] sz) := by
  refine Met.ofW (cc := cX3_putVarint) (maxL := 6) (ret := none) (by decide) rfl ?_
  intro p e s m args below meth c s₁ B hml hv
  obtain ⟨rfl, hsz, hP, hK, hD0, hN⟩ := hv
  have hx := B.exec
  have hb := B.bytes
  have hr := B.returns
  have hts := atoms_spec (ws := ow_k_X3_putVarint) B.pre
  have hown : s.vm.findClass RX3 = some m.cls := findClass_of_methodNamed B.named
  have hlocks := B.notSynchronized
  subst hsz
  have hD := hD0.self (sz := s.heap.size)
  generalize hAe : va_A [(c0, .inr (4, [.ref c3, .ref c4, .ref c5, .ref c6, .int 0, .int 0, .ref c1, .int 0, .int 0, .int 0, .int 0])), (c1, .inl (c2, 32768, .inl (fun _ => 0)))] s.heap.size = A at hD hN ⊢
  have hA : ∀ q : Nat, s.heap.size ≤ q → A q := fun q h => by rw [← hAe]; exact Or.inr h
  have hS : va_S A s.heap s.heap [] := va_S.rf
  have hl := lv_entry ([.ref c0, .long 0]) (n := 6) (Nat.le_of_ble_eq_true rfl)
  rw [lg_entry_eq]
  generalize (lg_sl ([.ref c0, .long 0]) ++ List.replicate (6 - (lg_sl ([.ref c0, .long 0])).length) Slot.unset).toArray = ls at hl ⊢
  have hl : lv_has ls 6 [(0, .ref c0), (1, .long 0)] := hl
  refine lv_lload_n hx hb dX3_putVarint_0 rfl (lv_at hl 1 rfl) ?_
  refine lv_lstore_n (lv' := [(3, .long 0), (0, .ref c0), (1, .long 0)]) hx hb dX3_putVarint_1 rfl hl (by decide) rfl (fun ls hl => ?_)
  refine lv_iconst (v := 0) hx hb dX3_putVarint_2 (by decide) ?_
  refine lv_istore (lv' := [(5, .int 0), (3, .long 0), (0, .ref c0), (1, .long 0)]) hx hb dX3_putVarint_3 hl (by decide) rfl (fun ls hl => ?_)
  refine lv_iload hx hb dX3_putVarint_5 (lv_at hl 0 rfl) ?_
  refine lv_bipush (v := 7) hx hb dX3_putVarint_7 (by decide) ?_
  refine lv_icmp_ge (tgt := 45) hx hb dX3_putVarint_9 (by decide) (fun h9 => absurd h9 (by decide)) (fun _ => ?_)
  refine lv_lload_n hx hb dX3_putVarint_12 rfl (lv_at hl 1 rfl) ?_
  refine lv_ldc2 hx hb hown (hts (.constantLong RX3 84 (127)) (List.mem_of_getElem? (i := 1) rfl)) dX3_putVarint_13 ?_
  refine W.lcmp hx hb dX3_putVarint_16 ?_
  refine lv_topi (fun z1 ez1 => ?_)
  obtain rfl : z1 = (-1) := ez1.trans (by decide)
  refine lv_if_le (tgt := 45) hx hb dX3_putVarint_17 (by decide) (fun _ => ?_) (fun h9 => absurd (by decide) h9)
  refine lv_aload_n hx hb dX3_putVarint_45 rfl (lv_at hl 2 rfl) ?_
  refine lv_lload_n hx hb dX3_putVarint_46 rfl (lv_at hl 1 rfl) ?_
  refine lv_l2i (v := 0) hx hb dX3_putVarint_47 (by decide) ?_
  have hPc := hP.sub (ws' := [(c0, .inr (4, [.ref c3, .ref c4, .ref c5, .ref c6, .int 0, .int 0, .ref c1, .int 0, .int 0, .int 0, .int 0])), (c1, .inl (c2, 32768, .inl (fun _ => 0)))]) [0, 1] rfl
  have hDc := hD.sub (ws' := [(c0, .inr (4, [.ref c3, .ref c4, .ref c5, .ref c6, .int 0, .int 0, .ref c1, .int 0, .int 0, .int 0, .int 0])), (c1, .inl (c2, 32768, .inl (fun _ => 0)))]) [0, 1] (by decide) rfl
  have hKc := hK.sub (tys' := [(c2, .byte)]) [0] rfl
  have hFc := va_free (wc := [(c0, .inr (4, [.ref c3, .ref c4, .ref c5, .ref c6, .int 0, .int 0, .ref c1, .int 0, .int 0, .int 0, .int 0])), (c1, .inl (c2, 32768, .inl (fun _ => 0)))]) hD hS hA [0, 1] rfl
  refine va_callv (va_runV (As := [.int 0]) (rest := []) ⟨hx, hb, hml, hown, hts⟩ (k_X3_putByte l hlt dC dI c0 c1 c2 c3 c4 c5 c6  s.heap.size) (cwV 1 hts gi_k_X3_putVarint_0 rfl rfl rfl (by decide +kernel) ⟨Nat.le_of_ble_eq_true rfl, Nat.le_of_ble_eq_true rfl⟩) ⟨fun a U g mk q => by obtain ⟨q0, q1, qP, qK, qD, qN⟩ := q; exact ⟨q0, q1, qP, va_K.moved (u := U) (U := U.calling g mk a) (Vm.Alike.refl U.vm) qK, qD, nv_same rfl rfl qN⟩, va_recv hKc hPc (ci := 4) (q0 := 0) rfl rfl, fun U hU hW => ⟨rfl, by rw [hU], by rw [hU]; exact hPc, va_K.moved hW.alike hKc, hDc.weaken (fun _ _ _ _ => trivial), nv_call hS hFc hU hW hN⟩⟩ rfl rfl hl.1 rfl (lv_room (Nat.le_of_ble_eq_true rfl)) dX3_putVarint_48 ⟨by decide +kernel, by decide +kernel⟩) hS (fun q _ h => hFc q h) hFc (fun u t H1 locs ht hvm hw hB hz1 hk1 hS => ?_)
  obtain ⟨f2, hP1, hK1, hD1⟩ := hB
  rw [ht] at hP1
  have hK1 := va_K.moved hvm.symm hK1
  obtain ⟨hP, hD⟩ := va_join (wr := []) (w1 := [(c0, .inr (4, [.ref c3, .ref c4, .ref c5, .ref c6, .int 0, .int 0, .ref c1, .int 1, .int 0, .int 0, .int 0])), (c1, .inl (c2, 32768, .inl f2))]) hP hD [0, 1] [] rfl rfl (by decide) (by decide) hk1 hFc hP1 hD1
  have hK := (hK.sub (tys' := []) [] rfl).app hK1
  generalize H1 = H at hP hS ⊢
  have hP : va_P (dC, dI) vwCl [(c0, .inr (4, [.ref c3, .ref c4, .ref c5, .ref c6, .int 0, .int 0, .ref c1, .int 1, .int 0, .int 0, .int 0])), (c1, .inl (c2, 32768, .inl f2))] H := hP
  have hD : va_D A [(c0, .inr (4, [.ref c3, .ref c4, .ref c5, .ref c6, .int 0, .int 0, .ref c1, .int 1, .int 0, .int 0, .int 0])), (c1, .inl (c2, 32768, .inl f2))] := hD
  have hK : va_K (dC, dI) vwCl [(c2, .byte)] s := hK
  refine W.widen (k := 0) (n := 0) (by decide +kernel) (by decide +kernel) ?_
  have hP9 := hP.sub (ws' := [(c0, .inr (4, [.ref c3, .ref c4, .ref c5, .ref c6, .int 0, .int 0, .ref c1, .int 1, .int 0, .int 0, .int 0])), (c1, .inl (c2, 32768, .inl f2))]) [0, 1] rfl
  have hD9 := hD.sub (ws' := [(c0, .inr (4, [.ref c3, .ref c4, .ref c5, .ref c6, .int 0, .int 0, .ref c1, .int 1, .int 0, .int 0, .int 0])), (c1, .inl (c2, 32768, .inl f2))]) [0, 1] (by decide) rfl
  have hK9 := hK.sub (tys' := [(c2, .byte)]) [0] rfl
  refine W.widen (k := 0) (n := 0) (by decide +kernel) (by decide +kernel) ?_
  exact W.vret hx hb hr (fun t ht hW => ⟨⟨(), rfl, trivial, f2, by rw [ht]; exact hP9, va_K.moved hW.alike hK9, hD9⟩, hS.F ht⟩) hS.2.2 dX3_putVarint_51
def ow_k_X3_writeLog : List Cond := .code yX3_writeLog cX3_writeLog 4 (some .int) :: ([.fieldLink RX3 23 "TimeMachine$Events" "row" "[B", .fieldLink RX3 44 "TimeMachine$Events" "place" "I", .fieldLink RX3 35 "TimeMachine$Events" "recorded" "I", .methodLink RX3 47 yX3_putVarint, .instanceMethod yX3_putVarint, .selects RX3 yX3_putVarint yX3_putVarint, .initialized RX3] ++ (u_ws RX3 TX3 11 ++ (ow_k_X3_putVarint ++ [])))
theorem gd_k_X3_writeLog : ∀ w ∈ ow_k_X3_writeLog, (w.onTables && w.keeps) = true ∨ ∃ ty, w = Cond.arrayClass ty := List.forall_mem_cons.mpr ⟨good_of_word rfl, List.forall_mem_append.mpr ⟨fun w h => good_of_word (List.all_eq_true.mp (by decide +kernel) w h), List.forall_mem_append.mpr ⟨gu_X3, List.forall_mem_append.mpr ⟨gd_k_X3_putVarint, fun _ h => nomatch h⟩⟩⟩⟩
theorem hi_k_X3_writeLog_X3 : ∀ w ∈ u_ws RX3 TX3 11, w ∈ ow_k_X3_writeLog := fun w h => List.mem_cons_of_mem _ (List.mem_append_right _ (List.mem_append_left _ h))
theorem gi_k_X3_writeLog_0 : GoodIn ow_k_X3_writeLog (wsV RX3 47 RX3 yX3_putVarint ow_k_X3_putVarint) := goodIn_app (goodIn_of _ (by decide +kernel)) (fun w h => ⟨List.mem_cons_of_mem _ (List.mem_append_right _ (List.mem_append_right _ (List.mem_append_left _ h))), gd_k_X3_putVarint w h⟩)
set_option maxHeartbeats 40000000 in
set_option maxRecDepth 100000 in
theorem k_X3_writeLog (l : Launch) (hlt : l.stackTraces = false) (dC : Nat → ClassId) (dI : Nat → Nat → Nat) (c0 : Nat) (c1 : Nat) (c2 : ClassId) (c3 : Nat) (c4 : Nat) (c5 : Nat) (c6 : Nat) (c7 : Nat) (sz : Nat) : Met l yX3_writeLog ow_k_X3_writeLog ({ frames := 2, cells := 0, slots := 0, locals := 46 }) (va_Pc [.ref c0, .ref c1] (fun U => U.heap.size = sz ∧ va_P (dC, dI) vwCl [(c0, .inr (4, [.ref c3, .ref c4, .ref c5, .ref c6, .int 0, .int 0, .ref c7, .int 0, .int 0, .int 0, .int 0])), (c1, .inl (c2, 32768, .inl (fun _ => 0)))] U.heap ∧ va_K (dC, dI) vwCl [(c2, .byte)] U ∧ va_D (fun _ => True) [(c0, .inr (4, [.ref c3, .ref c4, .ref c5, .ref c6, .int 0, .int 0, .ref c7, .int 0, .int 0, .int 0, .int 0])), (c1, .inl (c2, 32768, .inl (fun _ => 0)))] ∧ nv_E (va_A [(c0, .inr (4, [.ref c3, .ref c4, .ref c5, .ref c6, .int 0, .int 0, .ref c7, .int 0, .int 0, .int 0, .int 0])), (c1, .inl (c2, 32768, .inl (fun _ => 0)))] sz) U)) (va_Qi (fun r _ => r = 1) (fun (_ : Unit) t => ∃ (f1 : Nat → Int32), va_P (dC, dI) vwCl [(c0, .inr (4, [.ref c3, .ref c4, .ref c5, .ref c6, .int 0, .int 0, .ref c1, .int 1, .int 0, .int 0, .int 0])), (c1, .inl (c2, 32768, .inl f1))] t.heap ∧ va_K (dC, dI) vwCl [(c2, .byte)] t ∧ va_D (va_A [(c0, .inr (4, [.ref c3, .ref c4, .ref c5, .ref c6, .int 0, .int 0, .ref c7, .int 0, .int 0, .int 0, .int 0])), (c1, .inl (c2, 32768, .inl (fun _ => 0)))] sz) [(c0, .inr (4, [.ref c3, .ref c4, .ref c5, .ref c6, .int 0, .int 0, .ref c1, .int 1, .int 0, .int 0, .int 0])), (c1, .inl (c2, 32768, .inl f1))]) (va_A [(c0, .inr (4, [.ref c3, .ref c4, .ref c5, .ref c6, .int 0, .int 0, .ref c7, .int 0, .int 0, .int 0, .int 0])), (c1, .inl (c2, 32768, .inl (fun _ => 0)))] sz)) 0 0 (va_A [(c0, .inr (4, [.ref c3, .ref c4, .ref c5, .ref c6, .int 0, .int 0, .ref c7, .int 0, .int 0, .int 0, .int 0])), (c1, .inl (c2, 32768, .inl (fun _ => 0)))] sz) := by
  refine Met.ofW (cc := cX3_writeLog) (maxL := 4) (ret := (some .int)) (by decide) rfl ?_
  intro p e s m args below meth c s₁ B hml hv
  obtain ⟨rfl, hsz, hP, hK, hD0, hN⟩ := hv
  have hx := B.exec
  have hb := B.bytes
  have hr := B.returns
  have hts := atoms_spec (ws := ow_k_X3_writeLog) B.pre
  have hown : s.vm.findClass RX3 = some m.cls := findClass_of_methodNamed B.named
  have hlocks := B.notSynchronized
  subst hsz
  have hD := hD0.self (sz := s.heap.size)
  generalize hAe : va_A [(c0, .inr (4, [.ref c3, .ref c4, .ref c5, .ref c6, .int 0, .int 0, .ref c7, .int 0, .int 0, .int 0, .int 0])), (c1, .inl (c2, 32768, .inl (fun _ => 0)))] s.heap.size = A at hD hN ⊢
  have hA : ∀ q : Nat, s.heap.size ≤ q → A q := fun q h => by rw [← hAe]; exact Or.inr h
  have hS : va_S A s.heap s.heap [] := va_S.rf
  have hl := lv_entry ([.ref c0, .ref c1]) (n := 4) (Nat.le_of_ble_eq_true rfl)
  rw [lg_entry_eq]
  generalize (lg_sl ([.ref c0, .ref c1]) ++ List.replicate (4 - (lg_sl ([.ref c0, .ref c1])).length) Slot.unset).toArray = ls at hl ⊢
  have hl : lv_has ls 4 [(0, .ref c0), (1, .ref c1)] := hl
  refine lv_aload_n hx hb dX3_writeLog_0 rfl (lv_at hl 0 rfl) ?_
  refine lv_aload_n hx hb dX3_writeLog_1 rfl (lv_at hl 1 rfl) ?_
  refine va_put (D := (dC, dI)) (ci := 4) (v := .ref c1) (ty := .array .byte) (C := RX3) (T := TX3) (N := 11) hx hb hts hi_k_X3_writeLog_X3 tyX3 tyX3_ok nmX3 hown hK hP hD hS 0 rfl rfl 6 (by decide) (hts (.fieldLink RX3 23 "TimeMachine$Events" "row" "[B") (List.mem_of_getElem? (i := 1) rfl)) (fun _ h9 => h9) rfl (by decide +kernel) rfl rfl (Nat.le_of_ble_eq_true rfl) dX3_writeLog_2 (fun H locs hP hD hS => ?_)
  have hP : va_P (dC, dI) vwCl [(c0, .inr (4, [.ref c3, .ref c4, .ref c5, .ref c6, .int 0, .int 0, .ref c1, .int 0, .int 0, .int 0, .int 0])), (c1, .inl (c2, 32768, .inl (fun _ => 0)))] H := hP
  have hD : va_D A [(c0, .inr (4, [.ref c3, .ref c4, .ref c5, .ref c6, .int 0, .int 0, .ref c1, .int 0, .int 0, .int 0, .int 0])), (c1, .inl (c2, 32768, .inl (fun _ => 0)))] := hD
  refine lv_aload_n hx hb dX3_writeLog_5 rfl (lv_at hl 0 rfl) ?_
  refine lv_iconst (v := 0) hx hb dX3_writeLog_6 (by decide) ?_
  refine va_put (D := (dC, dI)) (ci := 4) (v := .int 0) (ty := .int) (C := RX3) (T := TX3) (N := 11) hx hb hts hi_k_X3_writeLog_X3 tyX3 tyX3_ok nmX3 hown hK hP hD hS 0 rfl rfl 7 (by decide) (hts (.fieldLink RX3 44 "TimeMachine$Events" "place" "I") (List.mem_of_getElem? (i := 2) rfl)) (fun _ h9 => h9) rfl (by decide +kernel) rfl rfl (Nat.le_of_ble_eq_true rfl) dX3_writeLog_7 (fun H locs hP hD hS => ?_)
  have hP : va_P (dC, dI) vwCl [(c0, .inr (4, [.ref c3, .ref c4, .ref c5, .ref c6, .int 0, .int 0, .ref c1, .int 0, .int 0, .int 0, .int 0])), (c1, .inl (c2, 32768, .inl (fun _ => 0)))] H := hP
  have hD : va_D A [(c0, .inr (4, [.ref c3, .ref c4, .ref c5, .ref c6, .int 0, .int 0, .ref c1, .int 0, .int 0, .int 0, .int 0])), (c1, .inl (c2, 32768, .inl (fun _ => 0)))] := hD
  refine lv_aload_n hx hb dX3_writeLog_10 rfl (lv_at hl 0 rfl) ?_
  refine lv_aload_n hx hb dX3_writeLog_11 rfl (lv_at hl 0 rfl) ?_
  refine va_get (D := (dC, dI)) (ci := 4) (v := .int 0) (C := RX3) (T := TX3) (N := 11) hx hb hts hi_k_X3_writeLog_X3 hown hK hP 0 rfl rfl 4 (by decide) (hts (.fieldLink RX3 35 "TimeMachine$Events" "recorded" "I") (List.mem_of_getElem? (i := 3) rfl)) (fun _ h9 => h9) rfl dX3_writeLog_12 ?_
  refine lv_i2l (v := 0) hx hb dX3_writeLog_15 (by decide) ?_
  have hPc := hP.sub (ws' := [(c0, .inr (4, [.ref c3, .ref c4, .ref c5, .ref c6, .int 0, .int 0, .ref c1, .int 0, .int 0, .int 0, .int 0])), (c1, .inl (c2, 32768, .inl (fun _ => 0)))]) [0, 1] rfl
  have hDc := hD.sub (ws' := [(c0, .inr (4, [.ref c3, .ref c4, .ref c5, .ref c6, .int 0, .int 0, .ref c1, .int 0, .int 0, .int 0, .int 0])), (c1, .inl (c2, 32768, .inl (fun _ => 0)))]) [0, 1] (by decide) rfl
  have hKc := hK.sub (tys' := [(c2, .byte)]) [0] rfl
  have hFc := va_free (wc := [(c0, .inr (4, [.ref c3, .ref c4, .ref c5, .ref c6, .int 0, .int 0, .ref c1, .int 0, .int 0, .int 0, .int 0])), (c1, .inl (c2, 32768, .inl (fun _ => 0)))]) hD hS hA [0, 1] rfl
  refine va_callv (va_runV (As := [.long 0]) (rest := []) ⟨hx, hb, hml, hown, hts⟩ (k_X3_putVarint l hlt dC dI c0 c1 c2 c3 c4 c5 c6  H.size) (cwV 1 hts gi_k_X3_writeLog_0 rfl rfl rfl (by decide +kernel) ⟨Nat.le_of_ble_eq_true rfl, Nat.le_of_ble_eq_true rfl⟩) ⟨fun a U g mk q => by obtain ⟨q0, q1, qP, qK, qD, qN⟩ := q; exact ⟨q0, q1, qP, va_K.moved (u := U) (U := U.calling g mk a) (Vm.Alike.refl U.vm) qK, qD, nv_same rfl rfl qN⟩, va_recv hKc hPc (ci := 4) (q0 := 0) rfl rfl, fun U hU hW => ⟨rfl, by rw [hU], by rw [hU]; exact hPc, va_K.moved hW.alike hKc, hDc.weaken (fun _ _ _ _ => trivial), nv_call hS hFc hU hW hN⟩⟩ rfl rfl hl.1 rfl (lv_room (Nat.le_of_ble_eq_true rfl)) dX3_writeLog_16 ⟨by decide +kernel, by decide +kernel⟩) hS (fun q _ h => hFc q h) hFc (fun u t H1 locs ht hvm hw hB hz1 hk1 hS => ?_)
  obtain ⟨f1, hP1, hK1, hD1⟩ := hB
  rw [ht] at hP1
  have hK1 := va_K.moved hvm.symm hK1
  obtain ⟨hP, hD⟩ := va_join (wr := []) (w1 := [(c0, .inr (4, [.ref c3, .ref c4, .ref c5, .ref c6, .int 0, .int 0, .ref c1, .int 1, .int 0, .int 0, .int 0])), (c1, .inl (c2, 32768, .inl f1))]) hP hD [0, 1] [] rfl rfl (by decide) (by decide) hk1 hFc hP1 hD1
  have hK := (hK.sub (tys' := []) [] rfl).app hK1
  generalize H1 = H at hP hS ⊢
  have hP : va_P (dC, dI) vwCl [(c0, .inr (4, [.ref c3, .ref c4, .ref c5, .ref c6, .int 0, .int 0, .ref c1, .int 1, .int 0, .int 0, .int 0])), (c1, .inl (c2, 32768, .inl f1))] H := hP
  have hD : va_D A [(c0, .inr (4, [.ref c3, .ref c4, .ref c5, .ref c6, .int 0, .int 0, .ref c1, .int 1, .int 0, .int 0, .int 0])), (c1, .inl (c2, 32768, .inl f1))] := hD
  have hK : va_K (dC, dI) vwCl [(c2, .byte)] s := hK
  refine W.widen (k := 0) (n := 0) (by decide +kernel) (by decide +kernel) ?_
  refine lv_iconst (v := 0) hx hb dX3_writeLog_19 (by decide) ?_
  refine lv_istore_n (lv' := [(2, .int 0), (0, .ref c0), (1, .ref c1)]) hx hb dX3_writeLog_20 rfl hl (by decide) rfl (fun ls hl => ?_)
  refine lv_iload_n hx hb dX3_writeLog_21 rfl (lv_at hl 0 rfl) ?_
  refine lv_aload_n hx hb dX3_writeLog_22 rfl (lv_at hl 1 rfl) ?_
  refine va_get (D := (dC, dI)) (ci := 4) (v := .int 0) (C := RX3) (T := TX3) (N := 11) hx hb hts hi_k_X3_writeLog_X3 hown hK hP 0 rfl rfl 4 (by decide) (hts (.fieldLink RX3 35 "TimeMachine$Events" "recorded" "I") (List.mem_of_getElem? (i := 3) rfl)) (fun _ h9 => h9) rfl dX3_writeLog_23 ?_
  refine lv_icmp_ge (tgt := 88) hx hb dX3_writeLog_26 (by decide) (fun _ => ?_) (fun h9 => absurd (by decide) h9)
  refine lv_aload_n hx hb dX3_writeLog_88 rfl (lv_at hl 1 rfl) ?_
  refine va_get (D := (dC, dI)) (ci := 4) (v := .int 1) (C := RX3) (T := TX3) (N := 11) hx hb hts hi_k_X3_writeLog_X3 hown hK hP 0 rfl rfl 7 (by decide) (hts (.fieldLink RX3 44 "TimeMachine$Events" "place" "I") (List.mem_of_getElem? (i := 2) rfl)) (fun _ h9 => h9) rfl dX3_writeLog_89 ?_
  have hP9 := hP.sub (ws' := [(c0, .inr (4, [.ref c3, .ref c4, .ref c5, .ref c6, .int 0, .int 0, .ref c1, .int 1, .int 0, .int 0, .int 0])), (c1, .inl (c2, 32768, .inl f1))]) [0, 1] rfl
  have hD9 := hD.sub (ws' := [(c0, .inr (4, [.ref c3, .ref c4, .ref c5, .ref c6, .int 0, .int 0, .ref c1, .int 1, .int 0, .int 0, .int 0])), (c1, .inl (c2, 32768, .inl f1))]) [0, 1] (by decide) rfl
  have hK9 := hK.sub (tys' := [(c2, .byte)]) [0] rfl
  refine W.widen (k := 0) (n := 0) (by decide +kernel) (by decide +kernel) ?_
  exact W.iret (v := 1) hx hb hr (fun t ht hW => ⟨⟨1, (), rfl, rfl, f1, by rw [ht]; exact hP9, va_K.moved hW.alike hK9, hD9⟩, hS.F ht⟩) hS.2.2 dX3_writeLog_92
def ow_k_X12_pack : List Cond := .code yX12_pack cX12_pack 1 (some .int) :: ([.fieldLink RX12 33 "TimeMachine" "timeline" "LTimeMachine$Timeline;", .fieldLink RX12 280 "TimeMachine$Timeline" "events" "LTimeMachine$Events;", .fieldLink RX12 46 "TimeMachine" "log" "[B", .methodLink RX12 283 yX3_writeLog, .instanceMethod yX3_writeLog, .selects RX3 yX3_writeLog yX3_writeLog, .initialized RX3, .fieldLink RX12 287 "TimeMachine" "logged" "I"] ++ (u_ws RX12 TX12 12 ++ (u_ws RX11 TX11 16 ++ (ow_k_X3_writeLog ++ []))))
theorem gd_k_X12_pack : ∀ w ∈ ow_k_X12_pack, (w.onTables && w.keeps) = true ∨ ∃ ty, w = Cond.arrayClass ty := List.forall_mem_cons.mpr ⟨good_of_word rfl, List.forall_mem_append.mpr ⟨fun w h => good_of_word (List.all_eq_true.mp (by decide +kernel) w h), List.forall_mem_append.mpr ⟨gu_X12, List.forall_mem_append.mpr ⟨gu_X11, List.forall_mem_append.mpr ⟨gd_k_X3_writeLog, fun _ h => nomatch h⟩⟩⟩⟩⟩
theorem hi_k_X12_pack_X12 : ∀ w ∈ u_ws RX12 TX12 12, w ∈ ow_k_X12_pack := fun w h => List.mem_cons_of_mem _ (List.mem_append_right _ (List.mem_append_left _ h))
theorem hi_k_X12_pack_X11 : ∀ w ∈ u_ws RX11 TX11 16, w ∈ ow_k_X12_pack := fun w h => List.mem_cons_of_mem _ (List.mem_append_right _ (List.mem_append_right _ (List.mem_append_left _ h)))
theorem gi_k_X12_pack_0 : GoodIn ow_k_X12_pack (wsV RX12 283 RX3 yX3_writeLog ow_k_X3_writeLog) := goodIn_app (goodIn_of _ (by decide +kernel)) (fun w h => ⟨List.mem_cons_of_mem _ (List.mem_append_right _ (List.mem_append_right _ (List.mem_append_right _ (List.mem_append_left _ h)))), gd_k_X3_writeLog w h⟩)
set_option maxHeartbeats 40000000 in
set_option maxRecDepth 100000 in
theorem k_X12_pack (l : Launch) (hlt : l.stackTraces = false) (dC : Nat → ClassId) (dI : Nat → Nat → Nat) (c0 : Nat) (c1 : Nat) (c2 : Nat) (c3 : Nat) (c4 : ClassId) (c5 : Nat) (c6 : Nat) (c7 : Nat) (c8 : Nat) (c9 : Nat) (c10 : Nat) (c11 : Nat) (c12 : Nat) (c13 : Nat) (c14 : Nat) (c15 : Nat) (c16 : Nat) (c17 : Nat) (c18 : Nat) (c19 : Nat) (c20 : Nat) (c21 : Nat) (c22 : Nat) (c23 : Nat) (sz : Nat) : Met l yX12_pack ow_k_X12_pack ({ frames := 3, cells := 0, slots := 0, locals := 69 }) (va_Pc [.ref c0] (fun U => U.heap.size = sz ∧ va_P (dC, dI) vwCl [(c0, .inr (13, [.ref c5, .int 0, .int 0, .ref c6, .ref c7, .ref c8, .ref c1, .ref c9, .ref c10, .ref c3, .int 0, .ref c11])), (c1, .inr (12, [.ref c12, .ref c2, .ref c13, .ref c14, .ref c15, .ref c16, .int 0, .ref c17, .ref c18, .int 0, .int 0, .int 0, .int 0, .int 0, .int 0, .int 0])), (c2, .inr (4, [.ref c19, .ref c20, .ref c21, .ref c22, .int 0, .int 0, .ref c23, .int 0, .int 0, .int 0, .int 0])), (c3, .inl (c4, 32768, .inl (fun _ => 0)))] U.heap ∧ va_K (dC, dI) vwCl [(c4, .byte)] U ∧ va_D (fun _ => True) [(c0, .inr (13, [.ref c5, .int 0, .int 0, .ref c6, .ref c7, .ref c8, .ref c1, .ref c9, .ref c10, .ref c3, .int 0, .ref c11])), (c1, .inr (12, [.ref c12, .ref c2, .ref c13, .ref c14, .ref c15, .ref c16, .int 0, .ref c17, .ref c18, .int 0, .int 0, .int 0, .int 0, .int 0, .int 0, .int 0])), (c2, .inr (4, [.ref c19, .ref c20, .ref c21, .ref c22, .int 0, .int 0, .ref c23, .int 0, .int 0, .int 0, .int 0])), (c3, .inl (c4, 32768, .inl (fun _ => 0)))] ∧ nv_E (va_A [(c0, .inr (13, [.ref c5, .int 0, .int 0, .ref c6, .ref c7, .ref c8, .ref c1, .ref c9, .ref c10, .ref c3, .int 0, .ref c11])), (c1, .inr (12, [.ref c12, .ref c2, .ref c13, .ref c14, .ref c15, .ref c16, .int 0, .ref c17, .ref c18, .int 0, .int 0, .int 0, .int 0, .int 0, .int 0, .int 0])), (c2, .inr (4, [.ref c19, .ref c20, .ref c21, .ref c22, .int 0, .int 0, .ref c23, .int 0, .int 0, .int 0, .int 0])), (c3, .inl (c4, 32768, .inl (fun _ => 0)))] sz) U)) (va_Qi (fun r _ => r = 1) (fun (_ : Unit) t => ∃ (f1 : Nat → Int32), va_P (dC, dI) vwCl [(c0, .inr (13, [.ref c5, .int 0, .int 0, .ref c6, .ref c7, .ref c8, .ref c1, .ref c9, .ref c10, .ref c3, .int 1, .ref c11])), (c1, .inr (12, [.ref c12, .ref c2, .ref c13, .ref c14, .ref c15, .ref c16, .int 0, .ref c17, .ref c18, .int 0, .int 0, .int 0, .int 0, .int 0, .int 0, .int 0])), (c2, .inr (4, [.ref c19, .ref c20, .ref c21, .ref c22, .int 0, .int 0, .ref c3, .int 1, .int 0, .int 0, .int 0])), (c3, .inl (c4, 32768, .inl f1))] t.heap ∧ va_K (dC, dI) vwCl [(c4, .byte)] t ∧ va_D (va_A [(c0, .inr (13, [.ref c5, .int 0, .int 0, .ref c6, .ref c7, .ref c8, .ref c1, .ref c9, .ref c10, .ref c3, .int 0, .ref c11])), (c1, .inr (12, [.ref c12, .ref c2, .ref c13, .ref c14, .ref c15, .ref c16, .int 0, .ref c17, .ref c18, .int 0, .int 0, .int 0, .int 0, .int 0, .int 0, .int 0])), (c2, .inr (4, [.ref c19, .ref c20, .ref c21, .ref c22, .int 0, .int 0, .ref c23, .int 0, .int 0, .int 0, .int 0])), (c3, .inl (c4, 32768, .inl (fun _ => 0)))] sz) [(c0, .inr (13, [.ref c5, .int 0, .int 0, .ref c6, .ref c7, .ref c8, .ref c1, .ref c9, .ref c10, .ref c3, .int 1, .ref c11])), (c1, .inr (12, [.ref c12, .ref c2, .ref c13, .ref c14, .ref c15, .ref c16, .int 0, .ref c17, .ref c18, .int 0, .int 0, .int 0, .int 0, .int 0, .int 0, .int 0])), (c2, .inr (4, [.ref c19, .ref c20, .ref c21, .ref c22, .int 0, .int 0, .ref c3, .int 1, .int 0, .int 0, .int 0])), (c3, .inl (c4, 32768, .inl f1))]) (va_A [(c0, .inr (13, [.ref c5, .int 0, .int 0, .ref c6, .ref c7, .ref c8, .ref c1, .ref c9, .ref c10, .ref c3, .int 0, .ref c11])), (c1, .inr (12, [.ref c12, .ref c2, .ref c13, .ref c14, .ref c15, .ref c16, .int 0, .ref c17, .ref c18, .int 0, .int 0, .int 0, .int 0, .int 0, .int 0, .int 0])), (c2, .inr (4, [.ref c19, .ref c20, .ref c21, .ref c22, .int 0, .int 0, .ref c23, .int 0, .int 0, .int 0, .int 0])), (c3, .inl (c4, 32768, .inl (fun _ => 0)))] sz)) 0 0 (va_A [(c0, .inr (13, [.ref c5, .int 0, .int 0, .ref c6, .ref c7, .ref c8, .ref c1, .ref c9, .ref c10, .ref c3, .int 0, .ref c11])), (c1, .inr (12, [.ref c12, .ref c2, .ref c13, .ref c14, .ref c15, .ref c16, .int 0, .ref c17, .ref c18, .int 0, .int 0, .int 0, .int 0, .int 0, .int 0, .int 0])), (c2, .inr (4, [.ref c19, .ref c20, .ref c21, .ref c22, .int 0, .int 0, .ref c23, .int 0, .int 0, .int 0, .int 0])), (c3, .inl (c4, 32768, .inl (fun _ => 0)))] sz) := by
  refine Met.ofW (cc := cX12_pack) (maxL := 1) (ret := (some .int)) (by decide) rfl ?_
  intro p e s m args below meth c s₁ B hml hv
  obtain ⟨rfl, hsz, hP, hK, hD0, hN⟩ := hv
  have hx := B.exec
  have hb := B.bytes
  have hr := B.returns
  have hts := atoms_spec (ws := ow_k_X12_pack) B.pre
  have hown : s.vm.findClass RX12 = some m.cls := findClass_of_methodNamed B.named
  have hlocks := B.notSynchronized
  subst hsz
  have hD := hD0.self (sz := s.heap.size)
  generalize hAe : va_A [(c0, .inr (13, [.ref c5, .int 0, .int 0, .ref c6, .ref c7, .ref c8, .ref c1, .ref c9, .ref c10, .ref c3, .int 0, .ref c11])), (c1, .inr (12, [.ref c12, .ref c2, .ref c13, .ref c14, .ref c15, .ref c16, .int 0, .ref c17, .ref c18, .int 0, .int 0, .int 0, .int 0, .int 0, .int 0, .int 0])), (c2, .inr (4, [.ref c19, .ref c20, .ref c21, .ref c22, .int 0, .int 0, .ref c23, .int 0, .int 0, .int 0, .int 0])), (c3, .inl (c4, 32768, .inl (fun _ => 0)))] s.heap.size = A at hD hN ⊢
  have hA : ∀ q : Nat, s.heap.size ≤ q → A q := fun q h => by rw [← hAe]; exact Or.inr h
  have hS : va_S A s.heap s.heap [] := va_S.rf
  have hl := lv_entry ([.ref c0]) (n := 1) (Nat.le_of_ble_eq_true rfl)
  rw [lg_entry_eq]
  generalize (lg_sl ([.ref c0]) ++ List.replicate (1 - (lg_sl ([.ref c0])).length) Slot.unset).toArray = ls at hl ⊢
  have hl : lv_has ls 1 [(0, .ref c0)] := hl
  refine lv_aload_n hx hb dX12_pack_0 rfl (lv_at hl 0 rfl) ?_
  refine lv_aload_n hx hb dX12_pack_1 rfl (lv_at hl 0 rfl) ?_
  refine va_get (D := (dC, dI)) (ci := 13) (v := .ref c1) (C := RX12) (T := TX12) (N := 12) hx hb hts hi_k_X12_pack_X12 hown hK hP 0 rfl rfl 6 (by decide) (hts (.fieldLink RX12 33 "TimeMachine" "timeline" "LTimeMachine$Timeline;") (List.mem_of_getElem? (i := 1) rfl)) (fun _ h9 => h9) rfl dX12_pack_2 ?_
  refine va_get (D := (dC, dI)) (ci := 12) (v := .ref c2) (C := RX11) (T := TX11) (N := 16) hx hb hts hi_k_X12_pack_X11 hown hK hP 1 rfl rfl 1 (by decide) (hts (.fieldLink RX12 280 "TimeMachine$Timeline" "events" "LTimeMachine$Events;") (List.mem_of_getElem? (i := 2) rfl)) (fun _ h9 => h9) rfl dX12_pack_5 ?_
  refine lv_aload_n hx hb dX12_pack_8 rfl (lv_at hl 0 rfl) ?_
  refine va_get (D := (dC, dI)) (ci := 13) (v := .ref c3) (C := RX12) (T := TX12) (N := 12) hx hb hts hi_k_X12_pack_X12 hown hK hP 0 rfl rfl 9 (by decide) (hts (.fieldLink RX12 46 "TimeMachine" "log" "[B") (List.mem_of_getElem? (i := 3) rfl)) (fun _ h9 => h9) rfl dX12_pack_9 ?_
  have hPc := hP.sub (ws' := [(c2, .inr (4, [.ref c19, .ref c20, .ref c21, .ref c22, .int 0, .int 0, .ref c23, .int 0, .int 0, .int 0, .int 0])), (c3, .inl (c4, 32768, .inl (fun _ => 0)))]) [2, 3] rfl
  have hDc := hD.sub (ws' := [(c2, .inr (4, [.ref c19, .ref c20, .ref c21, .ref c22, .int 0, .int 0, .ref c23, .int 0, .int 0, .int 0, .int 0])), (c3, .inl (c4, 32768, .inl (fun _ => 0)))]) [2, 3] (by decide) rfl
  have hKc := hK.sub (tys' := [(c4, .byte)]) [0] rfl
  have hFc := va_free (wc := [(c2, .inr (4, [.ref c19, .ref c20, .ref c21, .ref c22, .int 0, .int 0, .ref c23, .int 0, .int 0, .int 0, .int 0])), (c3, .inl (c4, 32768, .inl (fun _ => 0)))]) hD hS hA [2, 3] rfl
  refine va_calli (va_runV (As := [.ref c3]) (rest := [.ref c0]) ⟨hx, hb, hml, hown, hts⟩ (k_X3_writeLog l hlt dC dI c2 c3 c4 c19 c20 c21 c22 c23  s.heap.size) (cwV 1 hts gi_k_X12_pack_0 rfl rfl rfl (by decide +kernel) ⟨Nat.le_of_ble_eq_true rfl, Nat.le_of_ble_eq_true rfl⟩) ⟨fun a U g mk q => by obtain ⟨q0, q1, qP, qK, qD, qN⟩ := q; exact ⟨q0, q1, qP, va_K.moved (u := U) (U := U.calling g mk a) (Vm.Alike.refl U.vm) qK, qD, nv_same rfl rfl qN⟩, va_recv hKc hPc (ci := 4) (q0 := 0) rfl rfl, fun U hU hW => ⟨rfl, by rw [hU], by rw [hU]; exact hPc, va_K.moved hW.alike hKc, hDc.weaken (fun _ _ _ _ => trivial), nv_call hS hFc hU hW hN⟩⟩ rfl rfl hl.1 rfl (lv_room (Nat.le_of_ble_eq_true rfl)) dX12_pack_12 ⟨by decide +kernel, by decide +kernel⟩) hS (fun q _ h => hFc q h) hFc (fun r2 u t H1 locs ht hvm hw hB hz1 hk1 hS => ?_)
  obtain ⟨f1, hP1, hK1, hD1⟩ := hB
  rw [ht] at hP1
  have hK1 := va_K.moved hvm.symm hK1
  obtain rfl : r2 = 1 := hw
  obtain ⟨hP, hD⟩ := va_join (wr := [(c0, .inr (13, [.ref c5, .int 0, .int 0, .ref c6, .ref c7, .ref c8, .ref c1, .ref c9, .ref c10, .ref c3, .int 0, .ref c11])), (c1, .inr (12, [.ref c12, .ref c2, .ref c13, .ref c14, .ref c15, .ref c16, .int 0, .ref c17, .ref c18, .int 0, .int 0, .int 0, .int 0, .int 0, .int 0, .int 0]))]) (w1 := [(c2, .inr (4, [.ref c19, .ref c20, .ref c21, .ref c22, .int 0, .int 0, .ref c3, .int 1, .int 0, .int 0, .int 0])), (c3, .inl (c4, 32768, .inl f1))]) hP hD [2, 3] [0, 1] rfl rfl (by decide) (by decide) hk1 hFc hP1 hD1
  have hK := (hK.sub (tys' := []) [] rfl).app hK1
  generalize H1 = H at hP hS ⊢
  have hP : va_P (dC, dI) vwCl [(c0, .inr (13, [.ref c5, .int 0, .int 0, .ref c6, .ref c7, .ref c8, .ref c1, .ref c9, .ref c10, .ref c3, .int 0, .ref c11])), (c1, .inr (12, [.ref c12, .ref c2, .ref c13, .ref c14, .ref c15, .ref c16, .int 0, .ref c17, .ref c18, .int 0, .int 0, .int 0, .int 0, .int 0, .int 0, .int 0])), (c2, .inr (4, [.ref c19, .ref c20, .ref c21, .ref c22, .int 0, .int 0, .ref c3, .int 1, .int 0, .int 0, .int 0])), (c3, .inl (c4, 32768, .inl f1))] H := hP
  have hD : va_D A [(c0, .inr (13, [.ref c5, .int 0, .int 0, .ref c6, .ref c7, .ref c8, .ref c1, .ref c9, .ref c10, .ref c3, .int 0, .ref c11])), (c1, .inr (12, [.ref c12, .ref c2, .ref c13, .ref c14, .ref c15, .ref c16, .int 0, .ref c17, .ref c18, .int 0, .int 0, .int 0, .int 0, .int 0, .int 0, .int 0])), (c2, .inr (4, [.ref c19, .ref c20, .ref c21, .ref c22, .int 0, .int 0, .ref c3, .int 1, .int 0, .int 0, .int 0])), (c3, .inl (c4, 32768, .inl f1))] := hD
  have hK : va_K (dC, dI) vwCl [(c4, .byte)] s := hK
  refine W.widen (k := 0) (n := 0) (by decide +kernel) (by decide +kernel) ?_
  refine va_put (D := (dC, dI)) (ci := 13) (v := .int 1) (ty := .int) (C := RX12) (T := TX12) (N := 12) hx hb hts hi_k_X12_pack_X12 tyX12 tyX12_ok nmX12 hown hK hP hD hS 0 rfl rfl 10 (by decide) (hts (.fieldLink RX12 287 "TimeMachine" "logged" "I") (List.mem_of_getElem? (i := 8) rfl)) (fun _ h9 => h9) rfl (by decide +kernel) rfl rfl (Nat.le_of_ble_eq_true rfl) dX12_pack_15 (fun H locs hP hD hS => ?_)
  have hP : va_P (dC, dI) vwCl [(c0, .inr (13, [.ref c5, .int 0, .int 0, .ref c6, .ref c7, .ref c8, .ref c1, .ref c9, .ref c10, .ref c3, .int 1, .ref c11])), (c1, .inr (12, [.ref c12, .ref c2, .ref c13, .ref c14, .ref c15, .ref c16, .int 0, .ref c17, .ref c18, .int 0, .int 0, .int 0, .int 0, .int 0, .int 0, .int 0])), (c2, .inr (4, [.ref c19, .ref c20, .ref c21, .ref c22, .int 0, .int 0, .ref c3, .int 1, .int 0, .int 0, .int 0])), (c3, .inl (c4, 32768, .inl f1))] H := hP
  have hD : va_D A [(c0, .inr (13, [.ref c5, .int 0, .int 0, .ref c6, .ref c7, .ref c8, .ref c1, .ref c9, .ref c10, .ref c3, .int 1, .ref c11])), (c1, .inr (12, [.ref c12, .ref c2, .ref c13, .ref c14, .ref c15, .ref c16, .int 0, .ref c17, .ref c18, .int 0, .int 0, .int 0, .int 0, .int 0, .int 0, .int 0])), (c2, .inr (4, [.ref c19, .ref c20, .ref c21, .ref c22, .int 0, .int 0, .ref c3, .int 1, .int 0, .int 0, .int 0])), (c3, .inl (c4, 32768, .inl f1))] := hD
  refine lv_aload_n hx hb dX12_pack_18 rfl (lv_at hl 0 rfl) ?_
  refine va_get (D := (dC, dI)) (ci := 13) (v := .int 1) (C := RX12) (T := TX12) (N := 12) hx hb hts hi_k_X12_pack_X12 hown hK hP 0 rfl rfl 10 (by decide) (hts (.fieldLink RX12 287 "TimeMachine" "logged" "I") (List.mem_of_getElem? (i := 8) rfl)) (fun _ h9 => h9) rfl dX12_pack_19 ?_
  have hP9 := hP.sub (ws' := [(c0, .inr (13, [.ref c5, .int 0, .int 0, .ref c6, .ref c7, .ref c8, .ref c1, .ref c9, .ref c10, .ref c3, .int 1, .ref c11])), (c1, .inr (12, [.ref c12, .ref c2, .ref c13, .ref c14, .ref c15, .ref c16, .int 0, .ref c17, .ref c18, .int 0, .int 0, .int 0, .int 0, .int 0, .int 0, .int 0])), (c2, .inr (4, [.ref c19, .ref c20, .ref c21, .ref c22, .int 0, .int 0, .ref c3, .int 1, .int 0, .int 0, .int 0])), (c3, .inl (c4, 32768, .inl f1))]) [0, 1, 2, 3] rfl
  have hD9 := hD.sub (ws' := [(c0, .inr (13, [.ref c5, .int 0, .int 0, .ref c6, .ref c7, .ref c8, .ref c1, .ref c9, .ref c10, .ref c3, .int 1, .ref c11])), (c1, .inr (12, [.ref c12, .ref c2, .ref c13, .ref c14, .ref c15, .ref c16, .int 0, .ref c17, .ref c18, .int 0, .int 0, .int 0, .int 0, .int 0, .int 0, .int 0])), (c2, .inr (4, [.ref c19, .ref c20, .ref c21, .ref c22, .int 0, .int 0, .ref c3, .int 1, .int 0, .int 0, .int 0])), (c3, .inl (c4, 32768, .inl f1))]) [0, 1, 2, 3] (by decide) rfl
  have hK9 := hK.sub (tys' := [(c4, .byte)]) [0] rfl
  refine W.widen (k := 0) (n := 0) (by decide +kernel) (by decide +kernel) ?_
  exact W.iret (v := 1) hx hb hr (fun t ht hW => ⟨⟨1, (), rfl, rfl, f1, by rw [ht]; exact hP9, va_K.moved hW.alike hK9, hD9⟩, hS.F ht⟩) hS.2.2 dX12_pack_22
def ow_k_X14_clear : List Cond := .code yX14_clear cX14_clear 1 none :: ([.fieldLink RX14 27 "TimeMachineModel$Codec" "events" "I"] ++ (u_ws RX14 TX14 11 ++ []))
theorem gd_k_X14_clear : ∀ w ∈ ow_k_X14_clear, (w.onTables && w.keeps) = true ∨ ∃ ty, w = Cond.arrayClass ty := List.forall_mem_cons.mpr ⟨good_of_word rfl, List.forall_mem_append.mpr ⟨fun w h => good_of_word (List.all_eq_true.mp (by decide +kernel) w h), List.forall_mem_append.mpr ⟨gu_X14, fun _ h => nomatch h⟩⟩⟩
theorem hi_k_X14_clear_X14 : ∀ w ∈ u_ws RX14 TX14 11, w ∈ ow_k_X14_clear := fun w h => List.mem_cons_of_mem _ (List.mem_append_right _ (List.mem_append_left _ h))
set_option maxHeartbeats 40000000 in
set_option maxRecDepth 100000 in
theorem k_X14_clear (l : Launch) (hlt : l.stackTraces = false) (dC : Nat → ClassId) (dI : Nat → Nat → Nat) (c0 : Nat) (c1 : Nat) (c2 : Nat) (c3 : Nat) (c4 : Nat) (c5 : Nat) (sz : Nat) : Met l yX14_clear ow_k_X14_clear ({ frames := 0, cells := 0, slots := 0, locals := 0 }) (va_Pc [.ref c0] (fun U => U.heap.size = sz ∧ va_P (dC, dI) vwCl [(c0, .inr (15, [.int 0, .ref c1, .ref c2, .ref c3, .ref c4, .ref c5, .int 0, .null, .int 0, .int 0, .int 0]))] U.heap ∧ va_K (dC, dI) vwCl [] U ∧ va_D (fun _ => True) [(c0, .inr (15, [.int 0, .ref c1, .ref c2, .ref c3, .ref c4, .ref c5, .int 0, .null, .int 0, .int 0, .int 0]))] ∧ nv_E (va_A [(c0, .inr (15, [.int 0, .ref c1, .ref c2, .ref c3, .ref c4, .ref c5, .int 0, .null, .int 0, .int 0, .int 0]))] sz) U)) (va_Qv (fun _ => True) (fun (_ : Unit) t => va_P (dC, dI) vwCl [(c0, .inr (15, [.int 0, .ref c1, .ref c2, .ref c3, .ref c4, .ref c5, .int 0, .null, .int 0, .int 0, .int 0]))] t.heap ∧ va_K (dC, dI) vwCl [] t ∧ va_D (va_A [(c0, .inr (15, [.int 0, .ref c1, .ref c2, .ref c3, .ref c4, .ref c5, .int 0, .null, .int 0, .int 0, .int 0]))] sz) [(c0, .inr (15, [.int 0, .ref c1, .ref c2, .ref c3, .ref c4, .ref c5, .int 0, .null, .int 0, .int 0, .int 0]))]) (va_A [(c0, .inr (15, [.int 0, .ref c1, .ref c2, .ref c3, .ref c4, .ref c5, .int 0, .null, .int 0, .int 0, .int 0]))] sz)) 0 0 (va_A [(c0, .inr (15, [.int 0, .ref c1, .ref c2, .ref c3, .ref c4, .ref c5, .int 0, .null, .int 0, .int 0, .int 0]))] sz) := by
  refine Met.ofW (cc := cX14_clear) (maxL := 1) (ret := none) (by decide) rfl ?_
  intro p e s m args below meth c s₁ B hml hv
  obtain ⟨rfl, hsz, hP, hK, hD0, hN⟩ := hv
  have hx := B.exec
  have hb := B.bytes
  have hr := B.returns
  have hts := atoms_spec (ws := ow_k_X14_clear) B.pre
  have hown : s.vm.findClass RX14 = some m.cls := findClass_of_methodNamed B.named
  have hlocks := B.notSynchronized
  subst hsz
  have hD := hD0.self (sz := s.heap.size)
  generalize hAe : va_A [(c0, .inr (15, [.int 0, .ref c1, .ref c2, .ref c3, .ref c4, .ref c5, .int 0, .null, .int 0, .int 0, .int 0]))] s.heap.size = A at hD hN ⊢
  have hA : ∀ q : Nat, s.heap.size ≤ q → A q := fun q h => by rw [← hAe]; exact Or.inr h
  have hS : va_S A s.heap s.heap [] := va_S.rf
  have hl := lv_entry ([.ref c0]) (n := 1) (Nat.le_of_ble_eq_true rfl)
  rw [lg_entry_eq]
  generalize (lg_sl ([.ref c0]) ++ List.replicate (1 - (lg_sl ([.ref c0])).length) Slot.unset).toArray = ls at hl ⊢
  have hl : lv_has ls 1 [(0, .ref c0)] := hl
  refine lv_aload_n hx hb dX14_clear_0 rfl (lv_at hl 0 rfl) ?_
  refine lv_iconst (v := 0) hx hb dX14_clear_1 (by decide) ?_
  refine va_put (D := (dC, dI)) (ci := 15) (v := .int 0) (ty := .int) (C := RX14) (T := TX14) (N := 11) hx hb hts hi_k_X14_clear_X14 tyX14 tyX14_ok nmX14 hown hK hP hD hS 0 rfl rfl 0 (by decide) (hts (.fieldLink RX14 27 "TimeMachineModel$Codec" "events" "I") (List.mem_of_getElem? (i := 1) rfl)) (fun _ h9 => h9) rfl (by decide +kernel) rfl rfl (Nat.le_of_ble_eq_true rfl) dX14_clear_2 (fun H locs hP hD hS => ?_)
  have hP : va_P (dC, dI) vwCl [(c0, .inr (15, [.int 0, .ref c1, .ref c2, .ref c3, .ref c4, .ref c5, .int 0, .null, .int 0, .int 0, .int 0]))] H := hP
  have hD : va_D A [(c0, .inr (15, [.int 0, .ref c1, .ref c2, .ref c3, .ref c4, .ref c5, .int 0, .null, .int 0, .int 0, .int 0]))] := hD
  have hP9 := hP.sub (ws' := [(c0, .inr (15, [.int 0, .ref c1, .ref c2, .ref c3, .ref c4, .ref c5, .int 0, .null, .int 0, .int 0, .int 0]))]) [0] rfl
  have hD9 := hD.sub (ws' := [(c0, .inr (15, [.int 0, .ref c1, .ref c2, .ref c3, .ref c4, .ref c5, .int 0, .null, .int 0, .int 0, .int 0]))]) [0] (by decide) rfl
  have hK9 := hK.sub (tys' := []) [] rfl
  refine W.widen (k := 0) (n := 0) (by decide +kernel) (by decide +kernel) ?_
  exact W.vret hx hb hr (fun t ht hW => ⟨⟨(), rfl, trivial, by rw [ht]; exact hP9, va_K.moved hW.alike hK9, hD9⟩, hS.F ht⟩) hS.2.2 dX14_clear_5
def ow_k_X14_put : List Cond := .code yX14_put cX14_put 2 none :: ([.fieldLink RX14 24 "TimeMachineModel$Codec" "packed" "[I", .fieldLink RX14 31 "TimeMachineModel$Codec" "size" "I"] ++ (u_ws RX14 TX14 11 ++ []))
theorem gd_k_X14_put : ∀ w ∈ ow_k_X14_put, (w.onTables && w.keeps) = true ∨ ∃ ty, w = Cond.arrayClass ty := List.forall_mem_cons.mpr ⟨good_of_word rfl, List.forall_mem_append.mpr ⟨fun w h => good_of_word (List.all_eq_true.mp (by decide +kernel) w h), List.forall_mem_append.mpr ⟨gu_X14, fun _ h => nomatch h⟩⟩⟩
theorem hi_k_X14_put_X14 : ∀ w ∈ u_ws RX14 TX14 11, w ∈ ow_k_X14_put := fun w h => List.mem_cons_of_mem _ (List.mem_append_right _ (List.mem_append_left _ h))
set_option maxHeartbeats 40000000 in
set_option maxRecDepth 100000 in
theorem k_X14_put (l : Launch) (hlt : l.stackTraces = false) (dC : Nat → ClassId) (dI : Nat → Nat → Nat) (c0 : Nat) (c1 : ClassId) (c2 : Nat) (c3 : Nat) (c4 : Nat) (c5 : Nat) (c6 : Nat) (sz : Nat) : Met l yX14_put ow_k_X14_put ({ frames := 0, cells := 0, slots := 0, locals := 0 }) (va_Pc [.ref c2, .int 0] (fun U => U.heap.size = sz ∧ va_P (dC, dI) vwCl [(c0, .inl (c1, 32768, .inl (fun _ => 0))), (c2, .inr (15, [.int 0, .ref c3, .ref c4, .ref c5, .ref c6, .ref c0, .int 0, .null, .int 0, .int 0, .int 0]))] U.heap ∧ va_K (dC, dI) vwCl [(c1, .int)] U ∧ va_D (fun _ => True) [(c0, .inl (c1, 32768, .inl (fun _ => 0))), (c2, .inr (15, [.int 0, .ref c3, .ref c4, .ref c5, .ref c6, .ref c0, .int 0, .null, .int 0, .int 0, .int 0]))] ∧ nv_E (va_A [(c0, .inl (c1, 32768, .inl (fun _ => 0))), (c2, .inr (15, [.int 0, .ref c3, .ref c4, .ref c5, .ref c6, .ref c0, .int 0, .null, .int 0, .int 0, .int 0]))] sz) U)) (va_Qv (fun _ => True) (fun (_ : Unit) t => ∃ (f2 : Nat → Int32), va_P (dC, dI) vwCl [(c0, .inl (c1, 32768, .inl f2)), (c2, .inr (15, [.int 0, .ref c3, .ref c4, .ref c5, .ref c6, .ref c0, .int 1, .null, .int 0, .int 0, .int 0]))] t.heap ∧ va_K (dC, dI) vwCl [(c1, .int)] t ∧ va_D (va_A [(c0, .inl (c1, 32768, .inl (fun _ => 0))), (c2, .inr (15, [.int 0, .ref c3, .ref c4, .ref c5, .ref c6, .ref c0, .int 0, .null, .int 0, .int 0, .int 0]))] sz) [(c0, .inl (c1, 32768, .inl f2)), (c2, .inr (15, [.int 0, .ref c3, .ref c4, .ref c5, .ref c6, .ref c0, .int 1, .null, .int 0, .int 0, .int 0]))]) (va_A [(c0, .inl (c1, 32768, .inl (fun _ => 0))), (c2, .inr (15, [.int 0, .ref c3, .ref c4, .ref c5, .ref c6, .ref c0, .int 0, .null, .int 0, .int 0, .int 0]))] sz)) 0 0 (va_A [(c0, .inl (c1, 32768, .inl (fun _ => 0))), (c2, .inr (15, [.int 0, .ref c3, .ref c4, .ref c5, .ref c6, .ref c0, .int 0, .null, .int 0, .int 0, .int 0]))] sz) := by
  refine Met.ofW (cc := cX14_put) (maxL := 2) (ret := none) (by decide) rfl ?_
  intro p e s m args below meth c s₁ B hml hv
  obtain ⟨rfl, hsz, hP, hK, hD0, hN⟩ := hv
  have hx := B.exec
  have hb := B.bytes
  have hr := B.returns
  have hts := atoms_spec (ws := ow_k_X14_put) B.pre
  have hown : s.vm.findClass RX14 = some m.cls := findClass_of_methodNamed B.named
  have hlocks := B.notSynchronized
  subst hsz
  have hD := hD0.self (sz := s.heap.size)
  generalize hAe : va_A [(c0, .inl (c1, 32768, .inl (fun _ => 0))), (c2, .inr (15, [.int 0, .ref c3, .ref c4, .ref c5, .ref c6, .ref c0, .int 0, .null, .int 0, .int 0, .int 0]))] s.heap.size = A at hD hN ⊢
  have hA : ∀ q : Nat, s.heap.size ≤ q → A q := fun q h => by rw [← hAe]; exact Or.inr h
  have hS : va_S A s.heap s.heap [] := va_S.rf
  have hl := lv_entry ([.ref c2, .int 0]) (n := 2) (Nat.le_of_ble_eq_true rfl)
  rw [lg_entry_eq]
  generalize (lg_sl ([.ref c2, .int 0]) ++ List.replicate (2 - (lg_sl ([.ref c2, .int 0])).length) Slot.unset).toArray = ls at hl ⊢
  have hl : lv_has ls 2 [(0, .ref c2), (1, .int 0)] := hl
  refine lv_aload_n hx hb dX14_put_0 rfl (lv_at hl 0 rfl) ?_
  refine va_get (D := (dC, dI)) (ci := 15) (v := .ref c0) (C := RX14) (T := TX14) (N := 11) hx hb hts hi_k_X14_put_X14 hown hK hP 1 rfl rfl 5 (by decide) (hts (.fieldLink RX14 24 "TimeMachineModel$Codec" "packed" "[I") (List.mem_of_getElem? (i := 1) rfl)) (fun _ h9 => h9) rfl dX14_put_1 ?_
  refine lv_aload_n hx hb dX14_put_4 rfl (lv_at hl 0 rfl) ?_
  refine va_get (D := (dC, dI)) (ci := 15) (v := .int 0) (C := RX14) (T := TX14) (N := 11) hx hb hts hi_k_X14_put_X14 hown hK hP 1 rfl rfl 6 (by decide) (hts (.fieldLink RX14 31 "TimeMachineModel$Codec" "size" "I") (List.mem_of_getElem? (i := 2) rfl)) (fun _ h9 => h9) rfl dX14_put_5 ?_
  refine lv_iload_n hx hb dX14_put_8 rfl (lv_at hl 1 rfl) ?_
  refine lv_sipush (v := 255) hx hb dX14_put_9 (by decide) ?_
  refine lv_iand hx hb dX14_put_12 ?_
  refine lv_topi (fun z1 ez1 => ?_)
  obtain rfl : z1 = 0 := ez1.trans (by decide)
  refine va_iast (i := 0) (x := 0) hx hb hK hP hD hS 0 0 rfl rfl (vp_in_iff.mpr ⟨by decide, by decide⟩) dX14_put_13 (fun H locs hP hD hS => ?_)
  generalize hf2 : upd (fun _ => 0) (Int32.toNatClampNeg 0) 0 = f2 at hP hD
  have hP : va_P (dC, dI) vwCl [(c0, .inl (c1, 32768, .inl f2)), (c2, .inr (15, [.int 0, .ref c3, .ref c4, .ref c5, .ref c6, .ref c0, .int 0, .null, .int 0, .int 0, .int 0]))] H := hP
  have hD : va_D A [(c0, .inl (c1, 32768, .inl f2)), (c2, .inr (15, [.int 0, .ref c3, .ref c4, .ref c5, .ref c6, .ref c0, .int 0, .null, .int 0, .int 0, .int 0]))] := hD
  refine lv_aload_n hx hb dX14_put_14 rfl (lv_at hl 0 rfl) ?_
  refine lv_dup hx hb dX14_put_15 rfl ?_
  refine va_get (D := (dC, dI)) (ci := 15) (v := .int 0) (C := RX14) (T := TX14) (N := 11) hx hb hts hi_k_X14_put_X14 hown hK hP 1 rfl rfl 6 (by decide) (hts (.fieldLink RX14 31 "TimeMachineModel$Codec" "size" "I") (List.mem_of_getElem? (i := 2) rfl)) (fun _ h9 => h9) rfl dX14_put_16 ?_
  refine lv_iconst (v := 1) hx hb dX14_put_19 (by decide) ?_
  refine lv_iadd hx hb dX14_put_20 ?_
  refine lv_topi (fun z3 ez3 => ?_)
  obtain rfl : z3 = 1 := ez3.trans (by decide)
  refine va_put (D := (dC, dI)) (ci := 15) (v := .int 1) (ty := .int) (C := RX14) (T := TX14) (N := 11) hx hb hts hi_k_X14_put_X14 tyX14 tyX14_ok nmX14 hown hK hP hD hS 1 rfl rfl 6 (by decide) (hts (.fieldLink RX14 31 "TimeMachineModel$Codec" "size" "I") (List.mem_of_getElem? (i := 2) rfl)) (fun _ h9 => h9) rfl (by decide +kernel) rfl rfl (Nat.le_of_ble_eq_true rfl) dX14_put_21 (fun H locs hP hD hS => ?_)
  have hP : va_P (dC, dI) vwCl [(c0, .inl (c1, 32768, .inl f2)), (c2, .inr (15, [.int 0, .ref c3, .ref c4, .ref c5, .ref c6, .ref c0, .int 1, .null, .int 0, .int 0, .int 0]))] H := hP
  have hD : va_D A [(c0, .inl (c1, 32768, .inl f2)), (c2, .inr (15, [.int 0, .ref c3, .ref c4, .ref c5, .ref c6, .ref c0, .int 1, .null, .int 0, .int 0, .int 0]))] := hD
  have hP9 := hP.sub (ws' := [(c0, .inl (c1, 32768, .inl f2)), (c2, .inr (15, [.int 0, .ref c3, .ref c4, .ref c5, .ref c6, .ref c0, .int 1, .null, .int 0, .int 0, .int 0]))]) [0, 1] rfl
  have hD9 := hD.sub (ws' := [(c0, .inl (c1, 32768, .inl f2)), (c2, .inr (15, [.int 0, .ref c3, .ref c4, .ref c5, .ref c6, .ref c0, .int 1, .null, .int 0, .int 0, .int 0]))]) [0, 1] (by decide) rfl
  have hK9 := hK.sub (tys' := [(c1, .int)]) [0] rfl
  refine W.widen (k := 0) (n := 0) (by decide +kernel) (by decide +kernel) ?_
  exact W.vret hx hb hr (fun t ht hW => ⟨⟨(), rfl, trivial, f2, by rw [ht]; exact hP9, va_K.moved hW.alike hK9, hD9⟩, hS.F ht⟩) hS.2.2 dX14_put_24
def ow_k_X14_varint : List Cond := .code yX14_varint cX14_varint 5 none :: ([.constantLong RX14 34 (127), .methodLink RX14 36 yX14_put, .instanceMethod yX14_put, .selects RX14 yX14_put yX14_put, .initialized RX14] ++ (ow_k_X14_put ++ []))
theorem gd_k_X14_varint : ∀ w ∈ ow_k_X14_varint, (w.onTables && w.keeps) = true ∨ ∃ ty, w = Cond.arrayClass ty := List.forall_mem_cons.mpr ⟨good_of_word rfl, List.forall_mem_append.mpr ⟨fun w h => good_of_word (List.all_eq_true.mp (by decide +kernel) w h), List.forall_mem_append.mpr ⟨gd_k_X14_put, fun _ h => nomatch h⟩⟩⟩
theorem gi_k_X14_varint_0 : GoodIn ow_k_X14_varint (wsV RX14 36 RX14 yX14_put ow_k_X14_put) := goodIn_app (goodIn_of _ (by decide +kernel)) (fun w h => ⟨List.mem_cons_of_mem _ (List.mem_append_right _ (List.mem_append_left _ h)), gd_k_X14_put w h⟩)
set_option maxHeartbeats 40000000 in
set_option maxRecDepth 100000 in
theorem k_X14_varint (l : Launch) (hlt : l.stackTraces = false) (dC : Nat → ClassId) (dI : Nat → Nat → Nat) (c0 : Nat) (c1 : ClassId) (c2 : Nat) (c3 : Nat) (c4 : Nat) (c5 : Nat) (c6 : Nat) (sz : Nat) : Met l yX14_varint ow_k_X14_varint ({ frames := 1, cells := 0, slots := 0, locals := 21 }) (va_Pc [.ref c2, .long 0] (fun U => U.heap.size = sz ∧ va_P (dC, dI) vwCl [(c0, .inl (c1, 32768, .inl (fun _ => 0))), (c2, .inr (15, [.int 0, .ref c3, .ref c4, .ref c5, .ref c6, .ref c0, .int 0, .null, .int 0, .int 0, .int 0]))] U.heap ∧ va_K (dC, dI) vwCl [(c1, .int)] U ∧ va_D (fun _ => True) [(c0, .inl (c1, 32768, .inl (fun _ => 0))), (c2, .inr (15, [.int 0, .ref c3, .ref c4, .ref c5, .ref c6, .ref c0, .int 0, .null, .int 0, .int 0, .int 0]))] ∧ nv_E (va_A [(c0, .inl (c1, 32768, .inl (fun _ => 0))), (c2, .inr (15, [.int 0, .ref c3, .ref c4, .ref c5, .ref c6, .ref c0, .int 0, .null, .int 0, .int 0, .int 0]))] sz) U)) (va_Qv (fun _ => True) (fun (_ : Unit) t => ∃ (f2 : Nat → Int32), va_P (dC, dI) vwCl [(c0, .inl (c1, 32768, .inl f2)), (c2, .inr (15, [.int 0, .ref c3, .ref c4, .ref c5, .ref c6, .ref c0, .int 1, .null, .int 0, .int 0, .int 0]))] t.heap ∧ va_K (dC, dI) vwCl [(c1, .int)] t ∧ va_D (va_A [(c0, .inl (c1, 32768, .inl (fun _ => 0))), (c2, .inr (15, [.int 0, .ref c3, .ref c4, .ref c5, .ref c6, .ref c0, .int 0, .null, .int 0, .int 0, .int 0]))] sz) [(c0, .inl (c1, 32768, .inl f2)), (c2, .inr (15, [.int 0, .ref c3, .ref c4, .ref c5, .ref c6, .ref c0, .int 1, .null, .int 0, .int 0, .int 0]))]) (va_A [(c0, .inl (c1, 32768, .inl (fun _ => 0))), (c2, .inr (15, [.int 0, .ref c3, .ref c4, .ref c5, .ref c6, .ref c0, .int 0, .null, .int 0, .int 0, .int 0]))] sz)) 0 0 (va_A [(c0, .inl (c1, 32768, .inl (fun _ => 0))), (c2, .inr (15, [.int 0, .ref c3, .ref c4, .ref c5, .ref c6, .ref c0, .int 0, .null, .int 0, .int 0, .int 0]))] sz) := by
  refine Met.ofW (cc := cX14_varint) (maxL := 5) (ret := none) (by decide) rfl ?_
  intro p e s m args below meth c s₁ B hml hv
  obtain ⟨rfl, hsz, hP, hK, hD0, hN⟩ := hv
  have hx := B.exec
  have hb := B.bytes
  have hr := B.returns
  have hts := atoms_spec (ws := ow_k_X14_varint) B.pre
  have hown : s.vm.findClass RX14 = some m.cls := findClass_of_methodNamed B.named
  have hlocks := B.notSynchronized
  subst hsz
  have hD := hD0.self (sz := s.heap.size)
  generalize hAe : va_A [(c0, .inl (c1, 32768, .inl (fun _ => 0))), (c2, .inr (15, [.int 0, .ref c3, .ref c4, .ref c5, .ref c6, .ref c0, .int 0, .null, .int 0, .int 0, .int 0]))] s.heap.size = A at hD hN ⊢
  have hA : ∀ q : Nat, s.heap.size ≤ q → A q := fun q h => by rw [← hAe]; exact Or.inr h
  have hS : va_S A s.heap s.heap [] := va_S.rf
  have hl := lv_entry ([.ref c2, .long 0]) (n := 5) (Nat.le_of_ble_eq_true rfl)
  rw [lg_entry_eq]
  generalize (lg_sl ([.ref c2, .long 0]) ++ List.replicate (5 - (lg_sl ([.ref c2, .long 0])).length) Slot.unset).toArray = ls at hl ⊢
  have hl : lv_has ls 5 [(0, .ref c2), (1, .long 0)] := hl
  refine lv_lload_n hx hb dX14_varint_0 rfl (lv_at hl 1 rfl) ?_
  refine lv_lstore_n (lv' := [(3, .long 0), (0, .ref c2), (1, .long 0)]) hx hb dX14_varint_1 rfl hl (by decide) rfl (fun ls hl => ?_)
  refine lv_lload_n hx hb dX14_varint_2 rfl (lv_at hl 0 rfl) ?_
  refine lv_ldc2 hx hb hown (hts (.constantLong RX14 34 (127)) (List.mem_of_getElem? (i := 1) rfl)) dX14_varint_3 ?_
  refine W.lcmp hx hb dX14_varint_6 ?_
  refine lv_topi (fun z1 ez1 => ?_)
  obtain rfl : z1 = (-1) := ez1.trans (by decide)
  refine lv_if_le (tgt := 32) hx hb dX14_varint_7 (by decide) (fun _ => ?_) (fun h9 => absurd (by decide) h9)
  refine lv_aload_n hx hb dX14_varint_32 rfl (lv_at hl 1 rfl) ?_
  refine lv_lload_n hx hb dX14_varint_33 rfl (lv_at hl 0 rfl) ?_
  refine lv_l2i (v := 0) hx hb dX14_varint_34 (by decide) ?_
  have hPc := hP.sub (ws' := [(c0, .inl (c1, 32768, .inl (fun _ => 0))), (c2, .inr (15, [.int 0, .ref c3, .ref c4, .ref c5, .ref c6, .ref c0, .int 0, .null, .int 0, .int 0, .int 0]))]) [0, 1] rfl
  have hDc := hD.sub (ws' := [(c0, .inl (c1, 32768, .inl (fun _ => 0))), (c2, .inr (15, [.int 0, .ref c3, .ref c4, .ref c5, .ref c6, .ref c0, .int 0, .null, .int 0, .int 0, .int 0]))]) [0, 1] (by decide) rfl
  have hKc := hK.sub (tys' := [(c1, .int)]) [0] rfl
  have hFc := va_free (wc := [(c0, .inl (c1, 32768, .inl (fun _ => 0))), (c2, .inr (15, [.int 0, .ref c3, .ref c4, .ref c5, .ref c6, .ref c0, .int 0, .null, .int 0, .int 0, .int 0]))]) hD hS hA [0, 1] rfl
  refine va_callv (va_runV (As := [.int 0]) (rest := []) ⟨hx, hb, hml, hown, hts⟩ (k_X14_put l hlt dC dI c0 c1 c2 c3 c4 c5 c6  s.heap.size) (cwV 1 hts gi_k_X14_varint_0 rfl rfl rfl (by decide +kernel) ⟨Nat.le_of_ble_eq_true rfl, Nat.le_of_ble_eq_true rfl⟩) ⟨fun a U g mk q => by obtain ⟨q0, q1, qP, qK, qD, qN⟩ := q; exact ⟨q0, q1, qP, va_K.moved (u := U) (U := U.calling g mk a) (Vm.Alike.refl U.vm) qK, qD, nv_same rfl rfl qN⟩, va_recv hKc hPc (ci := 15) (q0 := 1) rfl rfl, fun U hU hW => ⟨rfl, by rw [hU], by rw [hU]; exact hPc, va_K.moved hW.alike hKc, hDc.weaken (fun _ _ _ _ => trivial), nv_call hS hFc hU hW hN⟩⟩ rfl rfl hl.1 rfl (lv_room (Nat.le_of_ble_eq_true rfl)) dX14_varint_35 ⟨by decide +kernel, by decide +kernel⟩) hS (fun q _ h => hFc q h) hFc (fun u t H1 locs ht hvm hw hB hz1 hk1 hS => ?_)
  obtain ⟨f2, hP1, hK1, hD1⟩ := hB
  rw [ht] at hP1
  have hK1 := va_K.moved hvm.symm hK1
  obtain ⟨hP, hD⟩ := va_join (wr := []) (w1 := [(c0, .inl (c1, 32768, .inl f2)), (c2, .inr (15, [.int 0, .ref c3, .ref c4, .ref c5, .ref c6, .ref c0, .int 1, .null, .int 0, .int 0, .int 0]))]) hP hD [0, 1] [] rfl rfl (by decide) (by decide) hk1 hFc hP1 hD1
  have hK := (hK.sub (tys' := []) [] rfl).app hK1
  generalize H1 = H at hP hS ⊢
  have hP : va_P (dC, dI) vwCl [(c0, .inl (c1, 32768, .inl f2)), (c2, .inr (15, [.int 0, .ref c3, .ref c4, .ref c5, .ref c6, .ref c0, .int 1, .null, .int 0, .int 0, .int 0]))] H := hP
  have hD : va_D A [(c0, .inl (c1, 32768, .inl f2)), (c2, .inr (15, [.int 0, .ref c3, .ref c4, .ref c5, .ref c6, .ref c0, .int 1, .null, .int 0, .int 0, .int 0]))] := hD
  have hK : va_K (dC, dI) vwCl [(c1, .int)] s := hK
  refine W.widen (k := 0) (n := 0) (by decide +kernel) (by decide +kernel) ?_
  have hP9 := hP.sub (ws' := [(c0, .inl (c1, 32768, .inl f2)), (c2, .inr (15, [.int 0, .ref c3, .ref c4, .ref c5, .ref c6, .ref c0, .int 1, .null, .int 0, .int 0, .int 0]))]) [0, 1] rfl
  have hD9 := hD.sub (ws' := [(c0, .inl (c1, 32768, .inl f2)), (c2, .inr (15, [.int 0, .ref c3, .ref c4, .ref c5, .ref c6, .ref c0, .int 1, .null, .int 0, .int 0, .int 0]))]) [0, 1] (by decide) rfl
  have hK9 := hK.sub (tys' := [(c1, .int)]) [0] rfl
  refine W.widen (k := 0) (n := 0) (by decide +kernel) (by decide +kernel) ?_
  exact W.vret hx hb hr (fun t ht hW => ⟨⟨(), rfl, trivial, f2, by rw [ht]; exact hP9, va_K.moved hW.alike hK9, hD9⟩, hS.F ht⟩) hS.2.2 dX14_varint_38
def ow_k_X14_pack : List Cond := .code yX14_pack cX14_pack 4 (some .int) :: ([.fieldLink RX14 31 "TimeMachineModel$Codec" "size" "I", .fieldLink RX14 27 "TimeMachineModel$Codec" "events" "I", .methodLink RX14 44 yX14_varint, .instanceMethod yX14_varint, .selects RX14 yX14_varint yX14_varint, .initialized RX14] ++ (u_ws RX14 TX14 11 ++ (ow_k_X14_varint ++ [])))
theorem gd_k_X14_pack : ∀ w ∈ ow_k_X14_pack, (w.onTables && w.keeps) = true ∨ ∃ ty, w = Cond.arrayClass ty := List.forall_mem_cons.mpr ⟨good_of_word rfl, List.forall_mem_append.mpr ⟨fun w h => good_of_word (List.all_eq_true.mp (by decide +kernel) w h), List.forall_mem_append.mpr ⟨gu_X14, List.forall_mem_append.mpr ⟨gd_k_X14_varint, fun _ h => nomatch h⟩⟩⟩⟩
theorem hi_k_X14_pack_X14 : ∀ w ∈ u_ws RX14 TX14 11, w ∈ ow_k_X14_pack := fun w h => List.mem_cons_of_mem _ (List.mem_append_right _ (List.mem_append_left _ h))
theorem gi_k_X14_pack_0 : GoodIn ow_k_X14_pack (wsV RX14 44 RX14 yX14_varint ow_k_X14_varint) := goodIn_app (goodIn_of _ (by decide +kernel)) (fun w h => ⟨List.mem_cons_of_mem _ (List.mem_append_right _ (List.mem_append_right _ (List.mem_append_left _ h))), gd_k_X14_varint w h⟩)
