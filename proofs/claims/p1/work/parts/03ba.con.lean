set_option maxHeartbeats 40000000 in
set_option maxRecDepth 100000 in
theorem k_X12_wrote (l : Launch) (hlt : l.stackTraces = false) (dC : Nat → ClassId) (dI : Nat → Nat → Nat) (c0 : Nat) (c1 : Nat) (c2 : Int32) (c3 : Int32) (c4 : Nat) (c5 : Nat) (c6 : Nat) (c7 : Nat) (c8 : Nat) (c9 : Nat) (c10 : Nat) (c11 : Nat) (c12 : Nat) (c13 : Nat) (c14 : Nat) (c15 : Nat) (c16 : Nat) (c17 : Nat) (c18 : Nat) (c19 : Nat) (sz : Nat) : Met l yX12_wrote ow_k_X12_wrote ({ frames := 1, cells := 0, slots := 0, locals := 21 }) (va_Pc [.ref c0, .int c2, .int c3] (fun U => U.heap.size = sz ∧ va_P (dC, dI) vwCl [(c0, .inr (13, [.ref c4, .int 0, .int 0, .ref c5, .ref c6, .ref c7, .ref c1, .ref c8, .ref c9, .ref c10, .int 0, .ref c11])), (c1, .inr (12, [.ref c12, .ref c13, .ref c14, .ref c15, .ref c16, .ref c17, .int 0, .ref c18, .ref c19, .int 0, .int 0, .int 0, .int 0, .int 0, .int 0, .int 0]))] U.heap ∧ va_K (dC, dI) vwCl [] U ∧ va_D (fun _ => True) [(c0, .inr (13, [.ref c4, .int 0, .int 0, .ref c5, .ref c6, .ref c7, .ref c1, .ref c8, .ref c9, .ref c10, .int 0, .ref c11])), (c1, .inr (12, [.ref c12, .ref c13, .ref c14, .ref c15, .ref c16, .ref c17, .int 0, .ref c18, .ref c19, .int 0, .int 0, .int 0, .int 0, .int 0, .int 0, .int 0]))] ∧ nv_E (va_A [(c0, .inr (13, [.ref c4, .int 0, .int 0, .ref c5, .ref c6, .ref c7, .ref c1, .ref c8, .ref c9, .ref c10, .int 0, .ref c11])), (c1, .inr (12, [.ref c12, .ref c13, .ref c14, .ref c15, .ref c16, .ref c17, .int 0, .ref c18, .ref c19, .int 0, .int 0, .int 0, .int 0, .int 0, .int 0, .int 0]))] sz) U)) (va_Qi (fun r _ => r = (-1)) (fun (_ : Unit) t => va_P (dC, dI) vwCl [(c0, .inr (13, [.ref c4, .int 0, .int 0, .ref c5, .ref c6, .ref c7, .ref c1, .ref c8, .ref c9, .ref c10, .int 0, .ref c11])), (c1, .inr (12, [.ref c12, .ref c13, .ref c14, .ref c15, .ref c16, .ref c17, .int 0, .ref c18, .ref c19, .int 0, .int 0, .int 0, .int 0, .int 0, .int 0, .int 0]))] t.heap ∧ va_K (dC, dI) vwCl [] t ∧ va_D (va_A [(c0, .inr (13, [.ref c4, .int 0, .int 0, .ref c5, .ref c6, .ref c7, .ref c1, .ref c8, .ref c9, .ref c10, .int 0, .ref c11])), (c1, .inr (12, [.ref c12, .ref c13, .ref c14, .ref c15, .ref c16, .ref c17, .int 0, .ref c18, .ref c19, .int 0, .int 0, .int 0, .int 0, .int 0, .int 0, .int 0]))] sz) [(c0, .inr (13, [.ref c4, .int 0, .int 0, .ref c5, .ref c6, .ref c7, .ref c1, .ref c8, .ref c9, .ref c10, .int 0, .ref c11])), (c1, .inr (12, [.ref c12, .ref c13, .ref c14, .ref c15, .ref c16, .ref c17, .int 0, .ref c18, .ref c19, .int 0, .int 0, .int 0, .int 0, .int 0, .int 0, .int 0]))]) (va_A [(c0, .inr (13, [.ref c4, .int 0, .int 0, .ref c5, .ref c6, .ref c7, .ref c1, .ref c8, .ref c9, .ref c10, .int 0, .ref c11])), (c1, .inr (12, [.ref c12, .ref c13, .ref c14, .ref c15, .ref c16, .ref c17, .int 0, .ref c18, .ref c19, .int 0, .int 0, .int 0, .int 0, .int 0, .int 0, .int 0]))] sz)) 0 0 (va_A [(c0, .inr (13, [.ref c4, .int 0, .int 0, .ref c5, .ref c6, .ref c7, .ref c1, .ref c8, .ref c9, .ref c10, .int 0, .ref c11])), (c1, .inr (12, [.ref c12, .ref c13, .ref c14, .ref c15, .ref c16, .ref c17, .int 0, .ref c18, .ref c19, .int 0, .int 0, .int 0, .int 0, .int 0, .int 0, .int 0]))] sz) := by
  refine Met.ofW (cc := cX12_wrote) (maxL := 3) (ret := (some .int)) (by decide) rfl ?_
  intro p e s m args below meth c s₁ B hml hv
  obtain ⟨rfl, hsz, hP, hK, hD0, hN⟩ := hv
  have hx := B.exec
  have hb := B.bytes
  have hr := B.returns
  have hts := atoms_spec (ws := ow_k_X12_wrote) B.pre
  have hown : s.vm.findClass RX12 = some m.cls := findClass_of_methodNamed B.named
  have hlocks := B.notSynchronized
  subst hsz
  have hD := hD0.self (sz := s.heap.size)
  generalize hAe : va_A [(c0, .inr (13, [.ref c4, .int 0, .int 0, .ref c5, .ref c6, .ref c7, .ref c1, .ref c8, .ref c9, .ref c10, .int 0, .ref c11])), (c1, .inr (12, [.ref c12, .ref c13, .ref c14, .ref c15, .ref c16, .ref c17, .int 0, .ref c18, .ref c19, .int 0, .int 0, .int 0, .int 0, .int 0, .int 0, .int 0]))] s.heap.size = A at hD hN ⊢
  have hA : ∀ q : Nat, s.heap.size ≤ q → A q := fun q h => by rw [← hAe]; exact Or.inr h
  have hS : va_S A s.heap s.heap [] := va_S.rf
  have hl := lv_entry ([.ref c0, .int c2, .int c3]) (n := 3) (Nat.le_of_ble_eq_true rfl)
  rw [lg_entry_eq]
  generalize (lg_sl ([.ref c0, .int c2, .int c3]) ++ List.replicate (3 - (lg_sl ([.ref c0, .int c2, .int c3])).length) Slot.unset).toArray = ls at hl ⊢
  have hl : lv_has ls 3 [(0, .ref c0), (1, .int c2), (2, .int c3)] := hl
  refine lv_aload_n hx hb dX12_wrote_0 rfl (lv_at hl 0 rfl) ?_
  refine lv_iload_n hx hb dX12_wrote_1 rfl (lv_at hl 1 rfl) ?_
  have hPc := hP.sub (ws' := [(c0, .inr (13, [.ref c4, .int 0, .int 0, .ref c5, .ref c6, .ref c7, .ref c1, .ref c8, .ref c9, .ref c10, .int 0, .ref c11])), (c1, .inr (12, [.ref c12, .ref c13, .ref c14, .ref c15, .ref c16, .ref c17, .int 0, .ref c18, .ref c19, .int 0, .int 0, .int 0, .int 0, .int 0, .int 0, .int 0]))]) [0, 1] rfl
  have hDc := hD.sub (ws' := [(c0, .inr (13, [.ref c4, .int 0, .int 0, .ref c5, .ref c6, .ref c7, .ref c1, .ref c8, .ref c9, .ref c10, .int 0, .ref c11])), (c1, .inr (12, [.ref c12, .ref c13, .ref c14, .ref c15, .ref c16, .ref c17, .int 0, .ref c18, .ref c19, .int 0, .int 0, .int 0, .int 0, .int 0, .int 0, .int 0]))]) [0, 1] (by decide) rfl
  have hKc := hK.sub (tys' := []) [] rfl
  have hFc := va_free (wc := [(c0, .inr (13, [.ref c4, .int 0, .int 0, .ref c5, .ref c6, .ref c7, .ref c1, .ref c8, .ref c9, .ref c10, .int 0, .ref c11])), (c1, .inr (12, [.ref c12, .ref c13, .ref c14, .ref c15, .ref c16, .ref c17, .int 0, .ref c18, .ref c19, .int 0, .int 0, .int 0, .int 0, .int 0, .int 0, .int 0]))]) hD hS hA [0, 1] rfl
  refine va_calli (va_runV (As := [.int c2]) (rest := []) ⟨hx, hb, hml, hown, hts⟩ (k_X12_isThere l hlt dC dI c0 c1 c2 c4 c5 c6 c7 c8 c9 c10 c11 c12 c13 c14 c15 c16 c17 c18 c19  s.heap.size) (cwV 1 hts gi_k_X12_wrote_0 rfl rfl rfl (by decide +kernel) ⟨Nat.le_of_ble_eq_true rfl, Nat.le_of_ble_eq_true rfl⟩) ⟨fun a U g mk q => by obtain ⟨q0, q1, qP, qK, qD, qN⟩ := q; exact ⟨q0, q1, qP, va_K.moved (u := U) (U := U.calling g mk a) (Vm.Alike.refl U.vm) qK, qD, nv_same rfl rfl qN⟩, va_recv hKc hPc (ci := 13) (q0 := 0) rfl rfl, fun U hU hW => ⟨rfl, by rw [hU], by rw [hU]; exact hPc, va_K.moved hW.alike hKc, hDc.weaken (fun _ _ _ _ => trivial), nv_call hS hFc hU hW hN⟩⟩ rfl rfl hl.1 rfl (lv_room (Nat.le_of_ble_eq_true rfl)) dX12_wrote_2 ⟨by decide +kernel, by decide +kernel⟩) hS (fun q _ h => hFc q h) hFc (fun r1 u t H1 locs ht hvm hw hB hz1 hk1 hS => ?_)
  obtain ⟨hP1, hK1, hD1⟩ := hB
  rw [ht] at hP1
  have hK1 := va_K.moved hvm.symm hK1
  obtain rfl : r1 = 0 := hw
  obtain ⟨hP, hD⟩ := va_join (wr := []) (w1 := [(c0, .inr (13, [.ref c4, .int 0, .int 0, .ref c5, .ref c6, .ref c7, .ref c1, .ref c8, .ref c9, .ref c10, .int 0, .ref c11])), (c1, .inr (12, [.ref c12, .ref c13, .ref c14, .ref c15, .ref c16, .ref c17, .int 0, .ref c18, .ref c19, .int 0, .int 0, .int 0, .int 0, .int 0, .int 0, .int 0]))]) hP hD [0, 1] [] rfl rfl (by decide) (by decide) hk1 hFc hP1 hD1
  have hK := (hK.sub (tys' := []) [] rfl).app hK1
  generalize H1 = H at hP hS ⊢
  have hP : va_P (dC, dI) vwCl [(c0, .inr (13, [.ref c4, .int 0, .int 0, .ref c5, .ref c6, .ref c7, .ref c1, .ref c8, .ref c9, .ref c10, .int 0, .ref c11])), (c1, .inr (12, [.ref c12, .ref c13, .ref c14, .ref c15, .ref c16, .ref c17, .int 0, .ref c18, .ref c19, .int 0, .int 0, .int 0, .int 0, .int 0, .int 0, .int 0]))] H := hP
  have hD : va_D A [(c0, .inr (13, [.ref c4, .int 0, .int 0, .ref c5, .ref c6, .ref c7, .ref c1, .ref c8, .ref c9, .ref c10, .int 0, .ref c11])), (c1, .inr (12, [.ref c12, .ref c13, .ref c14, .ref c15, .ref c16, .ref c17, .int 0, .ref c18, .ref c19, .int 0, .int 0, .int 0, .int 0, .int 0, .int 0, .int 0]))] := hD
  have hK : va_K (dC, dI) vwCl [] s := hK
  refine W.widen (k := 0) (n := 0) (by decide +kernel) (by decide +kernel) ?_
  refine lv_if_eq (tgt := 30) hx hb dX12_wrote_5 (by decide) (fun _ => ?_) (fun h9 => absurd (by decide) h9)
  refine lv_iconst (v := (-1)) hx hb dX12_wrote_30 (by decide) ?_
  have hP9 := hP.sub (ws' := [(c0, .inr (13, [.ref c4, .int 0, .int 0, .ref c5, .ref c6, .ref c7, .ref c1, .ref c8, .ref c9, .ref c10, .int 0, .ref c11])), (c1, .inr (12, [.ref c12, .ref c13, .ref c14, .ref c15, .ref c16, .ref c17, .int 0, .ref c18, .ref c19, .int 0, .int 0, .int 0, .int 0, .int 0, .int 0, .int 0]))]) [0, 1] rfl
  have hD9 := hD.sub (ws' := [(c0, .inr (13, [.ref c4, .int 0, .int 0, .ref c5, .ref c6, .ref c7, .ref c1, .ref c8, .ref c9, .ref c10, .int 0, .ref c11])), (c1, .inr (12, [.ref c12, .ref c13, .ref c14, .ref c15, .ref c16, .ref c17, .int 0, .ref c18, .ref c19, .int 0, .int 0, .int 0, .int 0, .int 0, .int 0, .int 0]))]) [0, 1] (by decide) rfl
  have hK9 := hK.sub (tys' := []) [] rfl
  refine W.widen (k := 0) (n := 0) (by decide +kernel) (by decide +kernel) ?_
  exact W.iret (v := (-1)) hx hb hr (fun t ht hW => ⟨⟨(-1), (), rfl, rfl, by rw [ht]; exact hP9, va_K.moved hW.alike hK9, hD9⟩, hS.F ht⟩) hS.2.2 dX12_wrote_31
def ow_k_X19_wrote : List Cond := .code yX19_wrote cX19_wrote 5 (some .int) :: ([.fieldLink RX19 113 "TimeMachineModel" "code" "I", .fieldLink RX19 231 "TimeMachineModel" "booted" "Z"] ++ (u_ws RX19 TX19 36 ++ []))
theorem gd_k_X19_wrote : ∀ w ∈ ow_k_X19_wrote, (w.onTables && w.keeps) = true ∨ ∃ ty, w = Cond.arrayClass ty := List.forall_mem_cons.mpr ⟨good_of_word rfl, List.forall_mem_append.mpr ⟨fun w h => good_of_word (List.all_eq_true.mp (by decide +kernel) w h), List.forall_mem_append.mpr ⟨gu_X19, fun _ h => nomatch h⟩⟩⟩
theorem hi_k_X19_wrote_X19 : ∀ w ∈ u_ws RX19 TX19 36, w ∈ ow_k_X19_wrote := fun w h => List.mem_cons_of_mem _ (List.mem_append_right _ (List.mem_append_left _ h))
set_option maxHeartbeats 40000000 in
set_option maxRecDepth 100000 in
theorem k_X19_wrote (l : Launch) (hlt : l.stackTraces = false) (dC : Nat → ClassId) (dI : Nat → Nat → Nat) (c0 : Nat) (c1 : Int32) (c2 : Int32) (c3 : Nat) (c4 : Nat) (c5 : Nat) (c6 : Nat) (c7 : Nat) (c8 : Nat) (c9 : Nat) (c10 : Nat) (c11 : Nat) (c12 : Nat) (c13 : Nat) (c14 : Nat) (c15 : Nat) (c16 : Nat) (c17 : Nat) (c18 : Nat) (c19 : Nat) (c20 : Nat) (c21 : Nat) (c22 : Nat) (c23 : Nat) (c24 : Nat) (c25 : Nat) (sz : Nat) : Met l yX19_wrote ow_k_X19_wrote ({ frames := 0, cells := 0, slots := 0, locals := 0 }) (va_Pc [.ref c0, .int c1, .int c2] (fun U => U.heap.size = sz ∧ va_P (dC, dI) vwCl [(c0, .inr (20, [.int 0, .ref c3, .int 0, .int 0, .ref c4, .ref c5, .ref c6, .ref c7, .ref c8, .ref c9, .ref c10, .ref c11, .ref c12, .ref c13, .ref c14, .ref c15, .ref c16, .int 0, .int 0, .int 0, .int 0, .int 0, .int 0, .int 0, .int 0, .int 0, .ref c17, .ref c18, .ref c19, .ref c20, .ref c21, .ref c22, .ref c23, .ref c24, .ref c25, .int 0]))] U.heap ∧ va_K (dC, dI) vwCl [] U ∧ va_D (fun _ => True) [(c0, .inr (20, [.int 0, .ref c3, .int 0, .int 0, .ref c4, .ref c5, .ref c6, .ref c7, .ref c8, .ref c9, .ref c10, .ref c11, .ref c12, .ref c13, .ref c14, .ref c15, .ref c16, .int 0, .int 0, .int 0, .int 0, .int 0, .int 0, .int 0, .int 0, .int 0, .ref c17, .ref c18, .ref c19, .ref c20, .ref c21, .ref c22, .ref c23, .ref c24, .ref c25, .int 0]))] ∧ nv_E (va_A [(c0, .inr (20, [.int 0, .ref c3, .int 0, .int 0, .ref c4, .ref c5, .ref c6, .ref c7, .ref c8, .ref c9, .ref c10, .ref c11, .ref c12, .ref c13, .ref c14, .ref c15, .ref c16, .int 0, .int 0, .int 0, .int 0, .int 0, .int 0, .int 0, .int 0, .int 0, .ref c17, .ref c18, .ref c19, .ref c20, .ref c21, .ref c22, .ref c23, .ref c24, .ref c25, .int 0]))] sz) U)) (va_Qi (fun r _ => r = (-1)) (fun (_ : Unit) t => va_P (dC, dI) vwCl [(c0, .inr (20, [.int 0, .ref c3, .int 0, .int 0, .ref c4, .ref c5, .ref c6, .ref c7, .ref c8, .ref c9, .ref c10, .ref c11, .ref c12, .ref c13, .ref c14, .ref c15, .ref c16, .int 0, .int 0, .int 0, .int 0, .int 0, .int 0, .int 0, .int 0, .int 0, .ref c17, .ref c18, .ref c19, .ref c20, .ref c21, .ref c22, .ref c23, .ref c24, .ref c25, .int 0]))] t.heap ∧ va_K (dC, dI) vwCl [] t ∧ va_D (va_A [(c0, .inr (20, [.int 0, .ref c3, .int 0, .int 0, .ref c4, .ref c5, .ref c6, .ref c7, .ref c8, .ref c9, .ref c10, .ref c11, .ref c12, .ref c13, .ref c14, .ref c15, .ref c16, .int 0, .int 0, .int 0, .int 0, .int 0, .int 0, .int 0, .int 0, .int 0, .ref c17, .ref c18, .ref c19, .ref c20, .ref c21, .ref c22, .ref c23, .ref c24, .ref c25, .int 0]))] sz) [(c0, .inr (20, [.int 0, .ref c3, .int 0, .int 0, .ref c4, .ref c5, .ref c6, .ref c7, .ref c8, .ref c9, .ref c10, .ref c11, .ref c12, .ref c13, .ref c14, .ref c15, .ref c16, .int 0, .int 0, .int 0, .int 0, .int 0, .int 0, .int 0, .int 0, .int 0, .ref c17, .ref c18, .ref c19, .ref c20, .ref c21, .ref c22, .ref c23, .ref c24, .ref c25, .int 0]))]) (va_A [(c0, .inr (20, [.int 0, .ref c3, .int 0, .int 0, .ref c4, .ref c5, .ref c6, .ref c7, .ref c8, .ref c9, .ref c10, .ref c11, .ref c12, .ref c13, .ref c14, .ref c15, .ref c16, .int 0, .int 0, .int 0, .int 0, .int 0, .int 0, .int 0, .int 0, .int 0, .ref c17, .ref c18, .ref c19, .ref c20, .ref c21, .ref c22, .ref c23, .ref c24, .ref c25, .int 0]))] sz)) 0 0 (va_A [(c0, .inr (20, [.int 0, .ref c3, .int 0, .int 0, .ref c4, .ref c5, .ref c6, .ref c7, .ref c8, .ref c9, .ref c10, .ref c11, .ref c12, .ref c13, .ref c14, .ref c15, .ref c16, .int 0, .int 0, .int 0, .int 0, .int 0, .int 0, .int 0, .int 0, .int 0, .ref c17, .ref c18, .ref c19, .ref c20, .ref c21, .ref c22, .ref c23, .ref c24, .ref c25, .int 0]))] sz) := by
  refine Met.ofW (cc := cX19_wrote) (maxL := 5) (ret := (some .int)) (by decide) rfl ?_
  intro p e s m args below meth c s₁ B hml hv
  obtain ⟨rfl, hsz, hP, hK, hD0, hN⟩ := hv
  have hx := B.exec
  have hb := B.bytes
  have hr := B.returns
  have hts := atoms_spec (ws := ow_k_X19_wrote) B.pre
  have hown : s.vm.findClass RX19 = some m.cls := findClass_of_methodNamed B.named
  have hlocks := B.notSynchronized
  subst hsz
  have hD := hD0.self (sz := s.heap.size)
  generalize hAe : va_A [(c0, .inr (20, [.int 0, .ref c3, .int 0, .int 0, .ref c4, .ref c5, .ref c6, .ref c7, .ref c8, .ref c9, .ref c10, .ref c11, .ref c12, .ref c13, .ref c14, .ref c15, .ref c16, .int 0, .int 0, .int 0, .int 0, .int 0, .int 0, .int 0, .int 0, .int 0, .ref c17, .ref c18, .ref c19, .ref c20, .ref c21, .ref c22, .ref c23, .ref c24, .ref c25, .int 0]))] s.heap.size = A at hD hN ⊢
  have hA : ∀ q : Nat, s.heap.size ≤ q → A q := fun q h => by rw [← hAe]; exact Or.inr h
  have hS : va_S A s.heap s.heap [] := va_S.rf
  have hl := lv_entry ([.ref c0, .int c1, .int c2]) (n := 5) (Nat.le_of_ble_eq_true rfl)
  rw [lg_entry_eq]
  generalize (lg_sl ([.ref c0, .int c1, .int c2]) ++ List.replicate (5 - (lg_sl ([.ref c0, .int c1, .int c2])).length) Slot.unset).toArray = ls at hl ⊢
  have hl : lv_has ls 5 [(0, .ref c0), (1, .int c1), (2, .int c2)] := hl
  refine lv_aload_n hx hb dX19_wrote_0 rfl (lv_at hl 0 rfl) ?_
  refine lv_iconst (v := 0) hx hb dX19_wrote_1 (by decide) ?_
  refine va_put (D := (dC, dI)) (ci := 20) (v := .int 0) (ty := .int) (C := RX19) (T := TX19) (N := 36) hx hb hts hi_k_X19_wrote_X19 tyX19 tyX19_ok nmX19 hown hK hP hD hS 0 rfl rfl 0 (by decide) (hts (.fieldLink RX19 113 "TimeMachineModel" "code" "I") (List.mem_of_getElem? (i := 1) rfl)) (fun _ h9 => h9) rfl (by decide +kernel) rfl rfl (Nat.le_of_ble_eq_true rfl) dX19_wrote_2 (fun H locs hP hD hS => ?_)
  have hP : va_P (dC, dI) vwCl [(c0, .inr (20, [.int 0, .ref c3, .int 0, .int 0, .ref c4, .ref c5, .ref c6, .ref c7, .ref c8, .ref c9, .ref c10, .ref c11, .ref c12, .ref c13, .ref c14, .ref c15, .ref c16, .int 0, .int 0, .int 0, .int 0, .int 0, .int 0, .int 0, .int 0, .int 0, .ref c17, .ref c18, .ref c19, .ref c20, .ref c21, .ref c22, .ref c23, .ref c24, .ref c25, .int 0]))] H := hP
  have hD : va_D A [(c0, .inr (20, [.int 0, .ref c3, .int 0, .int 0, .ref c4, .ref c5, .ref c6, .ref c7, .ref c8, .ref c9, .ref c10, .ref c11, .ref c12, .ref c13, .ref c14, .ref c15, .ref c16, .int 0, .int 0, .int 0, .int 0, .int 0, .int 0, .int 0, .int 0, .int 0, .ref c17, .ref c18, .ref c19, .ref c20, .ref c21, .ref c22, .ref c23, .ref c24, .ref c25, .int 0]))] := hD
  refine lv_aload_n hx hb dX19_wrote_5 rfl (lv_at hl 0 rfl) ?_
  refine va_get (D := (dC, dI)) (ci := 20) (v := .int 0) (C := RX19) (T := TX19) (N := 36) hx hb hts hi_k_X19_wrote_X19 hown hK hP 0 rfl rfl 17 (by decide) (hts (.fieldLink RX19 231 "TimeMachineModel" "booted" "Z") (List.mem_of_getElem? (i := 2) rfl)) (fun _ h9 => h9) rfl dX19_wrote_6 ?_
  refine lv_if_eq (tgt := 24) hx hb dX19_wrote_9 (by decide) (fun _ => ?_) (fun h9 => absurd (by decide) h9)
  refine lv_iconst (v := (-1)) hx hb dX19_wrote_24 (by decide) ?_
  have hP9 := hP.sub (ws' := [(c0, .inr (20, [.int 0, .ref c3, .int 0, .int 0, .ref c4, .ref c5, .ref c6, .ref c7, .ref c8, .ref c9, .ref c10, .ref c11, .ref c12, .ref c13, .ref c14, .ref c15, .ref c16, .int 0, .int 0, .int 0, .int 0, .int 0, .int 0, .int 0, .int 0, .int 0, .ref c17, .ref c18, .ref c19, .ref c20, .ref c21, .ref c22, .ref c23, .ref c24, .ref c25, .int 0]))]) [0] rfl
  have hD9 := hD.sub (ws' := [(c0, .inr (20, [.int 0, .ref c3, .int 0, .int 0, .ref c4, .ref c5, .ref c6, .ref c7, .ref c8, .ref c9, .ref c10, .ref c11, .ref c12, .ref c13, .ref c14, .ref c15, .ref c16, .int 0, .int 0, .int 0, .int 0, .int 0, .int 0, .int 0, .int 0, .int 0, .ref c17, .ref c18, .ref c19, .ref c20, .ref c21, .ref c22, .ref c23, .ref c24, .ref c25, .int 0]))]) [0] (by decide) rfl
  have hK9 := hK.sub (tys' := []) [] rfl
  refine W.widen (k := 0) (n := 0) (by decide +kernel) (by decide +kernel) ?_
  exact W.iret (v := (-1)) hx hb hr (fun t ht hW => ⟨⟨(-1), (), rfl, rfl, by rw [ht]; exact hP9, va_K.moved hW.alike hK9, hD9⟩, hS.F ht⟩) hS.2.2 dX19_wrote_25
def ow_k_X12_register : List Cond := .code yX12_register cX12_register 3 (some .int) :: ([.methodLink RX12 208 yX12_isThere, .instanceMethod yX12_isThere, .selects RX12 yX12_isThere yX12_isThere, .initialized RX12] ++ (ow_k_X12_isThere ++ []))
theorem gd_k_X12_register : ∀ w ∈ ow_k_X12_register, (w.onTables && w.keeps) = true ∨ ∃ ty, w = Cond.arrayClass ty := List.forall_mem_cons.mpr ⟨good_of_word rfl, List.forall_mem_append.mpr ⟨fun w h => good_of_word (List.all_eq_true.mp (by decide +kernel) w h), List.forall_mem_append.mpr ⟨gd_k_X12_isThere, fun _ h => nomatch h⟩⟩⟩
theorem gi_k_X12_register_0 : GoodIn ow_k_X12_register (wsV RX12 208 RX12 yX12_isThere ow_k_X12_isThere) := goodIn_app (goodIn_of _ (by decide +kernel)) (fun w h => ⟨List.mem_cons_of_mem _ (List.mem_append_right _ (List.mem_append_left _ h)), gd_k_X12_isThere w h⟩)
set_option maxHeartbeats 40000000 in
set_option maxRecDepth 100000 in
theorem k_X12_register (l : Launch) (hlt : l.stackTraces = false) (dC : Nat → ClassId) (dI : Nat → Nat → Nat) (c0 : Nat) (c1 : Nat) (c2 : Int32) (c3 : Int32) (c4 : Nat) (c5 : Nat) (c6 : Nat) (c7 : Nat) (c8 : Nat) (c9 : Nat) (c10 : Nat) (c11 : Nat) (c12 : Nat) (c13 : Nat) (c14 : Nat) (c15 : Nat) (c16 : Nat) (c17 : Nat) (c18 : Nat) (c19 : Nat) (sz : Nat) : Met l yX12_register ow_k_X12_register ({ frames := 1, cells := 0, slots := 0, locals := 21 }) (va_Pc [.ref c0, .int c2, .int c3] (fun U => U.heap.size = sz ∧ va_P (dC, dI) vwCl [(c0, .inr (13, [.ref c4, .int 0, .int 0, .ref c5, .ref c6, .ref c7, .ref c1, .ref c8, .ref c9, .ref c10, .int 0, .ref c11])), (c1, .inr (12, [.ref c12, .ref c13, .ref c14, .ref c15, .ref c16, .ref c17, .int 0, .ref c18, .ref c19, .int 0, .int 0, .int 0, .int 0, .int 0, .int 0, .int 0]))] U.heap ∧ va_K (dC, dI) vwCl [] U ∧ va_D (fun _ => True) [(c0, .inr (13, [.ref c4, .int 0, .int 0, .ref c5, .ref c6, .ref c7, .ref c1, .ref c8, .ref c9, .ref c10, .int 0, .ref c11])), (c1, .inr (12, [.ref c12, .ref c13, .ref c14, .ref c15, .ref c16, .ref c17, .int 0, .ref c18, .ref c19, .int 0, .int 0, .int 0, .int 0, .int 0, .int 0, .int 0]))] ∧ nv_E (va_A [(c0, .inr (13, [.ref c4, .int 0, .int 0, .ref c5, .ref c6, .ref c7, .ref c1, .ref c8, .ref c9, .ref c10, .int 0, .ref c11])), (c1, .inr (12, [.ref c12, .ref c13, .ref c14, .ref c15, .ref c16, .ref c17, .int 0, .ref c18, .ref c19, .int 0, .int 0, .int 0, .int 0, .int 0, .int 0, .int 0]))] sz) U)) (va_Qi (fun r _ => r = 0) (fun (_ : Unit) t => va_P (dC, dI) vwCl [(c0, .inr (13, [.ref c4, .int 0, .int 0, .ref c5, .ref c6, .ref c7, .ref c1, .ref c8, .ref c9, .ref c10, .int 0, .ref c11])), (c1, .inr (12, [.ref c12, .ref c13, .ref c14, .ref c15, .ref c16, .ref c17, .int 0, .ref c18, .ref c19, .int 0, .int 0, .int 0, .int 0, .int 0, .int 0, .int 0]))] t.heap ∧ va_K (dC, dI) vwCl [] t ∧ va_D (va_A [(c0, .inr (13, [.ref c4, .int 0, .int 0, .ref c5, .ref c6, .ref c7, .ref c1, .ref c8, .ref c9, .ref c10, .int 0, .ref c11])), (c1, .inr (12, [.ref c12, .ref c13, .ref c14, .ref c15, .ref c16, .ref c17, .int 0, .ref c18, .ref c19, .int 0, .int 0, .int 0, .int 0, .int 0, .int 0, .int 0]))] sz) [(c0, .inr (13, [.ref c4, .int 0, .int 0, .ref c5, .ref c6, .ref c7, .ref c1, .ref c8, .ref c9, .ref c10, .int 0, .ref c11])), (c1, .inr (12, [.ref c12, .ref c13, .ref c14, .ref c15, .ref c16, .ref c17, .int 0, .ref c18, .ref c19, .int 0, .int 0, .int 0, .int 0, .int 0, .int 0, .int 0]))]) (va_A [(c0, .inr (13, [.ref c4, .int 0, .int 0, .ref c5, .ref c6, .ref c7, .ref c1, .ref c8, .ref c9, .ref c10, .int 0, .ref c11])), (c1, .inr (12, [.ref c12, .ref c13, .ref c14, .ref c15, .ref c16, .ref c17, .int 0, .ref c18, .ref c19, .int 0, .int 0, .int 0, .int 0, .int 0, .int 0, .int 0]))] sz)) 0 0 (va_A [(c0, .inr (13, [.ref c4, .int 0, .int 0, .ref c5, .ref c6, .ref c7, .ref c1, .ref c8, .ref c9, .ref c10, .int 0, .ref c11])), (c1, .inr (12, [.ref c12, .ref c13, .ref c14, .ref c15, .ref c16, .ref c17, .int 0, .ref c18, .ref c19, .int 0, .int 0, .int 0, .int 0, .int 0, .int 0, .int 0]))] sz) := by
  refine Met.ofW (cc := cX12_register) (maxL := 3) (ret := (some .int)) (by decide) rfl ?_
  intro p e s m args below meth c s₁ B hml hv
  obtain ⟨rfl, hsz, hP, hK, hD0, hN⟩ := hv
  have hx := B.exec
  have hb := B.bytes
  have hr := B.returns
  have hts := atoms_spec (ws := ow_k_X12_register) B.pre
  have hown : s.vm.findClass RX12 = some m.cls := findClass_of_methodNamed B.named
  have hlocks := B.notSynchronized
  subst hsz
  have hD := hD0.self (sz := s.heap.size)
  generalize hAe : va_A [(c0, .inr (13, [.ref c4, .int 0, .int 0, .ref c5, .ref c6, .ref c7, .ref c1, .ref c8, .ref c9, .ref c10, .int 0, .ref c11])), (c1, .inr (12, [.ref c12, .ref c13, .ref c14, .ref c15, .ref c16, .ref c17, .int 0, .ref c18, .ref c19, .int 0, .int 0, .int 0, .int 0, .int 0, .int 0, .int 0]))] s.heap.size = A at hD hN ⊢
  have hA : ∀ q : Nat, s.heap.size ≤ q → A q := fun q h => by rw [← hAe]; exact Or.inr h
  have hS : va_S A s.heap s.heap [] := va_S.rf
  have hl := lv_entry ([.ref c0, .int c2, .int c3]) (n := 3) (Nat.le_of_ble_eq_true rfl)
  rw [lg_entry_eq]
  generalize (lg_sl ([.ref c0, .int c2, .int c3]) ++ List.replicate (3 - (lg_sl ([.ref c0, .int c2, .int c3])).length) Slot.unset).toArray = ls at hl ⊢
  have hl : lv_has ls 3 [(0, .ref c0), (1, .int c2), (2, .int c3)] := hl
  refine lv_aload_n hx hb dX12_register_0 rfl (lv_at hl 0 rfl) ?_
  refine lv_iload_n hx hb dX12_register_1 rfl (lv_at hl 1 rfl) ?_
  have hPc := hP.sub (ws' := [(c0, .inr (13, [.ref c4, .int 0, .int 0, .ref c5, .ref c6, .ref c7, .ref c1, .ref c8, .ref c9, .ref c10, .int 0, .ref c11])), (c1, .inr (12, [.ref c12, .ref c13, .ref c14, .ref c15, .ref c16, .ref c17, .int 0, .ref c18, .ref c19, .int 0, .int 0, .int 0, .int 0, .int 0, .int 0, .int 0]))]) [0, 1] rfl
  have hDc := hD.sub (ws' := [(c0, .inr (13, [.ref c4, .int 0, .int 0, .ref c5, .ref c6, .ref c7, .ref c1, .ref c8, .ref c9, .ref c10, .int 0, .ref c11])), (c1, .inr (12, [.ref c12, .ref c13, .ref c14, .ref c15, .ref c16, .ref c17, .int 0, .ref c18, .ref c19, .int 0, .int 0, .int 0, .int 0, .int 0, .int 0, .int 0]))]) [0, 1] (by decide) rfl
  have hKc := hK.sub (tys' := []) [] rfl
  have hFc := va_free (wc := [(c0, .inr (13, [.ref c4, .int 0, .int 0, .ref c5, .ref c6, .ref c7, .ref c1, .ref c8, .ref c9, .ref c10, .int 0, .ref c11])), (c1, .inr (12, [.ref c12, .ref c13, .ref c14, .ref c15, .ref c16, .ref c17, .int 0, .ref c18, .ref c19, .int 0, .int 0, .int 0, .int 0, .int 0, .int 0, .int 0]))]) hD hS hA [0, 1] rfl
  refine va_calli (va_runV (As := [.int c2]) (rest := []) ⟨hx, hb, hml, hown, hts⟩ (k_X12_isThere l hlt dC dI c0 c1 c2 c4 c5 c6 c7 c8 c9 c10 c11 c12 c13 c14 c15 c16 c17 c18 c19  s.heap.size) (cwV 1 hts gi_k_X12_register_0 rfl rfl rfl (by decide +kernel) ⟨Nat.le_of_ble_eq_true rfl, Nat.le_of_ble_eq_true rfl⟩) ⟨fun a U g mk q => by obtain ⟨q0, q1, qP, qK, qD, qN⟩ := q; exact ⟨q0, q1, qP, va_K.moved (u := U) (U := U.calling g mk a) (Vm.Alike.refl U.vm) qK, qD, nv_same rfl rfl qN⟩, va_recv hKc hPc (ci := 13) (q0 := 0) rfl rfl, fun U hU hW => ⟨rfl, by rw [hU], by rw [hU]; exact hPc, va_K.moved hW.alike hKc, hDc.weaken (fun _ _ _ _ => trivial), nv_call hS hFc hU hW hN⟩⟩ rfl rfl hl.1 rfl (lv_room (Nat.le_of_ble_eq_true rfl)) dX12_register_2 ⟨by decide +kernel, by decide +kernel⟩) hS (fun q _ h => hFc q h) hFc (fun r1 u t H1 locs ht hvm hw hB hz1 hk1 hS => ?_)
  obtain ⟨hP1, hK1, hD1⟩ := hB
  rw [ht] at hP1
  have hK1 := va_K.moved hvm.symm hK1
  obtain rfl : r1 = 0 := hw
  obtain ⟨hP, hD⟩ := va_join (wr := []) (w1 := [(c0, .inr (13, [.ref c4, .int 0, .int 0, .ref c5, .ref c6, .ref c7, .ref c1, .ref c8, .ref c9, .ref c10, .int 0, .ref c11])), (c1, .inr (12, [.ref c12, .ref c13, .ref c14, .ref c15, .ref c16, .ref c17, .int 0, .ref c18, .ref c19, .int 0, .int 0, .int 0, .int 0, .int 0, .int 0, .int 0]))]) hP hD [0, 1] [] rfl rfl (by decide) (by decide) hk1 hFc hP1 hD1
  have hK := (hK.sub (tys' := []) [] rfl).app hK1
  generalize H1 = H at hP hS ⊢
  have hP : va_P (dC, dI) vwCl [(c0, .inr (13, [.ref c4, .int 0, .int 0, .ref c5, .ref c6, .ref c7, .ref c1, .ref c8, .ref c9, .ref c10, .int 0, .ref c11])), (c1, .inr (12, [.ref c12, .ref c13, .ref c14, .ref c15, .ref c16, .ref c17, .int 0, .ref c18, .ref c19, .int 0, .int 0, .int 0, .int 0, .int 0, .int 0, .int 0]))] H := hP
  have hD : va_D A [(c0, .inr (13, [.ref c4, .int 0, .int 0, .ref c5, .ref c6, .ref c7, .ref c1, .ref c8, .ref c9, .ref c10, .int 0, .ref c11])), (c1, .inr (12, [.ref c12, .ref c13, .ref c14, .ref c15, .ref c16, .ref c17, .int 0, .ref c18, .ref c19, .int 0, .int 0, .int 0, .int 0, .int 0, .int 0, .int 0]))] := hD
  have hK : va_K (dC, dI) vwCl [] s := hK
  refine W.widen (k := 0) (n := 0) (by decide +kernel) (by decide +kernel) ?_
  refine lv_if_eq (tgt := 33) hx hb dX12_register_5 (by decide) (fun _ => ?_) (fun h9 => absurd (by decide) h9)
  refine lv_iconst (v := 0) hx hb dX12_register_33 (by decide) ?_
  have hP9 := hP.sub (ws' := [(c0, .inr (13, [.ref c4, .int 0, .int 0, .ref c5, .ref c6, .ref c7, .ref c1, .ref c8, .ref c9, .ref c10, .int 0, .ref c11])), (c1, .inr (12, [.ref c12, .ref c13, .ref c14, .ref c15, .ref c16, .ref c17, .int 0, .ref c18, .ref c19, .int 0, .int 0, .int 0, .int 0, .int 0, .int 0, .int 0]))]) [0, 1] rfl
  have hD9 := hD.sub (ws' := [(c0, .inr (13, [.ref c4, .int 0, .int 0, .ref c5, .ref c6, .ref c7, .ref c1, .ref c8, .ref c9, .ref c10, .int 0, .ref c11])), (c1, .inr (12, [.ref c12, .ref c13, .ref c14, .ref c15, .ref c16, .ref c17, .int 0, .ref c18, .ref c19, .int 0, .int 0, .int 0, .int 0, .int 0, .int 0, .int 0]))]) [0, 1] (by decide) rfl
  have hK9 := hK.sub (tys' := []) [] rfl
  refine W.widen (k := 0) (n := 0) (by decide +kernel) (by decide +kernel) ?_
  exact W.iret (v := 0) hx hb hr (fun t ht hW => ⟨⟨0, (), rfl, rfl, by rw [ht]; exact hP9, va_K.moved hW.alike hK9, hD9⟩, hS.F ht⟩) hS.2.2 dX12_register_34
def ow_k_X19_shows : List Cond := .code yX19_shows cX19_shows 1 (some .boolean) :: ([.fieldLink RX19 113 "TimeMachineModel" "code" "I", .fieldLink RX19 231 "TimeMachineModel" "booted" "Z"] ++ (u_ws RX19 TX19 36 ++ []))
theorem gd_k_X19_shows : ∀ w ∈ ow_k_X19_shows, (w.onTables && w.keeps) = true ∨ ∃ ty, w = Cond.arrayClass ty := List.forall_mem_cons.mpr ⟨good_of_word rfl, List.forall_mem_append.mpr ⟨fun w h => good_of_word (List.all_eq_true.mp (by decide +kernel) w h), List.forall_mem_append.mpr ⟨gu_X19, fun _ h => nomatch h⟩⟩⟩
theorem hi_k_X19_shows_X19 : ∀ w ∈ u_ws RX19 TX19 36, w ∈ ow_k_X19_shows := fun w h => List.mem_cons_of_mem _ (List.mem_append_right _ (List.mem_append_left _ h))
set_option maxHeartbeats 40000000 in
set_option maxRecDepth 100000 in
theorem k_X19_shows (l : Launch) (hlt : l.stackTraces = false) (dC : Nat → ClassId) (dI : Nat → Nat → Nat) (c0 : Nat) (c1 : Nat) (c2 : Nat) (c3 : Nat) (c4 : Nat) (c5 : Nat) (c6 : Nat) (c7 : Nat) (c8 : Nat) (c9 : Nat) (c10 : Nat) (c11 : Nat) (c12 : Nat) (c13 : Nat) (c14 : Nat) (c15 : Nat) (c16 : Nat) (c17 : Nat) (c18 : Nat) (c19 : Nat) (c20 : Nat) (c21 : Nat) (c22 : Nat) (c23 : Nat) (sz : Nat) : Met l yX19_shows ow_k_X19_shows ({ frames := 0, cells := 0, slots := 0, locals := 0 }) (va_Pc [.ref c0] (fun U => U.heap.size = sz ∧ va_P (dC, dI) vwCl [(c0, .inr (20, [.int 0, .ref c1, .int 0, .int 0, .ref c2, .ref c3, .ref c4, .ref c5, .ref c6, .ref c7, .ref c8, .ref c9, .ref c10, .ref c11, .ref c12, .ref c13, .ref c14, .int 0, .int 0, .int 0, .int 0, .int 0, .int 0, .int 0, .int 0, .int 0, .ref c15, .ref c16, .ref c17, .ref c18, .ref c19, .ref c20, .ref c21, .ref c22, .ref c23, .int 0]))] U.heap ∧ va_K (dC, dI) vwCl [] U ∧ va_D (fun _ => True) [(c0, .inr (20, [.int 0, .ref c1, .int 0, .int 0, .ref c2, .ref c3, .ref c4, .ref c5, .ref c6, .ref c7, .ref c8, .ref c9, .ref c10, .ref c11, .ref c12, .ref c13, .ref c14, .int 0, .int 0, .int 0, .int 0, .int 0, .int 0, .int 0, .int 0, .int 0, .ref c15, .ref c16, .ref c17, .ref c18, .ref c19, .ref c20, .ref c21, .ref c22, .ref c23, .int 0]))] ∧ nv_E (va_A [(c0, .inr (20, [.int 0, .ref c1, .int 0, .int 0, .ref c2, .ref c3, .ref c4, .ref c5, .ref c6, .ref c7, .ref c8, .ref c9, .ref c10, .ref c11, .ref c12, .ref c13, .ref c14, .int 0, .int 0, .int 0, .int 0, .int 0, .int 0, .int 0, .int 0, .int 0, .ref c15, .ref c16, .ref c17, .ref c18, .ref c19, .ref c20, .ref c21, .ref c22, .ref c23, .int 0]))] sz) U)) (va_Qi (fun r _ => r = 0) (fun (_ : Unit) t => va_P (dC, dI) vwCl [(c0, .inr (20, [.int 0, .ref c1, .int 0, .int 0, .ref c2, .ref c3, .ref c4, .ref c5, .ref c6, .ref c7, .ref c8, .ref c9, .ref c10, .ref c11, .ref c12, .ref c13, .ref c14, .int 0, .int 0, .int 0, .int 0, .int 0, .int 0, .int 0, .int 0, .int 0, .ref c15, .ref c16, .ref c17, .ref c18, .ref c19, .ref c20, .ref c21, .ref c22, .ref c23, .int 0]))] t.heap ∧ va_K (dC, dI) vwCl [] t ∧ va_D (va_A [(c0, .inr (20, [.int 0, .ref c1, .int 0, .int 0, .ref c2, .ref c3, .ref c4, .ref c5, .ref c6, .ref c7, .ref c8, .ref c9, .ref c10, .ref c11, .ref c12, .ref c13, .ref c14, .int 0, .int 0, .int 0, .int 0, .int 0, .int 0, .int 0, .int 0, .int 0, .ref c15, .ref c16, .ref c17, .ref c18, .ref c19, .ref c20, .ref c21, .ref c22, .ref c23, .int 0]))] sz) [(c0, .inr (20, [.int 0, .ref c1, .int 0, .int 0, .ref c2, .ref c3, .ref c4, .ref c5, .ref c6, .ref c7, .ref c8, .ref c9, .ref c10, .ref c11, .ref c12, .ref c13, .ref c14, .int 0, .int 0, .int 0, .int 0, .int 0, .int 0, .int 0, .int 0, .int 0, .ref c15, .ref c16, .ref c17, .ref c18, .ref c19, .ref c20, .ref c21, .ref c22, .ref c23, .int 0]))]) (va_A [(c0, .inr (20, [.int 0, .ref c1, .int 0, .int 0, .ref c2, .ref c3, .ref c4, .ref c5, .ref c6, .ref c7, .ref c8, .ref c9, .ref c10, .ref c11, .ref c12, .ref c13, .ref c14, .int 0, .int 0, .int 0, .int 0, .int 0, .int 0, .int 0, .int 0, .int 0, .ref c15, .ref c16, .ref c17, .ref c18, .ref c19, .ref c20, .ref c21, .ref c22, .ref c23, .int 0]))] sz)) 0 0 (va_A [(c0, .inr (20, [.int 0, .ref c1, .int 0, .int 0, .ref c2, .ref c3, .ref c4, .ref c5, .ref c6, .ref c7, .ref c8, .ref c9, .ref c10, .ref c11, .ref c12, .ref c13, .ref c14, .int 0, .int 0, .int 0, .int 0, .int 0, .int 0, .int 0, .int 0, .int 0, .ref c15, .ref c16, .ref c17, .ref c18, .ref c19, .ref c20, .ref c21, .ref c22, .ref c23, .int 0]))] sz) := by
  refine Met.ofW (cc := cX19_shows) (maxL := 1) (ret := (some .boolean)) (by decide) rfl ?_
  intro p e s m args below meth c s₁ B hml hv
  obtain ⟨rfl, hsz, hP, hK, hD0, hN⟩ := hv
  have hx := B.exec
  have hb := B.bytes
  have hr := B.returns
  have hts := atoms_spec (ws := ow_k_X19_shows) B.pre
  have hown : s.vm.findClass RX19 = some m.cls := findClass_of_methodNamed B.named
  have hlocks := B.notSynchronized
  subst hsz
  have hD := hD0.self (sz := s.heap.size)
  generalize hAe : va_A [(c0, .inr (20, [.int 0, .ref c1, .int 0, .int 0, .ref c2, .ref c3, .ref c4, .ref c5, .ref c6, .ref c7, .ref c8, .ref c9, .ref c10, .ref c11, .ref c12, .ref c13, .ref c14, .int 0, .int 0, .int 0, .int 0, .int 0, .int 0, .int 0, .int 0, .int 0, .ref c15, .ref c16, .ref c17, .ref c18, .ref c19, .ref c20, .ref c21, .ref c22, .ref c23, .int 0]))] s.heap.size = A at hD hN ⊢
  have hA : ∀ q : Nat, s.heap.size ≤ q → A q := fun q h => by rw [← hAe]; exact Or.inr h
  have hS : va_S A s.heap s.heap [] := va_S.rf
  have hl := lv_entry ([.ref c0]) (n := 1) (Nat.le_of_ble_eq_true rfl)
  rw [lg_entry_eq]
  generalize (lg_sl ([.ref c0]) ++ List.replicate (1 - (lg_sl ([.ref c0])).length) Slot.unset).toArray = ls at hl ⊢
  have hl : lv_has ls 1 [(0, .ref c0)] := hl
  refine lv_aload_n hx hb dX19_shows_0 rfl (lv_at hl 0 rfl) ?_
  refine lv_iconst (v := 0) hx hb dX19_shows_1 (by decide) ?_
  refine va_put (D := (dC, dI)) (ci := 20) (v := .int 0) (ty := .int) (C := RX19) (T := TX19) (N := 36) hx hb hts hi_k_X19_shows_X19 tyX19 tyX19_ok nmX19 hown hK hP hD hS 0 rfl rfl 0 (by decide) (hts (.fieldLink RX19 113 "TimeMachineModel" "code" "I") (List.mem_of_getElem? (i := 1) rfl)) (fun _ h9 => h9) rfl (by decide +kernel) rfl rfl (Nat.le_of_ble_eq_true rfl) dX19_shows_2 (fun H locs hP hD hS => ?_)
  have hP : va_P (dC, dI) vwCl [(c0, .inr (20, [.int 0, .ref c1, .int 0, .int 0, .ref c2, .ref c3, .ref c4, .ref c5, .ref c6, .ref c7, .ref c8, .ref c9, .ref c10, .ref c11, .ref c12, .ref c13, .ref c14, .int 0, .int 0, .int 0, .int 0, .int 0, .int 0, .int 0, .int 0, .int 0, .ref c15, .ref c16, .ref c17, .ref c18, .ref c19, .ref c20, .ref c21, .ref c22, .ref c23, .int 0]))] H := hP
  have hD : va_D A [(c0, .inr (20, [.int 0, .ref c1, .int 0, .int 0, .ref c2, .ref c3, .ref c4, .ref c5, .ref c6, .ref c7, .ref c8, .ref c9, .ref c10, .ref c11, .ref c12, .ref c13, .ref c14, .int 0, .int 0, .int 0, .int 0, .int 0, .int 0, .int 0, .int 0, .int 0, .ref c15, .ref c16, .ref c17, .ref c18, .ref c19, .ref c20, .ref c21, .ref c22, .ref c23, .int 0]))] := hD
  refine lv_aload_n hx hb dX19_shows_5 rfl (lv_at hl 0 rfl) ?_
  refine va_get (D := (dC, dI)) (ci := 20) (v := .int 0) (C := RX19) (T := TX19) (N := 36) hx hb hts hi_k_X19_shows_X19 hown hK hP 0 rfl rfl 17 (by decide) (hts (.fieldLink RX19 231 "TimeMachineModel" "booted" "Z") (List.mem_of_getElem? (i := 2) rfl)) (fun _ h9 => h9) rfl dX19_shows_6 ?_
  refine lv_if_eq (tgt := 20) hx hb dX19_shows_9 (by decide) (fun _ => ?_) (fun h9 => absurd (by decide) h9)
  refine lv_aload_n hx hb dX19_shows_20 rfl (lv_at hl 0 rfl) ?_
  refine va_get (D := (dC, dI)) (ci := 20) (v := .int 0) (C := RX19) (T := TX19) (N := 36) hx hb hts hi_k_X19_shows_X19 hown hK hP 0 rfl rfl 17 (by decide) (hts (.fieldLink RX19 231 "TimeMachineModel" "booted" "Z") (List.mem_of_getElem? (i := 2) rfl)) (fun _ h9 => h9) rfl dX19_shows_21 ?_
  have hP9 := hP.sub (ws' := [(c0, .inr (20, [.int 0, .ref c1, .int 0, .int 0, .ref c2, .ref c3, .ref c4, .ref c5, .ref c6, .ref c7, .ref c8, .ref c9, .ref c10, .ref c11, .ref c12, .ref c13, .ref c14, .int 0, .int 0, .int 0, .int 0, .int 0, .int 0, .int 0, .int 0, .int 0, .ref c15, .ref c16, .ref c17, .ref c18, .ref c19, .ref c20, .ref c21, .ref c22, .ref c23, .int 0]))]) [0] rfl
  have hD9 := hD.sub (ws' := [(c0, .inr (20, [.int 0, .ref c1, .int 0, .int 0, .ref c2, .ref c3, .ref c4, .ref c5, .ref c6, .ref c7, .ref c8, .ref c9, .ref c10, .ref c11, .ref c12, .ref c13, .ref c14, .int 0, .int 0, .int 0, .int 0, .int 0, .int 0, .int 0, .int 0, .int 0, .ref c15, .ref c16, .ref c17, .ref c18, .ref c19, .ref c20, .ref c21, .ref c22, .ref c23, .int 0]))]) [0] (by decide) rfl
  have hK9 := hK.sub (tys' := []) [] rfl
  refine W.widen (k := 0) (n := 0) (by decide +kernel) (by decide +kernel) ?_
  exact W.zret (v := 0) hx hb hr (by decide) (fun t ht hW => ⟨⟨0, (), rfl, rfl, by rw [ht]; exact hP9, va_K.moved hW.alike hK9, hD9⟩, hS.F ht⟩) hS.2.2 dX19_shows_24
def ow_k_X19_register : List Cond := .code yX19_register cX19_register 3 (some .int) :: ([.methodLink RX19 315 yX19_shows, .instanceMethod yX19_shows, .selects RX19 yX19_shows yX19_shows, .initialized RX19] ++ (ow_k_X19_shows ++ []))
theorem gd_k_X19_register : ∀ w ∈ ow_k_X19_register, (w.onTables && w.keeps) = true ∨ ∃ ty, w = Cond.arrayClass ty := List.forall_mem_cons.mpr ⟨good_of_word rfl, List.forall_mem_append.mpr ⟨fun w h => good_of_word (List.all_eq_true.mp (by decide +kernel) w h), List.forall_mem_append.mpr ⟨gd_k_X19_shows, fun _ h => nomatch h⟩⟩⟩
theorem gi_k_X19_register_0 : GoodIn ow_k_X19_register (wsV RX19 315 RX19 yX19_shows ow_k_X19_shows) := goodIn_app (goodIn_of _ (by decide +kernel)) (fun w h => ⟨List.mem_cons_of_mem _ (List.mem_append_right _ (List.mem_append_left _ h)), gd_k_X19_shows w h⟩)
set_option maxHeartbeats 40000000 in
set_option maxRecDepth 100000 in
theorem k_X19_register (l : Launch) (hlt : l.stackTraces = false) (dC : Nat → ClassId) (dI : Nat → Nat → Nat) (c0 : Nat) (c1 : Int32) (c2 : Int32) (c3 : Nat) (c4 : Nat) (c5 : Nat) (c6 : Nat) (c7 : Nat) (c8 : Nat) (c9 : Nat) (c10 : Nat) (c11 : Nat) (c12 : Nat) (c13 : Nat) (c14 : Nat) (c15 : Nat) (c16 : Nat) (c17 : Nat) (c18 : Nat) (c19 : Nat) (c20 : Nat) (c21 : Nat) (c22 : Nat) (c23 : Nat) (c24 : Nat) (c25 : Nat) (sz : Nat) : Met l yX19_register ow_k_X19_register ({ frames := 1, cells := 0, slots := 0, locals := 20 }) (va_Pc [.ref c0, .int c1, .int c2] (fun U => U.heap.size = sz ∧ va_P (dC, dI) vwCl [(c0, .inr (20, [.int 0, .ref c3, .int 0, .int 0, .ref c4, .ref c5, .ref c6, .ref c7, .ref c8, .ref c9, .ref c10, .ref c11, .ref c12, .ref c13, .ref c14, .ref c15, .ref c16, .int 0, .int 0, .int 0, .int 0, .int 0, .int 0, .int 0, .int 0, .int 0, .ref c17, .ref c18, .ref c19, .ref c20, .ref c21, .ref c22, .ref c23, .ref c24, .ref c25, .int 0]))] U.heap ∧ va_K (dC, dI) vwCl [] U ∧ va_D (fun _ => True) [(c0, .inr (20, [.int 0, .ref c3, .int 0, .int 0, .ref c4, .ref c5, .ref c6, .ref c7, .ref c8, .ref c9, .ref c10, .ref c11, .ref c12, .ref c13, .ref c14, .ref c15, .ref c16, .int 0, .int 0, .int 0, .int 0, .int 0, .int 0, .int 0, .int 0, .int 0, .ref c17, .ref c18, .ref c19, .ref c20, .ref c21, .ref c22, .ref c23, .ref c24, .ref c25, .int 0]))] ∧ nv_E (va_A [(c0, .inr (20, [.int 0, .ref c3, .int 0, .int 0, .ref c4, .ref c5, .ref c6, .ref c7, .ref c8, .ref c9, .ref c10, .ref c11, .ref c12, .ref c13, .ref c14, .ref c15, .ref c16, .int 0, .int 0, .int 0, .int 0, .int 0, .int 0, .int 0, .int 0, .int 0, .ref c17, .ref c18, .ref c19, .ref c20, .ref c21, .ref c22, .ref c23, .ref c24, .ref c25, .int 0]))] sz) U)) (va_Qi (fun r _ => r = 0) (fun (_ : Unit) t => va_P (dC, dI) vwCl [(c0, .inr (20, [.int 0, .ref c3, .int 0, .int 0, .ref c4, .ref c5, .ref c6, .ref c7, .ref c8, .ref c9, .ref c10, .ref c11, .ref c12, .ref c13, .ref c14, .ref c15, .ref c16, .int 0, .int 0, .int 0, .int 0, .int 0, .int 0, .int 0, .int 0, .int 0, .ref c17, .ref c18, .ref c19, .ref c20, .ref c21, .ref c22, .ref c23, .ref c24, .ref c25, .int 0]))] t.heap ∧ va_K (dC, dI) vwCl [] t ∧ va_D (va_A [(c0, .inr (20, [.int 0, .ref c3, .int 0, .int 0, .ref c4, .ref c5, .ref c6, .ref c7, .ref c8, .ref c9, .ref c10, .ref c11, .ref c12, .ref c13, .ref c14, .ref c15, .ref c16, .int 0, .int 0, .int 0, .int 0, .int 0, .int 0, .int 0, .int 0, .int 0, .ref c17, .ref c18, .ref c19, .ref c20, .ref c21, .ref c22, .ref c23, .ref c24, .ref c25, .int 0]))] sz) [(c0, .inr (20, [.int 0, .ref c3, .int 0, .int 0, .ref c4, .ref c5, .ref c6, .ref c7, .ref c8, .ref c9, .ref c10, .ref c11, .ref c12, .ref c13, .ref c14, .ref c15, .ref c16, .int 0, .int 0, .int 0, .int 0, .int 0, .int 0, .int 0, .int 0, .int 0, .ref c17, .ref c18, .ref c19, .ref c20, .ref c21, .ref c22, .ref c23, .ref c24, .ref c25, .int 0]))]) (va_A [(c0, .inr (20, [.int 0, .ref c3, .int 0, .int 0, .ref c4, .ref c5, .ref c6, .ref c7, .ref c8, .ref c9, .ref c10, .ref c11, .ref c12, .ref c13, .ref c14, .ref c15, .ref c16, .int 0, .int 0, .int 0, .int 0, .int 0, .int 0, .int 0, .int 0, .int 0, .ref c17, .ref c18, .ref c19, .ref c20, .ref c21, .ref c22, .ref c23, .ref c24, .ref c25, .int 0]))] sz)) 0 0 (va_A [(c0, .inr (20, [.int 0, .ref c3, .int 0, .int 0, .ref c4, .ref c5, .ref c6, .ref c7, .ref c8, .ref c9, .ref c10, .ref c11, .ref c12, .ref c13, .ref c14, .ref c15, .ref c16, .int 0, .int 0, .int 0, .int 0, .int 0, .int 0, .int 0, .int 0, .int 0, .ref c17, .ref c18, .ref c19, .ref c20, .ref c21, .ref c22, .ref c23, .ref c24, .ref c25, .int 0]))] sz) := by
  refine Met.ofW (cc := cX19_register) (maxL := 3) (ret := (some .int)) (by decide) rfl ?_
  intro p e s m args below meth c s₁ B hml hv
  obtain ⟨rfl, hsz, hP, hK, hD0, hN⟩ := hv
  have hx := B.exec
  have hb := B.bytes
  have hr := B.returns
  have hts := atoms_spec (ws := ow_k_X19_register) B.pre
  have hown : s.vm.findClass RX19 = some m.cls := findClass_of_methodNamed B.named
  have hlocks := B.notSynchronized
  subst hsz
  have hD := hD0.self (sz := s.heap.size)
  generalize hAe : va_A [(c0, .inr (20, [.int 0, .ref c3, .int 0, .int 0, .ref c4, .ref c5, .ref c6, .ref c7, .ref c8, .ref c9, .ref c10, .ref c11, .ref c12, .ref c13, .ref c14, .ref c15, .ref c16, .int 0, .int 0, .int 0, .int 0, .int 0, .int 0, .int 0, .int 0, .int 0, .ref c17, .ref c18, .ref c19, .ref c20, .ref c21, .ref c22, .ref c23, .ref c24, .ref c25, .int 0]))] s.heap.size = A at hD hN ⊢
  have hA : ∀ q : Nat, s.heap.size ≤ q → A q := fun q h => by rw [← hAe]; exact Or.inr h
  have hS : va_S A s.heap s.heap [] := va_S.rf
  have hl := lv_entry ([.ref c0, .int c1, .int c2]) (n := 3) (Nat.le_of_ble_eq_true rfl)
  rw [lg_entry_eq]
  generalize (lg_sl ([.ref c0, .int c1, .int c2]) ++ List.replicate (3 - (lg_sl ([.ref c0, .int c1, .int c2])).length) Slot.unset).toArray = ls at hl ⊢
  have hl : lv_has ls 3 [(0, .ref c0), (1, .int c1), (2, .int c2)] := hl
  refine lv_aload_n hx hb dX19_register_0 rfl (lv_at hl 0 rfl) ?_
  have hPc := hP.sub (ws' := [(c0, .inr (20, [.int 0, .ref c3, .int 0, .int 0, .ref c4, .ref c5, .ref c6, .ref c7, .ref c8, .ref c9, .ref c10, .ref c11, .ref c12, .ref c13, .ref c14, .ref c15, .ref c16, .int 0, .int 0, .int 0, .int 0, .int 0, .int 0, .int 0, .int 0, .int 0, .ref c17, .ref c18, .ref c19, .ref c20, .ref c21, .ref c22, .ref c23, .ref c24, .ref c25, .int 0]))]) [0] rfl
  have hDc := hD.sub (ws' := [(c0, .inr (20, [.int 0, .ref c3, .int 0, .int 0, .ref c4, .ref c5, .ref c6, .ref c7, .ref c8, .ref c9, .ref c10, .ref c11, .ref c12, .ref c13, .ref c14, .ref c15, .ref c16, .int 0, .int 0, .int 0, .int 0, .int 0, .int 0, .int 0, .int 0, .int 0, .ref c17, .ref c18, .ref c19, .ref c20, .ref c21, .ref c22, .ref c23, .ref c24, .ref c25, .int 0]))]) [0] (by decide) rfl
  have hKc := hK.sub (tys' := []) [] rfl
  have hFc := va_free (wc := [(c0, .inr (20, [.int 0, .ref c3, .int 0, .int 0, .ref c4, .ref c5, .ref c6, .ref c7, .ref c8, .ref c9, .ref c10, .ref c11, .ref c12, .ref c13, .ref c14, .ref c15, .ref c16, .int 0, .int 0, .int 0, .int 0, .int 0, .int 0, .int 0, .int 0, .int 0, .ref c17, .ref c18, .ref c19, .ref c20, .ref c21, .ref c22, .ref c23, .ref c24, .ref c25, .int 0]))]) hD hS hA [0] rfl
  refine va_calli (va_runV (As := []) (rest := []) ⟨hx, hb, hml, hown, hts⟩ (k_X19_shows l hlt dC dI c0 c3 c4 c5 c6 c7 c8 c9 c10 c11 c12 c13 c14 c15 c16 c17 c18 c19 c20 c21 c22 c23 c24 c25  s.heap.size) (cwV 0 hts gi_k_X19_register_0 rfl rfl rfl (by decide +kernel) ⟨Nat.le_of_ble_eq_true rfl, Nat.le_of_ble_eq_true rfl⟩) ⟨fun a U g mk q => by obtain ⟨q0, q1, qP, qK, qD, qN⟩ := q; exact ⟨q0, q1, qP, va_K.moved (u := U) (U := U.calling g mk a) (Vm.Alike.refl U.vm) qK, qD, nv_same rfl rfl qN⟩, va_recv hKc hPc (ci := 20) (q0 := 0) rfl rfl, fun U hU hW => ⟨rfl, by rw [hU], by rw [hU]; exact hPc, va_K.moved hW.alike hKc, hDc.weaken (fun _ _ _ _ => trivial), nv_call hS hFc hU hW hN⟩⟩ rfl rfl hl.1 rfl (lv_room (Nat.le_of_ble_eq_true rfl)) dX19_register_1 ⟨by decide +kernel, by decide +kernel⟩) hS (fun q _ h => hFc q h) hFc (fun r1 u t H1 locs ht hvm hw hB hz1 hk1 hS => ?_)
  obtain ⟨hP1, hK1, hD1⟩ := hB
  rw [ht] at hP1
  have hK1 := va_K.moved hvm.symm hK1
  obtain rfl : r1 = 0 := hw
  obtain ⟨hP, hD⟩ := va_join (wr := []) (w1 := [(c0, .inr (20, [.int 0, .ref c3, .int 0, .int 0, .ref c4, .ref c5, .ref c6, .ref c7, .ref c8, .ref c9, .ref c10, .ref c11, .ref c12, .ref c13, .ref c14, .ref c15, .ref c16, .int 0, .int 0, .int 0, .int 0, .int 0, .int 0, .int 0, .int 0, .int 0, .ref c17, .ref c18, .ref c19, .ref c20, .ref c21, .ref c22, .ref c23, .ref c24, .ref c25, .int 0]))]) hP hD [0] [] rfl rfl (by decide) (by decide) hk1 hFc hP1 hD1
  have hK := (hK.sub (tys' := []) [] rfl).app hK1
  generalize H1 = H at hP hS ⊢
  have hP : va_P (dC, dI) vwCl [(c0, .inr (20, [.int 0, .ref c3, .int 0, .int 0, .ref c4, .ref c5, .ref c6, .ref c7, .ref c8, .ref c9, .ref c10, .ref c11, .ref c12, .ref c13, .ref c14, .ref c15, .ref c16, .int 0, .int 0, .int 0, .int 0, .int 0, .int 0, .int 0, .int 0, .int 0, .ref c17, .ref c18, .ref c19, .ref c20, .ref c21, .ref c22, .ref c23, .ref c24, .ref c25, .int 0]))] H := hP
  have hD : va_D A [(c0, .inr (20, [.int 0, .ref c3, .int 0, .int 0, .ref c4, .ref c5, .ref c6, .ref c7, .ref c8, .ref c9, .ref c10, .ref c11, .ref c12, .ref c13, .ref c14, .ref c15, .ref c16, .int 0, .int 0, .int 0, .int 0, .int 0, .int 0, .int 0, .int 0, .int 0, .ref c17, .ref c18, .ref c19, .ref c20, .ref c21, .ref c22, .ref c23, .ref c24, .ref c25, .int 0]))] := hD
  have hK : va_K (dC, dI) vwCl [] s := hK
  refine W.widen (k := 0) (n := 0) (by decide +kernel) (by decide +kernel) ?_
  refine lv_if_eq (tgt := 19) hx hb dX19_register_4 (by decide) (fun _ => ?_) (fun h9 => absurd (by decide) h9)
  refine lv_iconst (v := 0) hx hb dX19_register_19 (by decide) ?_
  have hP9 := hP.sub (ws' := [(c0, .inr (20, [.int 0, .ref c3, .int 0, .int 0, .ref c4, .ref c5, .ref c6, .ref c7, .ref c8, .ref c9, .ref c10, .ref c11, .ref c12, .ref c13, .ref c14, .ref c15, .ref c16, .int 0, .int 0, .int 0, .int 0, .int 0, .int 0, .int 0, .int 0, .int 0, .ref c17, .ref c18, .ref c19, .ref c20, .ref c21, .ref c22, .ref c23, .ref c24, .ref c25, .int 0]))]) [0] rfl
  have hD9 := hD.sub (ws' := [(c0, .inr (20, [.int 0, .ref c3, .int 0, .int 0, .ref c4, .ref c5, .ref c6, .ref c7, .ref c8, .ref c9, .ref c10, .ref c11, .ref c12, .ref c13, .ref c14, .ref c15, .ref c16, .int 0, .int 0, .int 0, .int 0, .int 0, .int 0, .int 0, .int 0, .int 0, .ref c17, .ref c18, .ref c19, .ref c20, .ref c21, .ref c22, .ref c23, .ref c24, .ref c25, .int 0]))]) [0] (by decide) rfl
  have hK9 := hK.sub (tys' := []) [] rfl
  refine W.widen (k := 0) (n := 0) (by decide +kernel) (by decide +kernel) ?_
  exact W.iret (v := 0) hx hb hr (fun t ht hW => ⟨⟨0, (), rfl, rfl, by rw [ht]; exact hP9, va_K.moved hW.alike hK9, hD9⟩, hS.F ht⟩) hS.2.2 dX19_register_20
def ow_k_X12_process : List Cond := .code yX12_process cX12_process 3 (some .int) :: ([.methodLink RX12 208 yX12_isThere, .instanceMethod yX12_isThere, .selects RX12 yX12_isThere yX12_isThere, .initialized RX12] ++ (ow_k_X12_isThere ++ []))
theorem gd_k_X12_process : ∀ w ∈ ow_k_X12_process, (w.onTables && w.keeps) = true ∨ ∃ ty, w = Cond.arrayClass ty := List.forall_mem_cons.mpr ⟨good_of_word rfl, List.forall_mem_append.mpr ⟨fun w h => good_of_word (List.all_eq_true.mp (by decide +kernel) w h), List.forall_mem_append.mpr ⟨gd_k_X12_isThere, fun _ h => nomatch h⟩⟩⟩
theorem gi_k_X12_process_0 : GoodIn ow_k_X12_process (wsV RX12 208 RX12 yX12_isThere ow_k_X12_isThere) := goodIn_app (goodIn_of _ (by decide +kernel)) (fun w h => ⟨List.mem_cons_of_mem _ (List.mem_append_right _ (List.mem_append_left _ h)), gd_k_X12_isThere w h⟩)
set_option maxHeartbeats 40000000 in
set_option maxRecDepth 100000 in
theorem k_X12_process (l : Launch) (hlt : l.stackTraces = false) (dC : Nat → ClassId) (dI : Nat → Nat → Nat) (c0 : Nat) (c1 : Nat) (c2 : Int32) (c3 : Int32) (c4 : Nat) (c5 : Nat) (c6 : Nat) (c7 : Nat) (c8 : Nat) (c9 : Nat) (c10 : Nat) (c11 : Nat) (c12 : Nat) (c13 : Nat) (c14 : Nat) (c15 : Nat) (c16 : Nat) (c17 : Nat) (c18 : Nat) (c19 : Nat) (sz : Nat) : Met l yX12_process ow_k_X12_process ({ frames := 1, cells := 0, slots := 0, locals := 21 }) (va_Pc [.ref c0, .int c2, .int c3] (fun U => U.heap.size = sz ∧ va_P (dC, dI) vwCl [(c0, .inr (13, [.ref c4, .int 0, .int 0, .ref c5, .ref c6, .ref c7, .ref c1, .ref c8, .ref c9, .ref c10, .int 0, .ref c11])), (c1, .inr (12, [.ref c12, .ref c13, .ref c14, .ref c15, .ref c16, .ref c17, .int 0, .ref c18, .ref c19, .int 0, .int 0, .int 0, .int 0, .int 0, .int 0, .int 0]))] U.heap ∧ va_K (dC, dI) vwCl [] U ∧ va_D (fun _ => True) [(c0, .inr (13, [.ref c4, .int 0, .int 0, .ref c5, .ref c6, .ref c7, .ref c1, .ref c8, .ref c9, .ref c10, .int 0, .ref c11])), (c1, .inr (12, [.ref c12, .ref c13, .ref c14, .ref c15, .ref c16, .ref c17, .int 0, .ref c18, .ref c19, .int 0, .int 0, .int 0, .int 0, .int 0, .int 0, .int 0]))] ∧ nv_E (va_A [(c0, .inr (13, [.ref c4, .int 0, .int 0, .ref c5, .ref c6, .ref c7, .ref c1, .ref c8, .ref c9, .ref c10, .int 0, .ref c11])), (c1, .inr (12, [.ref c12, .ref c13, .ref c14, .ref c15, .ref c16, .ref c17, .int 0, .ref c18, .ref c19, .int 0, .int 0, .int 0, .int 0, .int 0, .int 0, .int 0]))] sz) U)) (va_Qi (fun r _ => ((c3 < 0) ∧ r = (-1)) ∨ ((¬ c3 < 0) ∧ (c3 ≤ 7) ∧ (c3 = 1) ∧ r = (-1)) ∨ ((¬ c3 < 0) ∧ (c3 ≤ 7) ∧ (¬ c3 = 1) ∧ (¬ c3 = 7) ∧ r = 0) ∨ ((¬ c3 < 0) ∧ (c3 ≤ 7) ∧ (¬ c3 = 1) ∧ (c3 = 7) ∧ r = (-1)) ∨ ((¬ c3 < 0) ∧ (¬ c3 ≤ 7) ∧ r = (-1)) ∨ False) (fun (_ : Unit) t => True) (va_A [(c0, .inr (13, [.ref c4, .int 0, .int 0, .ref c5, .ref c6, .ref c7, .ref c1, .ref c8, .ref c9, .ref c10, .int 0, .ref c11])), (c1, .inr (12, [.ref c12, .ref c13, .ref c14, .ref c15, .ref c16, .ref c17, .int 0, .ref c18, .ref c19, .int 0, .int 0, .int 0, .int 0, .int 0, .int 0, .int 0]))] sz)) 0 0 (va_A [(c0, .inr (13, [.ref c4, .int 0, .int 0, .ref c5, .ref c6, .ref c7, .ref c1, .ref c8, .ref c9, .ref c10, .int 0, .ref c11])), (c1, .inr (12, [.ref c12, .ref c13, .ref c14, .ref c15, .ref c16, .ref c17, .int 0, .ref c18, .ref c19, .int 0, .int 0, .int 0, .int 0, .int 0, .int 0, .int 0]))] sz) := by
  refine Met.ofW (cc := cX12_process) (maxL := 3) (ret := (some .int)) (by decide) rfl ?_
  intro p e s m args below meth c s₁ B hml hv
  obtain ⟨rfl, hsz, hP, hK, hD0, hN⟩ := hv
  have hx := B.exec
  have hb := B.bytes
  have hr := B.returns
  have hts := atoms_spec (ws := ow_k_X12_process) B.pre
  have hown : s.vm.findClass RX12 = some m.cls := findClass_of_methodNamed B.named
  have hlocks := B.notSynchronized
  subst hsz
  have hD := hD0.self (sz := s.heap.size)
  generalize hAe : va_A [(c0, .inr (13, [.ref c4, .int 0, .int 0, .ref c5, .ref c6, .ref c7, .ref c1, .ref c8, .ref c9, .ref c10, .int 0, .ref c11])), (c1, .inr (12, [.ref c12, .ref c13, .ref c14, .ref c15, .ref c16, .ref c17, .int 0, .ref c18, .ref c19, .int 0, .int 0, .int 0, .int 0, .int 0, .int 0, .int 0]))] s.heap.size = A at hD hN ⊢
  have hA : ∀ q : Nat, s.heap.size ≤ q → A q := fun q h => by rw [← hAe]; exact Or.inr h
  have hS : va_S A s.heap s.heap [] := va_S.rf
  have hl := lv_entry ([.ref c0, .int c2, .int c3]) (n := 3) (Nat.le_of_ble_eq_true rfl)
  rw [lg_entry_eq]
  generalize (lg_sl ([.ref c0, .int c2, .int c3]) ++ List.replicate (3 - (lg_sl ([.ref c0, .int c2, .int c3])).length) Slot.unset).toArray = ls at hl ⊢
  have hl : lv_has ls 3 [(0, .ref c0), (1, .int c2), (2, .int c3)] := hl
  refine lv_iload_n hx hb dX12_process_0 rfl (lv_at hl 2 rfl) ?_
  refine lv_if_lt (tgt := 10) hx hb dX12_process_1 (by decide) (fun c_1 => ?_) (fun c_1 => ?_)
  · refine lv_iconst (v := (-1)) hx hb dX12_process_10 (by decide) ?_
    refine W.widen (k := 0) (n := 0) (by decide +kernel) (by decide +kernel) ?_
    exact W.iret (v := (-1)) hx hb hr (fun t ht hW => ⟨⟨(-1), (), rfl, Or.inl ⟨c_1, rfl⟩, trivial⟩, hS.F ht⟩) hS.2.2 dX12_process_11
  · refine lv_iload_n hx hb dX12_process_4 rfl (lv_at hl 2 rfl) ?_
    refine lv_bipush (v := 7) hx hb dX12_process_5 (by decide) ?_
    refine lv_icmp_le (tgt := 12) hx hb dX12_process_7 (by decide) (fun c_2 => ?_) (fun c_2 => ?_)
    · refine lv_aload_n hx hb dX12_process_12 rfl (lv_at hl 0 rfl) ?_
      refine lv_iload_n hx hb dX12_process_13 rfl (lv_at hl 1 rfl) ?_
      have hPc := hP.sub (ws' := [(c0, .inr (13, [.ref c4, .int 0, .int 0, .ref c5, .ref c6, .ref c7, .ref c1, .ref c8, .ref c9, .ref c10, .int 0, .ref c11])), (c1, .inr (12, [.ref c12, .ref c13, .ref c14, .ref c15, .ref c16, .ref c17, .int 0, .ref c18, .ref c19, .int 0, .int 0, .int 0, .int 0, .int 0, .int 0, .int 0]))]) [0, 1] rfl
      have hDc := hD.sub (ws' := [(c0, .inr (13, [.ref c4, .int 0, .int 0, .ref c5, .ref c6, .ref c7, .ref c1, .ref c8, .ref c9, .ref c10, .int 0, .ref c11])), (c1, .inr (12, [.ref c12, .ref c13, .ref c14, .ref c15, .ref c16, .ref c17, .int 0, .ref c18, .ref c19, .int 0, .int 0, .int 0, .int 0, .int 0, .int 0, .int 0]))]) [0, 1] (by decide) rfl
      have hKc := hK.sub (tys' := []) [] rfl
      have hFc := va_free (wc := [(c0, .inr (13, [.ref c4, .int 0, .int 0, .ref c5, .ref c6, .ref c7, .ref c1, .ref c8, .ref c9, .ref c10, .int 0, .ref c11])), (c1, .inr (12, [.ref c12, .ref c13, .ref c14, .ref c15, .ref c16, .ref c17, .int 0, .ref c18, .ref c19, .int 0, .int 0, .int 0, .int 0, .int 0, .int 0, .int 0]))]) hD hS hA [0, 1] rfl
      refine va_calli (va_runV (As := [.int c2]) (rest := []) ⟨hx, hb, hml, hown, hts⟩ (k_X12_isThere l hlt dC dI c0 c1 c2 c4 c5 c6 c7 c8 c9 c10 c11 c12 c13 c14 c15 c16 c17 c18 c19  s.heap.size) (cwV 1 hts gi_k_X12_process_0 rfl rfl rfl (by decide +kernel) ⟨Nat.le_of_ble_eq_true rfl, Nat.le_of_ble_eq_true rfl⟩) ⟨fun a U g mk q => by obtain ⟨q0, q1, qP, qK, qD, qN⟩ := q; exact ⟨q0, q1, qP, va_K.moved (u := U) (U := U.calling g mk a) (Vm.Alike.refl U.vm) qK, qD, nv_same rfl rfl qN⟩, va_recv hKc hPc (ci := 13) (q0 := 0) rfl rfl, fun U hU hW => ⟨rfl, by rw [hU], by rw [hU]; exact hPc, va_K.moved hW.alike hKc, hDc.weaken (fun _ _ _ _ => trivial), nv_call hS hFc hU hW hN⟩⟩ rfl rfl hl.1 rfl (lv_room (Nat.le_of_ble_eq_true rfl)) dX12_process_14 ⟨by decide +kernel, by decide +kernel⟩) hS (fun q _ h => hFc q h) hFc (fun r1 u t H1 locs ht hvm hw hB hz1 hk1 hS => ?_)
      obtain ⟨hP1, hK1, hD1⟩ := hB
      rw [ht] at hP1
      have hK1 := va_K.moved hvm.symm hK1
      obtain rfl : r1 = 0 := hw
      obtain ⟨hP, hD⟩ := va_join (wr := []) (w1 := [(c0, .inr (13, [.ref c4, .int 0, .int 0, .ref c5, .ref c6, .ref c7, .ref c1, .ref c8, .ref c9, .ref c10, .int 0, .ref c11])), (c1, .inr (12, [.ref c12, .ref c13, .ref c14, .ref c15, .ref c16, .ref c17, .int 0, .ref c18, .ref c19, .int 0, .int 0, .int 0, .int 0, .int 0, .int 0, .int 0]))]) hP hD [0, 1] [] rfl rfl (by decide) (by decide) hk1 hFc hP1 hD1
      have hK := (hK.sub (tys' := []) [] rfl).app hK1
      generalize H1 = H at hP hS ⊢
      have hP : va_P (dC, dI) vwCl [(c0, .inr (13, [.ref c4, .int 0, .int 0, .ref c5, .ref c6, .ref c7, .ref c1, .ref c8, .ref c9, .ref c10, .int 0, .ref c11])), (c1, .inr (12, [.ref c12, .ref c13, .ref c14, .ref c15, .ref c16, .ref c17, .int 0, .ref c18, .ref c19, .int 0, .int 0, .int 0, .int 0, .int 0, .int 0, .int 0]))] H := hP
      have hD : va_D A [(c0, .inr (13, [.ref c4, .int 0, .int 0, .ref c5, .ref c6, .ref c7, .ref c1, .ref c8, .ref c9, .ref c10, .int 0, .ref c11])), (c1, .inr (12, [.ref c12, .ref c13, .ref c14, .ref c15, .ref c16, .ref c17, .int 0, .ref c18, .ref c19, .int 0, .int 0, .int 0, .int 0, .int 0, .int 0, .int 0]))] := hD
      have hK : va_K (dC, dI) vwCl [] s := hK
      refine W.widen (k := 0) (n := 0) (by decide +kernel) (by decide +kernel) ?_
      refine lv_if_ne (tgt := 37) hx hb dX12_process_17 (by decide) (fun h9 => absurd h9 (by decide)) (fun _ => ?_)
      refine lv_iload_n hx hb dX12_process_20 rfl (lv_at hl 2 rfl) ?_
      refine lv_iconst (v := 1) hx hb dX12_process_21 (by decide) ?_
      refine lv_icmp_eq (tgt := 31) hx hb dX12_process_22 (by decide) (fun c_3 => ?_) (fun c_3 => ?_)
      · refine lv_iconst (v := (-1)) hx hb dX12_process_31 (by decide) ?_
        refine lv_goto (tgt := 36) hx hb dX12_process_32 (by decide) ?_
        refine W.widen (k := 0) (n := 0) (by decide +kernel) (by decide +kernel) ?_
        exact W.iret (v := (-1)) hx hb hr (fun t ht hW => ⟨⟨(-1), (), rfl, Or.inr (Or.inl ⟨c_1, c_2, c_3, rfl⟩), trivial⟩, hS.F ht⟩) hS.2.2 dX12_process_36
      · refine lv_iload_n hx hb dX12_process_25 rfl (lv_at hl 2 rfl) ?_
        refine lv_bipush (v := 7) hx hb dX12_process_26 (by decide) ?_
        refine lv_icmp_ne (tgt := 35) hx hb dX12_process_28 (by decide) (fun c_4 => ?_) (fun c_4 => ?_)
        · refine lv_iconst (v := 0) hx hb dX12_process_35 (by decide) ?_
          refine W.widen (k := 0) (n := 0) (by decide +kernel) (by decide +kernel) ?_
          exact W.iret (v := 0) hx hb hr (fun t ht hW => ⟨⟨0, (), rfl, Or.inr (Or.inr (Or.inl ⟨c_1, c_2, c_3, c_4, rfl⟩)), trivial⟩, hS.F ht⟩) hS.2.2 dX12_process_36
        · refine lv_iconst (v := (-1)) hx hb dX12_process_31 (by decide) ?_
          refine lv_goto (tgt := 36) hx hb dX12_process_32 (by decide) ?_
          refine W.widen (k := 0) (n := 0) (by decide +kernel) (by decide +kernel) ?_
          exact W.iret (v := (-1)) hx hb hr (fun t ht hW => ⟨⟨(-1), (), rfl, Or.inr (Or.inr (Or.inr (Or.inl ⟨c_1, c_2, c_3, c_4, rfl⟩))), trivial⟩, hS.F ht⟩) hS.2.2 dX12_process_36
    · refine lv_iconst (v := (-1)) hx hb dX12_process_10 (by decide) ?_
      refine W.widen (k := 0) (n := 0) (by decide +kernel) (by decide +kernel) ?_
      exact W.iret (v := (-1)) hx hb hr (fun t ht hW => ⟨⟨(-1), (), rfl, Or.inr (Or.inr (Or.inr (Or.inr (Or.inl ⟨c_1, c_2, rfl⟩)))), trivial⟩, hS.F ht⟩) hS.2.2 dX12_process_11
def ow_k_X19_in_v7 : List Cond := .code yX19_in cX19_in 6 (some .boolean) :: ([] ++ [])
theorem gd_k_X19_in_v7 : ∀ w ∈ ow_k_X19_in_v7, (w.onTables && w.keeps) = true ∨ ∃ ty, w = Cond.arrayClass ty := List.forall_mem_cons.mpr ⟨good_of_word rfl, List.forall_mem_append.mpr ⟨fun w h => good_of_word (List.all_eq_true.mp (by decide +kernel) w h), fun _ h => nomatch h⟩⟩
set_option maxHeartbeats 40000000 in
set_option maxRecDepth 100000 in
theorem k_X19_in_v7 (l : Launch) (hlt : l.stackTraces = false) (dC : Nat → ClassId) (dI : Nat → Nat → Nat) (c0 : Int32) (sz : Nat) : Met l yX19_in ow_k_X19_in_v7 ({ frames := 0, cells := 0, slots := 0, locals := 0 }) (va_Pc [.long (c0.toInt64), .long 0, .long 6] (fun U => U.heap.size = sz ∧ va_P (dC, dI) vwCl [] U.heap ∧ va_K (dC, dI) vwCl [] U ∧ va_D (fun _ => True) [] ∧ nv_E (va_A [] sz) U)) (va_Qi (fun r _ => ((c0 < 0) ∧ r = 0) ∨ ((¬ c0 < 0) ∧ (6 < c0) ∧ r = 0) ∨ ((¬ c0 < 0) ∧ (¬ 6 < c0) ∧ r = 1) ∨ False) (fun (_ : Unit) t => va_P (dC, dI) vwCl [] t.heap ∧ va_K (dC, dI) vwCl [] t ∧ va_D (va_A [] sz) []) (va_A [] sz)) 0 0 (va_A [] sz) := by
  refine Met.ofW (cc := cX19_in) (maxL := 6) (ret := (some .boolean)) (by decide) rfl ?_
  intro p e s m args below meth c s₁ B hml hv
  obtain ⟨rfl, hsz, hP, hK, hD0, hN⟩ := hv
  have hx := B.exec
  have hb := B.bytes
  have hr := B.returns
  have hts := atoms_spec (ws := ow_k_X19_in_v7) B.pre
  have hown : s.vm.findClass RX19 = some m.cls := findClass_of_methodNamed B.named
  have hlocks := B.notSynchronized
  subst hsz
  have hD := hD0.self (sz := s.heap.size)
  generalize hAe : va_A [] s.heap.size = A at hD hN ⊢
  have hA : ∀ q : Nat, s.heap.size ≤ q → A q := fun q h => by rw [← hAe]; exact Or.inr h
  have hS : va_S A s.heap s.heap [] := va_S.rf
  have hl := lv_entry ([.long (c0.toInt64), .long 0, .long 6]) (n := 6) (Nat.le_of_ble_eq_true rfl)
  rw [lg_entry_eq]
  generalize (lg_sl ([.long (c0.toInt64), .long 0, .long 6]) ++ List.replicate (6 - (lg_sl ([.long (c0.toInt64), .long 0, .long 6])).length) Slot.unset).toArray = ls at hl ⊢
  have hl : lv_has ls 6 [(0, .long (c0.toInt64)), (2, .long 0), (4, .long 6)] := hl
  refine lv_lload_n hx hb dX19_in_0 rfl (lv_at hl 0 rfl) ?_
  refine lv_lload_n hx hb dX19_in_1 rfl (lv_at hl 1 rfl) ?_
  refine W.lcmp hx hb dX19_in_2 ?_
  refine lv_if_lt (tgt := 17) hx hb dX19_in_3 (by decide) (fun h9 => (fun (c_1 : c0 < 0) => ?_) ((nv_ci_lt (x := c0) (k := 0) (K := 0) (by decide)).mp h9)) (fun h9 => (fun (c_1 : ¬ c0 < 0) => ?_) (fun h8 => h9 ((nv_ci_lt (x := c0) (k := 0) (K := 0) (by decide)).mpr h8)))
  · refine lv_iconst (v := 0) hx hb dX19_in_17 (by decide) ?_
    refine W.widen (k := 0) (n := 0) (by decide +kernel) (by decide +kernel) ?_
    exact W.zret (v := 0) hx hb hr (by first | rfl | decide) (fun t ht hW => ⟨⟨0, (), rfl, Or.inl ⟨c_1, rfl⟩, by rw [ht]; exact hP, va_K.moved hW.alike hK, hD⟩, hS.F ht⟩) hS.2.2 dX19_in_18
  · refine lv_lload_n hx hb dX19_in_6 rfl (lv_at hl 0 rfl) ?_
    refine lv_lload hx hb dX19_in_7 (lv_at hl 2 rfl) ?_
    refine W.lcmp hx hb dX19_in_9 ?_
    refine lv_if_gt (tgt := 17) hx hb dX19_in_10 (by decide) (fun h9 => (fun (c_2 : 6 < c0) => ?_) ((nv_ci_gt (x := c0) (k := 6) (K := 6) (by decide)).mp h9)) (fun h9 => (fun (c_2 : ¬ 6 < c0) => ?_) (fun h8 => h9 ((nv_ci_gt (x := c0) (k := 6) (K := 6) (by decide)).mpr h8)))
    · refine lv_iconst (v := 0) hx hb dX19_in_17 (by decide) ?_
      refine W.widen (k := 0) (n := 0) (by decide +kernel) (by decide +kernel) ?_
      exact W.zret (v := 0) hx hb hr (by first | rfl | decide) (fun t ht hW => ⟨⟨0, (), rfl, Or.inr (Or.inl ⟨c_1, c_2, rfl⟩), by rw [ht]; exact hP, va_K.moved hW.alike hK, hD⟩, hS.F ht⟩) hS.2.2 dX19_in_18
    · refine lv_iconst (v := 1) hx hb dX19_in_13 (by decide) ?_
      refine lv_goto (tgt := 18) hx hb dX19_in_14 (by decide) ?_
      refine W.widen (k := 0) (n := 0) (by decide +kernel) (by decide +kernel) ?_
      exact W.zret (v := 1) hx hb hr (by first | rfl | decide) (fun t ht hW => ⟨⟨1, (), rfl, Or.inr (Or.inr (Or.inl ⟨c_1, c_2, rfl⟩)), by rw [ht]; exact hP, va_K.moved hW.alike hK, hD⟩, hS.F ht⟩) hS.2.2 dX19_in_18
def ow_k_X19_process : List Cond := .code yX19_process cX19_process 3 (some .int) :: ([.methodLink RX19 315 yX19_shows, .instanceMethod yX19_shows, .selects RX19 yX19_shows yX19_shows, .initialized RX19, .constantLong RX19 325 (6), .methodLink RX19 126 yX19_in, .static yX19_in] ++ (ow_k_X19_shows ++ (ow_k_X19_in_v7 ++ [])))
theorem gd_k_X19_process : ∀ w ∈ ow_k_X19_process, (w.onTables && w.keeps) = true ∨ ∃ ty, w = Cond.arrayClass ty := List.forall_mem_cons.mpr ⟨good_of_word rfl, List.forall_mem_append.mpr ⟨fun w h => good_of_word (List.all_eq_true.mp (by decide +kernel) w h), List.forall_mem_append.mpr ⟨gd_k_X19_shows, List.forall_mem_append.mpr ⟨gd_k_X19_in_v7, fun _ h => nomatch h⟩⟩⟩⟩
theorem gi_k_X19_process_0 : GoodIn ow_k_X19_process (wsV RX19 315 RX19 yX19_shows ow_k_X19_shows) := goodIn_app (goodIn_of _ (by decide +kernel)) (fun w h => ⟨List.mem_cons_of_mem _ (List.mem_append_right _ (List.mem_append_left _ h)), gd_k_X19_shows w h⟩)
theorem gi_k_X19_process_1 : GoodIn ow_k_X19_process (wsS RX19 126 yX19_in ow_k_X19_in_v7) := goodIn_app (goodIn_of _ (by decide +kernel)) (fun w h => ⟨List.mem_cons_of_mem _ (List.mem_append_right _ (List.mem_append_right _ (List.mem_append_left _ h))), gd_k_X19_in_v7 w h⟩)
set_option maxHeartbeats 40000000 in
set_option maxRecDepth 100000 in
theorem k_X19_process (l : Launch) (hlt : l.stackTraces = false) (dC : Nat → ClassId) (dI : Nat → Nat → Nat) (c0 : Nat) (c1 : Int32) (c2 : Int32) (c3 : Nat) (c4 : Nat) (c5 : Nat) (c6 : Nat) (c7 : Nat) (c8 : Nat) (c9 : Nat) (c10 : Nat) (c11 : Nat) (c12 : Nat) (c13 : Nat) (c14 : Nat) (c15 : Nat) (c16 : Nat) (c17 : Nat) (c18 : Nat) (c19 : Nat) (c20 : Nat) (c21 : Nat) (c22 : Nat) (c23 : Nat) (c24 : Nat) (c25 : Nat) (sz : Nat) : Met l yX19_process ow_k_X19_process ({ frames := 1, cells := 0, slots := 0, locals := 25 }) (va_Pc [.ref c0, .int c1, .int c2] (fun U => U.heap.size = sz ∧ va_P (dC, dI) vwCl [(c0, .inr (20, [.int 0, .ref c3, .int 0, .int 0, .ref c4, .ref c5, .ref c6, .ref c7, .ref c8, .ref c9, .ref c10, .ref c11, .ref c12, .ref c13, .ref c14, .ref c15, .ref c16, .int 0, .int 0, .int 0, .int 0, .int 0, .int 0, .int 0, .int 0, .int 0, .ref c17, .ref c18, .ref c19, .ref c20, .ref c21, .ref c22, .ref c23, .ref c24, .ref c25, .int 0]))] U.heap ∧ va_K (dC, dI) vwCl [] U ∧ va_D (fun _ => True) [(c0, .inr (20, [.int 0, .ref c3, .int 0, .int 0, .ref c4, .ref c5, .ref c6, .ref c7, .ref c8, .ref c9, .ref c10, .ref c11, .ref c12, .ref c13, .ref c14, .ref c15, .ref c16, .int 0, .int 0, .int 0, .int 0, .int 0, .int 0, .int 0, .int 0, .int 0, .ref c17, .ref c18, .ref c19, .ref c20, .ref c21, .ref c22, .ref c23, .ref c24, .ref c25, .int 0]))] ∧ nv_E (va_A [(c0, .inr (20, [.int 0, .ref c3, .int 0, .int 0, .ref c4, .ref c5, .ref c6, .ref c7, .ref c8, .ref c9, .ref c10, .ref c11, .ref c12, .ref c13, .ref c14, .ref c15, .ref c16, .int 0, .int 0, .int 0, .int 0, .int 0, .int 0, .int 0, .int 0, .int 0, .ref c17, .ref c18, .ref c19, .ref c20, .ref c21, .ref c22, .ref c23, .ref c24, .ref c25, .int 0]))] sz) U)) (va_Qi (fun r _ => ((c2 = 1) ∧ r = (-1)) ∨ ((¬ c2 = 1) ∧ (c2 < 0) ∧ r = (-1)) ∨ ((¬ c2 = 1) ∧ (¬ c2 < 0) ∧ (6 < c2) ∧ r = (-1)) ∨ ((¬ c2 = 1) ∧ (¬ c2 < 0) ∧ (¬ 6 < c2) ∧ r = 0) ∨ False) (fun (_ : Unit) t => True) (va_A [(c0, .inr (20, [.int 0, .ref c3, .int 0, .int 0, .ref c4, .ref c5, .ref c6, .ref c7, .ref c8, .ref c9, .ref c10, .ref c11, .ref c12, .ref c13, .ref c14, .ref c15, .ref c16, .int 0, .int 0, .int 0, .int 0, .int 0, .int 0, .int 0, .int 0, .int 0, .ref c17, .ref c18, .ref c19, .ref c20, .ref c21, .ref c22, .ref c23, .ref c24, .ref c25, .int 0]))] sz)) 0 0 (va_A [(c0, .inr (20, [.int 0, .ref c3, .int 0, .int 0, .ref c4, .ref c5, .ref c6, .ref c7, .ref c8, .ref c9, .ref c10, .ref c11, .ref c12, .ref c13, .ref c14, .ref c15, .ref c16, .int 0, .int 0, .int 0, .int 0, .int 0, .int 0, .int 0, .int 0, .int 0, .ref c17, .ref c18, .ref c19, .ref c20, .ref c21, .ref c22, .ref c23, .ref c24, .ref c25, .int 0]))] sz) := by
  refine Met.ofW (cc := cX19_process) (maxL := 3) (ret := (some .int)) (by decide) rfl ?_
  intro p e s m args below meth c s₁ B hml hv
  obtain ⟨rfl, hsz, hP, hK, hD0, hN⟩ := hv
  have hx := B.exec
  have hb := B.bytes
  have hr := B.returns
  have hts := atoms_spec (ws := ow_k_X19_process) B.pre
  have hown : s.vm.findClass RX19 = some m.cls := findClass_of_methodNamed B.named
  have hlocks := B.notSynchronized
  subst hsz
  have hD := hD0.self (sz := s.heap.size)
  generalize hAe : va_A [(c0, .inr (20, [.int 0, .ref c3, .int 0, .int 0, .ref c4, .ref c5, .ref c6, .ref c7, .ref c8, .ref c9, .ref c10, .ref c11, .ref c12, .ref c13, .ref c14, .ref c15, .ref c16, .int 0, .int 0, .int 0, .int 0, .int 0, .int 0, .int 0, .int 0, .int 0, .ref c17, .ref c18, .ref c19, .ref c20, .ref c21, .ref c22, .ref c23, .ref c24, .ref c25, .int 0]))] s.heap.size = A at hD hN ⊢
  have hA : ∀ q : Nat, s.heap.size ≤ q → A q := fun q h => by rw [← hAe]; exact Or.inr h
  have hS : va_S A s.heap s.heap [] := va_S.rf
  have hl := lv_entry ([.ref c0, .int c1, .int c2]) (n := 3) (Nat.le_of_ble_eq_true rfl)
  rw [lg_entry_eq]
  generalize (lg_sl ([.ref c0, .int c1, .int c2]) ++ List.replicate (3 - (lg_sl ([.ref c0, .int c1, .int c2])).length) Slot.unset).toArray = ls at hl ⊢
  have hl : lv_has ls 3 [(0, .ref c0), (1, .int c1), (2, .int c2)] := hl
  refine lv_aload_n hx hb dX19_process_0 rfl (lv_at hl 0 rfl) ?_
  have hPc := hP.sub (ws' := [(c0, .inr (20, [.int 0, .ref c3, .int 0, .int 0, .ref c4, .ref c5, .ref c6, .ref c7, .ref c8, .ref c9, .ref c10, .ref c11, .ref c12, .ref c13, .ref c14, .ref c15, .ref c16, .int 0, .int 0, .int 0, .int 0, .int 0, .int 0, .int 0, .int 0, .int 0, .ref c17, .ref c18, .ref c19, .ref c20, .ref c21, .ref c22, .ref c23, .ref c24, .ref c25, .int 0]))]) [0] rfl
  have hDc := hD.sub (ws' := [(c0, .inr (20, [.int 0, .ref c3, .int 0, .int 0, .ref c4, .ref c5, .ref c6, .ref c7, .ref c8, .ref c9, .ref c10, .ref c11, .ref c12, .ref c13, .ref c14, .ref c15, .ref c16, .int 0, .int 0, .int 0, .int 0, .int 0, .int 0, .int 0, .int 0, .int 0, .ref c17, .ref c18, .ref c19, .ref c20, .ref c21, .ref c22, .ref c23, .ref c24, .ref c25, .int 0]))]) [0] (by decide) rfl
  have hKc := hK.sub (tys' := []) [] rfl
  have hFc := va_free (wc := [(c0, .inr (20, [.int 0, .ref c3, .int 0, .int 0, .ref c4, .ref c5, .ref c6, .ref c7, .ref c8, .ref c9, .ref c10, .ref c11, .ref c12, .ref c13, .ref c14, .ref c15, .ref c16, .int 0, .int 0, .int 0, .int 0, .int 0, .int 0, .int 0, .int 0, .int 0, .ref c17, .ref c18, .ref c19, .ref c20, .ref c21, .ref c22, .ref c23, .ref c24, .ref c25, .int 0]))]) hD hS hA [0] rfl
  refine va_calli (va_runV (As := []) (rest := []) ⟨hx, hb, hml, hown, hts⟩ (k_X19_shows l hlt dC dI c0 c3 c4 c5 c6 c7 c8 c9 c10 c11 c12 c13 c14 c15 c16 c17 c18 c19 c20 c21 c22 c23 c24 c25  s.heap.size) (cwV 0 hts gi_k_X19_process_0 rfl rfl rfl (by decide +kernel) ⟨Nat.le_of_ble_eq_true rfl, Nat.le_of_ble_eq_true rfl⟩) ⟨fun a U g mk q => by obtain ⟨q0, q1, qP, qK, qD, qN⟩ := q; exact ⟨q0, q1, qP, va_K.moved (u := U) (U := U.calling g mk a) (Vm.Alike.refl U.vm) qK, qD, nv_same rfl rfl qN⟩, va_recv hKc hPc (ci := 20) (q0 := 0) rfl rfl, fun U hU hW => ⟨rfl, by rw [hU], by rw [hU]; exact hPc, va_K.moved hW.alike hKc, hDc.weaken (fun _ _ _ _ => trivial), nv_call hS hFc hU hW hN⟩⟩ rfl rfl hl.1 rfl (lv_room (Nat.le_of_ble_eq_true rfl)) dX19_process_1 ⟨by decide +kernel, by decide +kernel⟩) hS (fun q _ h => hFc q h) hFc (fun r1 u t H1 locs ht hvm hw hB hz1 hk1 hS => ?_)
  obtain ⟨hP1, hK1, hD1⟩ := hB
  rw [ht] at hP1
  have hK1 := va_K.moved hvm.symm hK1
  obtain rfl : r1 = 0 := hw
  obtain ⟨hP, hD⟩ := va_join (wr := []) (w1 := [(c0, .inr (20, [.int 0, .ref c3, .int 0, .int 0, .ref c4, .ref c5, .ref c6, .ref c7, .ref c8, .ref c9, .ref c10, .ref c11, .ref c12, .ref c13, .ref c14, .ref c15, .ref c16, .int 0, .int 0, .int 0, .int 0, .int 0, .int 0, .int 0, .int 0, .int 0, .ref c17, .ref c18, .ref c19, .ref c20, .ref c21, .ref c22, .ref c23, .ref c24, .ref c25, .int 0]))]) hP hD [0] [] rfl rfl (by decide) (by decide) hk1 hFc hP1 hD1
  have hK := (hK.sub (tys' := []) [] rfl).app hK1
  generalize H1 = H at hP hS ⊢
  have hP : va_P (dC, dI) vwCl [(c0, .inr (20, [.int 0, .ref c3, .int 0, .int 0, .ref c4, .ref c5, .ref c6, .ref c7, .ref c8, .ref c9, .ref c10, .ref c11, .ref c12, .ref c13, .ref c14, .ref c15, .ref c16, .int 0, .int 0, .int 0, .int 0, .int 0, .int 0, .int 0, .int 0, .int 0, .ref c17, .ref c18, .ref c19, .ref c20, .ref c21, .ref c22, .ref c23, .ref c24, .ref c25, .int 0]))] H := hP
  have hD : va_D A [(c0, .inr (20, [.int 0, .ref c3, .int 0, .int 0, .ref c4, .ref c5, .ref c6, .ref c7, .ref c8, .ref c9, .ref c10, .ref c11, .ref c12, .ref c13, .ref c14, .ref c15, .ref c16, .int 0, .int 0, .int 0, .int 0, .int 0, .int 0, .int 0, .int 0, .int 0, .ref c17, .ref c18, .ref c19, .ref c20, .ref c21, .ref c22, .ref c23, .ref c24, .ref c25, .int 0]))] := hD
  have hK : va_K (dC, dI) vwCl [] s := hK
  refine W.widen (k := 0) (n := 0) (by decide +kernel) (by decide +kernel) ?_
  refine lv_if_eq (tgt := 31) hx hb dX19_process_4 (by decide) (fun _ => ?_) (fun h9 => absurd (by decide) h9)
  refine lv_iload_n hx hb dX19_process_31 rfl (lv_at hl 2 rfl) ?_
  refine lv_iconst (v := 1) hx hb dX19_process_32 (by decide) ?_
  refine lv_icmp_eq (tgt := 48) hx hb dX19_process_33 (by decide) (fun c_1 => ?_) (fun c_1 => ?_)
  · refine lv_iconst (v := (-1)) hx hb dX19_process_48 (by decide) ?_
    refine lv_goto (tgt := 53) hx hb dX19_process_49 (by decide) ?_
    refine W.widen (k := 0) (n := 0) (by decide +kernel) (by decide +kernel) ?_
    exact W.iret (v := (-1)) hx hb hr (fun t ht hW => ⟨⟨(-1), (), rfl, Or.inl ⟨c_1, rfl⟩, trivial⟩, hS.F ht⟩) hS.2.2 dX19_process_53
  · refine lv_iload_n hx hb dX19_process_36 rfl (lv_at hl 2 rfl) ?_
    refine lv_i2l hx hb dX19_process_37 rfl ?_
    refine lv_lconst (v := 0) hx hb dX19_process_38 (by decide) ?_
    refine lv_ldc2 hx hb hown (hts (.constantLong RX19 325 (6)) (List.mem_of_getElem? (i := 5) rfl)) dX19_process_39 ?_
    have hPc := hP.sub (ws' := []) [] rfl
    have hDc := hD.sub (ws' := []) [] (by decide) rfl
    have hKc := hK.sub (tys' := []) [] rfl
    have hFc := va_free (wc := []) hD hS hA [] rfl
    refine va_calli (va_runS (As := [.long (c2.toInt64), .long 0, .long 6]) (rest := []) ⟨hx, hb, hml, hown, hts⟩ (k_X19_in_v7 l hlt dC dI c2  H.size) (cwS 3 hts gi_k_X19_process_1 rfl rfl rfl (by decide +kernel) ⟨Nat.le_of_ble_eq_true rfl, Nat.le_of_ble_eq_true rfl⟩) ⟨fun a U g mk q => by obtain ⟨q0, q1, qP, qK, qD, qN⟩ := q; exact ⟨q0, q1, qP, va_K.moved (u := U) (U := U.calling g mk a) (Vm.Alike.refl U.vm) qK, qD, nv_same rfl rfl qN⟩, fun U hU hW => ⟨rfl, by rw [hU], by rw [hU]; exact hPc, va_K.moved hW.alike hKc, hDc.weaken (fun _ _ _ _ => trivial), nv_call hS hFc hU hW hN⟩⟩ rfl rfl hl.1 rfl (lv_room (Nat.le_of_ble_eq_true rfl)) dX19_process_42 ⟨by decide +kernel, by decide +kernel⟩) hS (fun q _ h => hFc q h) hFc (fun r2 u t H1 locs ht hvm hw hB hz1 hk1 hS => ?_)
    obtain ⟨hP1, hK1, hD1⟩ := hB
    rw [ht] at hP1
    have hK1 := va_K.moved hvm.symm hK1
    obtain ⟨hP, hD⟩ := va_join (wr := [(c0, .inr (20, [.int 0, .ref c3, .int 0, .int 0, .ref c4, .ref c5, .ref c6, .ref c7, .ref c8, .ref c9, .ref c10, .ref c11, .ref c12, .ref c13, .ref c14, .ref c15, .ref c16, .int 0, .int 0, .int 0, .int 0, .int 0, .int 0, .int 0, .int 0, .int 0, .ref c17, .ref c18, .ref c19, .ref c20, .ref c21, .ref c22, .ref c23, .ref c24, .ref c25, .int 0]))]) (w1 := []) hP hD [] [0] rfl rfl (by decide) (by decide) hk1 hFc hP1 hD1
    have hK := (hK.sub (tys' := []) [] rfl).app hK1
    generalize H1 = H at hP hS ⊢
    have hP : va_P (dC, dI) vwCl [(c0, .inr (20, [.int 0, .ref c3, .int 0, .int 0, .ref c4, .ref c5, .ref c6, .ref c7, .ref c8, .ref c9, .ref c10, .ref c11, .ref c12, .ref c13, .ref c14, .ref c15, .ref c16, .int 0, .int 0, .int 0, .int 0, .int 0, .int 0, .int 0, .int 0, .int 0, .ref c17, .ref c18, .ref c19, .ref c20, .ref c21, .ref c22, .ref c23, .ref c24, .ref c25, .int 0]))] H := hP
    have hD : va_D A [(c0, .inr (20, [.int 0, .ref c3, .int 0, .int 0, .ref c4, .ref c5, .ref c6, .ref c7, .ref c8, .ref c9, .ref c10, .ref c11, .ref c12, .ref c13, .ref c14, .ref c15, .ref c16, .int 0, .int 0, .int 0, .int 0, .int 0, .int 0, .int 0, .int 0, .int 0, .ref c17, .ref c18, .ref c19, .ref c20, .ref c21, .ref c22, .ref c23, .ref c24, .ref c25, .int 0]))] := hD
    have hK : va_K (dC, dI) vwCl [] s := hK
    refine W.widen (k := 0) (n := 0) (by decide +kernel) (by decide +kernel) ?_
    rcases hw with ⟨c_2_0, h9⟩ | ⟨c_2_0, c_2_1, h9⟩ | ⟨c_2_0, c_2_1, h9⟩ | h9
    · subst h9
      refine lv_if_ne (tgt := 52) hx hb dX19_process_45 (by decide) (fun h9 => absurd h9 (by decide)) (fun _ => ?_)
      refine lv_iconst (v := (-1)) hx hb dX19_process_48 (by decide) ?_
      refine lv_goto (tgt := 53) hx hb dX19_process_49 (by decide) ?_
      refine W.widen (k := 0) (n := 0) (by decide +kernel) (by decide +kernel) ?_
      exact W.iret (v := (-1)) hx hb hr (fun t ht hW => ⟨⟨(-1), (), rfl, Or.inr (Or.inl ⟨c_1, c_2_0, rfl⟩), trivial⟩, hS.F ht⟩) hS.2.2 dX19_process_53
    · subst h9
      refine lv_if_ne (tgt := 52) hx hb dX19_process_45 (by decide) (fun h9 => absurd h9 (by decide)) (fun _ => ?_)
      refine lv_iconst (v := (-1)) hx hb dX19_process_48 (by decide) ?_
      refine lv_goto (tgt := 53) hx hb dX19_process_49 (by decide) ?_
      refine W.widen (k := 0) (n := 0) (by decide +kernel) (by decide +kernel) ?_
      exact W.iret (v := (-1)) hx hb hr (fun t ht hW => ⟨⟨(-1), (), rfl, Or.inr (Or.inr (Or.inl ⟨c_1, c_2_0, c_2_1, rfl⟩)), trivial⟩, hS.F ht⟩) hS.2.2 dX19_process_53
    · subst h9
      refine lv_if_ne (tgt := 52) hx hb dX19_process_45 (by decide) (fun _ => ?_) (fun h9 => absurd h9 (by decide))
      refine lv_iconst (v := 0) hx hb dX19_process_52 (by decide) ?_
      refine W.widen (k := 0) (n := 0) (by decide +kernel) (by decide +kernel) ?_
      exact W.iret (v := 0) hx hb hr (fun t ht hW => ⟨⟨0, (), rfl, Or.inr (Or.inr (Or.inr (Or.inl ⟨c_1, c_2_0, c_2_1, rfl⟩))), trivial⟩, hS.F ht⟩) hS.2.2 dX19_process_53
    · exact h9.elim
def ow_k_X12_peek : List Cond := .code yX12_peek cX12_peek 4 (some .int) :: ([.fieldLink RX12 33 "TimeMachine" "timeline" "LTimeMachine$Timeline;", .fieldLink RX12 192 "TimeMachine$Timeline" "machine" "LTimeMachine$Machine;", .methodLink RX12 208 yX12_isThere, .instanceMethod yX12_isThere, .selects RX12 yX12_isThere yX12_isThere, .initialized RX12] ++ (u_ws RX12 TX12 12 ++ (u_ws RX11 TX11 16 ++ (ow_k_X12_isThere ++ []))))
theorem gd_k_X12_peek : ∀ w ∈ ow_k_X12_peek, (w.onTables && w.keeps) = true ∨ ∃ ty, w = Cond.arrayClass ty := List.forall_mem_cons.mpr ⟨good_of_word rfl, List.forall_mem_append.mpr ⟨fun w h => good_of_word (List.all_eq_true.mp (by decide +kernel) w h), List.forall_mem_append.mpr ⟨gu_X12, List.forall_mem_append.mpr ⟨gu_X11, List.forall_mem_append.mpr ⟨gd_k_X12_isThere, fun _ h => nomatch h⟩⟩⟩⟩⟩
theorem hi_k_X12_peek_X12 : ∀ w ∈ u_ws RX12 TX12 12, w ∈ ow_k_X12_peek := fun w h => List.mem_cons_of_mem _ (List.mem_append_right _ (List.mem_append_left _ h))
theorem hi_k_X12_peek_X11 : ∀ w ∈ u_ws RX11 TX11 16, w ∈ ow_k_X12_peek := fun w h => List.mem_cons_of_mem _ (List.mem_append_right _ (List.mem_append_right _ (List.mem_append_left _ h)))
theorem gi_k_X12_peek_0 : GoodIn ow_k_X12_peek (wsV RX12 208 RX12 yX12_isThere ow_k_X12_isThere) := goodIn_app (goodIn_of _ (by decide +kernel)) (fun w h => ⟨List.mem_cons_of_mem _ (List.mem_append_right _ (List.mem_append_right _ (List.mem_append_right _ (List.mem_append_left _ h)))), gd_k_X12_isThere w h⟩)
set_option maxHeartbeats 40000000 in
set_option maxRecDepth 100000 in
theorem k_X12_peek (l : Launch) (hlt : l.stackTraces = false) (dC : Nat → ClassId) (dI : Nat → Nat → Nat) (c0 : Nat) (c1 : Nat) (c2 : Int32) (c3 : Int32) (c4 : Nat) (c5 : Nat) (c6 : Nat) (c7 : Nat) (c8 : Nat) (c9 : Nat) (c10 : Nat) (c11 : Nat) (c12 : Nat) (c13 : Nat) (c14 : Nat) (c15 : Nat) (c16 : Nat) (c17 : Nat) (c18 : Nat) (c19 : Nat) (sz : Nat) : Met l yX12_peek ow_k_X12_peek ({ frames := 1, cells := 0, slots := 0, locals := 21 }) (va_Pc [.ref c0, .int c2, .int c3] (fun U => U.heap.size = sz ∧ va_P (dC, dI) vwCl [(c0, .inr (13, [.ref c4, .int 0, .int 0, .ref c5, .ref c6, .ref c7, .ref c1, .ref c8, .ref c9, .ref c10, .int 0, .ref c11])), (c1, .inr (12, [.ref c12, .ref c13, .ref c14, .ref c15, .ref c16, .ref c17, .int 0, .ref c18, .ref c19, .int 0, .int 0, .int 0, .int 0, .int 0, .int 0, .int 0]))] U.heap ∧ va_K (dC, dI) vwCl [] U ∧ va_D (fun _ => True) [(c0, .inr (13, [.ref c4, .int 0, .int 0, .ref c5, .ref c6, .ref c7, .ref c1, .ref c8, .ref c9, .ref c10, .int 0, .ref c11])), (c1, .inr (12, [.ref c12, .ref c13, .ref c14, .ref c15, .ref c16, .ref c17, .int 0, .ref c18, .ref c19, .int 0, .int 0, .int 0, .int 0, .int 0, .int 0, .int 0]))] ∧ nv_E (va_A [(c0, .inr (13, [.ref c4, .int 0, .int 0, .ref c5, .ref c6, .ref c7, .ref c1, .ref c8, .ref c9, .ref c10, .int 0, .ref c11])), (c1, .inr (12, [.ref c12, .ref c13, .ref c14, .ref c15, .ref c16, .ref c17, .int 0, .ref c18, .ref c19, .int 0, .int 0, .int 0, .int 0, .int 0, .int 0, .int 0]))] sz) U)) (va_Qi (fun r _ => r = (-1)) (fun (_ : Unit) t => va_P (dC, dI) vwCl [(c0, .inr (13, [.ref c4, .int 0, .int 0, .ref c5, .ref c6, .ref c7, .ref c1, .ref c8, .ref c9, .ref c10, .int 0, .ref c11])), (c1, .inr (12, [.ref c12, .ref c13, .ref c14, .ref c15, .ref c16, .ref c17, .int 0, .ref c18, .ref c19, .int 0, .int 0, .int 0, .int 0, .int 0, .int 0, .int 0]))] t.heap ∧ va_K (dC, dI) vwCl [] t ∧ va_D (va_A [(c0, .inr (13, [.ref c4, .int 0, .int 0, .ref c5, .ref c6, .ref c7, .ref c1, .ref c8, .ref c9, .ref c10, .int 0, .ref c11])), (c1, .inr (12, [.ref c12, .ref c13, .ref c14, .ref c15, .ref c16, .ref c17, .int 0, .ref c18, .ref c19, .int 0, .int 0, .int 0, .int 0, .int 0, .int 0, .int 0]))] sz) [(c0, .inr (13, [.ref c4, .int 0, .int 0, .ref c5, .ref c6, .ref c7, .ref c1, .ref c8, .ref c9, .ref c10, .int 0, .ref c11])), (c1, .inr (12, [.ref c12, .ref c13, .ref c14, .ref c15, .ref c16, .ref c17, .int 0, .ref c18, .ref c19, .int 0, .int 0, .int 0, .int 0, .int 0, .int 0, .int 0]))]) (va_A [(c0, .inr (13, [.ref c4, .int 0, .int 0, .ref c5, .ref c6, .ref c7, .ref c1, .ref c8, .ref c9, .ref c10, .int 0, .ref c11])), (c1, .inr (12, [.ref c12, .ref c13, .ref c14, .ref c15, .ref c16, .ref c17, .int 0, .ref c18, .ref c19, .int 0, .int 0, .int 0, .int 0, .int 0, .int 0, .int 0]))] sz)) 0 0 (va_A [(c0, .inr (13, [.ref c4, .int 0, .int 0, .ref c5, .ref c6, .ref c7, .ref c1, .ref c8, .ref c9, .ref c10, .int 0, .ref c11])), (c1, .inr (12, [.ref c12, .ref c13, .ref c14, .ref c15, .ref c16, .ref c17, .int 0, .ref c18, .ref c19, .int 0, .int 0, .int 0, .int 0, .int 0, .int 0, .int 0]))] sz) := by
  refine Met.ofW (cc := cX12_peek) (maxL := 4) (ret := (some .int)) (by decide) rfl ?_
  intro p e s m args below meth c s₁ B hml hv
  obtain ⟨rfl, hsz, hP, hK, hD0, hN⟩ := hv
  have hx := B.exec
  have hb := B.bytes
  have hr := B.returns
  have hts := atoms_spec (ws := ow_k_X12_peek) B.pre
  have hown : s.vm.findClass RX12 = some m.cls := findClass_of_methodNamed B.named
  have hlocks := B.notSynchronized
  subst hsz
  have hD := hD0.self (sz := s.heap.size)
  generalize hAe : va_A [(c0, .inr (13, [.ref c4, .int 0, .int 0, .ref c5, .ref c6, .ref c7, .ref c1, .ref c8, .ref c9, .ref c10, .int 0, .ref c11])), (c1, .inr (12, [.ref c12, .ref c13, .ref c14, .ref c15, .ref c16, .ref c17, .int 0, .ref c18, .ref c19, .int 0, .int 0, .int 0, .int 0, .int 0, .int 0, .int 0]))] s.heap.size = A at hD hN ⊢
  have hA : ∀ q : Nat, s.heap.size ≤ q → A q := fun q h => by rw [← hAe]; exact Or.inr h
  have hS : va_S A s.heap s.heap [] := va_S.rf
  have hl := lv_entry ([.ref c0, .int c2, .int c3]) (n := 4) (Nat.le_of_ble_eq_true rfl)
  rw [lg_entry_eq]
  generalize (lg_sl ([.ref c0, .int c2, .int c3]) ++ List.replicate (4 - (lg_sl ([.ref c0, .int c2, .int c3])).length) Slot.unset).toArray = ls at hl ⊢
  have hl : lv_has ls 4 [(0, .ref c0), (1, .int c2), (2, .int c3)] := hl
  refine lv_aload_n hx hb dX12_peek_0 rfl (lv_at hl 0 rfl) ?_
  refine va_get (D := (dC, dI)) (ci := 13) (v := .ref c1) (C := RX12) (T := TX12) (N := 12) hx hb hts hi_k_X12_peek_X12 hown hK hP 0 rfl rfl 6 (by decide) (hts (.fieldLink RX12 33 "TimeMachine" "timeline" "LTimeMachine$Timeline;") (List.mem_of_getElem? (i := 1) rfl)) (fun _ h9 => h9) rfl dX12_peek_1 ?_
  refine va_get (D := (dC, dI)) (ci := 12) (v := .ref c15) (C := RX11) (T := TX11) (N := 16) hx hb hts hi_k_X12_peek_X11 hown hK hP 1 rfl rfl 3 (by decide) (hts (.fieldLink RX12 192 "TimeMachine$Timeline" "machine" "LTimeMachine$Machine;") (List.mem_of_getElem? (i := 2) rfl)) (fun _ h9 => h9) rfl dX12_peek_4 ?_
  refine lv_astore_n (lv' := [(3, .ref c15), (0, .ref c0), (1, .int c2), (2, .int c3)]) hx hb dX12_peek_7 rfl hl (by decide) rfl (fun ls hl => ?_)
  refine lv_aload_n hx hb dX12_peek_8 rfl (lv_at hl 1 rfl) ?_
  refine lv_iload_n hx hb dX12_peek_9 rfl (lv_at hl 2 rfl) ?_
  have hPc := hP.sub (ws' := [(c0, .inr (13, [.ref c4, .int 0, .int 0, .ref c5, .ref c6, .ref c7, .ref c1, .ref c8, .ref c9, .ref c10, .int 0, .ref c11])), (c1, .inr (12, [.ref c12, .ref c13, .ref c14, .ref c15, .ref c16, .ref c17, .int 0, .ref c18, .ref c19, .int 0, .int 0, .int 0, .int 0, .int 0, .int 0, .int 0]))]) [0, 1] rfl
  have hDc := hD.sub (ws' := [(c0, .inr (13, [.ref c4, .int 0, .int 0, .ref c5, .ref c6, .ref c7, .ref c1, .ref c8, .ref c9, .ref c10, .int 0, .ref c11])), (c1, .inr (12, [.ref c12, .ref c13, .ref c14, .ref c15, .ref c16, .ref c17, .int 0, .ref c18, .ref c19, .int 0, .int 0, .int 0, .int 0, .int 0, .int 0, .int 0]))]) [0, 1] (by decide) rfl
  have hKc := hK.sub (tys' := []) [] rfl
  have hFc := va_free (wc := [(c0, .inr (13, [.ref c4, .int 0, .int 0, .ref c5, .ref c6, .ref c7, .ref c1, .ref c8, .ref c9, .ref c10, .int 0, .ref c11])), (c1, .inr (12, [.ref c12, .ref c13, .ref c14, .ref c15, .ref c16, .ref c17, .int 0, .ref c18, .ref c19, .int 0, .int 0, .int 0, .int 0, .int 0, .int 0, .int 0]))]) hD hS hA [0, 1] rfl
  refine va_calli (va_runV (As := [.int c2]) (rest := []) ⟨hx, hb, hml, hown, hts⟩ (k_X12_isThere l hlt dC dI c0 c1 c2 c4 c5 c6 c7 c8 c9 c10 c11 c12 c13 c14 c15 c16 c17 c18 c19  s.heap.size) (cwV 1 hts gi_k_X12_peek_0 rfl rfl rfl (by decide +kernel) ⟨Nat.le_of_ble_eq_true rfl, Nat.le_of_ble_eq_true rfl⟩) ⟨fun a U g mk q => by obtain ⟨q0, q1, qP, qK, qD, qN⟩ := q; exact ⟨q0, q1, qP, va_K.moved (u := U) (U := U.calling g mk a) (Vm.Alike.refl U.vm) qK, qD, nv_same rfl rfl qN⟩, va_recv hKc hPc (ci := 13) (q0 := 0) rfl rfl, fun U hU hW => ⟨rfl, by rw [hU], by rw [hU]; exact hPc, va_K.moved hW.alike hKc, hDc.weaken (fun _ _ _ _ => trivial), nv_call hS hFc hU hW hN⟩⟩ rfl rfl hl.1 rfl (lv_room (Nat.le_of_ble_eq_true rfl)) dX12_peek_10 ⟨by decide +kernel, by decide +kernel⟩) hS (fun q _ h => hFc q h) hFc (fun r1 u t H1 locs ht hvm hw hB hz1 hk1 hS => ?_)
  obtain ⟨hP1, hK1, hD1⟩ := hB
  rw [ht] at hP1
  have hK1 := va_K.moved hvm.symm hK1
  obtain rfl : r1 = 0 := hw
  obtain ⟨hP, hD⟩ := va_join (wr := []) (w1 := [(c0, .inr (13, [.ref c4, .int 0, .int 0, .ref c5, .ref c6, .ref c7, .ref c1, .ref c8, .ref c9, .ref c10, .int 0, .ref c11])), (c1, .inr (12, [.ref c12, .ref c13, .ref c14, .ref c15, .ref c16, .ref c17, .int 0, .ref c18, .ref c19, .int 0, .int 0, .int 0, .int 0, .int 0, .int 0, .int 0]))]) hP hD [0, 1] [] rfl rfl (by decide) (by decide) hk1 hFc hP1 hD1
  have hK := (hK.sub (tys' := []) [] rfl).app hK1
  generalize H1 = H at hP hS ⊢
  have hP : va_P (dC, dI) vwCl [(c0, .inr (13, [.ref c4, .int 0, .int 0, .ref c5, .ref c6, .ref c7, .ref c1, .ref c8, .ref c9, .ref c10, .int 0, .ref c11])), (c1, .inr (12, [.ref c12, .ref c13, .ref c14, .ref c15, .ref c16, .ref c17, .int 0, .ref c18, .ref c19, .int 0, .int 0, .int 0, .int 0, .int 0, .int 0, .int 0]))] H := hP
  have hD : va_D A [(c0, .inr (13, [.ref c4, .int 0, .int 0, .ref c5, .ref c6, .ref c7, .ref c1, .ref c8, .ref c9, .ref c10, .int 0, .ref c11])), (c1, .inr (12, [.ref c12, .ref c13, .ref c14, .ref c15, .ref c16, .ref c17, .int 0, .ref c18, .ref c19, .int 0, .int 0, .int 0, .int 0, .int 0, .int 0, .int 0]))] := hD
  have hK : va_K (dC, dI) vwCl [] s := hK
  refine W.widen (k := 0) (n := 0) (by decide +kernel) (by decide +kernel) ?_
  refine lv_if_eq (tgt := 36) hx hb dX12_peek_13 (by decide) (fun _ => ?_) (fun h9 => absurd (by decide) h9)
  refine lv_iconst (v := (-1)) hx hb dX12_peek_36 (by decide) ?_
  have hP9 := hP.sub (ws' := [(c0, .inr (13, [.ref c4, .int 0, .int 0, .ref c5, .ref c6, .ref c7, .ref c1, .ref c8, .ref c9, .ref c10, .int 0, .ref c11])), (c1, .inr (12, [.ref c12, .ref c13, .ref c14, .ref c15, .ref c16, .ref c17, .int 0, .ref c18, .ref c19, .int 0, .int 0, .int 0, .int 0, .int 0, .int 0, .int 0]))]) [0, 1] rfl
  have hD9 := hD.sub (ws' := [(c0, .inr (13, [.ref c4, .int 0, .int 0, .ref c5, .ref c6, .ref c7, .ref c1, .ref c8, .ref c9, .ref c10, .int 0, .ref c11])), (c1, .inr (12, [.ref c12, .ref c13, .ref c14, .ref c15, .ref c16, .ref c17, .int 0, .ref c18, .ref c19, .int 0, .int 0, .int 0, .int 0, .int 0, .int 0, .int 0]))]) [0, 1] (by decide) rfl
  have hK9 := hK.sub (tys' := []) [] rfl
  refine W.widen (k := 0) (n := 0) (by decide +kernel) (by decide +kernel) ?_
  exact W.iret (v := (-1)) hx hb hr (fun t ht hW => ⟨⟨(-1), (), rfl, rfl, by rw [ht]; exact hP9, va_K.moved hW.alike hK9, hD9⟩, hS.F ht⟩) hS.2.2 dX12_peek_37
def ow_k_X19_peek : List Cond := .code yX19_peek cX19_peek 3 (some .int) :: ([.methodLink RX19 315 yX19_shows, .instanceMethod yX19_shows, .selects RX19 yX19_shows yX19_shows, .initialized RX19] ++ (ow_k_X19_shows ++ []))
theorem gd_k_X19_peek : ∀ w ∈ ow_k_X19_peek, (w.onTables && w.keeps) = true ∨ ∃ ty, w = Cond.arrayClass ty := List.forall_mem_cons.mpr ⟨good_of_word rfl, List.forall_mem_append.mpr ⟨fun w h => good_of_word (List.all_eq_true.mp (by decide +kernel) w h), List.forall_mem_append.mpr ⟨gd_k_X19_shows, fun _ h => nomatch h⟩⟩⟩
theorem gi_k_X19_peek_0 : GoodIn ow_k_X19_peek (wsV RX19 315 RX19 yX19_shows ow_k_X19_shows) := goodIn_app (goodIn_of _ (by decide +kernel)) (fun w h => ⟨List.mem_cons_of_mem _ (List.mem_append_right _ (List.mem_append_left _ h)), gd_k_X19_shows w h⟩)
set_option maxHeartbeats 40000000 in
set_option maxRecDepth 100000 in
theorem k_X19_peek (l : Launch) (hlt : l.stackTraces = false) (dC : Nat → ClassId) (dI : Nat → Nat → Nat) (c0 : Nat) (c1 : Int32) (c2 : Int32) (c3 : Nat) (c4 : Nat) (c5 : Nat) (c6 : Nat) (c7 : Nat) (c8 : Nat) (c9 : Nat) (c10 : Nat) (c11 : Nat) (c12 : Nat) (c13 : Nat) (c14 : Nat) (c15 : Nat) (c16 : Nat) (c17 : Nat) (c18 : Nat) (c19 : Nat) (c20 : Nat) (c21 : Nat) (c22 : Nat) (c23 : Nat) (c24 : Nat) (c25 : Nat) (sz : Nat) : Met l yX19_peek ow_k_X19_peek ({ frames := 1, cells := 0, slots := 0, locals := 20 }) (va_Pc [.ref c0, .int c1, .int c2] (fun U => U.heap.size = sz ∧ va_P (dC, dI) vwCl [(c0, .inr (20, [.int 0, .ref c3, .int 0, .int 0, .ref c4, .ref c5, .ref c6, .ref c7, .ref c8, .ref c9, .ref c10, .ref c11, .ref c12, .ref c13, .ref c14, .ref c15, .ref c16, .int 0, .int 0, .int 0, .int 0, .int 0, .int 0, .int 0, .int 0, .int 0, .ref c17, .ref c18, .ref c19, .ref c20, .ref c21, .ref c22, .ref c23, .ref c24, .ref c25, .int 0]))] U.heap ∧ va_K (dC, dI) vwCl [] U ∧ va_D (fun _ => True) [(c0, .inr (20, [.int 0, .ref c3, .int 0, .int 0, .ref c4, .ref c5, .ref c6, .ref c7, .ref c8, .ref c9, .ref c10, .ref c11, .ref c12, .ref c13, .ref c14, .ref c15, .ref c16, .int 0, .int 0, .int 0, .int 0, .int 0, .int 0, .int 0, .int 0, .int 0, .ref c17, .ref c18, .ref c19, .ref c20, .ref c21, .ref c22, .ref c23, .ref c24, .ref c25, .int 0]))] ∧ nv_E (va_A [(c0, .inr (20, [.int 0, .ref c3, .int 0, .int 0, .ref c4, .ref c5, .ref c6, .ref c7, .ref c8, .ref c9, .ref c10, .ref c11, .ref c12, .ref c13, .ref c14, .ref c15, .ref c16, .int 0, .int 0, .int 0, .int 0, .int 0, .int 0, .int 0, .int 0, .int 0, .ref c17, .ref c18, .ref c19, .ref c20, .ref c21, .ref c22, .ref c23, .ref c24, .ref c25, .int 0]))] sz) U)) (va_Qi (fun r _ => r = (-1)) (fun (_ : Unit) t => va_P (dC, dI) vwCl [(c0, .inr (20, [.int 0, .ref c3, .int 0, .int 0, .ref c4, .ref c5, .ref c6, .ref c7, .ref c8, .ref c9, .ref c10, .ref c11, .ref c12, .ref c13, .ref c14, .ref c15, .ref c16, .int 0, .int 0, .int 0, .int 0, .int 0, .int 0, .int 0, .int 0, .int 0, .ref c17, .ref c18, .ref c19, .ref c20, .ref c21, .ref c22, .ref c23, .ref c24, .ref c25, .int 0]))] t.heap ∧ va_K (dC, dI) vwCl [] t ∧ va_D (va_A [(c0, .inr (20, [.int 0, .ref c3, .int 0, .int 0, .ref c4, .ref c5, .ref c6, .ref c7, .ref c8, .ref c9, .ref c10, .ref c11, .ref c12, .ref c13, .ref c14, .ref c15, .ref c16, .int 0, .int 0, .int 0, .int 0, .int 0, .int 0, .int 0, .int 0, .int 0, .ref c17, .ref c18, .ref c19, .ref c20, .ref c21, .ref c22, .ref c23, .ref c24, .ref c25, .int 0]))] sz) [(c0, .inr (20, [.int 0, .ref c3, .int 0, .int 0, .ref c4, .ref c5, .ref c6, .ref c7, .ref c8, .ref c9, .ref c10, .ref c11, .ref c12, .ref c13, .ref c14, .ref c15, .ref c16, .int 0, .int 0, .int 0, .int 0, .int 0, .int 0, .int 0, .int 0, .int 0, .ref c17, .ref c18, .ref c19, .ref c20, .ref c21, .ref c22, .ref c23, .ref c24, .ref c25, .int 0]))]) (va_A [(c0, .inr (20, [.int 0, .ref c3, .int 0, .int 0, .ref c4, .ref c5, .ref c6, .ref c7, .ref c8, .ref c9, .ref c10, .ref c11, .ref c12, .ref c13, .ref c14, .ref c15, .ref c16, .int 0, .int 0, .int 0, .int 0, .int 0, .int 0, .int 0, .int 0, .int 0, .ref c17, .ref c18, .ref c19, .ref c20, .ref c21, .ref c22, .ref c23, .ref c24, .ref c25, .int 0]))] sz)) 0 0 (va_A [(c0, .inr (20, [.int 0, .ref c3, .int 0, .int 0, .ref c4, .ref c5, .ref c6, .ref c7, .ref c8, .ref c9, .ref c10, .ref c11, .ref c12, .ref c13, .ref c14, .ref c15, .ref c16, .int 0, .int 0, .int 0, .int 0, .int 0, .int 0, .int 0, .int 0, .int 0, .ref c17, .ref c18, .ref c19, .ref c20, .ref c21, .ref c22, .ref c23, .ref c24, .ref c25, .int 0]))] sz) := by
  refine Met.ofW (cc := cX19_peek) (maxL := 3) (ret := (some .int)) (by decide) rfl ?_
  intro p e s m args below meth c s₁ B hml hv
  obtain ⟨rfl, hsz, hP, hK, hD0, hN⟩ := hv
  have hx := B.exec
  have hb := B.bytes
  have hr := B.returns
  have hts := atoms_spec (ws := ow_k_X19_peek) B.pre
  have hown : s.vm.findClass RX19 = some m.cls := findClass_of_methodNamed B.named
  have hlocks := B.notSynchronized
  subst hsz
  have hD := hD0.self (sz := s.heap.size)
  generalize hAe : va_A [(c0, .inr (20, [.int 0, .ref c3, .int 0, .int 0, .ref c4, .ref c5, .ref c6, .ref c7, .ref c8, .ref c9, .ref c10, .ref c11, .ref c12, .ref c13, .ref c14, .ref c15, .ref c16, .int 0, .int 0, .int 0, .int 0, .int 0, .int 0, .int 0, .int 0, .int 0, .ref c17, .ref c18, .ref c19, .ref c20, .ref c21, .ref c22, .ref c23, .ref c24, .ref c25, .int 0]))] s.heap.size = A at hD hN ⊢
  have hA : ∀ q : Nat, s.heap.size ≤ q → A q := fun q h => by rw [← hAe]; exact Or.inr h
  have hS : va_S A s.heap s.heap [] := va_S.rf
  have hl := lv_entry ([.ref c0, .int c1, .int c2]) (n := 3) (Nat.le_of_ble_eq_true rfl)
  rw [lg_entry_eq]
  generalize (lg_sl ([.ref c0, .int c1, .int c2]) ++ List.replicate (3 - (lg_sl ([.ref c0, .int c1, .int c2])).length) Slot.unset).toArray = ls at hl ⊢
  have hl : lv_has ls 3 [(0, .ref c0), (1, .int c1), (2, .int c2)] := hl
  refine lv_aload_n hx hb dX19_peek_0 rfl (lv_at hl 0 rfl) ?_
  have hPc := hP.sub (ws' := [(c0, .inr (20, [.int 0, .ref c3, .int 0, .int 0, .ref c4, .ref c5, .ref c6, .ref c7, .ref c8, .ref c9, .ref c10, .ref c11, .ref c12, .ref c13, .ref c14, .ref c15, .ref c16, .int 0, .int 0, .int 0, .int 0, .int 0, .int 0, .int 0, .int 0, .int 0, .ref c17, .ref c18, .ref c19, .ref c20, .ref c21, .ref c22, .ref c23, .ref c24, .ref c25, .int 0]))]) [0] rfl
  have hDc := hD.sub (ws' := [(c0, .inr (20, [.int 0, .ref c3, .int 0, .int 0, .ref c4, .ref c5, .ref c6, .ref c7, .ref c8, .ref c9, .ref c10, .ref c11, .ref c12, .ref c13, .ref c14, .ref c15, .ref c16, .int 0, .int 0, .int 0, .int 0, .int 0, .int 0, .int 0, .int 0, .int 0, .ref c17, .ref c18, .ref c19, .ref c20, .ref c21, .ref c22, .ref c23, .ref c24, .ref c25, .int 0]))]) [0] (by decide) rfl
  have hKc := hK.sub (tys' := []) [] rfl
  have hFc := va_free (wc := [(c0, .inr (20, [.int 0, .ref c3, .int 0, .int 0, .ref c4, .ref c5, .ref c6, .ref c7, .ref c8, .ref c9, .ref c10, .ref c11, .ref c12, .ref c13, .ref c14, .ref c15, .ref c16, .int 0, .int 0, .int 0, .int 0, .int 0, .int 0, .int 0, .int 0, .int 0, .ref c17, .ref c18, .ref c19, .ref c20, .ref c21, .ref c22, .ref c23, .ref c24, .ref c25, .int 0]))]) hD hS hA [0] rfl
  refine va_calli (va_runV (As := []) (rest := []) ⟨hx, hb, hml, hown, hts⟩ (k_X19_shows l hlt dC dI c0 c3 c4 c5 c6 c7 c8 c9 c10 c11 c12 c13 c14 c15 c16 c17 c18 c19 c20 c21 c22 c23 c24 c25  s.heap.size) (cwV 0 hts gi_k_X19_peek_0 rfl rfl rfl (by decide +kernel) ⟨Nat.le_of_ble_eq_true rfl, Nat.le_of_ble_eq_true rfl⟩) ⟨fun a U g mk q => by obtain ⟨q0, q1, qP, qK, qD, qN⟩ := q; exact ⟨q0, q1, qP, va_K.moved (u := U) (U := U.calling g mk a) (Vm.Alike.refl U.vm) qK, qD, nv_same rfl rfl qN⟩, va_recv hKc hPc (ci := 20) (q0 := 0) rfl rfl, fun U hU hW => ⟨rfl, by rw [hU], by rw [hU]; exact hPc, va_K.moved hW.alike hKc, hDc.weaken (fun _ _ _ _ => trivial), nv_call hS hFc hU hW hN⟩⟩ rfl rfl hl.1 rfl (lv_room (Nat.le_of_ble_eq_true rfl)) dX19_peek_1 ⟨by decide +kernel, by decide +kernel⟩) hS (fun q _ h => hFc q h) hFc (fun r1 u t H1 locs ht hvm hw hB hz1 hk1 hS => ?_)
  obtain ⟨hP1, hK1, hD1⟩ := hB
  rw [ht] at hP1
  have hK1 := va_K.moved hvm.symm hK1
  obtain rfl : r1 = 0 := hw
  obtain ⟨hP, hD⟩ := va_join (wr := []) (w1 := [(c0, .inr (20, [.int 0, .ref c3, .int 0, .int 0, .ref c4, .ref c5, .ref c6, .ref c7, .ref c8, .ref c9, .ref c10, .ref c11, .ref c12, .ref c13, .ref c14, .ref c15, .ref c16, .int 0, .int 0, .int 0, .int 0, .int 0, .int 0, .int 0, .int 0, .int 0, .ref c17, .ref c18, .ref c19, .ref c20, .ref c21, .ref c22, .ref c23, .ref c24, .ref c25, .int 0]))]) hP hD [0] [] rfl rfl (by decide) (by decide) hk1 hFc hP1 hD1
  have hK := (hK.sub (tys' := []) [] rfl).app hK1
  generalize H1 = H at hP hS ⊢
  have hP : va_P (dC, dI) vwCl [(c0, .inr (20, [.int 0, .ref c3, .int 0, .int 0, .ref c4, .ref c5, .ref c6, .ref c7, .ref c8, .ref c9, .ref c10, .ref c11, .ref c12, .ref c13, .ref c14, .ref c15, .ref c16, .int 0, .int 0, .int 0, .int 0, .int 0, .int 0, .int 0, .int 0, .int 0, .ref c17, .ref c18, .ref c19, .ref c20, .ref c21, .ref c22, .ref c23, .ref c24, .ref c25, .int 0]))] H := hP
  have hD : va_D A [(c0, .inr (20, [.int 0, .ref c3, .int 0, .int 0, .ref c4, .ref c5, .ref c6, .ref c7, .ref c8, .ref c9, .ref c10, .ref c11, .ref c12, .ref c13, .ref c14, .ref c15, .ref c16, .int 0, .int 0, .int 0, .int 0, .int 0, .int 0, .int 0, .int 0, .int 0, .ref c17, .ref c18, .ref c19, .ref c20, .ref c21, .ref c22, .ref c23, .ref c24, .ref c25, .int 0]))] := hD
  have hK : va_K (dC, dI) vwCl [] s := hK
  refine W.widen (k := 0) (n := 0) (by decide +kernel) (by decide +kernel) ?_
  refine lv_if_eq (tgt := 31) hx hb dX19_peek_4 (by decide) (fun _ => ?_) (fun h9 => absurd (by decide) h9)
  refine lv_iconst (v := (-1)) hx hb dX19_peek_31 (by decide) ?_
  have hP9 := hP.sub (ws' := [(c0, .inr (20, [.int 0, .ref c3, .int 0, .int 0, .ref c4, .ref c5, .ref c6, .ref c7, .ref c8, .ref c9, .ref c10, .ref c11, .ref c12, .ref c13, .ref c14, .ref c15, .ref c16, .int 0, .int 0, .int 0, .int 0, .int 0, .int 0, .int 0, .int 0, .int 0, .ref c17, .ref c18, .ref c19, .ref c20, .ref c21, .ref c22, .ref c23, .ref c24, .ref c25, .int 0]))]) [0] rfl
  have hD9 := hD.sub (ws' := [(c0, .inr (20, [.int 0, .ref c3, .int 0, .int 0, .ref c4, .ref c5, .ref c6, .ref c7, .ref c8, .ref c9, .ref c10, .ref c11, .ref c12, .ref c13, .ref c14, .ref c15, .ref c16, .int 0, .int 0, .int 0, .int 0, .int 0, .int 0, .int 0, .int 0, .int 0, .ref c17, .ref c18, .ref c19, .ref c20, .ref c21, .ref c22, .ref c23, .ref c24, .ref c25, .int 0]))]) [0] (by decide) rfl
  have hK9 := hK.sub (tys' := []) [] rfl
  refine W.widen (k := 0) (n := 0) (by decide +kernel) (by decide +kernel) ?_
  exact W.iret (v := (-1)) hx hb hr (fun t ht hW => ⟨⟨(-1), (), rfl, rfl, by rw [ht]; exact hP9, va_K.moved hW.alike hK9, hD9⟩, hS.F ht⟩) hS.2.2 dX19_peek_32
def ow_k_X12_text : List Cond := .code yX12_text cX12_text 6 (some .int) :: ([.methodLink RX12 208 yX12_isThere, .instanceMethod yX12_isThere, .selects RX12 yX12_isThere yX12_isThere, .initialized RX12] ++ (ow_k_X12_isThere ++ []))
theorem gd_k_X12_text : ∀ w ∈ ow_k_X12_text, (w.onTables && w.keeps) = true ∨ ∃ ty, w = Cond.arrayClass ty := List.forall_mem_cons.mpr ⟨good_of_word rfl, List.forall_mem_append.mpr ⟨fun w h => good_of_word (List.all_eq_true.mp (by decide +kernel) w h), List.forall_mem_append.mpr ⟨gd_k_X12_isThere, fun _ h => nomatch h⟩⟩⟩
theorem gi_k_X12_text_0 : GoodIn ow_k_X12_text (wsV RX12 208 RX12 yX12_isThere ow_k_X12_isThere) := goodIn_app (goodIn_of _ (by decide +kernel)) (fun w h => ⟨List.mem_cons_of_mem _ (List.mem_append_right _ (List.mem_append_left _ h)), gd_k_X12_isThere w h⟩)
set_option maxHeartbeats 40000000 in
set_option maxRecDepth 100000 in
theorem k_X12_text (l : Launch) (hlt : l.stackTraces = false) (dC : Nat → ClassId) (dI : Nat → Nat → Nat) (c0 : Nat) (c1 : Nat) (c2 : Int32) (c3 : Int32) (c4 : Int32) (c5 : Nat) (c6 : Nat) (c7 : Nat) (c8 : Nat) (c9 : Nat) (c10 : Nat) (c11 : Nat) (c12 : Nat) (c13 : Nat) (c14 : Nat) (c15 : Nat) (c16 : Nat) (c17 : Nat) (c18 : Nat) (c19 : Nat) (c20 : Nat) (sz : Nat) : Met l yX12_text ow_k_X12_text ({ frames := 1, cells := 0, slots := 0, locals := 21 }) (va_Pc [.ref c0, .int c2, .int c3, .int c4] (fun U => U.heap.size = sz ∧ va_P (dC, dI) vwCl [(c0, .inr (13, [.ref c5, .int 0, .int 0, .ref c6, .ref c7, .ref c8, .ref c1, .ref c9, .ref c10, .ref c11, .int 0, .ref c12])), (c1, .inr (12, [.ref c13, .ref c14, .ref c15, .ref c16, .ref c17, .ref c18, .int 0, .ref c19, .ref c20, .int 0, .int 0, .int 0, .int 0, .int 0, .int 0, .int 0]))] U.heap ∧ va_K (dC, dI) vwCl [] U ∧ va_D (fun _ => True) [(c0, .inr (13, [.ref c5, .int 0, .int 0, .ref c6, .ref c7, .ref c8, .ref c1, .ref c9, .ref c10, .ref c11, .int 0, .ref c12])), (c1, .inr (12, [.ref c13, .ref c14, .ref c15, .ref c16, .ref c17, .ref c18, .int 0, .ref c19, .ref c20, .int 0, .int 0, .int 0, .int 0, .int 0, .int 0, .int 0]))] ∧ nv_E (va_A [(c0, .inr (13, [.ref c5, .int 0, .int 0, .ref c6, .ref c7, .ref c8, .ref c1, .ref c9, .ref c10, .ref c11, .int 0, .ref c12])), (c1, .inr (12, [.ref c13, .ref c14, .ref c15, .ref c16, .ref c17, .ref c18, .int 0, .ref c19, .ref c20, .int 0, .int 0, .int 0, .int 0, .int 0, .int 0, .int 0]))] sz) U)) (va_Qi (fun r _ => r = (-1)) (fun (_ : Unit) t => va_P (dC, dI) vwCl [(c0, .inr (13, [.ref c5, .int 0, .int 0, .ref c6, .ref c7, .ref c8, .ref c1, .ref c9, .ref c10, .ref c11, .int 0, .ref c12])), (c1, .inr (12, [.ref c13, .ref c14, .ref c15, .ref c16, .ref c17, .ref c18, .int 0, .ref c19, .ref c20, .int 0, .int 0, .int 0, .int 0, .int 0, .int 0, .int 0]))] t.heap ∧ va_K (dC, dI) vwCl [] t ∧ va_D (va_A [(c0, .inr (13, [.ref c5, .int 0, .int 0, .ref c6, .ref c7, .ref c8, .ref c1, .ref c9, .ref c10, .ref c11, .int 0, .ref c12])), (c1, .inr (12, [.ref c13, .ref c14, .ref c15, .ref c16, .ref c17, .ref c18, .int 0, .ref c19, .ref c20, .int 0, .int 0, .int 0, .int 0, .int 0, .int 0, .int 0]))] sz) [(c0, .inr (13, [.ref c5, .int 0, .int 0, .ref c6, .ref c7, .ref c8, .ref c1, .ref c9, .ref c10, .ref c11, .int 0, .ref c12])), (c1, .inr (12, [.ref c13, .ref c14, .ref c15, .ref c16, .ref c17, .ref c18, .int 0, .ref c19, .ref c20, .int 0, .int 0, .int 0, .int 0, .int 0, .int 0, .int 0]))]) (va_A [(c0, .inr (13, [.ref c5, .int 0, .int 0, .ref c6, .ref c7, .ref c8, .ref c1, .ref c9, .ref c10, .ref c11, .int 0, .ref c12])), (c1, .inr (12, [.ref c13, .ref c14, .ref c15, .ref c16, .ref c17, .ref c18, .int 0, .ref c19, .ref c20, .int 0, .int 0, .int 0, .int 0, .int 0, .int 0, .int 0]))] sz)) 0 0 (va_A [(c0, .inr (13, [.ref c5, .int 0, .int 0, .ref c6, .ref c7, .ref c8, .ref c1, .ref c9, .ref c10, .ref c11, .int 0, .ref c12])), (c1, .inr (12, [.ref c13, .ref c14, .ref c15, .ref c16, .ref c17, .ref c18, .int 0, .ref c19, .ref c20, .int 0, .int 0, .int 0, .int 0, .int 0, .int 0, .int 0]))] sz) := by
  refine Met.ofW (cc := cX12_text) (maxL := 6) (ret := (some .int)) (by decide) rfl ?_
  intro p e s m args below meth c s₁ B hml hv
  obtain ⟨rfl, hsz, hP, hK, hD0, hN⟩ := hv
  have hx := B.exec
  have hb := B.bytes
  have hr := B.returns
  have hts := atoms_spec (ws := ow_k_X12_text) B.pre
  have hown : s.vm.findClass RX12 = some m.cls := findClass_of_methodNamed B.named
  have hlocks := B.notSynchronized
  subst hsz
  have hD := hD0.self (sz := s.heap.size)
  generalize hAe : va_A [(c0, .inr (13, [.ref c5, .int 0, .int 0, .ref c6, .ref c7, .ref c8, .ref c1, .ref c9, .ref c10, .ref c11, .int 0, .ref c12])), (c1, .inr (12, [.ref c13, .ref c14, .ref c15, .ref c16, .ref c17, .ref c18, .int 0, .ref c19, .ref c20, .int 0, .int 0, .int 0, .int 0, .int 0, .int 0, .int 0]))] s.heap.size = A at hD hN ⊢
  have hA : ∀ q : Nat, s.heap.size ≤ q → A q := fun q h => by rw [← hAe]; exact Or.inr h
  have hS : va_S A s.heap s.heap [] := va_S.rf
  have hl := lv_entry ([.ref c0, .int c2, .int c3, .int c4]) (n := 6) (Nat.le_of_ble_eq_true rfl)
  rw [lg_entry_eq]
  generalize (lg_sl ([.ref c0, .int c2, .int c3, .int c4]) ++ List.replicate (6 - (lg_sl ([.ref c0, .int c2, .int c3, .int c4])).length) Slot.unset).toArray = ls at hl ⊢
  have hl : lv_has ls 6 [(0, .ref c0), (1, .int c2), (2, .int c3), (3, .int c4)] := hl
  refine lv_aload_n hx hb dX12_text_0 rfl (lv_at hl 0 rfl) ?_
  refine lv_iload_n hx hb dX12_text_1 rfl (lv_at hl 1 rfl) ?_
  have hPc := hP.sub (ws' := [(c0, .inr (13, [.ref c5, .int 0, .int 0, .ref c6, .ref c7, .ref c8, .ref c1, .ref c9, .ref c10, .ref c11, .int 0, .ref c12])), (c1, .inr (12, [.ref c13, .ref c14, .ref c15, .ref c16, .ref c17, .ref c18, .int 0, .ref c19, .ref c20, .int 0, .int 0, .int 0, .int 0, .int 0, .int 0, .int 0]))]) [0, 1] rfl
  have hDc := hD.sub (ws' := [(c0, .inr (13, [.ref c5, .int 0, .int 0, .ref c6, .ref c7, .ref c8, .ref c1, .ref c9, .ref c10, .ref c11, .int 0, .ref c12])), (c1, .inr (12, [.ref c13, .ref c14, .ref c15, .ref c16, .ref c17, .ref c18, .int 0, .ref c19, .ref c20, .int 0, .int 0, .int 0, .int 0, .int 0, .int 0, .int 0]))]) [0, 1] (by decide) rfl
  have hKc := hK.sub (tys' := []) [] rfl
  have hFc := va_free (wc := [(c0, .inr (13, [.ref c5, .int 0, .int 0, .ref c6, .ref c7, .ref c8, .ref c1, .ref c9, .ref c10, .ref c11, .int 0, .ref c12])), (c1, .inr (12, [.ref c13, .ref c14, .ref c15, .ref c16, .ref c17, .ref c18, .int 0, .ref c19, .ref c20, .int 0, .int 0, .int 0, .int 0, .int 0, .int 0, .int 0]))]) hD hS hA [0, 1] rfl
  refine va_calli (va_runV (As := [.int c2]) (rest := []) ⟨hx, hb, hml, hown, hts⟩ (k_X12_isThere l hlt dC dI c0 c1 c2 c5 c6 c7 c8 c9 c10 c11 c12 c13 c14 c15 c16 c17 c18 c19 c20  s.heap.size) (cwV 1 hts gi_k_X12_text_0 rfl rfl rfl (by decide +kernel) ⟨Nat.le_of_ble_eq_true rfl, Nat.le_of_ble_eq_true rfl⟩) ⟨fun a U g mk q => by obtain ⟨q0, q1, qP, qK, qD, qN⟩ := q; exact ⟨q0, q1, qP, va_K.moved (u := U) (U := U.calling g mk a) (Vm.Alike.refl U.vm) qK, qD, nv_same rfl rfl qN⟩, va_recv hKc hPc (ci := 13) (q0 := 0) rfl rfl, fun U hU hW => ⟨rfl, by rw [hU], by rw [hU]; exact hPc, va_K.moved hW.alike hKc, hDc.weaken (fun _ _ _ _ => trivial), nv_call hS hFc hU hW hN⟩⟩ rfl rfl hl.1 rfl (lv_room (Nat.le_of_ble_eq_true rfl)) dX12_text_2 ⟨by decide +kernel, by decide +kernel⟩) hS (fun q _ h => hFc q h) hFc (fun r1 u t H1 locs ht hvm hw hB hz1 hk1 hS => ?_)
  obtain ⟨hP1, hK1, hD1⟩ := hB
  rw [ht] at hP1
  have hK1 := va_K.moved hvm.symm hK1
  obtain rfl : r1 = 0 := hw
  obtain ⟨hP, hD⟩ := va_join (wr := []) (w1 := [(c0, .inr (13, [.ref c5, .int 0, .int 0, .ref c6, .ref c7, .ref c8, .ref c1, .ref c9, .ref c10, .ref c11, .int 0, .ref c12])), (c1, .inr (12, [.ref c13, .ref c14, .ref c15, .ref c16, .ref c17, .ref c18, .int 0, .ref c19, .ref c20, .int 0, .int 0, .int 0, .int 0, .int 0, .int 0, .int 0]))]) hP hD [0, 1] [] rfl rfl (by decide) (by decide) hk1 hFc hP1 hD1
  have hK := (hK.sub (tys' := []) [] rfl).app hK1
  generalize H1 = H at hP hS ⊢
  have hP : va_P (dC, dI) vwCl [(c0, .inr (13, [.ref c5, .int 0, .int 0, .ref c6, .ref c7, .ref c8, .ref c1, .ref c9, .ref c10, .ref c11, .int 0, .ref c12])), (c1, .inr (12, [.ref c13, .ref c14, .ref c15, .ref c16, .ref c17, .ref c18, .int 0, .ref c19, .ref c20, .int 0, .int 0, .int 0, .int 0, .int 0, .int 0, .int 0]))] H := hP
  have hD : va_D A [(c0, .inr (13, [.ref c5, .int 0, .int 0, .ref c6, .ref c7, .ref c8, .ref c1, .ref c9, .ref c10, .ref c11, .int 0, .ref c12])), (c1, .inr (12, [.ref c13, .ref c14, .ref c15, .ref c16, .ref c17, .ref c18, .int 0, .ref c19, .ref c20, .int 0, .int 0, .int 0, .int 0, .int 0, .int 0, .int 0]))] := hD
  have hK : va_K (dC, dI) vwCl [] s := hK
  refine W.widen (k := 0) (n := 0) (by decide +kernel) (by decide +kernel) ?_
  refine lv_if_eq (tgt := 34) hx hb dX12_text_5 (by decide) (fun _ => ?_) (fun h9 => absurd (by decide) h9)
  refine lv_iconst (v := (-1)) hx hb dX12_text_34 (by decide) ?_
  have hP9 := hP.sub (ws' := [(c0, .inr (13, [.ref c5, .int 0, .int 0, .ref c6, .ref c7, .ref c8, .ref c1, .ref c9, .ref c10, .ref c11, .int 0, .ref c12])), (c1, .inr (12, [.ref c13, .ref c14, .ref c15, .ref c16, .ref c17, .ref c18, .int 0, .ref c19, .ref c20, .int 0, .int 0, .int 0, .int 0, .int 0, .int 0, .int 0]))]) [0, 1] rfl
  have hD9 := hD.sub (ws' := [(c0, .inr (13, [.ref c5, .int 0, .int 0, .ref c6, .ref c7, .ref c8, .ref c1, .ref c9, .ref c10, .ref c11, .int 0, .ref c12])), (c1, .inr (12, [.ref c13, .ref c14, .ref c15, .ref c16, .ref c17, .ref c18, .int 0, .ref c19, .ref c20, .int 0, .int 0, .int 0, .int 0, .int 0, .int 0, .int 0]))]) [0, 1] (by decide) rfl
  have hK9 := hK.sub (tys' := []) [] rfl
  refine W.widen (k := 0) (n := 0) (by decide +kernel) (by decide +kernel) ?_
  exact W.iret (v := (-1)) hx hb hr (fun t ht hW => ⟨⟨(-1), (), rfl, rfl, by rw [ht]; exact hP9, va_K.moved hW.alike hK9, hD9⟩, hS.F ht⟩) hS.2.2 dX12_text_35
def ow_k_X19_text : List Cond := .code yX19_text cX19_text 7 (some .int) :: ([.methodLink RX19 315 yX19_shows, .instanceMethod yX19_shows, .selects RX19 yX19_shows yX19_shows, .initialized RX19] ++ (ow_k_X19_shows ++ []))
theorem gd_k_X19_text : ∀ w ∈ ow_k_X19_text, (w.onTables && w.keeps) = true ∨ ∃ ty, w = Cond.arrayClass ty := List.forall_mem_cons.mpr ⟨good_of_word rfl, List.forall_mem_append.mpr ⟨fun w h => good_of_word (List.all_eq_true.mp (by decide +kernel) w h), List.forall_mem_append.mpr ⟨gd_k_X19_shows, fun _ h => nomatch h⟩⟩⟩
theorem gi_k_X19_text_0 : GoodIn ow_k_X19_text (wsV RX19 315 RX19 yX19_shows ow_k_X19_shows) := goodIn_app (goodIn_of _ (by decide +kernel)) (fun w h => ⟨List.mem_cons_of_mem _ (List.mem_append_right _ (List.mem_append_left _ h)), gd_k_X19_shows w h⟩)
set_option maxHeartbeats 40000000 in
set_option maxRecDepth 100000 in
theorem k_X19_text (l : Launch) (hlt : l.stackTraces = false) (dC : Nat → ClassId) (dI : Nat → Nat → Nat) (c0 : Nat) (c1 : Int32) (c2 : Int32) (c3 : Int32) (c4 : Nat) (c5 : Nat) (c6 : Nat) (c7 : Nat) (c8 : Nat) (c9 : Nat) (c10 : Nat) (c11 : Nat) (c12 : Nat) (c13 : Nat) (c14 : Nat) (c15 : Nat) (c16 : Nat) (c17 : Nat) (c18 : Nat) (c19 : Nat) (c20 : Nat) (c21 : Nat) (c22 : Nat) (c23 : Nat) (c24 : Nat) (c25 : Nat) (c26 : Nat) (sz : Nat) : Met l yX19_text ow_k_X19_text ({ frames := 1, cells := 0, slots := 0, locals := 20 }) (va_Pc [.ref c0, .int c1, .int c2, .int c3] (fun U => U.heap.size = sz ∧ va_P (dC, dI) vwCl [(c0, .inr (20, [.int 0, .ref c4, .int 0, .int 0, .ref c5, .ref c6, .ref c7, .ref c8, .ref c9, .ref c10, .ref c11, .ref c12, .ref c13, .ref c14, .ref c15, .ref c16, .ref c17, .int 0, .int 0, .int 0, .int 0, .int 0, .int 0, .int 0, .int 0, .int 0, .ref c18, .ref c19, .ref c20, .ref c21, .ref c22, .ref c23, .ref c24, .ref c25, .ref c26, .int 0]))] U.heap ∧ va_K (dC, dI) vwCl [] U ∧ va_D (fun _ => True) [(c0, .inr (20, [.int 0, .ref c4, .int 0, .int 0, .ref c5, .ref c6, .ref c7, .ref c8, .ref c9, .ref c10, .ref c11, .ref c12, .ref c13, .ref c14, .ref c15, .ref c16, .ref c17, .int 0, .int 0, .int 0, .int 0, .int 0, .int 0, .int 0, .int 0, .int 0, .ref c18, .ref c19, .ref c20, .ref c21, .ref c22, .ref c23, .ref c24, .ref c25, .ref c26, .int 0]))] ∧ nv_E (va_A [(c0, .inr (20, [.int 0, .ref c4, .int 0, .int 0, .ref c5, .ref c6, .ref c7, .ref c8, .ref c9, .ref c10, .ref c11, .ref c12, .ref c13, .ref c14, .ref c15, .ref c16, .ref c17, .int 0, .int 0, .int 0, .int 0, .int 0, .int 0, .int 0, .int 0, .int 0, .ref c18, .ref c19, .ref c20, .ref c21, .ref c22, .ref c23, .ref c24, .ref c25, .ref c26, .int 0]))] sz) U)) (va_Qi (fun r _ => r = (-1)) (fun (_ : Unit) t => va_P (dC, dI) vwCl [(c0, .inr (20, [.int 0, .ref c4, .int 0, .int 0, .ref c5, .ref c6, .ref c7, .ref c8, .ref c9, .ref c10, .ref c11, .ref c12, .ref c13, .ref c14, .ref c15, .ref c16, .ref c17, .int 0, .int 0, .int 0, .int 0, .int 0, .int 0, .int 0, .int 0, .int 0, .ref c18, .ref c19, .ref c20, .ref c21, .ref c22, .ref c23, .ref c24, .ref c25, .ref c26, .int 0]))] t.heap ∧ va_K (dC, dI) vwCl [] t ∧ va_D (va_A [(c0, .inr (20, [.int 0, .ref c4, .int 0, .int 0, .ref c5, .ref c6, .ref c7, .ref c8, .ref c9, .ref c10, .ref c11, .ref c12, .ref c13, .ref c14, .ref c15, .ref c16, .ref c17, .int 0, .int 0, .int 0, .int 0, .int 0, .int 0, .int 0, .int 0, .int 0, .ref c18, .ref c19, .ref c20, .ref c21, .ref c22, .ref c23, .ref c24, .ref c25, .ref c26, .int 0]))] sz) [(c0, .inr (20, [.int 0, .ref c4, .int 0, .int 0, .ref c5, .ref c6, .ref c7, .ref c8, .ref c9, .ref c10, .ref c11, .ref c12, .ref c13, .ref c14, .ref c15, .ref c16, .ref c17, .int 0, .int 0, .int 0, .int 0, .int 0, .int 0, .int 0, .int 0, .int 0, .ref c18, .ref c19, .ref c20, .ref c21, .ref c22, .ref c23, .ref c24, .ref c25, .ref c26, .int 0]))]) (va_A [(c0, .inr (20, [.int 0, .ref c4, .int 0, .int 0, .ref c5, .ref c6, .ref c7, .ref c8, .ref c9, .ref c10, .ref c11, .ref c12, .ref c13, .ref c14, .ref c15, .ref c16, .ref c17, .int 0, .int 0, .int 0, .int 0, .int 0, .int 0, .int 0, .int 0, .int 0, .ref c18, .ref c19, .ref c20, .ref c21, .ref c22, .ref c23, .ref c24, .ref c25, .ref c26, .int 0]))] sz)) 0 0 (va_A [(c0, .inr (20, [.int 0, .ref c4, .int 0, .int 0, .ref c5, .ref c6, .ref c7, .ref c8, .ref c9, .ref c10, .ref c11, .ref c12, .ref c13, .ref c14, .ref c15, .ref c16, .ref c17, .int 0, .int 0, .int 0, .int 0, .int 0, .int 0, .int 0, .int 0, .int 0, .ref c18, .ref c19, .ref c20, .ref c21, .ref c22, .ref c23, .ref c24, .ref c25, .ref c26, .int 0]))] sz) := by
  refine Met.ofW (cc := cX19_text) (maxL := 7) (ret := (some .int)) (by decide) rfl ?_
  intro p e s m args below meth c s₁ B hml hv
  obtain ⟨rfl, hsz, hP, hK, hD0, hN⟩ := hv
  have hx := B.exec
  have hb := B.bytes
  have hr := B.returns
  have hts := atoms_spec (ws := ow_k_X19_text) B.pre
  have hown : s.vm.findClass RX19 = some m.cls := findClass_of_methodNamed B.named
  have hlocks := B.notSynchronized
  subst hsz
  have hD := hD0.self (sz := s.heap.size)
  generalize hAe : va_A [(c0, .inr (20, [.int 0, .ref c4, .int 0, .int 0, .ref c5, .ref c6, .ref c7, .ref c8, .ref c9, .ref c10, .ref c11, .ref c12, .ref c13, .ref c14, .ref c15, .ref c16, .ref c17, .int 0, .int 0, .int 0, .int 0, .int 0, .int 0, .int 0, .int 0, .int 0, .ref c18, .ref c19, .ref c20, .ref c21, .ref c22, .ref c23, .ref c24, .ref c25, .ref c26, .int 0]))] s.heap.size = A at hD hN ⊢
  have hA : ∀ q : Nat, s.heap.size ≤ q → A q := fun q h => by rw [← hAe]; exact Or.inr h
  have hS : va_S A s.heap s.heap [] := va_S.rf
  have hl := lv_entry ([.ref c0, .int c1, .int c2, .int c3]) (n := 7) (Nat.le_of_ble_eq_true rfl)
  rw [lg_entry_eq]
  generalize (lg_sl ([.ref c0, .int c1, .int c2, .int c3]) ++ List.replicate (7 - (lg_sl ([.ref c0, .int c1, .int c2, .int c3])).length) Slot.unset).toArray = ls at hl ⊢
  have hl : lv_has ls 7 [(0, .ref c0), (1, .int c1), (2, .int c2), (3, .int c3)] := hl
  refine lv_aload_n hx hb dX19_text_0 rfl (lv_at hl 0 rfl) ?_
  have hPc := hP.sub (ws' := [(c0, .inr (20, [.int 0, .ref c4, .int 0, .int 0, .ref c5, .ref c6, .ref c7, .ref c8, .ref c9, .ref c10, .ref c11, .ref c12, .ref c13, .ref c14, .ref c15, .ref c16, .ref c17, .int 0, .int 0, .int 0, .int 0, .int 0, .int 0, .int 0, .int 0, .int 0, .ref c18, .ref c19, .ref c20, .ref c21, .ref c22, .ref c23, .ref c24, .ref c25, .ref c26, .int 0]))]) [0] rfl
  have hDc := hD.sub (ws' := [(c0, .inr (20, [.int 0, .ref c4, .int 0, .int 0, .ref c5, .ref c6, .ref c7, .ref c8, .ref c9, .ref c10, .ref c11, .ref c12, .ref c13, .ref c14, .ref c15, .ref c16, .ref c17, .int 0, .int 0, .int 0, .int 0, .int 0, .int 0, .int 0, .int 0, .int 0, .ref c18, .ref c19, .ref c20, .ref c21, .ref c22, .ref c23, .ref c24, .ref c25, .ref c26, .int 0]))]) [0] (by decide) rfl
  have hKc := hK.sub (tys' := []) [] rfl
  have hFc := va_free (wc := [(c0, .inr (20, [.int 0, .ref c4, .int 0, .int 0, .ref c5, .ref c6, .ref c7, .ref c8, .ref c9, .ref c10, .ref c11, .ref c12, .ref c13, .ref c14, .ref c15, .ref c16, .ref c17, .int 0, .int 0, .int 0, .int 0, .int 0, .int 0, .int 0, .int 0, .int 0, .ref c18, .ref c19, .ref c20, .ref c21, .ref c22, .ref c23, .ref c24, .ref c25, .ref c26, .int 0]))]) hD hS hA [0] rfl
  refine va_calli (va_runV (As := []) (rest := []) ⟨hx, hb, hml, hown, hts⟩ (k_X19_shows l hlt dC dI c0 c4 c5 c6 c7 c8 c9 c10 c11 c12 c13 c14 c15 c16 c17 c18 c19 c20 c21 c22 c23 c24 c25 c26  s.heap.size) (cwV 0 hts gi_k_X19_text_0 rfl rfl rfl (by decide +kernel) ⟨Nat.le_of_ble_eq_true rfl, Nat.le_of_ble_eq_true rfl⟩) ⟨fun a U g mk q => by obtain ⟨q0, q1, qP, qK, qD, qN⟩ := q; exact ⟨q0, q1, qP, va_K.moved (u := U) (U := U.calling g mk a) (Vm.Alike.refl U.vm) qK, qD, nv_same rfl rfl qN⟩, va_recv hKc hPc (ci := 20) (q0 := 0) rfl rfl, fun U hU hW => ⟨rfl, by rw [hU], by rw [hU]; exact hPc, va_K.moved hW.alike hKc, hDc.weaken (fun _ _ _ _ => trivial), nv_call hS hFc hU hW hN⟩⟩ rfl rfl hl.1 rfl (lv_room (Nat.le_of_ble_eq_true rfl)) dX19_text_1 ⟨by decide +kernel, by decide +kernel⟩) hS (fun q _ h => hFc q h) hFc (fun r1 u t H1 locs ht hvm hw hB hz1 hk1 hS => ?_)
  obtain ⟨hP1, hK1, hD1⟩ := hB
  rw [ht] at hP1
  have hK1 := va_K.moved hvm.symm hK1
  obtain rfl : r1 = 0 := hw
  obtain ⟨hP, hD⟩ := va_join (wr := []) (w1 := [(c0, .inr (20, [.int 0, .ref c4, .int 0, .int 0, .ref c5, .ref c6, .ref c7, .ref c8, .ref c9, .ref c10, .ref c11, .ref c12, .ref c13, .ref c14, .ref c15, .ref c16, .ref c17, .int 0, .int 0, .int 0, .int 0, .int 0, .int 0, .int 0, .int 0, .int 0, .ref c18, .ref c19, .ref c20, .ref c21, .ref c22, .ref c23, .ref c24, .ref c25, .ref c26, .int 0]))]) hP hD [0] [] rfl rfl (by decide) (by decide) hk1 hFc hP1 hD1
  have hK := (hK.sub (tys' := []) [] rfl).app hK1
  generalize H1 = H at hP hS ⊢
  have hP : va_P (dC, dI) vwCl [(c0, .inr (20, [.int 0, .ref c4, .int 0, .int 0, .ref c5, .ref c6, .ref c7, .ref c8, .ref c9, .ref c10, .ref c11, .ref c12, .ref c13, .ref c14, .ref c15, .ref c16, .ref c17, .int 0, .int 0, .int 0, .int 0, .int 0, .int 0, .int 0, .int 0, .int 0, .ref c18, .ref c19, .ref c20, .ref c21, .ref c22, .ref c23, .ref c24, .ref c25, .ref c26, .int 0]))] H := hP
  have hD : va_D A [(c0, .inr (20, [.int 0, .ref c4, .int 0, .int 0, .ref c5, .ref c6, .ref c7, .ref c8, .ref c9, .ref c10, .ref c11, .ref c12, .ref c13, .ref c14, .ref c15, .ref c16, .ref c17, .int 0, .int 0, .int 0, .int 0, .int 0, .int 0, .int 0, .int 0, .int 0, .ref c18, .ref c19, .ref c20, .ref c21, .ref c22, .ref c23, .ref c24, .ref c25, .ref c26, .int 0]))] := hD
  have hK : va_K (dC, dI) vwCl [] s := hK
  refine W.widen (k := 0) (n := 0) (by decide +kernel) (by decide +kernel) ?_
  refine lv_if_eq (tgt := 26) hx hb dX19_text_4 (by decide) (fun _ => ?_) (fun h9 => absurd (by decide) h9)
  refine lv_iconst (v := (-1)) hx hb dX19_text_26 (by decide) ?_
  have hP9 := hP.sub (ws' := [(c0, .inr (20, [.int 0, .ref c4, .int 0, .int 0, .ref c5, .ref c6, .ref c7, .ref c8, .ref c9, .ref c10, .ref c11, .ref c12, .ref c13, .ref c14, .ref c15, .ref c16, .ref c17, .int 0, .int 0, .int 0, .int 0, .int 0, .int 0, .int 0, .int 0, .int 0, .ref c18, .ref c19, .ref c20, .ref c21, .ref c22, .ref c23, .ref c24, .ref c25, .ref c26, .int 0]))]) [0] rfl
  have hD9 := hD.sub (ws' := [(c0, .inr (20, [.int 0, .ref c4, .int 0, .int 0, .ref c5, .ref c6, .ref c7, .ref c8, .ref c9, .ref c10, .ref c11, .ref c12, .ref c13, .ref c14, .ref c15, .ref c16, .ref c17, .int 0, .int 0, .int 0, .int 0, .int 0, .int 0, .int 0, .int 0, .int 0, .ref c18, .ref c19, .ref c20, .ref c21, .ref c22, .ref c23, .ref c24, .ref c25, .ref c26, .int 0]))]) [0] (by decide) rfl
  have hK9 := hK.sub (tys' := []) [] rfl
  refine W.widen (k := 0) (n := 0) (by decide +kernel) (by decide +kernel) ?_
  exact W.iret (v := (-1)) hx hb hr (fun t ht hW => ⟨⟨(-1), (), rfl, rfl, by rw [ht]; exact hP9, va_K.moved hW.alike hK9, hD9⟩, hS.F ht⟩) hS.2.2 dX19_text_27
def ow_k_X12_descriptor : List Cond := .code yX12_descriptor cX12_descriptor 5 (some .int) :: ([.methodLink RX12 208 yX12_isThere, .instanceMethod yX12_isThere, .selects RX12 yX12_isThere yX12_isThere, .initialized RX12] ++ (ow_k_X12_isThere ++ []))
theorem gd_k_X12_descriptor : ∀ w ∈ ow_k_X12_descriptor, (w.onTables && w.keeps) = true ∨ ∃ ty, w = Cond.arrayClass ty := List.forall_mem_cons.mpr ⟨good_of_word rfl, List.forall_mem_append.mpr ⟨fun w h => good_of_word (List.all_eq_true.mp (by decide +kernel) w h), List.forall_mem_append.mpr ⟨gd_k_X12_isThere, fun _ h => nomatch h⟩⟩⟩
theorem gi_k_X12_descriptor_0 : GoodIn ow_k_X12_descriptor (wsV RX12 208 RX12 yX12_isThere ow_k_X12_isThere) := goodIn_app (goodIn_of _ (by decide +kernel)) (fun w h => ⟨List.mem_cons_of_mem _ (List.mem_append_right _ (List.mem_append_left _ h)), gd_k_X12_isThere w h⟩)
set_option maxHeartbeats 40000000 in
set_option maxRecDepth 100000 in
theorem k_X12_descriptor (l : Launch) (hlt : l.stackTraces = false) (dC : Nat → ClassId) (dI : Nat → Nat → Nat) (c0 : Nat) (c1 : Nat) (c2 : Int32) (c3 : Int32) (c4 : Int32) (c5 : Nat) (c6 : Nat) (c7 : Nat) (c8 : Nat) (c9 : Nat) (c10 : Nat) (c11 : Nat) (c12 : Nat) (c13 : Nat) (c14 : Nat) (c15 : Nat) (c16 : Nat) (c17 : Nat) (c18 : Nat) (c19 : Nat) (c20 : Nat) (sz : Nat) : Met l yX12_descriptor ow_k_X12_descriptor ({ frames := 1, cells := 0, slots := 0, locals := 21 }) (va_Pc [.ref c0, .int c2, .int c3, .int c4] (fun U => U.heap.size = sz ∧ va_P (dC, dI) vwCl [(c0, .inr (13, [.ref c5, .int 0, .int 0, .ref c6, .ref c7, .ref c8, .ref c1, .ref c9, .ref c10, .ref c11, .int 0, .ref c12])), (c1, .inr (12, [.ref c13, .ref c14, .ref c15, .ref c16, .ref c17, .ref c18, .int 0, .ref c19, .ref c20, .int 0, .int 0, .int 0, .int 0, .int 0, .int 0, .int 0]))] U.heap ∧ va_K (dC, dI) vwCl [] U ∧ va_D (fun _ => True) [(c0, .inr (13, [.ref c5, .int 0, .int 0, .ref c6, .ref c7, .ref c8, .ref c1, .ref c9, .ref c10, .ref c11, .int 0, .ref c12])), (c1, .inr (12, [.ref c13, .ref c14, .ref c15, .ref c16, .ref c17, .ref c18, .int 0, .ref c19, .ref c20, .int 0, .int 0, .int 0, .int 0, .int 0, .int 0, .int 0]))] ∧ nv_E (va_A [(c0, .inr (13, [.ref c5, .int 0, .int 0, .ref c6, .ref c7, .ref c8, .ref c1, .ref c9, .ref c10, .ref c11, .int 0, .ref c12])), (c1, .inr (12, [.ref c13, .ref c14, .ref c15, .ref c16, .ref c17, .ref c18, .int 0, .ref c19, .ref c20, .int 0, .int 0, .int 0, .int 0, .int 0, .int 0, .int 0]))] sz) U)) (va_Qi (fun r _ => ((c3 < 0) ∧ r = (-1)) ∨ ((¬ c3 < 0) ∧ (16 ≤ c3) ∧ r = (-1)) ∨ ((¬ c3 < 0) ∧ (¬ 16 ≤ c3) ∧ (c4 < 0) ∧ r = (-1)) ∨ ((¬ c3 < 0) ∧ (¬ 16 ≤ c3) ∧ (¬ c4 < 0) ∧ (c4 ≤ 4) ∧ (¬ c4 = 0) ∧ r = (-1)) ∨ ((¬ c3 < 0) ∧ (¬ 16 ≤ c3) ∧ (¬ c4 < 0) ∧ (c4 ≤ 4) ∧ (c4 = 0) ∧ r = 0) ∨ ((¬ c3 < 0) ∧ (¬ 16 ≤ c3) ∧ (¬ c4 < 0) ∧ (¬ c4 ≤ 4) ∧ r = (-1)) ∨ False) (fun (_ : Unit) t => True) (va_A [(c0, .inr (13, [.ref c5, .int 0, .int 0, .ref c6, .ref c7, .ref c8, .ref c1, .ref c9, .ref c10, .ref c11, .int 0, .ref c12])), (c1, .inr (12, [.ref c13, .ref c14, .ref c15, .ref c16, .ref c17, .ref c18, .int 0, .ref c19, .ref c20, .int 0, .int 0, .int 0, .int 0, .int 0, .int 0, .int 0]))] sz)) 0 0 (va_A [(c0, .inr (13, [.ref c5, .int 0, .int 0, .ref c6, .ref c7, .ref c8, .ref c1, .ref c9, .ref c10, .ref c11, .int 0, .ref c12])), (c1, .inr (12, [.ref c13, .ref c14, .ref c15, .ref c16, .ref c17, .ref c18, .int 0, .ref c19, .ref c20, .int 0, .int 0, .int 0, .int 0, .int 0, .int 0, .int 0]))] sz) := by
  refine Met.ofW (cc := cX12_descriptor) (maxL := 5) (ret := (some .int)) (by decide) rfl ?_
  intro p e s m args below meth c s₁ B hml hv
  obtain ⟨rfl, hsz, hP, hK, hD0, hN⟩ := hv
  have hx := B.exec
  have hb := B.bytes
  have hr := B.returns
  have hts := atoms_spec (ws := ow_k_X12_descriptor) B.pre
  have hown : s.vm.findClass RX12 = some m.cls := findClass_of_methodNamed B.named
  have hlocks := B.notSynchronized
  subst hsz
  have hD := hD0.self (sz := s.heap.size)
  generalize hAe : va_A [(c0, .inr (13, [.ref c5, .int 0, .int 0, .ref c6, .ref c7, .ref c8, .ref c1, .ref c9, .ref c10, .ref c11, .int 0, .ref c12])), (c1, .inr (12, [.ref c13, .ref c14, .ref c15, .ref c16, .ref c17, .ref c18, .int 0, .ref c19, .ref c20, .int 0, .int 0, .int 0, .int 0, .int 0, .int 0, .int 0]))] s.heap.size = A at hD hN ⊢
  have hA : ∀ q : Nat, s.heap.size ≤ q → A q := fun q h => by rw [← hAe]; exact Or.inr h
  have hS : va_S A s.heap s.heap [] := va_S.rf
  have hl := lv_entry ([.ref c0, .int c2, .int c3, .int c4]) (n := 5) (Nat.le_of_ble_eq_true rfl)
  rw [lg_entry_eq]
  generalize (lg_sl ([.ref c0, .int c2, .int c3, .int c4]) ++ List.replicate (5 - (lg_sl ([.ref c0, .int c2, .int c3, .int c4])).length) Slot.unset).toArray = ls at hl ⊢
  have hl : lv_has ls 5 [(0, .ref c0), (1, .int c2), (2, .int c3), (3, .int c4)] := hl
  refine lv_iload_n hx hb dX12_descriptor_0 rfl (lv_at hl 2 rfl) ?_
  refine lv_if_lt (tgt := 19) hx hb dX12_descriptor_1 (by decide) (fun c_1 => ?_) (fun c_1 => ?_)
  · refine lv_iconst (v := (-1)) hx hb dX12_descriptor_19 (by decide) ?_
    refine W.widen (k := 0) (n := 0) (by decide +kernel) (by decide +kernel) ?_
    exact W.iret (v := (-1)) hx hb hr (fun t ht hW => ⟨⟨(-1), (), rfl, Or.inl ⟨c_1, rfl⟩, trivial⟩, hS.F ht⟩) hS.2.2 dX12_descriptor_20
  · refine lv_iload_n hx hb dX12_descriptor_4 rfl (lv_at hl 2 rfl) ?_
    refine lv_bipush (v := 16) hx hb dX12_descriptor_5 (by decide) ?_
    refine lv_icmp_ge (tgt := 19) hx hb dX12_descriptor_7 (by decide) (fun c_2 => ?_) (fun c_2 => ?_)
    · refine lv_iconst (v := (-1)) hx hb dX12_descriptor_19 (by decide) ?_
      refine W.widen (k := 0) (n := 0) (by decide +kernel) (by decide +kernel) ?_
      exact W.iret (v := (-1)) hx hb hr (fun t ht hW => ⟨⟨(-1), (), rfl, Or.inr (Or.inl ⟨c_1, c_2, rfl⟩), trivial⟩, hS.F ht⟩) hS.2.2 dX12_descriptor_20
    · refine lv_iload_n hx hb dX12_descriptor_10 rfl (lv_at hl 3 rfl) ?_
      refine lv_if_lt (tgt := 19) hx hb dX12_descriptor_11 (by decide) (fun c_3 => ?_) (fun c_3 => ?_)
      · refine lv_iconst (v := (-1)) hx hb dX12_descriptor_19 (by decide) ?_
        refine W.widen (k := 0) (n := 0) (by decide +kernel) (by decide +kernel) ?_
        exact W.iret (v := (-1)) hx hb hr (fun t ht hW => ⟨⟨(-1), (), rfl, Or.inr (Or.inr (Or.inl ⟨c_1, c_2, c_3, rfl⟩)), trivial⟩, hS.F ht⟩) hS.2.2 dX12_descriptor_20
      · refine lv_iload_n hx hb dX12_descriptor_14 rfl (lv_at hl 3 rfl) ?_
        refine lv_iconst (v := 4) hx hb dX12_descriptor_15 (by decide) ?_
        refine lv_icmp_le (tgt := 21) hx hb dX12_descriptor_16 (by decide) (fun c_4 => ?_) (fun c_4 => ?_)
        · refine lv_aload_n hx hb dX12_descriptor_21 rfl (lv_at hl 0 rfl) ?_
          refine lv_iload_n hx hb dX12_descriptor_22 rfl (lv_at hl 1 rfl) ?_
          have hPc := hP.sub (ws' := [(c0, .inr (13, [.ref c5, .int 0, .int 0, .ref c6, .ref c7, .ref c8, .ref c1, .ref c9, .ref c10, .ref c11, .int 0, .ref c12])), (c1, .inr (12, [.ref c13, .ref c14, .ref c15, .ref c16, .ref c17, .ref c18, .int 0, .ref c19, .ref c20, .int 0, .int 0, .int 0, .int 0, .int 0, .int 0, .int 0]))]) [0, 1] rfl
          have hDc := hD.sub (ws' := [(c0, .inr (13, [.ref c5, .int 0, .int 0, .ref c6, .ref c7, .ref c8, .ref c1, .ref c9, .ref c10, .ref c11, .int 0, .ref c12])), (c1, .inr (12, [.ref c13, .ref c14, .ref c15, .ref c16, .ref c17, .ref c18, .int 0, .ref c19, .ref c20, .int 0, .int 0, .int 0, .int 0, .int 0, .int 0, .int 0]))]) [0, 1] (by decide) rfl
          have hKc := hK.sub (tys' := []) [] rfl
          have hFc := va_free (wc := [(c0, .inr (13, [.ref c5, .int 0, .int 0, .ref c6, .ref c7, .ref c8, .ref c1, .ref c9, .ref c10, .ref c11, .int 0, .ref c12])), (c1, .inr (12, [.ref c13, .ref c14, .ref c15, .ref c16, .ref c17, .ref c18, .int 0, .ref c19, .ref c20, .int 0, .int 0, .int 0, .int 0, .int 0, .int 0, .int 0]))]) hD hS hA [0, 1] rfl
          refine va_calli (va_runV (As := [.int c2]) (rest := []) ⟨hx, hb, hml, hown, hts⟩ (k_X12_isThere l hlt dC dI c0 c1 c2 c5 c6 c7 c8 c9 c10 c11 c12 c13 c14 c15 c16 c17 c18 c19 c20  s.heap.size) (cwV 1 hts gi_k_X12_descriptor_0 rfl rfl rfl (by decide +kernel) ⟨Nat.le_of_ble_eq_true rfl, Nat.le_of_ble_eq_true rfl⟩) ⟨fun a U g mk q => by obtain ⟨q0, q1, qP, qK, qD, qN⟩ := q; exact ⟨q0, q1, qP, va_K.moved (u := U) (U := U.calling g mk a) (Vm.Alike.refl U.vm) qK, qD, nv_same rfl rfl qN⟩, va_recv hKc hPc (ci := 13) (q0 := 0) rfl rfl, fun U hU hW => ⟨rfl, by rw [hU], by rw [hU]; exact hPc, va_K.moved hW.alike hKc, hDc.weaken (fun _ _ _ _ => trivial), nv_call hS hFc hU hW hN⟩⟩ rfl rfl hl.1 rfl (lv_room (Nat.le_of_ble_eq_true rfl)) dX12_descriptor_23 ⟨by decide +kernel, by decide +kernel⟩) hS (fun q _ h => hFc q h) hFc (fun r1 u t H1 locs ht hvm hw hB hz1 hk1 hS => ?_)
          obtain ⟨hP1, hK1, hD1⟩ := hB
          rw [ht] at hP1
          have hK1 := va_K.moved hvm.symm hK1
          obtain rfl : r1 = 0 := hw
          obtain ⟨hP, hD⟩ := va_join (wr := []) (w1 := [(c0, .inr (13, [.ref c5, .int 0, .int 0, .ref c6, .ref c7, .ref c8, .ref c1, .ref c9, .ref c10, .ref c11, .int 0, .ref c12])), (c1, .inr (12, [.ref c13, .ref c14, .ref c15, .ref c16, .ref c17, .ref c18, .int 0, .ref c19, .ref c20, .int 0, .int 0, .int 0, .int 0, .int 0, .int 0, .int 0]))]) hP hD [0, 1] [] rfl rfl (by decide) (by decide) hk1 hFc hP1 hD1
          have hK := (hK.sub (tys' := []) [] rfl).app hK1
          generalize H1 = H at hP hS ⊢
          have hP : va_P (dC, dI) vwCl [(c0, .inr (13, [.ref c5, .int 0, .int 0, .ref c6, .ref c7, .ref c8, .ref c1, .ref c9, .ref c10, .ref c11, .int 0, .ref c12])), (c1, .inr (12, [.ref c13, .ref c14, .ref c15, .ref c16, .ref c17, .ref c18, .int 0, .ref c19, .ref c20, .int 0, .int 0, .int 0, .int 0, .int 0, .int 0, .int 0]))] H := hP
          have hD : va_D A [(c0, .inr (13, [.ref c5, .int 0, .int 0, .ref c6, .ref c7, .ref c8, .ref c1, .ref c9, .ref c10, .ref c11, .int 0, .ref c12])), (c1, .inr (12, [.ref c13, .ref c14, .ref c15, .ref c16, .ref c17, .ref c18, .int 0, .ref c19, .ref c20, .int 0, .int 0, .int 0, .int 0, .int 0, .int 0, .int 0]))] := hD
          have hK : va_K (dC, dI) vwCl [] s := hK
          refine W.widen (k := 0) (n := 0) (by decide +kernel) (by decide +kernel) ?_
          refine lv_if_eq (tgt := 47) hx hb dX12_descriptor_26 (by decide) (fun _ => ?_) (fun h9 => absurd (by decide) h9)
          refine lv_iconst (v := (-1)) hx hb dX12_descriptor_47 (by decide) ?_
          refine lv_istore (lv' := [(4, .int (-1)), (0, .ref c0), (1, .int c2), (2, .int c3), (3, .int c4)]) hx hb dX12_descriptor_48 hl (by decide) rfl (fun ls hl => ?_)
          refine lv_iload hx hb dX12_descriptor_50 (lv_at hl 0 rfl) ?_
          refine lv_if_ge (tgt := 65) hx hb dX12_descriptor_52 (by decide) (fun h9 => absurd h9 (by decide)) (fun _ => ?_)
          refine lv_iload_n hx hb dX12_descriptor_55 rfl (lv_at hl 4 rfl) ?_
          refine lv_if_ne (tgt := 63) hx hb dX12_descriptor_56 (by decide) (fun c_5 => ?_) (fun c_5 => ?_)
          · refine lv_iconst (v := (-1)) hx hb dX12_descriptor_63 (by decide) ?_
            refine W.widen (k := 0) (n := 0) (by decide +kernel) (by decide +kernel) ?_
            exact W.iret (v := (-1)) hx hb hr (fun t ht hW => ⟨⟨(-1), (), rfl, Or.inr (Or.inr (Or.inr (Or.inl ⟨c_1, c_2, c_3, c_4, c_5, rfl⟩))), trivial⟩, hS.F ht⟩) hS.2.2 dX12_descriptor_64
          · refine lv_iconst (v := 0) hx hb dX12_descriptor_59 (by decide) ?_
            refine lv_goto (tgt := 64) hx hb dX12_descriptor_60 (by decide) ?_
            refine W.widen (k := 0) (n := 0) (by decide +kernel) (by decide +kernel) ?_
            exact W.iret (v := 0) hx hb hr (fun t ht hW => ⟨⟨0, (), rfl, Or.inr (Or.inr (Or.inr (Or.inr (Or.inl ⟨c_1, c_2, c_3, c_4, c_5, rfl⟩)))), trivial⟩, hS.F ht⟩) hS.2.2 dX12_descriptor_64
        · refine lv_iconst (v := (-1)) hx hb dX12_descriptor_19 (by decide) ?_
          refine W.widen (k := 0) (n := 0) (by decide +kernel) (by decide +kernel) ?_
          exact W.iret (v := (-1)) hx hb hr (fun t ht hW => ⟨⟨(-1), (), rfl, Or.inr (Or.inr (Or.inr (Or.inr (Or.inr (Or.inl ⟨c_1, c_2, c_3, c_4, rfl⟩))))), trivial⟩, hS.F ht⟩) hS.2.2 dX12_descriptor_20
def ow_k_X19_in_v8 : List Cond := .code yX19_in cX19_in 6 (some .boolean) :: ([] ++ [])
theorem gd_k_X19_in_v8 : ∀ w ∈ ow_k_X19_in_v8, (w.onTables && w.keeps) = true ∨ ∃ ty, w = Cond.arrayClass ty := List.forall_mem_cons.mpr ⟨good_of_word rfl, List.forall_mem_append.mpr ⟨fun w h => good_of_word (List.all_eq_true.mp (by decide +kernel) w h), fun _ h => nomatch h⟩⟩
set_option maxHeartbeats 40000000 in
set_option maxRecDepth 100000 in
theorem k_X19_in_v8 (l : Launch) (hlt : l.stackTraces = false) (dC : Nat → ClassId) (dI : Nat → Nat → Nat) (c0 : Int32) (sz : Nat) : Met l yX19_in ow_k_X19_in_v8 ({ frames := 0, cells := 0, slots := 0, locals := 0 }) (va_Pc [.long (c0.toInt64), .long 0, .long 15] (fun U => U.heap.size = sz ∧ va_P (dC, dI) vwCl [] U.heap ∧ va_K (dC, dI) vwCl [] U ∧ va_D (fun _ => True) [] ∧ nv_E (va_A [] sz) U)) (va_Qi (fun r _ => ((c0 < 0) ∧ r = 0) ∨ ((¬ c0 < 0) ∧ (15 < c0) ∧ r = 0) ∨ ((¬ c0 < 0) ∧ (¬ 15 < c0) ∧ r = 1) ∨ False) (fun (_ : Unit) t => va_P (dC, dI) vwCl [] t.heap ∧ va_K (dC, dI) vwCl [] t ∧ va_D (va_A [] sz) []) (va_A [] sz)) 0 0 (va_A [] sz) := by
  refine Met.ofW (cc := cX19_in) (maxL := 6) (ret := (some .boolean)) (by decide) rfl ?_
  intro p e s m args below meth c s₁ B hml hv
  obtain ⟨rfl, hsz, hP, hK, hD0, hN⟩ := hv
  have hx := B.exec
  have hb := B.bytes
  have hr := B.returns
  have hts := atoms_spec (ws := ow_k_X19_in_v8) B.pre
  have hown : s.vm.findClass RX19 = some m.cls := findClass_of_methodNamed B.named
  have hlocks := B.notSynchronized
  subst hsz
  have hD := hD0.self (sz := s.heap.size)
  generalize hAe : va_A [] s.heap.size = A at hD hN ⊢
  have hA : ∀ q : Nat, s.heap.size ≤ q → A q := fun q h => by rw [← hAe]; exact Or.inr h
  have hS : va_S A s.heap s.heap [] := va_S.rf
  have hl := lv_entry ([.long (c0.toInt64), .long 0, .long 15]) (n := 6) (Nat.le_of_ble_eq_true rfl)
  rw [lg_entry_eq]
  generalize (lg_sl ([.long (c0.toInt64), .long 0, .long 15]) ++ List.replicate (6 - (lg_sl ([.long (c0.toInt64), .long 0, .long 15])).length) Slot.unset).toArray = ls at hl ⊢
  have hl : lv_has ls 6 [(0, .long (c0.toInt64)), (2, .long 0), (4, .long 15)] := hl
  refine lv_lload_n hx hb dX19_in_0 rfl (lv_at hl 0 rfl) ?_
  refine lv_lload_n hx hb dX19_in_1 rfl (lv_at hl 1 rfl) ?_
  refine W.lcmp hx hb dX19_in_2 ?_
  refine lv_if_lt (tgt := 17) hx hb dX19_in_3 (by decide) (fun h9 => (fun (c_1 : c0 < 0) => ?_) ((nv_ci_lt (x := c0) (k := 0) (K := 0) (by decide)).mp h9)) (fun h9 => (fun (c_1 : ¬ c0 < 0) => ?_) (fun h8 => h9 ((nv_ci_lt (x := c0) (k := 0) (K := 0) (by decide)).mpr h8)))
  · refine lv_iconst (v := 0) hx hb dX19_in_17 (by decide) ?_
    refine W.widen (k := 0) (n := 0) (by decide +kernel) (by decide +kernel) ?_
    exact W.zret (v := 0) hx hb hr (by first | rfl | decide) (fun t ht hW => ⟨⟨0, (), rfl, Or.inl ⟨c_1, rfl⟩, by rw [ht]; exact hP, va_K.moved hW.alike hK, hD⟩, hS.F ht⟩) hS.2.2 dX19_in_18
  · refine lv_lload_n hx hb dX19_in_6 rfl (lv_at hl 0 rfl) ?_
    refine lv_lload hx hb dX19_in_7 (lv_at hl 2 rfl) ?_
    refine W.lcmp hx hb dX19_in_9 ?_
    refine lv_if_gt (tgt := 17) hx hb dX19_in_10 (by decide) (fun h9 => (fun (c_2 : 15 < c0) => ?_) ((nv_ci_gt (x := c0) (k := 15) (K := 15) (by decide)).mp h9)) (fun h9 => (fun (c_2 : ¬ 15 < c0) => ?_) (fun h8 => h9 ((nv_ci_gt (x := c0) (k := 15) (K := 15) (by decide)).mpr h8)))
    · refine lv_iconst (v := 0) hx hb dX19_in_17 (by decide) ?_
      refine W.widen (k := 0) (n := 0) (by decide +kernel) (by decide +kernel) ?_
      exact W.zret (v := 0) hx hb hr (by first | rfl | decide) (fun t ht hW => ⟨⟨0, (), rfl, Or.inr (Or.inl ⟨c_1, c_2, rfl⟩), by rw [ht]; exact hP, va_K.moved hW.alike hK, hD⟩, hS.F ht⟩) hS.2.2 dX19_in_18
    · refine lv_iconst (v := 1) hx hb dX19_in_13 (by decide) ?_
      refine lv_goto (tgt := 18) hx hb dX19_in_14 (by decide) ?_
      refine W.widen (k := 0) (n := 0) (by decide +kernel) (by decide +kernel) ?_
      exact W.zret (v := 1) hx hb hr (by first | rfl | decide) (fun t ht hW => ⟨⟨1, (), rfl, Or.inr (Or.inr (Or.inl ⟨c_1, c_2, rfl⟩)), by rw [ht]; exact hP, va_K.moved hW.alike hK, hD⟩, hS.F ht⟩) hS.2.2 dX19_in_18
def ow_k_X19_descriptor : List Cond := .code yX19_descriptor cX19_descriptor 4 (some .int) :: ([.methodLink RX19 315 yX19_shows, .instanceMethod yX19_shows, .selects RX19 yX19_shows yX19_shows, .initialized RX19, .constantLong RX19 255 (15), .methodLink RX19 126 yX19_in, .static yX19_in] ++ (ow_k_X19_shows ++ (ow_k_X19_in_v8 ++ [])))
theorem gd_k_X19_descriptor : ∀ w ∈ ow_k_X19_descriptor, (w.onTables && w.keeps) = true ∨ ∃ ty, w = Cond.arrayClass ty := List.forall_mem_cons.mpr ⟨good_of_word rfl, List.forall_mem_append.mpr ⟨fun w h => good_of_word (List.all_eq_true.mp (by decide +kernel) w h), List.forall_mem_append.mpr ⟨gd_k_X19_shows, List.forall_mem_append.mpr ⟨gd_k_X19_in_v8, fun _ h => nomatch h⟩⟩⟩⟩
theorem gi_k_X19_descriptor_0 : GoodIn ow_k_X19_descriptor (wsV RX19 315 RX19 yX19_shows ow_k_X19_shows) := goodIn_app (goodIn_of _ (by decide +kernel)) (fun w h => ⟨List.mem_cons_of_mem _ (List.mem_append_right _ (List.mem_append_left _ h)), gd_k_X19_shows w h⟩)
theorem gi_k_X19_descriptor_1 : GoodIn ow_k_X19_descriptor (wsS RX19 126 yX19_in ow_k_X19_in_v8) := goodIn_app (goodIn_of _ (by decide +kernel)) (fun w h => ⟨List.mem_cons_of_mem _ (List.mem_append_right _ (List.mem_append_right _ (List.mem_append_left _ h))), gd_k_X19_in_v8 w h⟩)
set_option maxHeartbeats 40000000 in
set_option maxRecDepth 100000 in
theorem k_X19_descriptor (l : Launch) (hlt : l.stackTraces = false) (dC : Nat → ClassId) (dI : Nat → Nat → Nat) (c0 : Nat) (c1 : Int32) (c2 : Int32) (c3 : Int32) (c4 : Nat) (c5 : Nat) (c6 : Nat) (c7 : Nat) (c8 : Nat) (c9 : Nat) (c10 : Nat) (c11 : Nat) (c12 : Nat) (c13 : Nat) (c14 : Nat) (c15 : Nat) (c16 : Nat) (c17 : Nat) (c18 : Nat) (c19 : Nat) (c20 : Nat) (c21 : Nat) (c22 : Nat) (c23 : Nat) (c24 : Nat) (c25 : Nat) (c26 : Nat) (sz : Nat) : Met l yX19_descriptor ow_k_X19_descriptor ({ frames := 1, cells := 0, slots := 0, locals := 25 }) (va_Pc [.ref c0, .int c1, .int c2, .int c3] (fun U => U.heap.size = sz ∧ va_P (dC, dI) vwCl [(c0, .inr (20, [.int 0, .ref c4, .int 0, .int 0, .ref c5, .ref c6, .ref c7, .ref c8, .ref c9, .ref c10, .ref c11, .ref c12, .ref c13, .ref c14, .ref c15, .ref c16, .ref c17, .int 0, .int 0, .int 0, .int 0, .int 0, .int 0, .int 0, .int 0, .int 0, .ref c18, .ref c19, .ref c20, .ref c21, .ref c22, .ref c23, .ref c24, .ref c25, .ref c26, .int 0]))] U.heap ∧ va_K (dC, dI) vwCl [] U ∧ va_D (fun _ => True) [(c0, .inr (20, [.int 0, .ref c4, .int 0, .int 0, .ref c5, .ref c6, .ref c7, .ref c8, .ref c9, .ref c10, .ref c11, .ref c12, .ref c13, .ref c14, .ref c15, .ref c16, .ref c17, .int 0, .int 0, .int 0, .int 0, .int 0, .int 0, .int 0, .int 0, .int 0, .ref c18, .ref c19, .ref c20, .ref c21, .ref c22, .ref c23, .ref c24, .ref c25, .ref c26, .int 0]))] ∧ nv_E (va_A [(c0, .inr (20, [.int 0, .ref c4, .int 0, .int 0, .ref c5, .ref c6, .ref c7, .ref c8, .ref c9, .ref c10, .ref c11, .ref c12, .ref c13, .ref c14, .ref c15, .ref c16, .ref c17, .int 0, .int 0, .int 0, .int 0, .int 0, .int 0, .int 0, .int 0, .int 0, .ref c18, .ref c19, .ref c20, .ref c21, .ref c22, .ref c23, .ref c24, .ref c25, .ref c26, .int 0]))] sz) U)) (va_Qi (fun r _ => ((¬ c3 = 0) ∧ r = (-1)) ∨ ((c3 = 0) ∧ (c2 < 0) ∧ r = (-1)) ∨ ((c3 = 0) ∧ (¬ c2 < 0) ∧ (15 < c2) ∧ r = (-1)) ∨ ((c3 = 0) ∧ (¬ c2 < 0) ∧ (¬ 15 < c2) ∧ r = 0) ∨ False) (fun (_ : Unit) t => True) (va_A [(c0, .inr (20, [.int 0, .ref c4, .int 0, .int 0, .ref c5, .ref c6, .ref c7, .ref c8, .ref c9, .ref c10, .ref c11, .ref c12, .ref c13, .ref c14, .ref c15, .ref c16, .ref c17, .int 0, .int 0, .int 0, .int 0, .int 0, .int 0, .int 0, .int 0, .int 0, .ref c18, .ref c19, .ref c20, .ref c21, .ref c22, .ref c23, .ref c24, .ref c25, .ref c26, .int 0]))] sz)) 0 0 (va_A [(c0, .inr (20, [.int 0, .ref c4, .int 0, .int 0, .ref c5, .ref c6, .ref c7, .ref c8, .ref c9, .ref c10, .ref c11, .ref c12, .ref c13, .ref c14, .ref c15, .ref c16, .ref c17, .int 0, .int 0, .int 0, .int 0, .int 0, .int 0, .int 0, .int 0, .int 0, .ref c18, .ref c19, .ref c20, .ref c21, .ref c22, .ref c23, .ref c24, .ref c25, .ref c26, .int 0]))] sz) := by
  refine Met.ofW (cc := cX19_descriptor) (maxL := 4) (ret := (some .int)) (by decide) rfl ?_
  intro p e s m args below meth c s₁ B hml hv
  obtain ⟨rfl, hsz, hP, hK, hD0, hN⟩ := hv
  have hx := B.exec
  have hb := B.bytes
  have hr := B.returns
  have hts := atoms_spec (ws := ow_k_X19_descriptor) B.pre
  have hown : s.vm.findClass RX19 = some m.cls := findClass_of_methodNamed B.named
  have hlocks := B.notSynchronized
  subst hsz
  have hD := hD0.self (sz := s.heap.size)
  generalize hAe : va_A [(c0, .inr (20, [.int 0, .ref c4, .int 0, .int 0, .ref c5, .ref c6, .ref c7, .ref c8, .ref c9, .ref c10, .ref c11, .ref c12, .ref c13, .ref c14, .ref c15, .ref c16, .ref c17, .int 0, .int 0, .int 0, .int 0, .int 0, .int 0, .int 0, .int 0, .int 0, .ref c18, .ref c19, .ref c20, .ref c21, .ref c22, .ref c23, .ref c24, .ref c25, .ref c26, .int 0]))] s.heap.size = A at hD hN ⊢
  have hA : ∀ q : Nat, s.heap.size ≤ q → A q := fun q h => by rw [← hAe]; exact Or.inr h
  have hS : va_S A s.heap s.heap [] := va_S.rf
  have hl := lv_entry ([.ref c0, .int c1, .int c2, .int c3]) (n := 4) (Nat.le_of_ble_eq_true rfl)
  rw [lg_entry_eq]
  generalize (lg_sl ([.ref c0, .int c1, .int c2, .int c3]) ++ List.replicate (4 - (lg_sl ([.ref c0, .int c1, .int c2, .int c3])).length) Slot.unset).toArray = ls at hl ⊢
  have hl : lv_has ls 4 [(0, .ref c0), (1, .int c1), (2, .int c2), (3, .int c3)] := hl
  refine lv_aload_n hx hb dX19_descriptor_0 rfl (lv_at hl 0 rfl) ?_
  have hPc := hP.sub (ws' := [(c0, .inr (20, [.int 0, .ref c4, .int 0, .int 0, .ref c5, .ref c6, .ref c7, .ref c8, .ref c9, .ref c10, .ref c11, .ref c12, .ref c13, .ref c14, .ref c15, .ref c16, .ref c17, .int 0, .int 0, .int 0, .int 0, .int 0, .int 0, .int 0, .int 0, .int 0, .ref c18, .ref c19, .ref c20, .ref c21, .ref c22, .ref c23, .ref c24, .ref c25, .ref c26, .int 0]))]) [0] rfl
  have hDc := hD.sub (ws' := [(c0, .inr (20, [.int 0, .ref c4, .int 0, .int 0, .ref c5, .ref c6, .ref c7, .ref c8, .ref c9, .ref c10, .ref c11, .ref c12, .ref c13, .ref c14, .ref c15, .ref c16, .ref c17, .int 0, .int 0, .int 0, .int 0, .int 0, .int 0, .int 0, .int 0, .int 0, .ref c18, .ref c19, .ref c20, .ref c21, .ref c22, .ref c23, .ref c24, .ref c25, .ref c26, .int 0]))]) [0] (by decide) rfl
  have hKc := hK.sub (tys' := []) [] rfl
  have hFc := va_free (wc := [(c0, .inr (20, [.int 0, .ref c4, .int 0, .int 0, .ref c5, .ref c6, .ref c7, .ref c8, .ref c9, .ref c10, .ref c11, .ref c12, .ref c13, .ref c14, .ref c15, .ref c16, .ref c17, .int 0, .int 0, .int 0, .int 0, .int 0, .int 0, .int 0, .int 0, .int 0, .ref c18, .ref c19, .ref c20, .ref c21, .ref c22, .ref c23, .ref c24, .ref c25, .ref c26, .int 0]))]) hD hS hA [0] rfl
  refine va_calli (va_runV (As := []) (rest := []) ⟨hx, hb, hml, hown, hts⟩ (k_X19_shows l hlt dC dI c0 c4 c5 c6 c7 c8 c9 c10 c11 c12 c13 c14 c15 c16 c17 c18 c19 c20 c21 c22 c23 c24 c25 c26  s.heap.size) (cwV 0 hts gi_k_X19_descriptor_0 rfl rfl rfl (by decide +kernel) ⟨Nat.le_of_ble_eq_true rfl, Nat.le_of_ble_eq_true rfl⟩) ⟨fun a U g mk q => by obtain ⟨q0, q1, qP, qK, qD, qN⟩ := q; exact ⟨q0, q1, qP, va_K.moved (u := U) (U := U.calling g mk a) (Vm.Alike.refl U.vm) qK, qD, nv_same rfl rfl qN⟩, va_recv hKc hPc (ci := 20) (q0 := 0) rfl rfl, fun U hU hW => ⟨rfl, by rw [hU], by rw [hU]; exact hPc, va_K.moved hW.alike hKc, hDc.weaken (fun _ _ _ _ => trivial), nv_call hS hFc hU hW hN⟩⟩ rfl rfl hl.1 rfl (lv_room (Nat.le_of_ble_eq_true rfl)) dX19_descriptor_1 ⟨by decide +kernel, by decide +kernel⟩) hS (fun q _ h => hFc q h) hFc (fun r1 u t H1 locs ht hvm hw hB hz1 hk1 hS => ?_)
  obtain ⟨hP1, hK1, hD1⟩ := hB
  rw [ht] at hP1
  have hK1 := va_K.moved hvm.symm hK1
  obtain rfl : r1 = 0 := hw
  obtain ⟨hP, hD⟩ := va_join (wr := []) (w1 := [(c0, .inr (20, [.int 0, .ref c4, .int 0, .int 0, .ref c5, .ref c6, .ref c7, .ref c8, .ref c9, .ref c10, .ref c11, .ref c12, .ref c13, .ref c14, .ref c15, .ref c16, .ref c17, .int 0, .int 0, .int 0, .int 0, .int 0, .int 0, .int 0, .int 0, .int 0, .ref c18, .ref c19, .ref c20, .ref c21, .ref c22, .ref c23, .ref c24, .ref c25, .ref c26, .int 0]))]) hP hD [0] [] rfl rfl (by decide) (by decide) hk1 hFc hP1 hD1
  have hK := (hK.sub (tys' := []) [] rfl).app hK1
  generalize H1 = H at hP hS ⊢
  have hP : va_P (dC, dI) vwCl [(c0, .inr (20, [.int 0, .ref c4, .int 0, .int 0, .ref c5, .ref c6, .ref c7, .ref c8, .ref c9, .ref c10, .ref c11, .ref c12, .ref c13, .ref c14, .ref c15, .ref c16, .ref c17, .int 0, .int 0, .int 0, .int 0, .int 0, .int 0, .int 0, .int 0, .int 0, .ref c18, .ref c19, .ref c20, .ref c21, .ref c22, .ref c23, .ref c24, .ref c25, .ref c26, .int 0]))] H := hP
  have hD : va_D A [(c0, .inr (20, [.int 0, .ref c4, .int 0, .int 0, .ref c5, .ref c6, .ref c7, .ref c8, .ref c9, .ref c10, .ref c11, .ref c12, .ref c13, .ref c14, .ref c15, .ref c16, .ref c17, .int 0, .int 0, .int 0, .int 0, .int 0, .int 0, .int 0, .int 0, .int 0, .ref c18, .ref c19, .ref c20, .ref c21, .ref c22, .ref c23, .ref c24, .ref c25, .ref c26, .int 0]))] := hD
  have hK : va_K (dC, dI) vwCl [] s := hK
  refine W.widen (k := 0) (n := 0) (by decide +kernel) (by decide +kernel) ?_
  refine lv_if_eq (tgt := 32) hx hb dX19_descriptor_4 (by decide) (fun _ => ?_) (fun h9 => absurd (by decide) h9)
  refine lv_iload_n hx hb dX19_descriptor_32 rfl (lv_at hl 3 rfl) ?_
  refine lv_if_ne (tgt := 52) hx hb dX19_descriptor_33 (by decide) (fun c_1 => ?_) (fun c_1 => ?_)
  · refine lv_iconst (v := (-1)) hx hb dX19_descriptor_52 (by decide) ?_
    refine W.widen (k := 0) (n := 0) (by decide +kernel) (by decide +kernel) ?_
    exact W.iret (v := (-1)) hx hb hr (fun t ht hW => ⟨⟨(-1), (), rfl, Or.inl ⟨c_1, rfl⟩, trivial⟩, hS.F ht⟩) hS.2.2 dX19_descriptor_53
  · refine lv_iload_n hx hb dX19_descriptor_36 rfl (lv_at hl 2 rfl) ?_
    refine lv_i2l hx hb dX19_descriptor_37 rfl ?_
    refine lv_lconst (v := 0) hx hb dX19_descriptor_38 (by decide) ?_
    refine lv_ldc2 hx hb hown (hts (.constantLong RX19 255 (15)) (List.mem_of_getElem? (i := 5) rfl)) dX19_descriptor_39 ?_
    have hPc := hP.sub (ws' := []) [] rfl
    have hDc := hD.sub (ws' := []) [] (by decide) rfl
    have hKc := hK.sub (tys' := []) [] rfl
    have hFc := va_free (wc := []) hD hS hA [] rfl
    refine va_calli (va_runS (As := [.long (c2.toInt64), .long 0, .long 15]) (rest := []) ⟨hx, hb, hml, hown, hts⟩ (k_X19_in_v8 l hlt dC dI c2  H.size) (cwS 3 hts gi_k_X19_descriptor_1 rfl rfl rfl (by decide +kernel) ⟨Nat.le_of_ble_eq_true rfl, Nat.le_of_ble_eq_true rfl⟩) ⟨fun a U g mk q => by obtain ⟨q0, q1, qP, qK, qD, qN⟩ := q; exact ⟨q0, q1, qP, va_K.moved (u := U) (U := U.calling g mk a) (Vm.Alike.refl U.vm) qK, qD, nv_same rfl rfl qN⟩, fun U hU hW => ⟨rfl, by rw [hU], by rw [hU]; exact hPc, va_K.moved hW.alike hKc, hDc.weaken (fun _ _ _ _ => trivial), nv_call hS hFc hU hW hN⟩⟩ rfl rfl hl.1 rfl (lv_room (Nat.le_of_ble_eq_true rfl)) dX19_descriptor_42 ⟨by decide +kernel, by decide +kernel⟩) hS (fun q _ h => hFc q h) hFc (fun r2 u t H1 locs ht hvm hw hB hz1 hk1 hS => ?_)
    obtain ⟨hP1, hK1, hD1⟩ := hB
    rw [ht] at hP1
    have hK1 := va_K.moved hvm.symm hK1
    obtain ⟨hP, hD⟩ := va_join (wr := [(c0, .inr (20, [.int 0, .ref c4, .int 0, .int 0, .ref c5, .ref c6, .ref c7, .ref c8, .ref c9, .ref c10, .ref c11, .ref c12, .ref c13, .ref c14, .ref c15, .ref c16, .ref c17, .int 0, .int 0, .int 0, .int 0, .int 0, .int 0, .int 0, .int 0, .int 0, .ref c18, .ref c19, .ref c20, .ref c21, .ref c22, .ref c23, .ref c24, .ref c25, .ref c26, .int 0]))]) (w1 := []) hP hD [] [0] rfl rfl (by decide) (by decide) hk1 hFc hP1 hD1
    have hK := (hK.sub (tys' := []) [] rfl).app hK1
    generalize H1 = H at hP hS ⊢
    have hP : va_P (dC, dI) vwCl [(c0, .inr (20, [.int 0, .ref c4, .int 0, .int 0, .ref c5, .ref c6, .ref c7, .ref c8, .ref c9, .ref c10, .ref c11, .ref c12, .ref c13, .ref c14, .ref c15, .ref c16, .ref c17, .int 0, .int 0, .int 0, .int 0, .int 0, .int 0, .int 0, .int 0, .int 0, .ref c18, .ref c19, .ref c20, .ref c21, .ref c22, .ref c23, .ref c24, .ref c25, .ref c26, .int 0]))] H := hP
    have hD : va_D A [(c0, .inr (20, [.int 0, .ref c4, .int 0, .int 0, .ref c5, .ref c6, .ref c7, .ref c8, .ref c9, .ref c10, .ref c11, .ref c12, .ref c13, .ref c14, .ref c15, .ref c16, .ref c17, .int 0, .int 0, .int 0, .int 0, .int 0, .int 0, .int 0, .int 0, .int 0, .ref c18, .ref c19, .ref c20, .ref c21, .ref c22, .ref c23, .ref c24, .ref c25, .ref c26, .int 0]))] := hD
    have hK : va_K (dC, dI) vwCl [] s := hK
    refine W.widen (k := 0) (n := 0) (by decide +kernel) (by decide +kernel) ?_
    rcases hw with ⟨c_2_0, h9⟩ | ⟨c_2_0, c_2_1, h9⟩ | ⟨c_2_0, c_2_1, h9⟩ | h9
    · subst h9
      refine lv_if_eq (tgt := 52) hx hb dX19_descriptor_45 (by decide) (fun _ => ?_) (fun h9 => absurd (by decide) h9)
      refine lv_iconst (v := (-1)) hx hb dX19_descriptor_52 (by decide) ?_
      refine W.widen (k := 0) (n := 0) (by decide +kernel) (by decide +kernel) ?_
      exact W.iret (v := (-1)) hx hb hr (fun t ht hW => ⟨⟨(-1), (), rfl, Or.inr (Or.inl ⟨c_1, c_2_0, rfl⟩), trivial⟩, hS.F ht⟩) hS.2.2 dX19_descriptor_53
    · subst h9
      refine lv_if_eq (tgt := 52) hx hb dX19_descriptor_45 (by decide) (fun _ => ?_) (fun h9 => absurd (by decide) h9)
      refine lv_iconst (v := (-1)) hx hb dX19_descriptor_52 (by decide) ?_
      refine W.widen (k := 0) (n := 0) (by decide +kernel) (by decide +kernel) ?_
      exact W.iret (v := (-1)) hx hb hr (fun t ht hW => ⟨⟨(-1), (), rfl, Or.inr (Or.inr (Or.inl ⟨c_1, c_2_0, c_2_1, rfl⟩)), trivial⟩, hS.F ht⟩) hS.2.2 dX19_descriptor_53
    · subst h9
      refine lv_if_eq (tgt := 52) hx hb dX19_descriptor_45 (by decide) (fun h9 => absurd h9 (by decide)) (fun _ => ?_)
      refine lv_iconst (v := 0) hx hb dX19_descriptor_48 (by decide) ?_
      refine lv_goto (tgt := 53) hx hb dX19_descriptor_49 (by decide) ?_
      refine W.widen (k := 0) (n := 0) (by decide +kernel) (by decide +kernel) ?_
      exact W.iret (v := 0) hx hb hr (fun t ht hW => ⟨⟨0, (), rfl, Or.inr (Or.inr (Or.inr (Or.inl ⟨c_1, c_2_0, c_2_1, rfl⟩))), trivial⟩, hS.F ht⟩) hS.2.2 dX19_descriptor_53
    · exact h9.elim
def ow_k_X12_held : List Cond := .code yX12_held cX12_held 5 (some .int) :: ([.methodLink RX12 208 yX12_isThere, .instanceMethod yX12_isThere, .selects RX12 yX12_isThere yX12_isThere, .initialized RX12] ++ (ow_k_X12_isThere ++ []))
theorem gd_k_X12_held : ∀ w ∈ ow_k_X12_held, (w.onTables && w.keeps) = true ∨ ∃ ty, w = Cond.arrayClass ty := List.forall_mem_cons.mpr ⟨good_of_word rfl, List.forall_mem_append.mpr ⟨fun w h => good_of_word (List.all_eq_true.mp (by decide +kernel) w h), List.forall_mem_append.mpr ⟨gd_k_X12_isThere, fun _ h => nomatch h⟩⟩⟩
theorem gi_k_X12_held_0 : GoodIn ow_k_X12_held (wsV RX12 208 RX12 yX12_isThere ow_k_X12_isThere) := goodIn_app (goodIn_of _ (by decide +kernel)) (fun w h => ⟨List.mem_cons_of_mem _ (List.mem_append_right _ (List.mem_append_left _ h)), gd_k_X12_isThere w h⟩)
set_option maxHeartbeats 40000000 in
set_option maxRecDepth 100000 in
theorem k_X12_held (l : Launch) (hlt : l.stackTraces = false) (dC : Nat → ClassId) (dI : Nat → Nat → Nat) (c0 : Nat) (c1 : Nat) (c2 : Int32) (c3 : Int32) (c4 : Int32) (c5 : Nat) (c6 : Nat) (c7 : Nat) (c8 : Nat) (c9 : Nat) (c10 : Nat) (c11 : Nat) (c12 : Nat) (c13 : Nat) (c14 : Nat) (c15 : Nat) (c16 : Nat) (c17 : Nat) (c18 : Nat) (c19 : Nat) (c20 : Nat) (sz : Nat) : Met l yX12_held ow_k_X12_held ({ frames := 1, cells := 0, slots := 0, locals := 21 }) (va_Pc [.ref c0, .int c2, .int c3, .int c4] (fun U => U.heap.size = sz ∧ va_P (dC, dI) vwCl [(c0, .inr (13, [.ref c5, .int 0, .int 0, .ref c6, .ref c7, .ref c8, .ref c1, .ref c9, .ref c10, .ref c11, .int 0, .ref c12])), (c1, .inr (12, [.ref c13, .ref c14, .ref c15, .ref c16, .ref c17, .ref c18, .int 0, .ref c19, .ref c20, .int 0, .int 0, .int 0, .int 0, .int 0, .int 0, .int 0]))] U.heap ∧ va_K (dC, dI) vwCl [] U ∧ va_D (fun _ => True) [(c0, .inr (13, [.ref c5, .int 0, .int 0, .ref c6, .ref c7, .ref c8, .ref c1, .ref c9, .ref c10, .ref c11, .int 0, .ref c12])), (c1, .inr (12, [.ref c13, .ref c14, .ref c15, .ref c16, .ref c17, .ref c18, .int 0, .ref c19, .ref c20, .int 0, .int 0, .int 0, .int 0, .int 0, .int 0, .int 0]))] ∧ nv_E (va_A [(c0, .inr (13, [.ref c5, .int 0, .int 0, .ref c6, .ref c7, .ref c8, .ref c1, .ref c9, .ref c10, .ref c11, .int 0, .ref c12])), (c1, .inr (12, [.ref c13, .ref c14, .ref c15, .ref c16, .ref c17, .ref c18, .int 0, .ref c19, .ref c20, .int 0, .int 0, .int 0, .int 0, .int 0, .int 0, .int 0]))] sz) U)) (va_Qi (fun r _ => r = (-1)) (fun (_ : Unit) t => va_P (dC, dI) vwCl [(c0, .inr (13, [.ref c5, .int 0, .int 0, .ref c6, .ref c7, .ref c8, .ref c1, .ref c9, .ref c10, .ref c11, .int 0, .ref c12])), (c1, .inr (12, [.ref c13, .ref c14, .ref c15, .ref c16, .ref c17, .ref c18, .int 0, .ref c19, .ref c20, .int 0, .int 0, .int 0, .int 0, .int 0, .int 0, .int 0]))] t.heap ∧ va_K (dC, dI) vwCl [] t ∧ va_D (va_A [(c0, .inr (13, [.ref c5, .int 0, .int 0, .ref c6, .ref c7, .ref c8, .ref c1, .ref c9, .ref c10, .ref c11, .int 0, .ref c12])), (c1, .inr (12, [.ref c13, .ref c14, .ref c15, .ref c16, .ref c17, .ref c18, .int 0, .ref c19, .ref c20, .int 0, .int 0, .int 0, .int 0, .int 0, .int 0, .int 0]))] sz) [(c0, .inr (13, [.ref c5, .int 0, .int 0, .ref c6, .ref c7, .ref c8, .ref c1, .ref c9, .ref c10, .ref c11, .int 0, .ref c12])), (c1, .inr (12, [.ref c13, .ref c14, .ref c15, .ref c16, .ref c17, .ref c18, .int 0, .ref c19, .ref c20, .int 0, .int 0, .int 0, .int 0, .int 0, .int 0, .int 0]))]) (va_A [(c0, .inr (13, [.ref c5, .int 0, .int 0, .ref c6, .ref c7, .ref c8, .ref c1, .ref c9, .ref c10, .ref c11, .int 0, .ref c12])), (c1, .inr (12, [.ref c13, .ref c14, .ref c15, .ref c16, .ref c17, .ref c18, .int 0, .ref c19, .ref c20, .int 0, .int 0, .int 0, .int 0, .int 0, .int 0, .int 0]))] sz)) 0 0 (va_A [(c0, .inr (13, [.ref c5, .int 0, .int 0, .ref c6, .ref c7, .ref c8, .ref c1, .ref c9, .ref c10, .ref c11, .int 0, .ref c12])), (c1, .inr (12, [.ref c13, .ref c14, .ref c15, .ref c16, .ref c17, .ref c18, .int 0, .ref c19, .ref c20, .int 0, .int 0, .int 0, .int 0, .int 0, .int 0, .int 0]))] sz) := by
  refine Met.ofW (cc := cX12_held) (maxL := 5) (ret := (some .int)) (by decide) rfl ?_
  intro p e s m args below meth c s₁ B hml hv
  obtain ⟨rfl, hsz, hP, hK, hD0, hN⟩ := hv
  have hx := B.exec
  have hb := B.bytes
  have hr := B.returns
  have hts := atoms_spec (ws := ow_k_X12_held) B.pre
  have hown : s.vm.findClass RX12 = some m.cls := findClass_of_methodNamed B.named
  have hlocks := B.notSynchronized
  subst hsz
  have hD := hD0.self (sz := s.heap.size)
  generalize hAe : va_A [(c0, .inr (13, [.ref c5, .int 0, .int 0, .ref c6, .ref c7, .ref c8, .ref c1, .ref c9, .ref c10, .ref c11, .int 0, .ref c12])), (c1, .inr (12, [.ref c13, .ref c14, .ref c15, .ref c16, .ref c17, .ref c18, .int 0, .ref c19, .ref c20, .int 0, .int 0, .int 0, .int 0, .int 0, .int 0, .int 0]))] s.heap.size = A at hD hN ⊢
  have hA : ∀ q : Nat, s.heap.size ≤ q → A q := fun q h => by rw [← hAe]; exact Or.inr h
  have hS : va_S A s.heap s.heap [] := va_S.rf
  have hl := lv_entry ([.ref c0, .int c2, .int c3, .int c4]) (n := 5) (Nat.le_of_ble_eq_true rfl)
  rw [lg_entry_eq]
  generalize (lg_sl ([.ref c0, .int c2, .int c3, .int c4]) ++ List.replicate (5 - (lg_sl ([.ref c0, .int c2, .int c3, .int c4])).length) Slot.unset).toArray = ls at hl ⊢
  have hl : lv_has ls 5 [(0, .ref c0), (1, .int c2), (2, .int c3), (3, .int c4)] := hl
  refine lv_aload_n hx hb dX12_held_0 rfl (lv_at hl 0 rfl) ?_
  refine lv_iload_n hx hb dX12_held_1 rfl (lv_at hl 1 rfl) ?_
  have hPc := hP.sub (ws' := [(c0, .inr (13, [.ref c5, .int 0, .int 0, .ref c6, .ref c7, .ref c8, .ref c1, .ref c9, .ref c10, .ref c11, .int 0, .ref c12])), (c1, .inr (12, [.ref c13, .ref c14, .ref c15, .ref c16, .ref c17, .ref c18, .int 0, .ref c19, .ref c20, .int 0, .int 0, .int 0, .int 0, .int 0, .int 0, .int 0]))]) [0, 1] rfl
  have hDc := hD.sub (ws' := [(c0, .inr (13, [.ref c5, .int 0, .int 0, .ref c6, .ref c7, .ref c8, .ref c1, .ref c9, .ref c10, .ref c11, .int 0, .ref c12])), (c1, .inr (12, [.ref c13, .ref c14, .ref c15, .ref c16, .ref c17, .ref c18, .int 0, .ref c19, .ref c20, .int 0, .int 0, .int 0, .int 0, .int 0, .int 0, .int 0]))]) [0, 1] (by decide) rfl
  have hKc := hK.sub (tys' := []) [] rfl
  have hFc := va_free (wc := [(c0, .inr (13, [.ref c5, .int 0, .int 0, .ref c6, .ref c7, .ref c8, .ref c1, .ref c9, .ref c10, .ref c11, .int 0, .ref c12])), (c1, .inr (12, [.ref c13, .ref c14, .ref c15, .ref c16, .ref c17, .ref c18, .int 0, .ref c19, .ref c20, .int 0, .int 0, .int 0, .int 0, .int 0, .int 0, .int 0]))]) hD hS hA [0, 1] rfl
  refine va_calli (va_runV (As := [.int c2]) (rest := []) ⟨hx, hb, hml, hown, hts⟩ (k_X12_isThere l hlt dC dI c0 c1 c2 c5 c6 c7 c8 c9 c10 c11 c12 c13 c14 c15 c16 c17 c18 c19 c20  s.heap.size) (cwV 1 hts gi_k_X12_held_0 rfl rfl rfl (by decide +kernel) ⟨Nat.le_of_ble_eq_true rfl, Nat.le_of_ble_eq_true rfl⟩) ⟨fun a U g mk q => by obtain ⟨q0, q1, qP, qK, qD, qN⟩ := q; exact ⟨q0, q1, qP, va_K.moved (u := U) (U := U.calling g mk a) (Vm.Alike.refl U.vm) qK, qD, nv_same rfl rfl qN⟩, va_recv hKc hPc (ci := 13) (q0 := 0) rfl rfl, fun U hU hW => ⟨rfl, by rw [hU], by rw [hU]; exact hPc, va_K.moved hW.alike hKc, hDc.weaken (fun _ _ _ _ => trivial), nv_call hS hFc hU hW hN⟩⟩ rfl rfl hl.1 rfl (lv_room (Nat.le_of_ble_eq_true rfl)) dX12_held_2 ⟨by decide +kernel, by decide +kernel⟩) hS (fun q _ h => hFc q h) hFc (fun r1 u t H1 locs ht hvm hw hB hz1 hk1 hS => ?_)
  obtain ⟨hP1, hK1, hD1⟩ := hB
  rw [ht] at hP1
  have hK1 := va_K.moved hvm.symm hK1
  obtain rfl : r1 = 0 := hw
  obtain ⟨hP, hD⟩ := va_join (wr := []) (w1 := [(c0, .inr (13, [.ref c5, .int 0, .int 0, .ref c6, .ref c7, .ref c8, .ref c1, .ref c9, .ref c10, .ref c11, .int 0, .ref c12])), (c1, .inr (12, [.ref c13, .ref c14, .ref c15, .ref c16, .ref c17, .ref c18, .int 0, .ref c19, .ref c20, .int 0, .int 0, .int 0, .int 0, .int 0, .int 0, .int 0]))]) hP hD [0, 1] [] rfl rfl (by decide) (by decide) hk1 hFc hP1 hD1
  have hK := (hK.sub (tys' := []) [] rfl).app hK1
  generalize H1 = H at hP hS ⊢
  have hP : va_P (dC, dI) vwCl [(c0, .inr (13, [.ref c5, .int 0, .int 0, .ref c6, .ref c7, .ref c8, .ref c1, .ref c9, .ref c10, .ref c11, .int 0, .ref c12])), (c1, .inr (12, [.ref c13, .ref c14, .ref c15, .ref c16, .ref c17, .ref c18, .int 0, .ref c19, .ref c20, .int 0, .int 0, .int 0, .int 0, .int 0, .int 0, .int 0]))] H := hP
  have hD : va_D A [(c0, .inr (13, [.ref c5, .int 0, .int 0, .ref c6, .ref c7, .ref c8, .ref c1, .ref c9, .ref c10, .ref c11, .int 0, .ref c12])), (c1, .inr (12, [.ref c13, .ref c14, .ref c15, .ref c16, .ref c17, .ref c18, .int 0, .ref c19, .ref c20, .int 0, .int 0, .int 0, .int 0, .int 0, .int 0, .int 0]))] := hD
  have hK : va_K (dC, dI) vwCl [] s := hK
  refine W.widen (k := 0) (n := 0) (by decide +kernel) (by decide +kernel) ?_
  refine lv_if_eq (tgt := 26) hx hb dX12_held_5 (by decide) (fun _ => ?_) (fun h9 => absurd (by decide) h9)
  refine lv_iconst (v := (-1)) hx hb dX12_held_26 (by decide) ?_
  refine lv_istore (lv' := [(4, .int (-1)), (0, .ref c0), (1, .int c2), (2, .int c3), (3, .int c4)]) hx hb dX12_held_27 hl (by decide) rfl (fun ls hl => ?_)
  refine lv_iload hx hb dX12_held_29 (lv_at hl 0 rfl) ?_
  refine lv_if_lt (tgt := 57) hx hb dX12_held_31 (by decide) (fun _ => ?_) (fun h9 => absurd (by decide) h9)
  refine lv_iconst (v := (-1)) hx hb dX12_held_57 (by decide) ?_
  have hP9 := hP.sub (ws' := [(c0, .inr (13, [.ref c5, .int 0, .int 0, .ref c6, .ref c7, .ref c8, .ref c1, .ref c9, .ref c10, .ref c11, .int 0, .ref c12])), (c1, .inr (12, [.ref c13, .ref c14, .ref c15, .ref c16, .ref c17, .ref c18, .int 0, .ref c19, .ref c20, .int 0, .int 0, .int 0, .int 0, .int 0, .int 0, .int 0]))]) [0, 1] rfl
  have hD9 := hD.sub (ws' := [(c0, .inr (13, [.ref c5, .int 0, .int 0, .ref c6, .ref c7, .ref c8, .ref c1, .ref c9, .ref c10, .ref c11, .int 0, .ref c12])), (c1, .inr (12, [.ref c13, .ref c14, .ref c15, .ref c16, .ref c17, .ref c18, .int 0, .ref c19, .ref c20, .int 0, .int 0, .int 0, .int 0, .int 0, .int 0, .int 0]))]) [0, 1] (by decide) rfl
  have hK9 := hK.sub (tys' := []) [] rfl
  refine W.widen (k := 0) (n := 0) (by decide +kernel) (by decide +kernel) ?_
  exact W.iret (v := (-1)) hx hb hr (fun t ht hW => ⟨⟨(-1), (), rfl, rfl, by rw [ht]; exact hP9, va_K.moved hW.alike hK9, hD9⟩, hS.F ht⟩) hS.2.2 dX12_held_58
def ow_k_X19_held : List Cond := .code yX19_held cX19_held 4 (some .int) :: ([.methodLink RX19 315 yX19_shows, .instanceMethod yX19_shows, .selects RX19 yX19_shows yX19_shows, .initialized RX19] ++ (ow_k_X19_shows ++ []))
theorem gd_k_X19_held : ∀ w ∈ ow_k_X19_held, (w.onTables && w.keeps) = true ∨ ∃ ty, w = Cond.arrayClass ty := List.forall_mem_cons.mpr ⟨good_of_word rfl, List.forall_mem_append.mpr ⟨fun w h => good_of_word (List.all_eq_true.mp (by decide +kernel) w h), List.forall_mem_append.mpr ⟨gd_k_X19_shows, fun _ h => nomatch h⟩⟩⟩
theorem gi_k_X19_held_0 : GoodIn ow_k_X19_held (wsV RX19 315 RX19 yX19_shows ow_k_X19_shows) := goodIn_app (goodIn_of _ (by decide +kernel)) (fun w h => ⟨List.mem_cons_of_mem _ (List.mem_append_right _ (List.mem_append_left _ h)), gd_k_X19_shows w h⟩)
set_option maxHeartbeats 40000000 in
set_option maxRecDepth 100000 in
theorem k_X19_held (l : Launch) (hlt : l.stackTraces = false) (dC : Nat → ClassId) (dI : Nat → Nat → Nat) (c0 : Nat) (c1 : Int32) (c2 : Int32) (c3 : Int32) (c4 : Nat) (c5 : Nat) (c6 : Nat) (c7 : Nat) (c8 : Nat) (c9 : Nat) (c10 : Nat) (c11 : Nat) (c12 : Nat) (c13 : Nat) (c14 : Nat) (c15 : Nat) (c16 : Nat) (c17 : Nat) (c18 : Nat) (c19 : Nat) (c20 : Nat) (c21 : Nat) (c22 : Nat) (c23 : Nat) (c24 : Nat) (c25 : Nat) (c26 : Nat) (sz : Nat) : Met l yX19_held ow_k_X19_held ({ frames := 1, cells := 0, slots := 0, locals := 20 }) (va_Pc [.ref c0, .int c1, .int c2, .int c3] (fun U => U.heap.size = sz ∧ va_P (dC, dI) vwCl [(c0, .inr (20, [.int 0, .ref c4, .int 0, .int 0, .ref c5, .ref c6, .ref c7, .ref c8, .ref c9, .ref c10, .ref c11, .ref c12, .ref c13, .ref c14, .ref c15, .ref c16, .ref c17, .int 0, .int 0, .int 0, .int 0, .int 0, .int 0, .int 0, .int 0, .int 0, .ref c18, .ref c19, .ref c20, .ref c21, .ref c22, .ref c23, .ref c24, .ref c25, .ref c26, .int 0]))] U.heap ∧ va_K (dC, dI) vwCl [] U ∧ va_D (fun _ => True) [(c0, .inr (20, [.int 0, .ref c4, .int 0, .int 0, .ref c5, .ref c6, .ref c7, .ref c8, .ref c9, .ref c10, .ref c11, .ref c12, .ref c13, .ref c14, .ref c15, .ref c16, .ref c17, .int 0, .int 0, .int 0, .int 0, .int 0, .int 0, .int 0, .int 0, .int 0, .ref c18, .ref c19, .ref c20, .ref c21, .ref c22, .ref c23, .ref c24, .ref c25, .ref c26, .int 0]))] ∧ nv_E (va_A [(c0, .inr (20, [.int 0, .ref c4, .int 0, .int 0, .ref c5, .ref c6, .ref c7, .ref c8, .ref c9, .ref c10, .ref c11, .ref c12, .ref c13, .ref c14, .ref c15, .ref c16, .ref c17, .int 0, .int 0, .int 0, .int 0, .int 0, .int 0, .int 0, .int 0, .int 0, .ref c18, .ref c19, .ref c20, .ref c21, .ref c22, .ref c23, .ref c24, .ref c25, .ref c26, .int 0]))] sz) U)) (va_Qi (fun r _ => r = (-1)) (fun (_ : Unit) t => va_P (dC, dI) vwCl [(c0, .inr (20, [.int 0, .ref c4, .int 0, .int 0, .ref c5, .ref c6, .ref c7, .ref c8, .ref c9, .ref c10, .ref c11, .ref c12, .ref c13, .ref c14, .ref c15, .ref c16, .ref c17, .int 0, .int 0, .int 0, .int 0, .int 0, .int 0, .int 0, .int 0, .int 0, .ref c18, .ref c19, .ref c20, .ref c21, .ref c22, .ref c23, .ref c24, .ref c25, .ref c26, .int 0]))] t.heap ∧ va_K (dC, dI) vwCl [] t ∧ va_D (va_A [(c0, .inr (20, [.int 0, .ref c4, .int 0, .int 0, .ref c5, .ref c6, .ref c7, .ref c8, .ref c9, .ref c10, .ref c11, .ref c12, .ref c13, .ref c14, .ref c15, .ref c16, .ref c17, .int 0, .int 0, .int 0, .int 0, .int 0, .int 0, .int 0, .int 0, .int 0, .ref c18, .ref c19, .ref c20, .ref c21, .ref c22, .ref c23, .ref c24, .ref c25, .ref c26, .int 0]))] sz) [(c0, .inr (20, [.int 0, .ref c4, .int 0, .int 0, .ref c5, .ref c6, .ref c7, .ref c8, .ref c9, .ref c10, .ref c11, .ref c12, .ref c13, .ref c14, .ref c15, .ref c16, .ref c17, .int 0, .int 0, .int 0, .int 0, .int 0, .int 0, .int 0, .int 0, .int 0, .ref c18, .ref c19, .ref c20, .ref c21, .ref c22, .ref c23, .ref c24, .ref c25, .ref c26, .int 0]))]) (va_A [(c0, .inr (20, [.int 0, .ref c4, .int 0, .int 0, .ref c5, .ref c6, .ref c7, .ref c8, .ref c9, .ref c10, .ref c11, .ref c12, .ref c13, .ref c14, .ref c15, .ref c16, .ref c17, .int 0, .int 0, .int 0, .int 0, .int 0, .int 0, .int 0, .int 0, .int 0, .ref c18, .ref c19, .ref c20, .ref c21, .ref c22, .ref c23, .ref c24, .ref c25, .ref c26, .int 0]))] sz)) 0 0 (va_A [(c0, .inr (20, [.int 0, .ref c4, .int 0, .int 0, .ref c5, .ref c6, .ref c7, .ref c8, .ref c9, .ref c10, .ref c11, .ref c12, .ref c13, .ref c14, .ref c15, .ref c16, .ref c17, .int 0, .int 0, .int 0, .int 0, .int 0, .int 0, .int 0, .int 0, .int 0, .ref c18, .ref c19, .ref c20, .ref c21, .ref c22, .ref c23, .ref c24, .ref c25, .ref c26, .int 0]))] sz) := by
  refine Met.ofW (cc := cX19_held) (maxL := 4) (ret := (some .int)) (by decide) rfl ?_
  intro p e s m args below meth c s₁ B hml hv
  obtain ⟨rfl, hsz, hP, hK, hD0, hN⟩ := hv
  have hx := B.exec
  have hb := B.bytes
  have hr := B.returns
  have hts := atoms_spec (ws := ow_k_X19_held) B.pre
  have hown : s.vm.findClass RX19 = some m.cls := findClass_of_methodNamed B.named
  have hlocks := B.notSynchronized
  subst hsz
  have hD := hD0.self (sz := s.heap.size)
  generalize hAe : va_A [(c0, .inr (20, [.int 0, .ref c4, .int 0, .int 0, .ref c5, .ref c6, .ref c7, .ref c8, .ref c9, .ref c10, .ref c11, .ref c12, .ref c13, .ref c14, .ref c15, .ref c16, .ref c17, .int 0, .int 0, .int 0, .int 0, .int 0, .int 0, .int 0, .int 0, .int 0, .ref c18, .ref c19, .ref c20, .ref c21, .ref c22, .ref c23, .ref c24, .ref c25, .ref c26, .int 0]))] s.heap.size = A at hD hN ⊢
  have hA : ∀ q : Nat, s.heap.size ≤ q → A q := fun q h => by rw [← hAe]; exact Or.inr h
  have hS : va_S A s.heap s.heap [] := va_S.rf
  have hl := lv_entry ([.ref c0, .int c1, .int c2, .int c3]) (n := 4) (Nat.le_of_ble_eq_true rfl)
  rw [lg_entry_eq]
  generalize (lg_sl ([.ref c0, .int c1, .int c2, .int c3]) ++ List.replicate (4 - (lg_sl ([.ref c0, .int c1, .int c2, .int c3])).length) Slot.unset).toArray = ls at hl ⊢
  have hl : lv_has ls 4 [(0, .ref c0), (1, .int c1), (2, .int c2), (3, .int c3)] := hl
  refine lv_aload_n hx hb dX19_held_0 rfl (lv_at hl 0 rfl) ?_
  have hPc := hP.sub (ws' := [(c0, .inr (20, [.int 0, .ref c4, .int 0, .int 0, .ref c5, .ref c6, .ref c7, .ref c8, .ref c9, .ref c10, .ref c11, .ref c12, .ref c13, .ref c14, .ref c15, .ref c16, .ref c17, .int 0, .int 0, .int 0, .int 0, .int 0, .int 0, .int 0, .int 0, .int 0, .ref c18, .ref c19, .ref c20, .ref c21, .ref c22, .ref c23, .ref c24, .ref c25, .ref c26, .int 0]))]) [0] rfl
  have hDc := hD.sub (ws' := [(c0, .inr (20, [.int 0, .ref c4, .int 0, .int 0, .ref c5, .ref c6, .ref c7, .ref c8, .ref c9, .ref c10, .ref c11, .ref c12, .ref c13, .ref c14, .ref c15, .ref c16, .ref c17, .int 0, .int 0, .int 0, .int 0, .int 0, .int 0, .int 0, .int 0, .int 0, .ref c18, .ref c19, .ref c20, .ref c21, .ref c22, .ref c23, .ref c24, .ref c25, .ref c26, .int 0]))]) [0] (by decide) rfl
  have hKc := hK.sub (tys' := []) [] rfl
  have hFc := va_free (wc := [(c0, .inr (20, [.int 0, .ref c4, .int 0, .int 0, .ref c5, .ref c6, .ref c7, .ref c8, .ref c9, .ref c10, .ref c11, .ref c12, .ref c13, .ref c14, .ref c15, .ref c16, .ref c17, .int 0, .int 0, .int 0, .int 0, .int 0, .int 0, .int 0, .int 0, .int 0, .ref c18, .ref c19, .ref c20, .ref c21, .ref c22, .ref c23, .ref c24, .ref c25, .ref c26, .int 0]))]) hD hS hA [0] rfl
  refine va_calli (va_runV (As := []) (rest := []) ⟨hx, hb, hml, hown, hts⟩ (k_X19_shows l hlt dC dI c0 c4 c5 c6 c7 c8 c9 c10 c11 c12 c13 c14 c15 c16 c17 c18 c19 c20 c21 c22 c23 c24 c25 c26  s.heap.size) (cwV 0 hts gi_k_X19_held_0 rfl rfl rfl (by decide +kernel) ⟨Nat.le_of_ble_eq_true rfl, Nat.le_of_ble_eq_true rfl⟩) ⟨fun a U g mk q => by obtain ⟨q0, q1, qP, qK, qD, qN⟩ := q; exact ⟨q0, q1, qP, va_K.moved (u := U) (U := U.calling g mk a) (Vm.Alike.refl U.vm) qK, qD, nv_same rfl rfl qN⟩, va_recv hKc hPc (ci := 20) (q0 := 0) rfl rfl, fun U hU hW => ⟨rfl, by rw [hU], by rw [hU]; exact hPc, va_K.moved hW.alike hKc, hDc.weaken (fun _ _ _ _ => trivial), nv_call hS hFc hU hW hN⟩⟩ rfl rfl hl.1 rfl (lv_room (Nat.le_of_ble_eq_true rfl)) dX19_held_1 ⟨by decide +kernel, by decide +kernel⟩) hS (fun q _ h => hFc q h) hFc (fun r1 u t H1 locs ht hvm hw hB hz1 hk1 hS => ?_)
  obtain ⟨hP1, hK1, hD1⟩ := hB
  rw [ht] at hP1
  have hK1 := va_K.moved hvm.symm hK1
  obtain rfl : r1 = 0 := hw
  obtain ⟨hP, hD⟩ := va_join (wr := []) (w1 := [(c0, .inr (20, [.int 0, .ref c4, .int 0, .int 0, .ref c5, .ref c6, .ref c7, .ref c8, .ref c9, .ref c10, .ref c11, .ref c12, .ref c13, .ref c14, .ref c15, .ref c16, .ref c17, .int 0, .int 0, .int 0, .int 0, .int 0, .int 0, .int 0, .int 0, .int 0, .ref c18, .ref c19, .ref c20, .ref c21, .ref c22, .ref c23, .ref c24, .ref c25, .ref c26, .int 0]))]) hP hD [0] [] rfl rfl (by decide) (by decide) hk1 hFc hP1 hD1
  have hK := (hK.sub (tys' := []) [] rfl).app hK1
  generalize H1 = H at hP hS ⊢
  have hP : va_P (dC, dI) vwCl [(c0, .inr (20, [.int 0, .ref c4, .int 0, .int 0, .ref c5, .ref c6, .ref c7, .ref c8, .ref c9, .ref c10, .ref c11, .ref c12, .ref c13, .ref c14, .ref c15, .ref c16, .ref c17, .int 0, .int 0, .int 0, .int 0, .int 0, .int 0, .int 0, .int 0, .int 0, .ref c18, .ref c19, .ref c20, .ref c21, .ref c22, .ref c23, .ref c24, .ref c25, .ref c26, .int 0]))] H := hP
  have hD : va_D A [(c0, .inr (20, [.int 0, .ref c4, .int 0, .int 0, .ref c5, .ref c6, .ref c7, .ref c8, .ref c9, .ref c10, .ref c11, .ref c12, .ref c13, .ref c14, .ref c15, .ref c16, .ref c17, .int 0, .int 0, .int 0, .int 0, .int 0, .int 0, .int 0, .int 0, .int 0, .ref c18, .ref c19, .ref c20, .ref c21, .ref c22, .ref c23, .ref c24, .ref c25, .ref c26, .int 0]))] := hD
  have hK : va_K (dC, dI) vwCl [] s := hK
  refine W.widen (k := 0) (n := 0) (by decide +kernel) (by decide +kernel) ?_
  refine lv_if_eq (tgt := 32) hx hb dX19_held_4 (by decide) (fun _ => ?_) (fun h9 => absurd (by decide) h9)
  refine lv_iconst (v := (-1)) hx hb dX19_held_32 (by decide) ?_
  have hP9 := hP.sub (ws' := [(c0, .inr (20, [.int 0, .ref c4, .int 0, .int 0, .ref c5, .ref c6, .ref c7, .ref c8, .ref c9, .ref c10, .ref c11, .ref c12, .ref c13, .ref c14, .ref c15, .ref c16, .ref c17, .int 0, .int 0, .int 0, .int 0, .int 0, .int 0, .int 0, .int 0, .int 0, .ref c18, .ref c19, .ref c20, .ref c21, .ref c22, .ref c23, .ref c24, .ref c25, .ref c26, .int 0]))]) [0] rfl
  have hD9 := hD.sub (ws' := [(c0, .inr (20, [.int 0, .ref c4, .int 0, .int 0, .ref c5, .ref c6, .ref c7, .ref c8, .ref c9, .ref c10, .ref c11, .ref c12, .ref c13, .ref c14, .ref c15, .ref c16, .ref c17, .int 0, .int 0, .int 0, .int 0, .int 0, .int 0, .int 0, .int 0, .int 0, .ref c18, .ref c19, .ref c20, .ref c21, .ref c22, .ref c23, .ref c24, .ref c25, .ref c26, .int 0]))]) [0] (by decide) rfl
  have hK9 := hK.sub (tys' := []) [] rfl
  refine W.widen (k := 0) (n := 0) (by decide +kernel) (by decide +kernel) ?_
  exact W.iret (v := (-1)) hx hb hr (fun t ht hW => ⟨⟨(-1), (), rfl, rfl, by rw [ht]; exact hP9, va_K.moved hW.alike hK9, hD9⟩, hS.F ht⟩) hS.2.2 dX19_held_33
