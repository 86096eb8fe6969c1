set_option maxHeartbeats 40000000 in
set_option maxRecDepth 100000 in
theorem k_X19_run (l : Launch) (hlt : l.stackTraces = false) (dC : Nat → ClassId) (dI : Nat → Nat → Nat) (c0 : Nat) (c1 : Int32) (c2 : Nat) (c3 : Nat) (c4 : Nat) (c5 : Nat) (c6 : Nat) (c7 : Nat) (c8 : Nat) (c9 : Nat) (c10 : Nat) (c11 : Nat) (c12 : Nat) (c13 : Nat) (c14 : Nat) (c15 : Nat) (c16 : Nat) (c17 : Nat) (c18 : Nat) (c19 : Nat) (c20 : Nat) (c21 : Nat) (c22 : Nat) (c23 : Nat) (c24 : Nat) (sz : Nat) : Met l yX19_run ow_k_X19_run ({ frames := 1, cells := 0, slots := 0, locals := 25 }) (va_Pc [.ref c0, .int c1] (fun U => U.heap.size = sz ∧ va_P (dC, dI) vwCl [(c0, .inr (20, [.int 0, .ref c2, .int 0, .int 0, .ref c3, .ref c4, .ref c5, .ref c6, .ref c7, .ref c8, .ref c9, .ref c10, .ref c11, .ref c12, .ref c13, .ref c14, .ref c15, .int 0, .int 0, .int 0, .int 0, .int 0, .int 0, .int 0, .int 0, .int 0, .ref c16, .ref c17, .ref c18, .ref c19, .ref c20, .ref c21, .ref c22, .ref c23, .ref c24, .int 0]))] U.heap ∧ va_K (dC, dI) vwCl [] U ∧ va_D (fun _ => True) [(c0, .inr (20, [.int 0, .ref c2, .int 0, .int 0, .ref c3, .ref c4, .ref c5, .ref c6, .ref c7, .ref c8, .ref c9, .ref c10, .ref c11, .ref c12, .ref c13, .ref c14, .ref c15, .int 0, .int 0, .int 0, .int 0, .int 0, .int 0, .int 0, .int 0, .int 0, .ref c16, .ref c17, .ref c18, .ref c19, .ref c20, .ref c21, .ref c22, .ref c23, .ref c24, .int 0]))] ∧ nv_E (va_A [(c0, .inr (20, [.int 0, .ref c2, .int 0, .int 0, .ref c3, .ref c4, .ref c5, .ref c6, .ref c7, .ref c8, .ref c9, .ref c10, .ref c11, .ref c12, .ref c13, .ref c14, .ref c15, .int 0, .int 0, .int 0, .int 0, .int 0, .int 0, .int 0, .int 0, .int 0, .ref c16, .ref c17, .ref c18, .ref c19, .ref c20, .ref c21, .ref c22, .ref c23, .ref c24, .int 0]))] sz) U)) (va_Qi (fun r u => ((c1 < 0) ∧ r = 0 ∧ u = [(c0, .inr (20, [.int 1, .ref c2, .int 0, .int 0, .ref c3, .ref c4, .ref c5, .ref c6, .ref c7, .ref c8, .ref c9, .ref c10, .ref c11, .ref c12, .ref c13, .ref c14, .ref c15, .int 0, .int 0, .int 0, .int 0, .int 0, .int 0, .int 0, .int 0, .int 0, .ref c16, .ref c17, .ref c18, .ref c19, .ref c20, .ref c21, .ref c22, .ref c23, .ref c24, .int 0]))]) ∨ ((¬ c1 < 0) ∧ (60000 < c1) ∧ r = 0 ∧ u = [(c0, .inr (20, [.int 1, .ref c2, .int 0, .int 0, .ref c3, .ref c4, .ref c5, .ref c6, .ref c7, .ref c8, .ref c9, .ref c10, .ref c11, .ref c12, .ref c13, .ref c14, .ref c15, .int 0, .int 0, .int 0, .int 0, .int 0, .int 0, .int 0, .int 0, .int 0, .ref c16, .ref c17, .ref c18, .ref c19, .ref c20, .ref c21, .ref c22, .ref c23, .ref c24, .int 0]))]) ∨ ((¬ c1 < 0) ∧ (¬ 60000 < c1) ∧ r = 0 ∧ u = [(c0, .inr (20, [.int 2, .ref c2, .int 0, .int 0, .ref c3, .ref c4, .ref c5, .ref c6, .ref c7, .ref c8, .ref c9, .ref c10, .ref c11, .ref c12, .ref c13, .ref c14, .ref c15, .int 0, .int 0, .int 0, .int 0, .int 0, .int 0, .int 0, .int 0, .int 0, .ref c16, .ref c17, .ref c18, .ref c19, .ref c20, .ref c21, .ref c22, .ref c23, .ref c24, .int 0]))]) ∨ False) (fun (u : va_W) t => va_P (dC, dI) vwCl u t.heap ∧ va_K (dC, dI) vwCl [] t ∧ va_D (va_A [(c0, .inr (20, [.int 0, .ref c2, .int 0, .int 0, .ref c3, .ref c4, .ref c5, .ref c6, .ref c7, .ref c8, .ref c9, .ref c10, .ref c11, .ref c12, .ref c13, .ref c14, .ref c15, .int 0, .int 0, .int 0, .int 0, .int 0, .int 0, .int 0, .int 0, .int 0, .ref c16, .ref c17, .ref c18, .ref c19, .ref c20, .ref c21, .ref c22, .ref c23, .ref c24, .int 0]))] sz) u) (va_A [(c0, .inr (20, [.int 0, .ref c2, .int 0, .int 0, .ref c3, .ref c4, .ref c5, .ref c6, .ref c7, .ref c8, .ref c9, .ref c10, .ref c11, .ref c12, .ref c13, .ref c14, .ref c15, .int 0, .int 0, .int 0, .int 0, .int 0, .int 0, .int 0, .int 0, .int 0, .ref c16, .ref c17, .ref c18, .ref c19, .ref c20, .ref c21, .ref c22, .ref c23, .ref c24, .int 0]))] sz)) 0 0 (va_A [(c0, .inr (20, [.int 0, .ref c2, .int 0, .int 0, .ref c3, .ref c4, .ref c5, .ref c6, .ref c7, .ref c8, .ref c9, .ref c10, .ref c11, .ref c12, .ref c13, .ref c14, .ref c15, .int 0, .int 0, .int 0, .int 0, .int 0, .int 0, .int 0, .int 0, .int 0, .ref c16, .ref c17, .ref c18, .ref c19, .ref c20, .ref c21, .ref c22, .ref c23, .ref c24, .int 0]))] sz) := by
  refine Met.ofW (cc := cX19_run) (maxL := 6) (ret := (some .int)) (by decide) rfl ?_
  intro p e s m args below meth c s₁ B hml hv
  obtain ⟨rfl, hsz, hP, hK, hD0, hN⟩ := hv
  have hx := B.exec
  have hb := B.bytes
  have hr := B.returns
  have hts := atoms_spec (ws := ow_k_X19_run) B.pre
  have hown : s.vm.findClass RX19 = some m.cls := findClass_of_methodNamed B.named
  have hlocks := B.notSynchronized
  subst hsz
  have hD := hD0.self (sz := s.heap.size)
  generalize hAe : va_A [(c0, .inr (20, [.int 0, .ref c2, .int 0, .int 0, .ref c3, .ref c4, .ref c5, .ref c6, .ref c7, .ref c8, .ref c9, .ref c10, .ref c11, .ref c12, .ref c13, .ref c14, .ref c15, .int 0, .int 0, .int 0, .int 0, .int 0, .int 0, .int 0, .int 0, .int 0, .ref c16, .ref c17, .ref c18, .ref c19, .ref c20, .ref c21, .ref c22, .ref c23, .ref c24, .int 0]))] s.heap.size = A at hD hN ⊢
  have hA : ∀ q : Nat, s.heap.size ≤ q → A q := fun q h => by rw [← hAe]; exact Or.inr h
  have hS : va_S A s.heap s.heap [] := va_S.rf
  have hl := lv_entry ([.ref c0, .int c1]) (n := 6) (Nat.le_of_ble_eq_true rfl)
  rw [lg_entry_eq]
  generalize (lg_sl ([.ref c0, .int c1]) ++ List.replicate (6 - (lg_sl ([.ref c0, .int c1])).length) Slot.unset).toArray = ls at hl ⊢
  have hl : lv_has ls 6 [(0, .ref c0), (1, .int c1)] := hl
  refine lv_iload_n hx hb dX19_run_0 rfl (lv_at hl 1 rfl) ?_
  refine lv_i2l hx hb dX19_run_1 rfl ?_
  refine lv_lconst (v := 0) hx hb dX19_run_2 (by decide) ?_
  refine lv_ldc2 hx hb hown (hts (.constantLong RX19 283 (60000)) (List.mem_of_getElem? (i := 1) rfl)) dX19_run_3 ?_
  have hPc := hP.sub (ws' := []) [] rfl
  have hDc := hD.sub (ws' := []) [] (by decide) rfl
  have hKc := hK.sub (tys' := []) [] rfl
  have hFc := va_free (wc := []) hD hS hA [] rfl
  refine va_calli (va_runS (As := [.long (c1.toInt64), .long 0, .long 60000]) (rest := []) ⟨hx, hb, hml, hown, hts⟩ (k_X19_in_v5 l hlt dC dI c1  s.heap.size) (cwS 3 hts gi_k_X19_run_0 rfl rfl rfl (by decide +kernel) ⟨Nat.le_of_ble_eq_true rfl, Nat.le_of_ble_eq_true rfl⟩) ⟨fun a U g mk q => by obtain ⟨q0, q1, qP, qK, qD, qN⟩ := q; exact ⟨q0, q1, qP, va_K.moved (u := U) (U := U.calling g mk a) (Vm.Alike.refl U.vm) qK, qD, nv_same rfl rfl qN⟩, fun U hU hW => ⟨rfl, by rw [hU], by rw [hU]; exact hPc, va_K.moved hW.alike hKc, hDc.weaken (fun _ _ _ _ => trivial), nv_call hS hFc hU hW hN⟩⟩ rfl rfl hl.1 rfl (lv_room (Nat.le_of_ble_eq_true rfl)) dX19_run_6 ⟨by decide +kernel, by decide +kernel⟩) hS (fun q _ h => hFc q h) hFc (fun r1 u t H1 locs ht hvm hw hB hz1 hk1 hS => ?_)
  obtain ⟨hP1, hK1, hD1⟩ := hB
  rw [ht] at hP1
  have hK1 := va_K.moved hvm.symm hK1
  obtain ⟨hP, hD⟩ := va_join (wr := [(c0, .inr (20, [.int 0, .ref c2, .int 0, .int 0, .ref c3, .ref c4, .ref c5, .ref c6, .ref c7, .ref c8, .ref c9, .ref c10, .ref c11, .ref c12, .ref c13, .ref c14, .ref c15, .int 0, .int 0, .int 0, .int 0, .int 0, .int 0, .int 0, .int 0, .int 0, .ref c16, .ref c17, .ref c18, .ref c19, .ref c20, .ref c21, .ref c22, .ref c23, .ref c24, .int 0]))]) (w1 := []) hP hD [] [0] rfl rfl (by decide) (by decide) hk1 hFc hP1 hD1
  have hK := (hK.sub (tys' := []) [] rfl).app hK1
  generalize H1 = H at hP hS ⊢
  have hP : va_P (dC, dI) vwCl [(c0, .inr (20, [.int 0, .ref c2, .int 0, .int 0, .ref c3, .ref c4, .ref c5, .ref c6, .ref c7, .ref c8, .ref c9, .ref c10, .ref c11, .ref c12, .ref c13, .ref c14, .ref c15, .int 0, .int 0, .int 0, .int 0, .int 0, .int 0, .int 0, .int 0, .int 0, .ref c16, .ref c17, .ref c18, .ref c19, .ref c20, .ref c21, .ref c22, .ref c23, .ref c24, .int 0]))] H := hP
  have hD : va_D A [(c0, .inr (20, [.int 0, .ref c2, .int 0, .int 0, .ref c3, .ref c4, .ref c5, .ref c6, .ref c7, .ref c8, .ref c9, .ref c10, .ref c11, .ref c12, .ref c13, .ref c14, .ref c15, .int 0, .int 0, .int 0, .int 0, .int 0, .int 0, .int 0, .int 0, .int 0, .ref c16, .ref c17, .ref c18, .ref c19, .ref c20, .ref c21, .ref c22, .ref c23, .ref c24, .int 0]))] := hD
  have hK : va_K (dC, dI) vwCl [] s := hK
  refine W.widen (k := 0) (n := 0) (by decide +kernel) (by decide +kernel) ?_
  rcases hw with ⟨c_1_0, h9⟩ | ⟨c_1_0, c_1_1, h9⟩ | ⟨c_1_0, c_1_1, h9⟩ | h9
  · subst h9
    refine lv_istore_n (lv' := [(2, .int 0), (0, .ref c0), (1, .int c1)]) hx hb dX19_run_9 rfl hl (by decide) rfl (fun ls hl => ?_)
    refine lv_aload_n hx hb dX19_run_10 rfl (lv_at hl 1 rfl) ?_
    refine lv_iload_n hx hb dX19_run_11 rfl (lv_at hl 0 rfl) ?_
    refine lv_if_ne (tgt := 19) hx hb dX19_run_12 (by decide) (fun h9 => absurd h9 (by decide)) (fun _ => ?_)
    refine lv_iconst (v := 1) hx hb dX19_run_15 (by decide) ?_
    refine lv_goto (tgt := 20) hx hb dX19_run_16 (by decide) ?_
    refine lv_iload_n hx hb dX19_run_20 rfl (lv_at hl 0 rfl) ?_
    refine lv_if_eq (tgt := 35) hx hb dX19_run_21 (by decide) (fun _ => ?_) (fun h9 => absurd (by decide) h9)
    refine lv_iconst (v := 0) hx hb dX19_run_35 (by decide) ?_
    have hPc := hP.sub (ws' := [(c0, .inr (20, [.int 0, .ref c2, .int 0, .int 0, .ref c3, .ref c4, .ref c5, .ref c6, .ref c7, .ref c8, .ref c9, .ref c10, .ref c11, .ref c12, .ref c13, .ref c14, .ref c15, .int 0, .int 0, .int 0, .int 0, .int 0, .int 0, .int 0, .int 0, .int 0, .ref c16, .ref c17, .ref c18, .ref c19, .ref c20, .ref c21, .ref c22, .ref c23, .ref c24, .int 0]))]) [0] rfl
    have hDc := hD.sub (ws' := [(c0, .inr (20, [.int 0, .ref c2, .int 0, .int 0, .ref c3, .ref c4, .ref c5, .ref c6, .ref c7, .ref c8, .ref c9, .ref c10, .ref c11, .ref c12, .ref c13, .ref c14, .ref c15, .int 0, .int 0, .int 0, .int 0, .int 0, .int 0, .int 0, .int 0, .int 0, .ref c16, .ref c17, .ref c18, .ref c19, .ref c20, .ref c21, .ref c22, .ref c23, .ref c24, .int 0]))]) [0] (by decide) rfl
    have hKc := hK.sub (tys' := []) [] rfl
    have hFc := va_free (wc := [(c0, .inr (20, [.int 0, .ref c2, .int 0, .int 0, .ref c3, .ref c4, .ref c5, .ref c6, .ref c7, .ref c8, .ref c9, .ref c10, .ref c11, .ref c12, .ref c13, .ref c14, .ref c15, .int 0, .int 0, .int 0, .int 0, .int 0, .int 0, .int 0, .int 0, .int 0, .ref c16, .ref c17, .ref c18, .ref c19, .ref c20, .ref c21, .ref c22, .ref c23, .ref c24, .int 0]))]) hD hS hA [0] rfl
    refine va_calli (va_runV (As := [.int 1, .int 0]) (rest := []) ⟨hx, hb, hml, hown, hts⟩ (k_X19_fails l hlt dC dI c0 c2 c3 c4 c5 c6 c7 c8 c9 c10 c11 c12 c13 c14 c15 c16 c17 c18 c19 c20 c21 c22 c23 c24  H.size) (cwV 2 hts gi_k_X19_run_1 rfl rfl rfl (by decide +kernel) ⟨Nat.le_of_ble_eq_true rfl, Nat.le_of_ble_eq_true rfl⟩) ⟨fun a U g mk q => by obtain ⟨q0, q1, qP, qK, qD, qN⟩ := q; exact ⟨q0, q1, qP, va_K.moved (u := U) (U := U.calling g mk a) (Vm.Alike.refl U.vm) qK, qD, nv_same rfl rfl qN⟩, va_recv hKc hPc (ci := 20) (q0 := 0) rfl rfl, fun U hU hW => ⟨rfl, by rw [hU], by rw [hU]; exact hPc, va_K.moved hW.alike hKc, hDc.weaken (fun _ _ _ _ => trivial), nv_call hS hFc hU hW hN⟩⟩ rfl rfl hl.1 rfl (lv_room (Nat.le_of_ble_eq_true rfl)) dX19_run_36 ⟨by decide +kernel, by decide +kernel⟩) hS (fun q _ h => hFc q h) hFc (fun r2 u t H1 locs ht hvm hw hB hz1 hk1 hS => ?_)
    obtain ⟨hP1, hK1, hD1⟩ := hB
    rw [ht] at hP1
    have hK1 := va_K.moved hvm.symm hK1
    obtain rfl : r2 = 1 := hw
    obtain ⟨hP, hD⟩ := va_join (wr := []) (w1 := [(c0, .inr (20, [.int 1, .ref c2, .int 0, .int 0, .ref c3, .ref c4, .ref c5, .ref c6, .ref c7, .ref c8, .ref c9, .ref c10, .ref c11, .ref c12, .ref c13, .ref c14, .ref c15, .int 0, .int 0, .int 0, .int 0, .int 0, .int 0, .int 0, .int 0, .int 0, .ref c16, .ref c17, .ref c18, .ref c19, .ref c20, .ref c21, .ref c22, .ref c23, .ref c24, .int 0]))]) hP hD [0] [] rfl rfl (by decide) (by decide) hk1 hFc hP1 hD1
    have hK := (hK.sub (tys' := []) [] rfl).app hK1
    generalize H1 = H at hP hS ⊢
    have hP : va_P (dC, dI) vwCl [(c0, .inr (20, [.int 1, .ref c2, .int 0, .int 0, .ref c3, .ref c4, .ref c5, .ref c6, .ref c7, .ref c8, .ref c9, .ref c10, .ref c11, .ref c12, .ref c13, .ref c14, .ref c15, .int 0, .int 0, .int 0, .int 0, .int 0, .int 0, .int 0, .int 0, .int 0, .ref c16, .ref c17, .ref c18, .ref c19, .ref c20, .ref c21, .ref c22, .ref c23, .ref c24, .int 0]))] H := hP
    have hD : va_D A [(c0, .inr (20, [.int 1, .ref c2, .int 0, .int 0, .ref c3, .ref c4, .ref c5, .ref c6, .ref c7, .ref c8, .ref c9, .ref c10, .ref c11, .ref c12, .ref c13, .ref c14, .ref c15, .int 0, .int 0, .int 0, .int 0, .int 0, .int 0, .int 0, .int 0, .int 0, .ref c16, .ref c17, .ref c18, .ref c19, .ref c20, .ref c21, .ref c22, .ref c23, .ref c24, .int 0]))] := hD
    have hK : va_K (dC, dI) vwCl [] s := hK
    refine W.widen (k := 0) (n := 0) (by decide +kernel) (by decide +kernel) ?_
    refine lv_if_eq (tgt := 44) hx hb dX19_run_39 (by decide) (fun h9 => absurd h9 (by decide)) (fun _ => ?_)
    refine lv_iconst (v := 0) hx hb dX19_run_42 (by decide) ?_
    refine W.widen (k := 0) (n := 0) (by decide +kernel) (by decide +kernel) ?_
    exact W.iret (v := 0) hx hb hr (fun t ht hW => ⟨⟨0, [(c0, .inr (20, [.int 1, .ref c2, .int 0, .int 0, .ref c3, .ref c4, .ref c5, .ref c6, .ref c7, .ref c8, .ref c9, .ref c10, .ref c11, .ref c12, .ref c13, .ref c14, .ref c15, .int 0, .int 0, .int 0, .int 0, .int 0, .int 0, .int 0, .int 0, .int 0, .ref c16, .ref c17, .ref c18, .ref c19, .ref c20, .ref c21, .ref c22, .ref c23, .ref c24, .int 0]))], rfl, Or.inl ⟨c_1_0, rfl, rfl⟩, by rw [ht]; exact hP.sub (ws' := [(c0, .inr (20, [.int 1, .ref c2, .int 0, .int 0, .ref c3, .ref c4, .ref c5, .ref c6, .ref c7, .ref c8, .ref c9, .ref c10, .ref c11, .ref c12, .ref c13, .ref c14, .ref c15, .int 0, .int 0, .int 0, .int 0, .int 0, .int 0, .int 0, .int 0, .int 0, .ref c16, .ref c17, .ref c18, .ref c19, .ref c20, .ref c21, .ref c22, .ref c23, .ref c24, .int 0]))]) [0] rfl, va_K.moved hW.alike (hK.sub (tys' := []) [] rfl), hD.sub (ws' := [(c0, .inr (20, [.int 1, .ref c2, .int 0, .int 0, .ref c3, .ref c4, .ref c5, .ref c6, .ref c7, .ref c8, .ref c9, .ref c10, .ref c11, .ref c12, .ref c13, .ref c14, .ref c15, .int 0, .int 0, .int 0, .int 0, .int 0, .int 0, .int 0, .int 0, .int 0, .ref c16, .ref c17, .ref c18, .ref c19, .ref c20, .ref c21, .ref c22, .ref c23, .ref c24, .int 0]))]) [0] (by decide) rfl⟩, hS.F ht⟩) hS.2.2 dX19_run_43
  · subst h9
    refine lv_istore_n (lv' := [(2, .int 0), (0, .ref c0), (1, .int c1)]) hx hb dX19_run_9 rfl hl (by decide) rfl (fun ls hl => ?_)
    refine lv_aload_n hx hb dX19_run_10 rfl (lv_at hl 1 rfl) ?_
    refine lv_iload_n hx hb dX19_run_11 rfl (lv_at hl 0 rfl) ?_
    refine lv_if_ne (tgt := 19) hx hb dX19_run_12 (by decide) (fun h9 => absurd h9 (by decide)) (fun _ => ?_)
    refine lv_iconst (v := 1) hx hb dX19_run_15 (by decide) ?_
    refine lv_goto (tgt := 20) hx hb dX19_run_16 (by decide) ?_
    refine lv_iload_n hx hb dX19_run_20 rfl (lv_at hl 0 rfl) ?_
    refine lv_if_eq (tgt := 35) hx hb dX19_run_21 (by decide) (fun _ => ?_) (fun h9 => absurd (by decide) h9)
    refine lv_iconst (v := 0) hx hb dX19_run_35 (by decide) ?_
    have hPc := hP.sub (ws' := [(c0, .inr (20, [.int 0, .ref c2, .int 0, .int 0, .ref c3, .ref c4, .ref c5, .ref c6, .ref c7, .ref c8, .ref c9, .ref c10, .ref c11, .ref c12, .ref c13, .ref c14, .ref c15, .int 0, .int 0, .int 0, .int 0, .int 0, .int 0, .int 0, .int 0, .int 0, .ref c16, .ref c17, .ref c18, .ref c19, .ref c20, .ref c21, .ref c22, .ref c23, .ref c24, .int 0]))]) [0] rfl
    have hDc := hD.sub (ws' := [(c0, .inr (20, [.int 0, .ref c2, .int 0, .int 0, .ref c3, .ref c4, .ref c5, .ref c6, .ref c7, .ref c8, .ref c9, .ref c10, .ref c11, .ref c12, .ref c13, .ref c14, .ref c15, .int 0, .int 0, .int 0, .int 0, .int 0, .int 0, .int 0, .int 0, .int 0, .ref c16, .ref c17, .ref c18, .ref c19, .ref c20, .ref c21, .ref c22, .ref c23, .ref c24, .int 0]))]) [0] (by decide) rfl
    have hKc := hK.sub (tys' := []) [] rfl
    have hFc := va_free (wc := [(c0, .inr (20, [.int 0, .ref c2, .int 0, .int 0, .ref c3, .ref c4, .ref c5, .ref c6, .ref c7, .ref c8, .ref c9, .ref c10, .ref c11, .ref c12, .ref c13, .ref c14, .ref c15, .int 0, .int 0, .int 0, .int 0, .int 0, .int 0, .int 0, .int 0, .int 0, .ref c16, .ref c17, .ref c18, .ref c19, .ref c20, .ref c21, .ref c22, .ref c23, .ref c24, .int 0]))]) hD hS hA [0] rfl
    refine va_calli (va_runV (As := [.int 1, .int 0]) (rest := []) ⟨hx, hb, hml, hown, hts⟩ (k_X19_fails l hlt dC dI c0 c2 c3 c4 c5 c6 c7 c8 c9 c10 c11 c12 c13 c14 c15 c16 c17 c18 c19 c20 c21 c22 c23 c24  H.size) (cwV 2 hts gi_k_X19_run_1 rfl rfl rfl (by decide +kernel) ⟨Nat.le_of_ble_eq_true rfl, Nat.le_of_ble_eq_true rfl⟩) ⟨fun a U g mk q => by obtain ⟨q0, q1, qP, qK, qD, qN⟩ := q; exact ⟨q0, q1, qP, va_K.moved (u := U) (U := U.calling g mk a) (Vm.Alike.refl U.vm) qK, qD, nv_same rfl rfl qN⟩, va_recv hKc hPc (ci := 20) (q0 := 0) rfl rfl, fun U hU hW => ⟨rfl, by rw [hU], by rw [hU]; exact hPc, va_K.moved hW.alike hKc, hDc.weaken (fun _ _ _ _ => trivial), nv_call hS hFc hU hW hN⟩⟩ rfl rfl hl.1 rfl (lv_room (Nat.le_of_ble_eq_true rfl)) dX19_run_36 ⟨by decide +kernel, by decide +kernel⟩) hS (fun q _ h => hFc q h) hFc (fun r3 u t H1 locs ht hvm hw hB hz1 hk1 hS => ?_)
    obtain ⟨hP1, hK1, hD1⟩ := hB
    rw [ht] at hP1
    have hK1 := va_K.moved hvm.symm hK1
    obtain rfl : r3 = 1 := hw
    obtain ⟨hP, hD⟩ := va_join (wr := []) (w1 := [(c0, .inr (20, [.int 1, .ref c2, .int 0, .int 0, .ref c3, .ref c4, .ref c5, .ref c6, .ref c7, .ref c8, .ref c9, .ref c10, .ref c11, .ref c12, .ref c13, .ref c14, .ref c15, .int 0, .int 0, .int 0, .int 0, .int 0, .int 0, .int 0, .int 0, .int 0, .ref c16, .ref c17, .ref c18, .ref c19, .ref c20, .ref c21, .ref c22, .ref c23, .ref c24, .int 0]))]) hP hD [0] [] rfl rfl (by decide) (by decide) hk1 hFc hP1 hD1
    have hK := (hK.sub (tys' := []) [] rfl).app hK1
    generalize H1 = H at hP hS ⊢
    have hP : va_P (dC, dI) vwCl [(c0, .inr (20, [.int 1, .ref c2, .int 0, .int 0, .ref c3, .ref c4, .ref c5, .ref c6, .ref c7, .ref c8, .ref c9, .ref c10, .ref c11, .ref c12, .ref c13, .ref c14, .ref c15, .int 0, .int 0, .int 0, .int 0, .int 0, .int 0, .int 0, .int 0, .int 0, .ref c16, .ref c17, .ref c18, .ref c19, .ref c20, .ref c21, .ref c22, .ref c23, .ref c24, .int 0]))] H := hP
    have hD : va_D A [(c0, .inr (20, [.int 1, .ref c2, .int 0, .int 0, .ref c3, .ref c4, .ref c5, .ref c6, .ref c7, .ref c8, .ref c9, .ref c10, .ref c11, .ref c12, .ref c13, .ref c14, .ref c15, .int 0, .int 0, .int 0, .int 0, .int 0, .int 0, .int 0, .int 0, .int 0, .ref c16, .ref c17, .ref c18, .ref c19, .ref c20, .ref c21, .ref c22, .ref c23, .ref c24, .int 0]))] := hD
    have hK : va_K (dC, dI) vwCl [] s := hK
    refine W.widen (k := 0) (n := 0) (by decide +kernel) (by decide +kernel) ?_
    refine lv_if_eq (tgt := 44) hx hb dX19_run_39 (by decide) (fun h9 => absurd h9 (by decide)) (fun _ => ?_)
    refine lv_iconst (v := 0) hx hb dX19_run_42 (by decide) ?_
    refine W.widen (k := 0) (n := 0) (by decide +kernel) (by decide +kernel) ?_
    exact W.iret (v := 0) hx hb hr (fun t ht hW => ⟨⟨0, [(c0, .inr (20, [.int 1, .ref c2, .int 0, .int 0, .ref c3, .ref c4, .ref c5, .ref c6, .ref c7, .ref c8, .ref c9, .ref c10, .ref c11, .ref c12, .ref c13, .ref c14, .ref c15, .int 0, .int 0, .int 0, .int 0, .int 0, .int 0, .int 0, .int 0, .int 0, .ref c16, .ref c17, .ref c18, .ref c19, .ref c20, .ref c21, .ref c22, .ref c23, .ref c24, .int 0]))], rfl, Or.inr (Or.inl ⟨c_1_0, c_1_1, rfl, rfl⟩), by rw [ht]; exact hP.sub (ws' := [(c0, .inr (20, [.int 1, .ref c2, .int 0, .int 0, .ref c3, .ref c4, .ref c5, .ref c6, .ref c7, .ref c8, .ref c9, .ref c10, .ref c11, .ref c12, .ref c13, .ref c14, .ref c15, .int 0, .int 0, .int 0, .int 0, .int 0, .int 0, .int 0, .int 0, .int 0, .ref c16, .ref c17, .ref c18, .ref c19, .ref c20, .ref c21, .ref c22, .ref c23, .ref c24, .int 0]))]) [0] rfl, va_K.moved hW.alike (hK.sub (tys' := []) [] rfl), hD.sub (ws' := [(c0, .inr (20, [.int 1, .ref c2, .int 0, .int 0, .ref c3, .ref c4, .ref c5, .ref c6, .ref c7, .ref c8, .ref c9, .ref c10, .ref c11, .ref c12, .ref c13, .ref c14, .ref c15, .int 0, .int 0, .int 0, .int 0, .int 0, .int 0, .int 0, .int 0, .int 0, .ref c16, .ref c17, .ref c18, .ref c19, .ref c20, .ref c21, .ref c22, .ref c23, .ref c24, .int 0]))]) [0] (by decide) rfl⟩, hS.F ht⟩) hS.2.2 dX19_run_43
  · subst h9
    refine lv_istore_n (lv' := [(2, .int 1), (0, .ref c0), (1, .int c1)]) hx hb dX19_run_9 rfl hl (by decide) rfl (fun ls hl => ?_)
    refine lv_aload_n hx hb dX19_run_10 rfl (lv_at hl 1 rfl) ?_
    refine lv_iload_n hx hb dX19_run_11 rfl (lv_at hl 0 rfl) ?_
    refine lv_if_ne (tgt := 19) hx hb dX19_run_12 (by decide) (fun _ => ?_) (fun h9 => absurd h9 (by decide))
    refine lv_iconst (v := 0) hx hb dX19_run_19 (by decide) ?_
    refine lv_iload_n hx hb dX19_run_20 rfl (lv_at hl 0 rfl) ?_
    refine lv_if_eq (tgt := 35) hx hb dX19_run_21 (by decide) (fun h9 => absurd h9 (by decide)) (fun _ => ?_)
    refine lv_aload_n hx hb dX19_run_24 rfl (lv_at hl 1 rfl) ?_
    refine va_get (D := (dC, dI)) (ci := 20) (v := .int 0) (C := RX19) (T := TX19) (N := 36) hx hb hts hi_k_X19_run_X19 hown hK hP 0 rfl rfl 17 (by decide) (hts (.fieldLink RX19 231 "TimeMachineModel" "booted" "Z") (List.mem_of_getElem? (i := 8) rfl)) (fun _ h9 => h9) rfl dX19_run_25 ?_
    refine lv_if_ne (tgt := 35) hx hb dX19_run_28 (by decide) (fun h9 => absurd h9 (by decide)) (fun _ => ?_)
    refine lv_iconst (v := 1) hx hb dX19_run_31 (by decide) ?_
    refine lv_goto (tgt := 36) hx hb dX19_run_32 (by decide) ?_
    have hPc := hP.sub (ws' := [(c0, .inr (20, [.int 0, .ref c2, .int 0, .int 0, .ref c3, .ref c4, .ref c5, .ref c6, .ref c7, .ref c8, .ref c9, .ref c10, .ref c11, .ref c12, .ref c13, .ref c14, .ref c15, .int 0, .int 0, .int 0, .int 0, .int 0, .int 0, .int 0, .int 0, .int 0, .ref c16, .ref c17, .ref c18, .ref c19, .ref c20, .ref c21, .ref c22, .ref c23, .ref c24, .int 0]))]) [0] rfl
    have hDc := hD.sub (ws' := [(c0, .inr (20, [.int 0, .ref c2, .int 0, .int 0, .ref c3, .ref c4, .ref c5, .ref c6, .ref c7, .ref c8, .ref c9, .ref c10, .ref c11, .ref c12, .ref c13, .ref c14, .ref c15, .int 0, .int 0, .int 0, .int 0, .int 0, .int 0, .int 0, .int 0, .int 0, .ref c16, .ref c17, .ref c18, .ref c19, .ref c20, .ref c21, .ref c22, .ref c23, .ref c24, .int 0]))]) [0] (by decide) rfl
    have hKc := hK.sub (tys' := []) [] rfl
    have hFc := va_free (wc := [(c0, .inr (20, [.int 0, .ref c2, .int 0, .int 0, .ref c3, .ref c4, .ref c5, .ref c6, .ref c7, .ref c8, .ref c9, .ref c10, .ref c11, .ref c12, .ref c13, .ref c14, .ref c15, .int 0, .int 0, .int 0, .int 0, .int 0, .int 0, .int 0, .int 0, .int 0, .ref c16, .ref c17, .ref c18, .ref c19, .ref c20, .ref c21, .ref c22, .ref c23, .ref c24, .int 0]))]) hD hS hA [0] rfl
    refine va_calli (va_runV (As := [.int 0, .int 1]) (rest := []) ⟨hx, hb, hml, hown, hts⟩ (k_X19_fails_v2 l hlt dC dI c0 c2 c3 c4 c5 c6 c7 c8 c9 c10 c11 c12 c13 c14 c15 c16 c17 c18 c19 c20 c21 c22 c23 c24  H.size) (cwV 2 hts gi_k_X19_run_2 rfl rfl rfl (by decide +kernel) ⟨Nat.le_of_ble_eq_true rfl, Nat.le_of_ble_eq_true rfl⟩) ⟨fun a U g mk q => by obtain ⟨q0, q1, qP, qK, qD, qN⟩ := q; exact ⟨q0, q1, qP, va_K.moved (u := U) (U := U.calling g mk a) (Vm.Alike.refl U.vm) qK, qD, nv_same rfl rfl qN⟩, va_recv hKc hPc (ci := 20) (q0 := 0) rfl rfl, fun U hU hW => ⟨rfl, by rw [hU], by rw [hU]; exact hPc, va_K.moved hW.alike hKc, hDc.weaken (fun _ _ _ _ => trivial), nv_call hS hFc hU hW hN⟩⟩ rfl rfl hl.1 rfl (lv_room (Nat.le_of_ble_eq_true rfl)) dX19_run_36 ⟨by decide +kernel, by decide +kernel⟩) hS (fun q _ h => hFc q h) hFc (fun r4 u t H1 locs ht hvm hw hB hz1 hk1 hS => ?_)
    obtain ⟨hP1, hK1, hD1⟩ := hB
    rw [ht] at hP1
    have hK1 := va_K.moved hvm.symm hK1
    obtain rfl : r4 = 1 := hw
    obtain ⟨hP, hD⟩ := va_join (wr := []) (w1 := [(c0, .inr (20, [.int 2, .ref c2, .int 0, .int 0, .ref c3, .ref c4, .ref c5, .ref c6, .ref c7, .ref c8, .ref c9, .ref c10, .ref c11, .ref c12, .ref c13, .ref c14, .ref c15, .int 0, .int 0, .int 0, .int 0, .int 0, .int 0, .int 0, .int 0, .int 0, .ref c16, .ref c17, .ref c18, .ref c19, .ref c20, .ref c21, .ref c22, .ref c23, .ref c24, .int 0]))]) hP hD [0] [] rfl rfl (by decide) (by decide) hk1 hFc hP1 hD1
    have hK := (hK.sub (tys' := []) [] rfl).app hK1
    generalize H1 = H at hP hS ⊢
    have hP : va_P (dC, dI) vwCl [(c0, .inr (20, [.int 2, .ref c2, .int 0, .int 0, .ref c3, .ref c4, .ref c5, .ref c6, .ref c7, .ref c8, .ref c9, .ref c10, .ref c11, .ref c12, .ref c13, .ref c14, .ref c15, .int 0, .int 0, .int 0, .int 0, .int 0, .int 0, .int 0, .int 0, .int 0, .ref c16, .ref c17, .ref c18, .ref c19, .ref c20, .ref c21, .ref c22, .ref c23, .ref c24, .int 0]))] H := hP
    have hD : va_D A [(c0, .inr (20, [.int 2, .ref c2, .int 0, .int 0, .ref c3, .ref c4, .ref c5, .ref c6, .ref c7, .ref c8, .ref c9, .ref c10, .ref c11, .ref c12, .ref c13, .ref c14, .ref c15, .int 0, .int 0, .int 0, .int 0, .int 0, .int 0, .int 0, .int 0, .int 0, .ref c16, .ref c17, .ref c18, .ref c19, .ref c20, .ref c21, .ref c22, .ref c23, .ref c24, .int 0]))] := hD
    have hK : va_K (dC, dI) vwCl [] s := hK
    refine W.widen (k := 0) (n := 0) (by decide +kernel) (by decide +kernel) ?_
    refine lv_if_eq (tgt := 44) hx hb dX19_run_39 (by decide) (fun h9 => absurd h9 (by decide)) (fun _ => ?_)
    refine lv_iconst (v := 0) hx hb dX19_run_42 (by decide) ?_
    refine W.widen (k := 0) (n := 0) (by decide +kernel) (by decide +kernel) ?_
    exact W.iret (v := 0) hx hb hr (fun t ht hW => ⟨⟨0, [(c0, .inr (20, [.int 2, .ref c2, .int 0, .int 0, .ref c3, .ref c4, .ref c5, .ref c6, .ref c7, .ref c8, .ref c9, .ref c10, .ref c11, .ref c12, .ref c13, .ref c14, .ref c15, .int 0, .int 0, .int 0, .int 0, .int 0, .int 0, .int 0, .int 0, .int 0, .ref c16, .ref c17, .ref c18, .ref c19, .ref c20, .ref c21, .ref c22, .ref c23, .ref c24, .int 0]))], rfl, Or.inr (Or.inr (Or.inl ⟨c_1_0, c_1_1, rfl, rfl⟩)), by rw [ht]; exact hP.sub (ws' := [(c0, .inr (20, [.int 2, .ref c2, .int 0, .int 0, .ref c3, .ref c4, .ref c5, .ref c6, .ref c7, .ref c8, .ref c9, .ref c10, .ref c11, .ref c12, .ref c13, .ref c14, .ref c15, .int 0, .int 0, .int 0, .int 0, .int 0, .int 0, .int 0, .int 0, .int 0, .ref c16, .ref c17, .ref c18, .ref c19, .ref c20, .ref c21, .ref c22, .ref c23, .ref c24, .int 0]))]) [0] rfl, va_K.moved hW.alike (hK.sub (tys' := []) [] rfl), hD.sub (ws' := [(c0, .inr (20, [.int 2, .ref c2, .int 0, .int 0, .ref c3, .ref c4, .ref c5, .ref c6, .ref c7, .ref c8, .ref c9, .ref c10, .ref c11, .ref c12, .ref c13, .ref c14, .ref c15, .int 0, .int 0, .int 0, .int 0, .int 0, .int 0, .int 0, .int 0, .int 0, .ref c16, .ref c17, .ref c18, .ref c19, .ref c20, .ref c21, .ref c22, .ref c23, .ref c24, .int 0]))]) [0] (by decide) rfl⟩, hS.F ht⟩) hS.2.2 dX19_run_43
  · exact h9.elim
def ow_k_X12_reason : List Cond := .code yX12_reason cX12_reason 1 (some .int) :: ([.fieldLink RX12 33 "TimeMachine" "timeline" "LTimeMachine$Timeline;", .fieldLink RX12 162 "TimeMachine$Timeline" "why" "I"] ++ (u_ws RX12 TX12 12 ++ (u_ws RX11 TX11 16 ++ [])))
theorem gd_k_X12_reason : ∀ w ∈ ow_k_X12_reason, (w.onTables && w.keeps) = true ∨ ∃ ty, w = Cond.arrayClass ty := List.forall_mem_cons.mpr ⟨good_of_word rfl, List.forall_mem_append.mpr ⟨fun w h => good_of_word (List.all_eq_true.mp (by decide +kernel) w h), List.forall_mem_append.mpr ⟨gu_X12, List.forall_mem_append.mpr ⟨gu_X11, fun _ h => nomatch h⟩⟩⟩⟩
theorem hi_k_X12_reason_X12 : ∀ w ∈ u_ws RX12 TX12 12, w ∈ ow_k_X12_reason := fun w h => List.mem_cons_of_mem _ (List.mem_append_right _ (List.mem_append_left _ h))
theorem hi_k_X12_reason_X11 : ∀ w ∈ u_ws RX11 TX11 16, w ∈ ow_k_X12_reason := fun w h => List.mem_cons_of_mem _ (List.mem_append_right _ (List.mem_append_right _ (List.mem_append_left _ h)))
set_option maxHeartbeats 40000000 in
set_option maxRecDepth 100000 in
theorem k_X12_reason (l : Launch) (hlt : l.stackTraces = false) (dC : Nat → ClassId) (dI : Nat → Nat → Nat) (c0 : Nat) (c1 : Nat) (c2 : Nat) (c3 : Nat) (c4 : Nat) (c5 : Nat) (c6 : Nat) (c7 : Nat) (c8 : Nat) (c9 : Nat) (c10 : Nat) (c11 : Nat) (c12 : Nat) (c13 : Nat) (c14 : Nat) (c15 : Nat) (c16 : Nat) (c17 : Nat) (sz : Nat) : Met l yX12_reason ow_k_X12_reason ({ frames := 0, cells := 0, slots := 0, locals := 0 }) (va_Pc [.ref c0] (fun U => U.heap.size = sz ∧ va_P (dC, dI) vwCl [(c0, .inr (13, [.ref c2, .int 0, .int 0, .ref c3, .ref c4, .ref c5, .ref c1, .ref c6, .ref c7, .ref c8, .int 0, .ref c9])), (c1, .inr (12, [.ref c10, .ref c11, .ref c12, .ref c13, .ref c14, .ref c15, .int 0, .ref c16, .ref c17, .int 0, .int 0, .int 0, .int 0, .int 0, .int 0, .int 0]))] U.heap ∧ va_K (dC, dI) vwCl [] U ∧ va_D (fun _ => True) [(c0, .inr (13, [.ref c2, .int 0, .int 0, .ref c3, .ref c4, .ref c5, .ref c1, .ref c6, .ref c7, .ref c8, .int 0, .ref c9])), (c1, .inr (12, [.ref c10, .ref c11, .ref c12, .ref c13, .ref c14, .ref c15, .int 0, .ref c16, .ref c17, .int 0, .int 0, .int 0, .int 0, .int 0, .int 0, .int 0]))] ∧ nv_E (va_A [(c0, .inr (13, [.ref c2, .int 0, .int 0, .ref c3, .ref c4, .ref c5, .ref c1, .ref c6, .ref c7, .ref c8, .int 0, .ref c9])), (c1, .inr (12, [.ref c10, .ref c11, .ref c12, .ref c13, .ref c14, .ref c15, .int 0, .ref c16, .ref c17, .int 0, .int 0, .int 0, .int 0, .int 0, .int 0, .int 0]))] sz) U)) (va_Qi (fun r _ => r = 0) (fun (_ : Unit) t => va_P (dC, dI) vwCl [(c0, .inr (13, [.ref c2, .int 0, .int 0, .ref c3, .ref c4, .ref c5, .ref c1, .ref c6, .ref c7, .ref c8, .int 0, .ref c9])), (c1, .inr (12, [.ref c10, .ref c11, .ref c12, .ref c13, .ref c14, .ref c15, .int 0, .ref c16, .ref c17, .int 0, .int 0, .int 0, .int 0, .int 0, .int 0, .int 0]))] t.heap ∧ va_K (dC, dI) vwCl [] t ∧ va_D (va_A [(c0, .inr (13, [.ref c2, .int 0, .int 0, .ref c3, .ref c4, .ref c5, .ref c1, .ref c6, .ref c7, .ref c8, .int 0, .ref c9])), (c1, .inr (12, [.ref c10, .ref c11, .ref c12, .ref c13, .ref c14, .ref c15, .int 0, .ref c16, .ref c17, .int 0, .int 0, .int 0, .int 0, .int 0, .int 0, .int 0]))] sz) [(c0, .inr (13, [.ref c2, .int 0, .int 0, .ref c3, .ref c4, .ref c5, .ref c1, .ref c6, .ref c7, .ref c8, .int 0, .ref c9])), (c1, .inr (12, [.ref c10, .ref c11, .ref c12, .ref c13, .ref c14, .ref c15, .int 0, .ref c16, .ref c17, .int 0, .int 0, .int 0, .int 0, .int 0, .int 0, .int 0]))]) (va_A [(c0, .inr (13, [.ref c2, .int 0, .int 0, .ref c3, .ref c4, .ref c5, .ref c1, .ref c6, .ref c7, .ref c8, .int 0, .ref c9])), (c1, .inr (12, [.ref c10, .ref c11, .ref c12, .ref c13, .ref c14, .ref c15, .int 0, .ref c16, .ref c17, .int 0, .int 0, .int 0, .int 0, .int 0, .int 0, .int 0]))] sz)) 0 0 (va_A [(c0, .inr (13, [.ref c2, .int 0, .int 0, .ref c3, .ref c4, .ref c5, .ref c1, .ref c6, .ref c7, .ref c8, .int 0, .ref c9])), (c1, .inr (12, [.ref c10, .ref c11, .ref c12, .ref c13, .ref c14, .ref c15, .int 0, .ref c16, .ref c17, .int 0, .int 0, .int 0, .int 0, .int 0, .int 0, .int 0]))] sz) := by
  refine Met.ofW (cc := cX12_reason) (maxL := 1) (ret := (some .int)) (by decide) rfl ?_
  intro p e s m args below meth c s₁ B hml hv
  obtain ⟨rfl, hsz, hP, hK, hD0, hN⟩ := hv
  have hx := B.exec
  have hb := B.bytes
  have hr := B.returns
  have hts := atoms_spec (ws := ow_k_X12_reason) B.pre
  have hown : s.vm.findClass RX12 = some m.cls := findClass_of_methodNamed B.named
  have hlocks := B.notSynchronized
  subst hsz
  have hD := hD0.self (sz := s.heap.size)
  generalize hAe : va_A [(c0, .inr (13, [.ref c2, .int 0, .int 0, .ref c3, .ref c4, .ref c5, .ref c1, .ref c6, .ref c7, .ref c8, .int 0, .ref c9])), (c1, .inr (12, [.ref c10, .ref c11, .ref c12, .ref c13, .ref c14, .ref c15, .int 0, .ref c16, .ref c17, .int 0, .int 0, .int 0, .int 0, .int 0, .int 0, .int 0]))] s.heap.size = A at hD hN ⊢
  have hA : ∀ q : Nat, s.heap.size ≤ q → A q := fun q h => by rw [← hAe]; exact Or.inr h
  have hS : va_S A s.heap s.heap [] := va_S.rf
  have hl := lv_entry ([.ref c0]) (n := 1) (Nat.le_of_ble_eq_true rfl)
  rw [lg_entry_eq]
  generalize (lg_sl ([.ref c0]) ++ List.replicate (1 - (lg_sl ([.ref c0])).length) Slot.unset).toArray = ls at hl ⊢
  have hl : lv_has ls 1 [(0, .ref c0)] := hl
  refine lv_aload_n hx hb dX12_reason_0 rfl (lv_at hl 0 rfl) ?_
  refine va_get (D := (dC, dI)) (ci := 13) (v := .ref c1) (C := RX12) (T := TX12) (N := 12) hx hb hts hi_k_X12_reason_X12 hown hK hP 0 rfl rfl 6 (by decide) (hts (.fieldLink RX12 33 "TimeMachine" "timeline" "LTimeMachine$Timeline;") (List.mem_of_getElem? (i := 1) rfl)) (fun _ h9 => h9) rfl dX12_reason_1 ?_
  refine va_get (D := (dC, dI)) (ci := 12) (v := .int 0) (C := RX11) (T := TX11) (N := 16) hx hb hts hi_k_X12_reason_X11 hown hK hP 1 rfl rfl 15 (by decide) (hts (.fieldLink RX12 162 "TimeMachine$Timeline" "why" "I") (List.mem_of_getElem? (i := 2) rfl)) (fun _ h9 => h9) rfl dX12_reason_4 ?_
  have hP9 := hP.sub (ws' := [(c0, .inr (13, [.ref c2, .int 0, .int 0, .ref c3, .ref c4, .ref c5, .ref c1, .ref c6, .ref c7, .ref c8, .int 0, .ref c9])), (c1, .inr (12, [.ref c10, .ref c11, .ref c12, .ref c13, .ref c14, .ref c15, .int 0, .ref c16, .ref c17, .int 0, .int 0, .int 0, .int 0, .int 0, .int 0, .int 0]))]) [0, 1] rfl
  have hD9 := hD.sub (ws' := [(c0, .inr (13, [.ref c2, .int 0, .int 0, .ref c3, .ref c4, .ref c5, .ref c1, .ref c6, .ref c7, .ref c8, .int 0, .ref c9])), (c1, .inr (12, [.ref c10, .ref c11, .ref c12, .ref c13, .ref c14, .ref c15, .int 0, .ref c16, .ref c17, .int 0, .int 0, .int 0, .int 0, .int 0, .int 0, .int 0]))]) [0, 1] (by decide) rfl
  have hK9 := hK.sub (tys' := []) [] rfl
  refine W.widen (k := 0) (n := 0) (by decide +kernel) (by decide +kernel) ?_
  exact W.iret (v := 0) hx hb hr (fun t ht hW => ⟨⟨0, (), rfl, rfl, by rw [ht]; exact hP9, va_K.moved hW.alike hK9, hD9⟩, hS.F ht⟩) hS.2.2 dX12_reason_7
def ow_k_X19_reason : List Cond := .code yX19_reason cX19_reason 1 (some .int) :: ([.fieldLink RX19 113 "TimeMachineModel" "code" "I", .fieldLink RX19 285 "TimeMachineModel" "why" "I"] ++ (u_ws RX19 TX19 36 ++ []))
theorem gd_k_X19_reason : ∀ w ∈ ow_k_X19_reason, (w.onTables && w.keeps) = true ∨ ∃ ty, w = Cond.arrayClass ty := List.forall_mem_cons.mpr ⟨good_of_word rfl, List.forall_mem_append.mpr ⟨fun w h => good_of_word (List.all_eq_true.mp (by decide +kernel) w h), List.forall_mem_append.mpr ⟨gu_X19, fun _ h => nomatch h⟩⟩⟩
theorem hi_k_X19_reason_X19 : ∀ w ∈ u_ws RX19 TX19 36, w ∈ ow_k_X19_reason := fun w h => List.mem_cons_of_mem _ (List.mem_append_right _ (List.mem_append_left _ h))
set_option maxHeartbeats 40000000 in
set_option maxRecDepth 100000 in
theorem k_X19_reason (l : Launch) (hlt : l.stackTraces = false) (dC : Nat → ClassId) (dI : Nat → Nat → Nat) (c0 : Nat) (c1 : Nat) (c2 : Nat) (c3 : Nat) (c4 : Nat) (c5 : Nat) (c6 : Nat) (c7 : Nat) (c8 : Nat) (c9 : Nat) (c10 : Nat) (c11 : Nat) (c12 : Nat) (c13 : Nat) (c14 : Nat) (c15 : Nat) (c16 : Nat) (c17 : Nat) (c18 : Nat) (c19 : Nat) (c20 : Nat) (c21 : Nat) (c22 : Nat) (c23 : Nat) (sz : Nat) : Met l yX19_reason ow_k_X19_reason ({ frames := 0, cells := 0, slots := 0, locals := 0 }) (va_Pc [.ref c0] (fun U => U.heap.size = sz ∧ va_P (dC, dI) vwCl [(c0, .inr (20, [.int 0, .ref c1, .int 0, .int 0, .ref c2, .ref c3, .ref c4, .ref c5, .ref c6, .ref c7, .ref c8, .ref c9, .ref c10, .ref c11, .ref c12, .ref c13, .ref c14, .int 0, .int 0, .int 0, .int 0, .int 0, .int 0, .int 0, .int 0, .int 0, .ref c15, .ref c16, .ref c17, .ref c18, .ref c19, .ref c20, .ref c21, .ref c22, .ref c23, .int 0]))] U.heap ∧ va_K (dC, dI) vwCl [] U ∧ va_D (fun _ => True) [(c0, .inr (20, [.int 0, .ref c1, .int 0, .int 0, .ref c2, .ref c3, .ref c4, .ref c5, .ref c6, .ref c7, .ref c8, .ref c9, .ref c10, .ref c11, .ref c12, .ref c13, .ref c14, .int 0, .int 0, .int 0, .int 0, .int 0, .int 0, .int 0, .int 0, .int 0, .ref c15, .ref c16, .ref c17, .ref c18, .ref c19, .ref c20, .ref c21, .ref c22, .ref c23, .int 0]))] ∧ nv_E (va_A [(c0, .inr (20, [.int 0, .ref c1, .int 0, .int 0, .ref c2, .ref c3, .ref c4, .ref c5, .ref c6, .ref c7, .ref c8, .ref c9, .ref c10, .ref c11, .ref c12, .ref c13, .ref c14, .int 0, .int 0, .int 0, .int 0, .int 0, .int 0, .int 0, .int 0, .int 0, .ref c15, .ref c16, .ref c17, .ref c18, .ref c19, .ref c20, .ref c21, .ref c22, .ref c23, .int 0]))] sz) U)) (va_Qi (fun r _ => r = 0) (fun (_ : Unit) t => va_P (dC, dI) vwCl [(c0, .inr (20, [.int 0, .ref c1, .int 0, .int 0, .ref c2, .ref c3, .ref c4, .ref c5, .ref c6, .ref c7, .ref c8, .ref c9, .ref c10, .ref c11, .ref c12, .ref c13, .ref c14, .int 0, .int 0, .int 0, .int 0, .int 0, .int 0, .int 0, .int 0, .int 0, .ref c15, .ref c16, .ref c17, .ref c18, .ref c19, .ref c20, .ref c21, .ref c22, .ref c23, .int 0]))] t.heap ∧ va_K (dC, dI) vwCl [] t ∧ va_D (va_A [(c0, .inr (20, [.int 0, .ref c1, .int 0, .int 0, .ref c2, .ref c3, .ref c4, .ref c5, .ref c6, .ref c7, .ref c8, .ref c9, .ref c10, .ref c11, .ref c12, .ref c13, .ref c14, .int 0, .int 0, .int 0, .int 0, .int 0, .int 0, .int 0, .int 0, .int 0, .ref c15, .ref c16, .ref c17, .ref c18, .ref c19, .ref c20, .ref c21, .ref c22, .ref c23, .int 0]))] sz) [(c0, .inr (20, [.int 0, .ref c1, .int 0, .int 0, .ref c2, .ref c3, .ref c4, .ref c5, .ref c6, .ref c7, .ref c8, .ref c9, .ref c10, .ref c11, .ref c12, .ref c13, .ref c14, .int 0, .int 0, .int 0, .int 0, .int 0, .int 0, .int 0, .int 0, .int 0, .ref c15, .ref c16, .ref c17, .ref c18, .ref c19, .ref c20, .ref c21, .ref c22, .ref c23, .int 0]))]) (va_A [(c0, .inr (20, [.int 0, .ref c1, .int 0, .int 0, .ref c2, .ref c3, .ref c4, .ref c5, .ref c6, .ref c7, .ref c8, .ref c9, .ref c10, .ref c11, .ref c12, .ref c13, .ref c14, .int 0, .int 0, .int 0, .int 0, .int 0, .int 0, .int 0, .int 0, .int 0, .ref c15, .ref c16, .ref c17, .ref c18, .ref c19, .ref c20, .ref c21, .ref c22, .ref c23, .int 0]))] sz)) 0 0 (va_A [(c0, .inr (20, [.int 0, .ref c1, .int 0, .int 0, .ref c2, .ref c3, .ref c4, .ref c5, .ref c6, .ref c7, .ref c8, .ref c9, .ref c10, .ref c11, .ref c12, .ref c13, .ref c14, .int 0, .int 0, .int 0, .int 0, .int 0, .int 0, .int 0, .int 0, .int 0, .ref c15, .ref c16, .ref c17, .ref c18, .ref c19, .ref c20, .ref c21, .ref c22, .ref c23, .int 0]))] sz) := by
  refine Met.ofW (cc := cX19_reason) (maxL := 1) (ret := (some .int)) (by decide) rfl ?_
  intro p e s m args below meth c s₁ B hml hv
  obtain ⟨rfl, hsz, hP, hK, hD0, hN⟩ := hv
  have hx := B.exec
  have hb := B.bytes
  have hr := B.returns
  have hts := atoms_spec (ws := ow_k_X19_reason) B.pre
  have hown : s.vm.findClass RX19 = some m.cls := findClass_of_methodNamed B.named
  have hlocks := B.notSynchronized
  subst hsz
  have hD := hD0.self (sz := s.heap.size)
  generalize hAe : va_A [(c0, .inr (20, [.int 0, .ref c1, .int 0, .int 0, .ref c2, .ref c3, .ref c4, .ref c5, .ref c6, .ref c7, .ref c8, .ref c9, .ref c10, .ref c11, .ref c12, .ref c13, .ref c14, .int 0, .int 0, .int 0, .int 0, .int 0, .int 0, .int 0, .int 0, .int 0, .ref c15, .ref c16, .ref c17, .ref c18, .ref c19, .ref c20, .ref c21, .ref c22, .ref c23, .int 0]))] s.heap.size = A at hD hN ⊢
  have hA : ∀ q : Nat, s.heap.size ≤ q → A q := fun q h => by rw [← hAe]; exact Or.inr h
  have hS : va_S A s.heap s.heap [] := va_S.rf
  have hl := lv_entry ([.ref c0]) (n := 1) (Nat.le_of_ble_eq_true rfl)
  rw [lg_entry_eq]
  generalize (lg_sl ([.ref c0]) ++ List.replicate (1 - (lg_sl ([.ref c0])).length) Slot.unset).toArray = ls at hl ⊢
  have hl : lv_has ls 1 [(0, .ref c0)] := hl
  refine lv_aload_n hx hb dX19_reason_0 rfl (lv_at hl 0 rfl) ?_
  refine lv_iconst (v := 0) hx hb dX19_reason_1 (by decide) ?_
  refine va_put (D := (dC, dI)) (ci := 20) (v := .int 0) (ty := .int) (C := RX19) (T := TX19) (N := 36) hx hb hts hi_k_X19_reason_X19 tyX19 tyX19_ok nmX19 hown hK hP hD hS 0 rfl rfl 0 (by decide) (hts (.fieldLink RX19 113 "TimeMachineModel" "code" "I") (List.mem_of_getElem? (i := 1) rfl)) (fun _ h9 => h9) rfl (by decide +kernel) rfl rfl (Nat.le_of_ble_eq_true rfl) dX19_reason_2 (fun H locs hP hD hS => ?_)
  have hP : va_P (dC, dI) vwCl [(c0, .inr (20, [.int 0, .ref c1, .int 0, .int 0, .ref c2, .ref c3, .ref c4, .ref c5, .ref c6, .ref c7, .ref c8, .ref c9, .ref c10, .ref c11, .ref c12, .ref c13, .ref c14, .int 0, .int 0, .int 0, .int 0, .int 0, .int 0, .int 0, .int 0, .int 0, .ref c15, .ref c16, .ref c17, .ref c18, .ref c19, .ref c20, .ref c21, .ref c22, .ref c23, .int 0]))] H := hP
  have hD : va_D A [(c0, .inr (20, [.int 0, .ref c1, .int 0, .int 0, .ref c2, .ref c3, .ref c4, .ref c5, .ref c6, .ref c7, .ref c8, .ref c9, .ref c10, .ref c11, .ref c12, .ref c13, .ref c14, .int 0, .int 0, .int 0, .int 0, .int 0, .int 0, .int 0, .int 0, .int 0, .ref c15, .ref c16, .ref c17, .ref c18, .ref c19, .ref c20, .ref c21, .ref c22, .ref c23, .int 0]))] := hD
  refine lv_aload_n hx hb dX19_reason_5 rfl (lv_at hl 0 rfl) ?_
  refine va_get (D := (dC, dI)) (ci := 20) (v := .int 0) (C := RX19) (T := TX19) (N := 36) hx hb hts hi_k_X19_reason_X19 hown hK hP 0 rfl rfl 21 (by decide) (hts (.fieldLink RX19 285 "TimeMachineModel" "why" "I") (List.mem_of_getElem? (i := 2) rfl)) (fun _ h9 => h9) rfl dX19_reason_6 ?_
  have hP9 := hP.sub (ws' := [(c0, .inr (20, [.int 0, .ref c1, .int 0, .int 0, .ref c2, .ref c3, .ref c4, .ref c5, .ref c6, .ref c7, .ref c8, .ref c9, .ref c10, .ref c11, .ref c12, .ref c13, .ref c14, .int 0, .int 0, .int 0, .int 0, .int 0, .int 0, .int 0, .int 0, .int 0, .ref c15, .ref c16, .ref c17, .ref c18, .ref c19, .ref c20, .ref c21, .ref c22, .ref c23, .int 0]))]) [0] rfl
  have hD9 := hD.sub (ws' := [(c0, .inr (20, [.int 0, .ref c1, .int 0, .int 0, .ref c2, .ref c3, .ref c4, .ref c5, .ref c6, .ref c7, .ref c8, .ref c9, .ref c10, .ref c11, .ref c12, .ref c13, .ref c14, .int 0, .int 0, .int 0, .int 0, .int 0, .int 0, .int 0, .int 0, .int 0, .ref c15, .ref c16, .ref c17, .ref c18, .ref c19, .ref c20, .ref c21, .ref c22, .ref c23, .int 0]))]) [0] (by decide) rfl
  have hK9 := hK.sub (tys' := []) [] rfl
  refine W.widen (k := 0) (n := 0) (by decide +kernel) (by decide +kernel) ?_
  exact W.iret (v := 0) hx hb hr (fun t ht hW => ⟨⟨0, (), rfl, rfl, by rw [ht]; exact hP9, va_K.moved hW.alike hK9, hD9⟩, hS.F ht⟩) hS.2.2 dX19_reason_9
def ow_k_X12_go : List Cond := .code yX12_go cX12_go 2 none :: ([.fieldLink RX12 33 "TimeMachine" "timeline" "LTimeMachine$Timeline;", .fieldLink RX12 142 "TimeMachine$Timeline" "booted" "Z", .classLink RX12 70 "java/lang/IllegalArgumentException", .initialized "java/lang/IllegalArgumentException"] ++ (u_ws RX12 TX12 12 ++ (u_ws RX11 TX11 16 ++ ((vx_at0 RX12 72 "java/lang/IllegalArgumentException" ["java/lang/RuntimeException", "java/lang/Exception"]).filter goodWord ++ []))))
theorem gd_k_X12_go : ∀ w ∈ ow_k_X12_go, (w.onTables && w.keeps) = true ∨ ∃ ty, w = Cond.arrayClass ty := List.forall_mem_cons.mpr ⟨good_of_word rfl, List.forall_mem_append.mpr ⟨fun w h => good_of_word (List.all_eq_true.mp (by decide +kernel) w h), List.forall_mem_append.mpr ⟨gu_X12, List.forall_mem_append.mpr ⟨gu_X11, List.forall_mem_append.mpr ⟨fun w h => good_of_word (List.mem_filter.mp h).2, fun _ h => nomatch h⟩⟩⟩⟩⟩
theorem hi_k_X12_go_X12 : ∀ w ∈ u_ws RX12 TX12 12, w ∈ ow_k_X12_go := fun w h => List.mem_cons_of_mem _ (List.mem_append_right _ (List.mem_append_left _ h))
theorem hi_k_X12_go_X11 : ∀ w ∈ u_ws RX11 TX11 16, w ∈ ow_k_X12_go := fun w h => List.mem_cons_of_mem _ (List.mem_append_right _ (List.mem_append_right _ (List.mem_append_left _ h)))
set_option maxHeartbeats 40000000 in
set_option maxRecDepth 100000 in
theorem k_X12_go (l : Launch) (hlt : l.stackTraces = false) (dC : Nat → ClassId) (dI : Nat → Nat → Nat) (c0 : Nat) (c1 : Nat) (c2 : Int32) (c3 : Nat) (c4 : Nat) (c5 : Nat) (c6 : Nat) (c7 : Nat) (c8 : Nat) (c9 : Nat) (c10 : Nat) (c11 : Nat) (c12 : Nat) (c13 : Nat) (c14 : Nat) (c15 : Nat) (c16 : Nat) (c17 : Nat) (c18 : Nat) (sz : Nat) : vx_Met l yX12_go ow_k_X12_go ({ frames := 6, cells := 1, slots := 6, locals := 81 }) (va_Pc [.ref c0, .int c2] (fun U => U.heap.size = sz ∧ va_P (dC, dI) vwCl [(c0, .inr (13, [.ref c3, .int 0, .int 0, .ref c4, .ref c5, .ref c6, .ref c1, .ref c7, .ref c8, .ref c9, .int 0, .ref c10])), (c1, .inr (12, [.ref c11, .ref c12, .ref c13, .ref c14, .ref c15, .ref c16, .int 0, .ref c17, .ref c18, .int 0, .int 0, .int 0, .int 0, .int 0, .int 0, .int 0]))] U.heap ∧ va_K (dC, dI) vwCl [] U ∧ va_D (fun _ => True) [(c0, .inr (13, [.ref c3, .int 0, .int 0, .ref c4, .ref c5, .ref c6, .ref c1, .ref c7, .ref c8, .ref c9, .int 0, .ref c10])), (c1, .inr (12, [.ref c11, .ref c12, .ref c13, .ref c14, .ref c15, .ref c16, .int 0, .ref c17, .ref c18, .int 0, .int 0, .int 0, .int 0, .int 0, .int 0, .int 0]))] ∧ nv_E (va_A [(c0, .inr (13, [.ref c3, .int 0, .int 0, .ref c4, .ref c5, .ref c6, .ref c1, .ref c7, .ref c8, .ref c9, .int 0, .ref c10])), (c1, .inr (12, [.ref c11, .ref c12, .ref c13, .ref c14, .ref c15, .ref c16, .int 0, .ref c17, .ref c18, .int 0, .int 0, .int 0, .int 0, .int 0, .int 0, .int 0]))] sz) U ∧ nv_Dc U)) (va_Qv (fun _ => False) (fun (_ : Unit) t => True) (va_A [(c0, .inr (13, [.ref c3, .int 0, .int 0, .ref c4, .ref c5, .ref c6, .ref c1, .ref c7, .ref c8, .ref c9, .int 0, .ref c10])), (c1, .inr (12, [.ref c11, .ref c12, .ref c13, .ref c14, .ref c15, .ref c16, .int 0, .ref c17, .ref c18, .int 0, .int 0, .int 0, .int 0, .int 0, .int 0, .int 0]))] sz)) (vx_X (fun _ : Unit => True) (fun E _ _ => (E = "java/lang/IllegalArgumentException") ∨ False) (va_A [(c0, .inr (13, [.ref c3, .int 0, .int 0, .ref c4, .ref c5, .ref c6, .ref c1, .ref c7, .ref c8, .ref c9, .int 0, .ref c10])), (c1, .inr (12, [.ref c11, .ref c12, .ref c13, .ref c14, .ref c15, .ref c16, .int 0, .ref c17, .ref c18, .int 0, .int 0, .int 0, .int 0, .int 0, .int 0, .int 0]))] sz)) 1 6 (va_A [(c0, .inr (13, [.ref c3, .int 0, .int 0, .ref c4, .ref c5, .ref c6, .ref c1, .ref c7, .ref c8, .ref c9, .int 0, .ref c10])), (c1, .inr (12, [.ref c11, .ref c12, .ref c13, .ref c14, .ref c15, .ref c16, .int 0, .ref c17, .ref c18, .int 0, .int 0, .int 0, .int 0, .int 0, .int 0, .int 0]))] sz) := by
  refine vx_ofW (cc := cX12_go) (maxL := 2) (ret := none) (by decide) rfl ?_
  intro p e s m args below meth c s₁ B hml htb hv
  obtain ⟨rfl, hsz, hP, hK, hD0, hN, hDe⟩ := hv
  have hx := B.exec
  have hb := B.bytes
  have hr := B.returns
  have hts := atoms_spec (ws := ow_k_X12_go) B.pre
  have hown : s.vm.findClass RX12 = some m.cls := findClass_of_methodNamed B.named
  have hlocks := B.notSynchronized
  subst hsz
  have hD := hD0.self (sz := s.heap.size)
  generalize hAe : va_A [(c0, .inr (13, [.ref c3, .int 0, .int 0, .ref c4, .ref c5, .ref c6, .ref c1, .ref c7, .ref c8, .ref c9, .int 0, .ref c10])), (c1, .inr (12, [.ref c11, .ref c12, .ref c13, .ref c14, .ref c15, .ref c16, .int 0, .ref c17, .ref c18, .int 0, .int 0, .int 0, .int 0, .int 0, .int 0, .int 0]))] s.heap.size = A at hD hN ⊢
  have hA : ∀ q : Nat, s.heap.size ≤ q → A q := fun q h => by rw [← hAe]; exact Or.inr h
  have hS : va_S A s.heap s.heap [] := va_S.rf
  have hl := lv_entry ([.ref c0, .int c2]) (n := 2) (Nat.le_of_ble_eq_true rfl)
  rw [lg_entry_eq]
  generalize (lg_sl ([.ref c0, .int c2]) ++ List.replicate (2 - (lg_sl ([.ref c0, .int c2])).length) Slot.unset).toArray = ls at hl ⊢
  have hl : lv_has ls 2 [(0, .ref c0), (1, .int c2)] := hl
  refine lv_aload_n hx hb dX12_go_0 rfl (lv_at hl 0 rfl) ?_
  refine va_get (D := (dC, dI)) (ci := 13) (v := .ref c1) (C := RX12) (T := TX12) (N := 12) hx hb hts hi_k_X12_go_X12 hown hK hP 0 rfl rfl 6 (by decide) (hts (.fieldLink RX12 33 "TimeMachine" "timeline" "LTimeMachine$Timeline;") (List.mem_of_getElem? (i := 1) rfl)) (fun _ h9 => h9) rfl dX12_go_1 ?_
  refine va_get (D := (dC, dI)) (ci := 12) (v := .int 0) (C := RX11) (T := TX11) (N := 16) hx hb hts hi_k_X12_go_X11 hown hK hP 1 rfl rfl 6 (by decide) (hts (.fieldLink RX12 142 "TimeMachine$Timeline" "booted" "Z") (List.mem_of_getElem? (i := 2) rfl)) (fun _ h9 => h9) rfl dX12_go_4 ?_
  refine lv_if_eq (tgt := 25) hx hb dX12_go_7 (by decide) (fun _ => ?_) (fun h9 => absurd (by decide) h9)
  exact vx_throw0 (own := RX12) (cls := "java/lang/IllegalArgumentException") (names := ["java/lang/RuntimeException", "java/lang/Exception"]) (ik := 70) (ic := 72) (A := A) hx hb hlt hown (by decide +kernel) (by decide +kernel) (hts (.classLink RX12 70 "java/lang/IllegalArgumentException") (List.mem_of_getElem? (i := 3) rfl)) (hts (.initialized "java/lang/IllegalArgumentException") (List.mem_of_getElem? (i := 4) rfl)) (vx_hat (B := [.castable "java/lang/IllegalArgumentException" "java/lang/IllegalArgumentException", .declares ⟨"java/lang/RuntimeException", "<init>", "()V"⟩, .declares ⟨"java/lang/Exception", "<init>", "()V"⟩, .declares ⟨"java/lang/Throwable", "<init>", "()V"⟩]) (fun w h => hts w (List.mem_cons_of_mem _ (List.mem_append_right _ (List.mem_append_right _ (List.mem_append_right _ (List.mem_append_left _ h)))))) (by decide +kernel) (vx_c (va_Nw.use rfl hN.2.2.2.2.2.2.2.1) (vx_c (va_Nw.use rfl (hDe _ (by decide +kernel))) (vx_c (va_Nw.use rfl (hDe _ (by decide +kernel))) (vx_c (va_Nw.use rfl (hDe _ (by decide +kernel))) vx_n))))) (by decide +kernel) hN.2.2.2.2.2.1 hN.2.2.2.2.2.2.1 hS (by rw [hml]; exact hl.1) dX12_go_25 dX12_go_28 dX12_go_29 dX12_go_32 (fun x9 h9 => (htb x9 h9).elim) (Nat.le_of_ble_eq_true rfl) (Nat.le_of_ble_eq_true rfl) (by decide +kernel) (by decide +kernel) hlocks (fun t hvm hz hk => ⟨(), trivial, Or.inl rfl, Nat.le_trans hS.1 hz, fun q h1 h2 => (hk q (Nat.lt_of_lt_of_le h1 hS.1)).trans (hS.2.1 q h1 h2)⟩) hS.2.2 (by decide +kernel) (by decide +kernel)
def ow_k_L_go : List Cond := .codeWith yL_go cL_go 3 (some .int) [(0, 5, 8, 13)] :: ([.methodLink RL 31 yX12_go, .instanceMethod yX12_go, .selects RX12 yX12_go yX12_go, .initialized RX12, .classLink RL 13 "java/lang/IllegalArgumentException"] ++ (ow_k_X12_go ++ []))
theorem gd_k_L_go : ∀ w ∈ ow_k_L_go, (w.onTables && w.keeps) = true ∨ ∃ ty, w = Cond.arrayClass ty := List.forall_mem_cons.mpr ⟨good_of_word rfl, List.forall_mem_append.mpr ⟨fun w h => good_of_word (List.all_eq_true.mp (by decide +kernel) w h), List.forall_mem_append.mpr ⟨gd_k_X12_go, fun _ h => nomatch h⟩⟩⟩
theorem gi_k_L_go_0 : GoodIn ow_k_L_go (wsV RL 31 RX12 yX12_go ow_k_X12_go) := goodIn_app (goodIn_of _ (by decide +kernel)) (fun w h => ⟨List.mem_cons_of_mem _ (List.mem_append_right _ (List.mem_append_left _ h)), gd_k_X12_go w h⟩)
set_option maxHeartbeats 40000000 in
set_option maxRecDepth 100000 in
theorem k_L_go (l : Launch) (hlt : l.stackTraces = false) (dC : Nat → ClassId) (dI : Nat → Nat → Nat) (c0 : Nat) (c1 : Nat) (c2 : Int32) (c3 : Nat) (c4 : Nat) (c5 : Nat) (c6 : Nat) (c7 : Nat) (c8 : Nat) (c9 : Nat) (c10 : Nat) (c11 : Nat) (c12 : Nat) (c13 : Nat) (c14 : Nat) (c15 : Nat) (c16 : Nat) (c17 : Nat) (c18 : Nat) (sz : Nat) : Met l yL_go ow_k_L_go ({ frames := 7, cells := 1, slots := 6, locals := 102 }) (va_Pc [.ref c0, .int c2] (fun U => U.heap.size = sz ∧ va_P (dC, dI) vwCl [(c0, .inr (13, [.ref c3, .int 0, .int 0, .ref c4, .ref c5, .ref c6, .ref c1, .ref c7, .ref c8, .ref c9, .int 0, .ref c10])), (c1, .inr (12, [.ref c11, .ref c12, .ref c13, .ref c14, .ref c15, .ref c16, .int 0, .ref c17, .ref c18, .int 0, .int 0, .int 0, .int 0, .int 0, .int 0, .int 0]))] U.heap ∧ va_K (dC, dI) vwCl [] U ∧ va_D (fun _ => True) [(c0, .inr (13, [.ref c3, .int 0, .int 0, .ref c4, .ref c5, .ref c6, .ref c1, .ref c7, .ref c8, .ref c9, .int 0, .ref c10])), (c1, .inr (12, [.ref c11, .ref c12, .ref c13, .ref c14, .ref c15, .ref c16, .int 0, .ref c17, .ref c18, .int 0, .int 0, .int 0, .int 0, .int 0, .int 0, .int 0]))] ∧ nv_E (va_A [(c0, .inr (13, [.ref c3, .int 0, .int 0, .ref c4, .ref c5, .ref c6, .ref c1, .ref c7, .ref c8, .ref c9, .int 0, .ref c10])), (c1, .inr (12, [.ref c11, .ref c12, .ref c13, .ref c14, .ref c15, .ref c16, .int 0, .ref c17, .ref c18, .int 0, .int 0, .int 0, .int 0, .int 0, .int 0, .int 0]))] sz) U ∧ nv_Dc U)) (va_Qi (fun r _ => (r = 1) ∨ False) (fun (_ : Unit) t => True) (va_A [(c0, .inr (13, [.ref c3, .int 0, .int 0, .ref c4, .ref c5, .ref c6, .ref c1, .ref c7, .ref c8, .ref c9, .int 0, .ref c10])), (c1, .inr (12, [.ref c11, .ref c12, .ref c13, .ref c14, .ref c15, .ref c16, .int 0, .ref c17, .ref c18, .int 0, .int 0, .int 0, .int 0, .int 0, .int 0, .int 0]))] sz)) 1 6 (va_A [(c0, .inr (13, [.ref c3, .int 0, .int 0, .ref c4, .ref c5, .ref c6, .ref c1, .ref c7, .ref c8, .ref c9, .int 0, .ref c10])), (c1, .inr (12, [.ref c11, .ref c12, .ref c13, .ref c14, .ref c15, .ref c16, .int 0, .ref c17, .ref c18, .int 0, .int 0, .int 0, .int 0, .int 0, .int 0, .int 0]))] sz) := by
  refine va_MetW (hh := [(0, 5, 8, 13)]) (cc := cL_go) (maxL := 3) (ret := (some .int)) (by decide) rfl ?_
  intro p e s m args below meth c s₁ B hml hv
  obtain ⟨rfl, hsz, hP, hK, hD0, hN, hDe⟩ := hv
  have hx := B.exec
  have hb := B.bytes
  have hr := B.returns
  have hts := atoms_spec (ws := ow_k_L_go) B.pre
  have hown : s.vm.findClass RL = some m.cls := findClass_of_methodNamed B.named
  have hlocks := B.notSynchronized
  have htab : c.exceptionTable.toList = tableOf [(0, 5, 8, 13)] := vx_table (x := yL_go) B (hts _ List.mem_cons_self)
  subst hsz
  have hD := hD0.self (sz := s.heap.size)
  generalize hAe : va_A [(c0, .inr (13, [.ref c3, .int 0, .int 0, .ref c4, .ref c5, .ref c6, .ref c1, .ref c7, .ref c8, .ref c9, .int 0, .ref c10])), (c1, .inr (12, [.ref c11, .ref c12, .ref c13, .ref c14, .ref c15, .ref c16, .int 0, .ref c17, .ref c18, .int 0, .int 0, .int 0, .int 0, .int 0, .int 0, .int 0]))] s.heap.size = A at hD hN ⊢
  have hA : ∀ q : Nat, s.heap.size ≤ q → A q := fun q h => by rw [← hAe]; exact Or.inr h
  have hS : va_S A s.heap s.heap [] := va_S.rf
  have hl := lv_entry ([.ref c0, .int c2]) (n := 3) (Nat.le_of_ble_eq_true rfl)
  rw [lg_entry_eq]
  generalize (lg_sl ([.ref c0, .int c2]) ++ List.replicate (3 - (lg_sl ([.ref c0, .int c2])).length) Slot.unset).toArray = ls at hl ⊢
  have hl : lv_has ls 3 [(0, .ref c0), (1, .int c2)] := hl
  refine lv_aload_n hx hb dL_go_0 rfl (lv_at hl 0 rfl) ?_
  refine lv_iload_n hx hb dL_go_1 rfl (lv_at hl 1 rfl) ?_
  have hPc := hP.sub (ws' := [(c0, .inr (13, [.ref c3, .int 0, .int 0, .ref c4, .ref c5, .ref c6, .ref c1, .ref c7, .ref c8, .ref c9, .int 0, .ref c10])), (c1, .inr (12, [.ref c11, .ref c12, .ref c13, .ref c14, .ref c15, .ref c16, .int 0, .ref c17, .ref c18, .int 0, .int 0, .int 0, .int 0, .int 0, .int 0, .int 0]))]) [0, 1] rfl
  have hDc := hD.sub (ws' := [(c0, .inr (13, [.ref c3, .int 0, .int 0, .ref c4, .ref c5, .ref c6, .ref c1, .ref c7, .ref c8, .ref c9, .int 0, .ref c10])), (c1, .inr (12, [.ref c11, .ref c12, .ref c13, .ref c14, .ref c15, .ref c16, .int 0, .ref c17, .ref c18, .int 0, .int 0, .int 0, .int 0, .int 0, .int 0, .int 0]))]) [0, 1] (by decide) rfl
  have hKc := hK.sub (tys' := []) [] rfl
  have hFc := va_free (wc := [(c0, .inr (13, [.ref c3, .int 0, .int 0, .ref c4, .ref c5, .ref c6, .ref c1, .ref c7, .ref c8, .ref c9, .int 0, .ref c10])), (c1, .inr (12, [.ref c11, .ref c12, .ref c13, .ref c14, .ref c15, .ref c16, .int 0, .ref c17, .ref c18, .int 0, .int 0, .int 0, .int 0, .int 0, .int 0, .int 0]))]) hD hS hA [0, 1] rfl
  refine vx_callv (vx_runV (As := [.int c2]) (rest := []) ⟨hx, hb, hml, hown, hts⟩ (k_X12_go l hlt dC dI c0 c1 c2 c3 c4 c5 c6 c7 c8 c9 c10 c11 c12 c13 c14 c15 c16 c17 c18  s.heap.size) (cwV 1 hts gi_k_L_go_0 rfl rfl rfl (by decide +kernel) ⟨Nat.le_of_ble_eq_true rfl, Nat.le_of_ble_eq_true rfl⟩) ⟨fun a U g mk q => by obtain ⟨q0, q1, qP, qK, qD, qN, qE⟩ := q; exact ⟨q0, q1, qP, va_K.moved (u := U) (U := U.calling g mk a) (Vm.Alike.refl U.vm) qK, qD, nv_same rfl rfl qN, nv_Dsame rfl qE⟩, va_recv hKc hPc (ci := 13) (q0 := 0) rfl rfl, fun U hU hW => ⟨rfl, by rw [hU], by rw [hU]; exact hPc, va_K.moved hW.alike hKc, hDc.weaken (fun _ _ _ _ => trivial), nv_call hS hFc hU hW hN, nv_Dcall hW hDe⟩⟩ rfl rfl hl.1 rfl (lv_room (Nat.le_of_ble_eq_true rfl)) dL_go_2 ⟨by decide +kernel, by decide +kernel⟩) hS (fun q _ h => hFc q h) hFc (fun q _ h => hFc q h) (fun E9 ce q9 ux t H1 locs ht hvm _ hw _ hk1 hS hce hcv hcl => ?_) (fun u t H1 locs ht hvm hw hB hz1 hk1 hS => ?_)
  · have hK1 := hK.sub (tys' := []) [] rfl
    obtain ⟨hP, hD⟩ := va_join (wr := []) (w1 := []) hP hD [0, 1] [] rfl rfl (by decide) (by decide) hk1 hFc nv_P0 nv_D0
    have hK := (hK.sub (tys' := []) [] rfl).app hK1
    generalize H1 = H at hP hS hce ⊢
    have hP : va_P (dC, dI) vwCl [] H := hP
    have hD : va_D A [] := hD
    have hK : va_K (dC, dI) vwCl [] s := hK
    rcases hw with h9 | h9
    · subst h9
      refine nw_catch (own := RL) (name := "java/lang/IllegalArgumentException") hown [] ⟨0, 5, 8, 13⟩ [] (htab.trans rfl) (fun z h9 => absurd h9 List.not_mem_nil) (by decide) (by decide) (hts (.classLink RL 13 "java/lang/IllegalArgumentException") (List.mem_of_getElem? (i := 5) rfl)) (va_Nw.use rfl hN.2.2.2.2.2.2.2.1) hce hcv hcl ?_
      refine W.eq (g2 := F0 m 8 ls [.ref q9]) rfl ?_
      refine W.widen (k := 1) (n := 6) (by decide +kernel) (by decide +kernel) ?_
      refine lv_astore_n (lv' := [(2, .ref q9), (0, .ref c0), (1, .int c2)]) hx hb dL_go_8 rfl hl (by decide) rfl (fun ls hl => ?_)
      refine lv_iconst (v := 1) hx hb dL_go_9 (by decide) ?_
      refine W.widen (k := 1) (n := 6) (by decide +kernel) (by decide +kernel) ?_
      exact W.iret (v := 1) hx hb hr (fun t ht hW => ⟨⟨1, (), rfl, Or.inl rfl, trivial⟩, hS.F ht⟩) hS.2.2 dL_go_10
    · exact h9.elim
  exact hw.elim
def ow_k_X19_go : List Cond := .code yX19_go cX19_go 2 none :: ([.fieldLink RX19 231 "TimeMachineModel" "booted" "Z", .methodLink RX19 136 yX19_fails, .instanceMethod yX19_fails, .selects RX19 yX19_fails yX19_fails, .initialized RX19] ++ (u_ws RX19 TX19 36 ++ (ow_k_X19_fails ++ [])))
theorem gd_k_X19_go : ∀ w ∈ ow_k_X19_go, (w.onTables && w.keeps) = true ∨ ∃ ty, w = Cond.arrayClass ty := List.forall_mem_cons.mpr ⟨good_of_word rfl, List.forall_mem_append.mpr ⟨fun w h => good_of_word (List.all_eq_true.mp (by decide +kernel) w h), List.forall_mem_append.mpr ⟨gu_X19, List.forall_mem_append.mpr ⟨gd_k_X19_fails, fun _ h => nomatch h⟩⟩⟩⟩
theorem hi_k_X19_go_X19 : ∀ w ∈ u_ws RX19 TX19 36, w ∈ ow_k_X19_go := fun w h => List.mem_cons_of_mem _ (List.mem_append_right _ (List.mem_append_left _ h))
theorem gi_k_X19_go_0 : GoodIn ow_k_X19_go (wsV RX19 136 RX19 yX19_fails ow_k_X19_fails) := goodIn_app (goodIn_of _ (by decide +kernel)) (fun w h => ⟨List.mem_cons_of_mem _ (List.mem_append_right _ (List.mem_append_right _ (List.mem_append_left _ h))), gd_k_X19_fails w h⟩)
set_option maxHeartbeats 40000000 in
set_option maxRecDepth 100000 in
theorem k_X19_go (l : Launch) (hlt : l.stackTraces = false) (dC : Nat → ClassId) (dI : Nat → Nat → Nat) (c0 : Nat) (c1 : Int32) (c2 : Nat) (c3 : Nat) (c4 : Nat) (c5 : Nat) (c6 : Nat) (c7 : Nat) (c8 : Nat) (c9 : Nat) (c10 : Nat) (c11 : Nat) (c12 : Nat) (c13 : Nat) (c14 : Nat) (c15 : Nat) (c16 : Nat) (c17 : Nat) (c18 : Nat) (c19 : Nat) (c20 : Nat) (c21 : Nat) (c22 : Nat) (c23 : Nat) (c24 : Nat) (sz : Nat) : Met l yX19_go ow_k_X19_go ({ frames := 1, cells := 0, slots := 0, locals := 22 }) (va_Pc [.ref c0, .int c1] (fun U => U.heap.size = sz ∧ va_P (dC, dI) vwCl [(c0, .inr (20, [.int 0, .ref c2, .int 0, .int 0, .ref c3, .ref c4, .ref c5, .ref c6, .ref c7, .ref c8, .ref c9, .ref c10, .ref c11, .ref c12, .ref c13, .ref c14, .ref c15, .int 0, .int 0, .int 0, .int 0, .int 0, .int 0, .int 0, .int 0, .int 0, .ref c16, .ref c17, .ref c18, .ref c19, .ref c20, .ref c21, .ref c22, .ref c23, .ref c24, .int 0]))] U.heap ∧ va_K (dC, dI) vwCl [] U ∧ va_D (fun _ => True) [(c0, .inr (20, [.int 0, .ref c2, .int 0, .int 0, .ref c3, .ref c4, .ref c5, .ref c6, .ref c7, .ref c8, .ref c9, .ref c10, .ref c11, .ref c12, .ref c13, .ref c14, .ref c15, .int 0, .int 0, .int 0, .int 0, .int 0, .int 0, .int 0, .int 0, .int 0, .ref c16, .ref c17, .ref c18, .ref c19, .ref c20, .ref c21, .ref c22, .ref c23, .ref c24, .int 0]))] ∧ nv_E (va_A [(c0, .inr (20, [.int 0, .ref c2, .int 0, .int 0, .ref c3, .ref c4, .ref c5, .ref c6, .ref c7, .ref c8, .ref c9, .ref c10, .ref c11, .ref c12, .ref c13, .ref c14, .ref c15, .int 0, .int 0, .int 0, .int 0, .int 0, .int 0, .int 0, .int 0, .int 0, .ref c16, .ref c17, .ref c18, .ref c19, .ref c20, .ref c21, .ref c22, .ref c23, .ref c24, .int 0]))] sz) U)) (va_Qv (fun _ => True) (fun (_ : Unit) t => va_P (dC, dI) vwCl [(c0, .inr (20, [.int 1, .ref c2, .int 0, .int 0, .ref c3, .ref c4, .ref c5, .ref c6, .ref c7, .ref c8, .ref c9, .ref c10, .ref c11, .ref c12, .ref c13, .ref c14, .ref c15, .int 0, .int 0, .int 0, .int 0, .int 0, .int 0, .int 0, .int 0, .int 0, .ref c16, .ref c17, .ref c18, .ref c19, .ref c20, .ref c21, .ref c22, .ref c23, .ref c24, .int 0]))] t.heap ∧ va_K (dC, dI) vwCl [] t ∧ va_D (va_A [(c0, .inr (20, [.int 0, .ref c2, .int 0, .int 0, .ref c3, .ref c4, .ref c5, .ref c6, .ref c7, .ref c8, .ref c9, .ref c10, .ref c11, .ref c12, .ref c13, .ref c14, .ref c15, .int 0, .int 0, .int 0, .int 0, .int 0, .int 0, .int 0, .int 0, .int 0, .ref c16, .ref c17, .ref c18, .ref c19, .ref c20, .ref c21, .ref c22, .ref c23, .ref c24, .int 0]))] sz) [(c0, .inr (20, [.int 1, .ref c2, .int 0, .int 0, .ref c3, .ref c4, .ref c5, .ref c6, .ref c7, .ref c8, .ref c9, .ref c10, .ref c11, .ref c12, .ref c13, .ref c14, .ref c15, .int 0, .int 0, .int 0, .int 0, .int 0, .int 0, .int 0, .int 0, .int 0, .ref c16, .ref c17, .ref c18, .ref c19, .ref c20, .ref c21, .ref c22, .ref c23, .ref c24, .int 0]))]) (va_A [(c0, .inr (20, [.int 0, .ref c2, .int 0, .int 0, .ref c3, .ref c4, .ref c5, .ref c6, .ref c7, .ref c8, .ref c9, .ref c10, .ref c11, .ref c12, .ref c13, .ref c14, .ref c15, .int 0, .int 0, .int 0, .int 0, .int 0, .int 0, .int 0, .int 0, .int 0, .ref c16, .ref c17, .ref c18, .ref c19, .ref c20, .ref c21, .ref c22, .ref c23, .ref c24, .int 0]))] sz)) 0 0 (va_A [(c0, .inr (20, [.int 0, .ref c2, .int 0, .int 0, .ref c3, .ref c4, .ref c5, .ref c6, .ref c7, .ref c8, .ref c9, .ref c10, .ref c11, .ref c12, .ref c13, .ref c14, .ref c15, .int 0, .int 0, .int 0, .int 0, .int 0, .int 0, .int 0, .int 0, .int 0, .ref c16, .ref c17, .ref c18, .ref c19, .ref c20, .ref c21, .ref c22, .ref c23, .ref c24, .int 0]))] sz) := by
  refine Met.ofW (cc := cX19_go) (maxL := 2) (ret := none) (by decide) rfl ?_
  intro p e s m args below meth c s₁ B hml hv
  obtain ⟨rfl, hsz, hP, hK, hD0, hN⟩ := hv
  have hx := B.exec
  have hb := B.bytes
  have hr := B.returns
  have hts := atoms_spec (ws := ow_k_X19_go) B.pre
  have hown : s.vm.findClass RX19 = some m.cls := findClass_of_methodNamed B.named
  have hlocks := B.notSynchronized
  subst hsz
  have hD := hD0.self (sz := s.heap.size)
  generalize hAe : va_A [(c0, .inr (20, [.int 0, .ref c2, .int 0, .int 0, .ref c3, .ref c4, .ref c5, .ref c6, .ref c7, .ref c8, .ref c9, .ref c10, .ref c11, .ref c12, .ref c13, .ref c14, .ref c15, .int 0, .int 0, .int 0, .int 0, .int 0, .int 0, .int 0, .int 0, .int 0, .ref c16, .ref c17, .ref c18, .ref c19, .ref c20, .ref c21, .ref c22, .ref c23, .ref c24, .int 0]))] s.heap.size = A at hD hN ⊢
  have hA : ∀ q : Nat, s.heap.size ≤ q → A q := fun q h => by rw [← hAe]; exact Or.inr h
  have hS : va_S A s.heap s.heap [] := va_S.rf
  have hl := lv_entry ([.ref c0, .int c1]) (n := 2) (Nat.le_of_ble_eq_true rfl)
  rw [lg_entry_eq]
  generalize (lg_sl ([.ref c0, .int c1]) ++ List.replicate (2 - (lg_sl ([.ref c0, .int c1])).length) Slot.unset).toArray = ls at hl ⊢
  have hl : lv_has ls 2 [(0, .ref c0), (1, .int c1)] := hl
  refine lv_aload_n hx hb dX19_go_0 rfl (lv_at hl 0 rfl) ?_
  refine lv_aload_n hx hb dX19_go_1 rfl (lv_at hl 0 rfl) ?_
  refine va_get (D := (dC, dI)) (ci := 20) (v := .int 0) (C := RX19) (T := TX19) (N := 36) hx hb hts hi_k_X19_go_X19 hown hK hP 0 rfl rfl 17 (by decide) (hts (.fieldLink RX19 231 "TimeMachineModel" "booted" "Z") (List.mem_of_getElem? (i := 1) rfl)) (fun _ h9 => h9) rfl dX19_go_2 ?_
  refine lv_if_eq (tgt := 22) hx hb dX19_go_5 (by decide) (fun _ => ?_) (fun h9 => absurd (by decide) h9)
  refine lv_iconst (v := 1) hx hb dX19_go_22 (by decide) ?_
  refine lv_goto (tgt := 27) hx hb dX19_go_23 (by decide) ?_
  refine lv_iconst (v := 0) hx hb dX19_go_27 (by decide) ?_
  have hPc := hP.sub (ws' := [(c0, .inr (20, [.int 0, .ref c2, .int 0, .int 0, .ref c3, .ref c4, .ref c5, .ref c6, .ref c7, .ref c8, .ref c9, .ref c10, .ref c11, .ref c12, .ref c13, .ref c14, .ref c15, .int 0, .int 0, .int 0, .int 0, .int 0, .int 0, .int 0, .int 0, .int 0, .ref c16, .ref c17, .ref c18, .ref c19, .ref c20, .ref c21, .ref c22, .ref c23, .ref c24, .int 0]))]) [0] rfl
  have hDc := hD.sub (ws' := [(c0, .inr (20, [.int 0, .ref c2, .int 0, .int 0, .ref c3, .ref c4, .ref c5, .ref c6, .ref c7, .ref c8, .ref c9, .ref c10, .ref c11, .ref c12, .ref c13, .ref c14, .ref c15, .int 0, .int 0, .int 0, .int 0, .int 0, .int 0, .int 0, .int 0, .int 0, .ref c16, .ref c17, .ref c18, .ref c19, .ref c20, .ref c21, .ref c22, .ref c23, .ref c24, .int 0]))]) [0] (by decide) rfl
  have hKc := hK.sub (tys' := []) [] rfl
  have hFc := va_free (wc := [(c0, .inr (20, [.int 0, .ref c2, .int 0, .int 0, .ref c3, .ref c4, .ref c5, .ref c6, .ref c7, .ref c8, .ref c9, .ref c10, .ref c11, .ref c12, .ref c13, .ref c14, .ref c15, .int 0, .int 0, .int 0, .int 0, .int 0, .int 0, .int 0, .int 0, .int 0, .ref c16, .ref c17, .ref c18, .ref c19, .ref c20, .ref c21, .ref c22, .ref c23, .ref c24, .int 0]))]) hD hS hA [0] rfl
  refine va_calli (va_runV (As := [.int 1, .int 0]) (rest := []) ⟨hx, hb, hml, hown, hts⟩ (k_X19_fails l hlt dC dI c0 c2 c3 c4 c5 c6 c7 c8 c9 c10 c11 c12 c13 c14 c15 c16 c17 c18 c19 c20 c21 c22 c23 c24  s.heap.size) (cwV 2 hts gi_k_X19_go_0 rfl rfl rfl (by decide +kernel) ⟨Nat.le_of_ble_eq_true rfl, Nat.le_of_ble_eq_true rfl⟩) ⟨fun a U g mk q => by obtain ⟨q0, q1, qP, qK, qD, qN⟩ := q; exact ⟨q0, q1, qP, va_K.moved (u := U) (U := U.calling g mk a) (Vm.Alike.refl U.vm) qK, qD, nv_same rfl rfl qN⟩, va_recv hKc hPc (ci := 20) (q0 := 0) rfl rfl, fun U hU hW => ⟨rfl, by rw [hU], by rw [hU]; exact hPc, va_K.moved hW.alike hKc, hDc.weaken (fun _ _ _ _ => trivial), nv_call hS hFc hU hW hN⟩⟩ rfl rfl hl.1 rfl (lv_room (Nat.le_of_ble_eq_true rfl)) dX19_go_28 ⟨by decide +kernel, by decide +kernel⟩) hS (fun q _ h => hFc q h) hFc (fun r1 u t H1 locs ht hvm hw hB hz1 hk1 hS => ?_)
  obtain ⟨hP1, hK1, hD1⟩ := hB
  rw [ht] at hP1
  have hK1 := va_K.moved hvm.symm hK1
  obtain rfl : r1 = 1 := hw
  obtain ⟨hP, hD⟩ := va_join (wr := []) (w1 := [(c0, .inr (20, [.int 1, .ref c2, .int 0, .int 0, .ref c3, .ref c4, .ref c5, .ref c6, .ref c7, .ref c8, .ref c9, .ref c10, .ref c11, .ref c12, .ref c13, .ref c14, .ref c15, .int 0, .int 0, .int 0, .int 0, .int 0, .int 0, .int 0, .int 0, .int 0, .ref c16, .ref c17, .ref c18, .ref c19, .ref c20, .ref c21, .ref c22, .ref c23, .ref c24, .int 0]))]) hP hD [0] [] rfl rfl (by decide) (by decide) hk1 hFc hP1 hD1
  have hK := (hK.sub (tys' := []) [] rfl).app hK1
  generalize H1 = H at hP hS ⊢
  have hP : va_P (dC, dI) vwCl [(c0, .inr (20, [.int 1, .ref c2, .int 0, .int 0, .ref c3, .ref c4, .ref c5, .ref c6, .ref c7, .ref c8, .ref c9, .ref c10, .ref c11, .ref c12, .ref c13, .ref c14, .ref c15, .int 0, .int 0, .int 0, .int 0, .int 0, .int 0, .int 0, .int 0, .int 0, .ref c16, .ref c17, .ref c18, .ref c19, .ref c20, .ref c21, .ref c22, .ref c23, .ref c24, .int 0]))] H := hP
  have hD : va_D A [(c0, .inr (20, [.int 1, .ref c2, .int 0, .int 0, .ref c3, .ref c4, .ref c5, .ref c6, .ref c7, .ref c8, .ref c9, .ref c10, .ref c11, .ref c12, .ref c13, .ref c14, .ref c15, .int 0, .int 0, .int 0, .int 0, .int 0, .int 0, .int 0, .int 0, .int 0, .ref c16, .ref c17, .ref c18, .ref c19, .ref c20, .ref c21, .ref c22, .ref c23, .ref c24, .int 0]))] := hD
  have hK : va_K (dC, dI) vwCl [] s := hK
  refine W.widen (k := 0) (n := 0) (by decide +kernel) (by decide +kernel) ?_
  refine lv_if_ne (tgt := 39) hx hb dX19_go_31 (by decide) (fun _ => ?_) (fun h9 => absurd h9 (by decide))
  have hP9 := hP.sub (ws' := [(c0, .inr (20, [.int 1, .ref c2, .int 0, .int 0, .ref c3, .ref c4, .ref c5, .ref c6, .ref c7, .ref c8, .ref c9, .ref c10, .ref c11, .ref c12, .ref c13, .ref c14, .ref c15, .int 0, .int 0, .int 0, .int 0, .int 0, .int 0, .int 0, .int 0, .int 0, .ref c16, .ref c17, .ref c18, .ref c19, .ref c20, .ref c21, .ref c22, .ref c23, .ref c24, .int 0]))]) [0] rfl
  have hD9 := hD.sub (ws' := [(c0, .inr (20, [.int 1, .ref c2, .int 0, .int 0, .ref c3, .ref c4, .ref c5, .ref c6, .ref c7, .ref c8, .ref c9, .ref c10, .ref c11, .ref c12, .ref c13, .ref c14, .ref c15, .int 0, .int 0, .int 0, .int 0, .int 0, .int 0, .int 0, .int 0, .int 0, .ref c16, .ref c17, .ref c18, .ref c19, .ref c20, .ref c21, .ref c22, .ref c23, .ref c24, .int 0]))]) [0] (by decide) rfl
  have hK9 := hK.sub (tys' := []) [] rfl
  refine W.widen (k := 0) (n := 0) (by decide +kernel) (by decide +kernel) ?_
  exact W.vret hx hb hr (fun t ht hW => ⟨⟨(), rfl, trivial, by rw [ht]; exact hP9, va_K.moved hW.alike hK9, hD9⟩, hS.F ht⟩) hS.2.2 dX19_go_39
def ow_k_X12_cut : List Cond := .code yX12_cut cX12_cut 1 (some .int) :: ([.fieldLink RX12 33 "TimeMachine" "timeline" "LTimeMachine$Timeline;", .fieldLink RX12 142 "TimeMachine$Timeline" "booted" "Z"] ++ (u_ws RX12 TX12 12 ++ (u_ws RX11 TX11 16 ++ [])))
theorem gd_k_X12_cut : ∀ w ∈ ow_k_X12_cut, (w.onTables && w.keeps) = true ∨ ∃ ty, w = Cond.arrayClass ty := List.forall_mem_cons.mpr ⟨good_of_word rfl, List.forall_mem_append.mpr ⟨fun w h => good_of_word (List.all_eq_true.mp (by decide +kernel) w h), List.forall_mem_append.mpr ⟨gu_X12, List.forall_mem_append.mpr ⟨gu_X11, fun _ h => nomatch h⟩⟩⟩⟩
theorem hi_k_X12_cut_X12 : ∀ w ∈ u_ws RX12 TX12 12, w ∈ ow_k_X12_cut := fun w h => List.mem_cons_of_mem _ (List.mem_append_right _ (List.mem_append_left _ h))
theorem hi_k_X12_cut_X11 : ∀ w ∈ u_ws RX11 TX11 16, w ∈ ow_k_X12_cut := fun w h => List.mem_cons_of_mem _ (List.mem_append_right _ (List.mem_append_right _ (List.mem_append_left _ h)))
set_option maxHeartbeats 40000000 in
set_option maxRecDepth 100000 in
theorem k_X12_cut (l : Launch) (hlt : l.stackTraces = false) (dC : Nat → ClassId) (dI : Nat → Nat → Nat) (c0 : Nat) (c1 : Nat) (c2 : Nat) (c3 : Nat) (c4 : Nat) (c5 : Nat) (c6 : Nat) (c7 : Nat) (c8 : Nat) (c9 : Nat) (c10 : Nat) (c11 : Nat) (c12 : Nat) (c13 : Nat) (c14 : Nat) (c15 : Nat) (c16 : Nat) (c17 : Nat) (sz : Nat) : Met l yX12_cut ow_k_X12_cut ({ frames := 0, cells := 0, slots := 0, locals := 0 }) (va_Pc [.ref c0] (fun U => U.heap.size = sz ∧ va_P (dC, dI) vwCl [(c0, .inr (13, [.ref c2, .int 0, .int 0, .ref c3, .ref c4, .ref c5, .ref c1, .ref c6, .ref c7, .ref c8, .int 0, .ref c9])), (c1, .inr (12, [.ref c10, .ref c11, .ref c12, .ref c13, .ref c14, .ref c15, .int 0, .ref c16, .ref c17, .int 0, .int 0, .int 0, .int 0, .int 0, .int 0, .int 0]))] U.heap ∧ va_K (dC, dI) vwCl [] U ∧ va_D (fun _ => True) [(c0, .inr (13, [.ref c2, .int 0, .int 0, .ref c3, .ref c4, .ref c5, .ref c1, .ref c6, .ref c7, .ref c8, .int 0, .ref c9])), (c1, .inr (12, [.ref c10, .ref c11, .ref c12, .ref c13, .ref c14, .ref c15, .int 0, .ref c16, .ref c17, .int 0, .int 0, .int 0, .int 0, .int 0, .int 0, .int 0]))] ∧ nv_E (va_A [(c0, .inr (13, [.ref c2, .int 0, .int 0, .ref c3, .ref c4, .ref c5, .ref c1, .ref c6, .ref c7, .ref c8, .int 0, .ref c9])), (c1, .inr (12, [.ref c10, .ref c11, .ref c12, .ref c13, .ref c14, .ref c15, .int 0, .ref c16, .ref c17, .int 0, .int 0, .int 0, .int 0, .int 0, .int 0, .int 0]))] sz) U)) (va_Qi (fun r _ => r = 0) (fun (_ : Unit) t => va_P (dC, dI) vwCl [(c0, .inr (13, [.ref c2, .int 0, .int 0, .ref c3, .ref c4, .ref c5, .ref c1, .ref c6, .ref c7, .ref c8, .int 0, .ref c9])), (c1, .inr (12, [.ref c10, .ref c11, .ref c12, .ref c13, .ref c14, .ref c15, .int 0, .ref c16, .ref c17, .int 0, .int 0, .int 0, .int 0, .int 0, .int 0, .int 0]))] t.heap ∧ va_K (dC, dI) vwCl [] t ∧ va_D (va_A [(c0, .inr (13, [.ref c2, .int 0, .int 0, .ref c3, .ref c4, .ref c5, .ref c1, .ref c6, .ref c7, .ref c8, .int 0, .ref c9])), (c1, .inr (12, [.ref c10, .ref c11, .ref c12, .ref c13, .ref c14, .ref c15, .int 0, .ref c16, .ref c17, .int 0, .int 0, .int 0, .int 0, .int 0, .int 0, .int 0]))] sz) [(c0, .inr (13, [.ref c2, .int 0, .int 0, .ref c3, .ref c4, .ref c5, .ref c1, .ref c6, .ref c7, .ref c8, .int 0, .ref c9])), (c1, .inr (12, [.ref c10, .ref c11, .ref c12, .ref c13, .ref c14, .ref c15, .int 0, .ref c16, .ref c17, .int 0, .int 0, .int 0, .int 0, .int 0, .int 0, .int 0]))]) (va_A [(c0, .inr (13, [.ref c2, .int 0, .int 0, .ref c3, .ref c4, .ref c5, .ref c1, .ref c6, .ref c7, .ref c8, .int 0, .ref c9])), (c1, .inr (12, [.ref c10, .ref c11, .ref c12, .ref c13, .ref c14, .ref c15, .int 0, .ref c16, .ref c17, .int 0, .int 0, .int 0, .int 0, .int 0, .int 0, .int 0]))] sz)) 0 0 (va_A [(c0, .inr (13, [.ref c2, .int 0, .int 0, .ref c3, .ref c4, .ref c5, .ref c1, .ref c6, .ref c7, .ref c8, .int 0, .ref c9])), (c1, .inr (12, [.ref c10, .ref c11, .ref c12, .ref c13, .ref c14, .ref c15, .int 0, .ref c16, .ref c17, .int 0, .int 0, .int 0, .int 0, .int 0, .int 0, .int 0]))] sz) := by
  refine Met.ofW (cc := cX12_cut) (maxL := 1) (ret := (some .int)) (by decide) rfl ?_
  intro p e s m args below meth c s₁ B hml hv
  obtain ⟨rfl, hsz, hP, hK, hD0, hN⟩ := hv
  have hx := B.exec
  have hb := B.bytes
  have hr := B.returns
  have hts := atoms_spec (ws := ow_k_X12_cut) B.pre
  have hown : s.vm.findClass RX12 = some m.cls := findClass_of_methodNamed B.named
  have hlocks := B.notSynchronized
  subst hsz
  have hD := hD0.self (sz := s.heap.size)
  generalize hAe : va_A [(c0, .inr (13, [.ref c2, .int 0, .int 0, .ref c3, .ref c4, .ref c5, .ref c1, .ref c6, .ref c7, .ref c8, .int 0, .ref c9])), (c1, .inr (12, [.ref c10, .ref c11, .ref c12, .ref c13, .ref c14, .ref c15, .int 0, .ref c16, .ref c17, .int 0, .int 0, .int 0, .int 0, .int 0, .int 0, .int 0]))] s.heap.size = A at hD hN ⊢
  have hA : ∀ q : Nat, s.heap.size ≤ q → A q := fun q h => by rw [← hAe]; exact Or.inr h
  have hS : va_S A s.heap s.heap [] := va_S.rf
  have hl := lv_entry ([.ref c0]) (n := 1) (Nat.le_of_ble_eq_true rfl)
  rw [lg_entry_eq]
  generalize (lg_sl ([.ref c0]) ++ List.replicate (1 - (lg_sl ([.ref c0])).length) Slot.unset).toArray = ls at hl ⊢
  have hl : lv_has ls 1 [(0, .ref c0)] := hl
  refine lv_aload_n hx hb dX12_cut_0 rfl (lv_at hl 0 rfl) ?_
  refine va_get (D := (dC, dI)) (ci := 13) (v := .ref c1) (C := RX12) (T := TX12) (N := 12) hx hb hts hi_k_X12_cut_X12 hown hK hP 0 rfl rfl 6 (by decide) (hts (.fieldLink RX12 33 "TimeMachine" "timeline" "LTimeMachine$Timeline;") (List.mem_of_getElem? (i := 1) rfl)) (fun _ h9 => h9) rfl dX12_cut_1 ?_
  refine va_get (D := (dC, dI)) (ci := 12) (v := .int 0) (C := RX11) (T := TX11) (N := 16) hx hb hts hi_k_X12_cut_X11 hown hK hP 1 rfl rfl 6 (by decide) (hts (.fieldLink RX12 142 "TimeMachine$Timeline" "booted" "Z") (List.mem_of_getElem? (i := 2) rfl)) (fun _ h9 => h9) rfl dX12_cut_4 ?_
  refine lv_if_eq (tgt := 20) hx hb dX12_cut_7 (by decide) (fun _ => ?_) (fun h9 => absurd (by decide) h9)
  refine lv_iconst (v := 0) hx hb dX12_cut_20 (by decide) ?_
  have hP9 := hP.sub (ws' := [(c0, .inr (13, [.ref c2, .int 0, .int 0, .ref c3, .ref c4, .ref c5, .ref c1, .ref c6, .ref c7, .ref c8, .int 0, .ref c9])), (c1, .inr (12, [.ref c10, .ref c11, .ref c12, .ref c13, .ref c14, .ref c15, .int 0, .ref c16, .ref c17, .int 0, .int 0, .int 0, .int 0, .int 0, .int 0, .int 0]))]) [0, 1] rfl
  have hD9 := hD.sub (ws' := [(c0, .inr (13, [.ref c2, .int 0, .int 0, .ref c3, .ref c4, .ref c5, .ref c1, .ref c6, .ref c7, .ref c8, .int 0, .ref c9])), (c1, .inr (12, [.ref c10, .ref c11, .ref c12, .ref c13, .ref c14, .ref c15, .int 0, .ref c16, .ref c17, .int 0, .int 0, .int 0, .int 0, .int 0, .int 0, .int 0]))]) [0, 1] (by decide) rfl
  have hK9 := hK.sub (tys' := []) [] rfl
  refine W.widen (k := 0) (n := 0) (by decide +kernel) (by decide +kernel) ?_
  exact W.iret (v := 0) hx hb hr (fun t ht hW => ⟨⟨0, (), rfl, rfl, by rw [ht]; exact hP9, va_K.moved hW.alike hK9, hD9⟩, hS.F ht⟩) hS.2.2 dX12_cut_21
def ow_k_X19_cut : List Cond := .code yX19_cut cX19_cut 2 (some .int) :: ([.fieldLink RX19 113 "TimeMachineModel" "code" "I", .fieldLink RX19 231 "TimeMachineModel" "booted" "Z"] ++ (u_ws RX19 TX19 36 ++ []))
theorem gd_k_X19_cut : ∀ w ∈ ow_k_X19_cut, (w.onTables && w.keeps) = true ∨ ∃ ty, w = Cond.arrayClass ty := List.forall_mem_cons.mpr ⟨good_of_word rfl, List.forall_mem_append.mpr ⟨fun w h => good_of_word (List.all_eq_true.mp (by decide +kernel) w h), List.forall_mem_append.mpr ⟨gu_X19, fun _ h => nomatch h⟩⟩⟩
theorem hi_k_X19_cut_X19 : ∀ w ∈ u_ws RX19 TX19 36, w ∈ ow_k_X19_cut := fun w h => List.mem_cons_of_mem _ (List.mem_append_right _ (List.mem_append_left _ h))
set_option maxHeartbeats 40000000 in
set_option maxRecDepth 100000 in
theorem k_X19_cut (l : Launch) (hlt : l.stackTraces = false) (dC : Nat → ClassId) (dI : Nat → Nat → Nat) (c0 : Nat) (c1 : Nat) (c2 : Nat) (c3 : Nat) (c4 : Nat) (c5 : Nat) (c6 : Nat) (c7 : Nat) (c8 : Nat) (c9 : Nat) (c10 : Nat) (c11 : Nat) (c12 : Nat) (c13 : Nat) (c14 : Nat) (c15 : Nat) (c16 : Nat) (c17 : Nat) (c18 : Nat) (c19 : Nat) (c20 : Nat) (c21 : Nat) (c22 : Nat) (c23 : Nat) (sz : Nat) : Met l yX19_cut ow_k_X19_cut ({ frames := 0, cells := 0, slots := 0, locals := 0 }) (va_Pc [.ref c0] (fun U => U.heap.size = sz ∧ va_P (dC, dI) vwCl [(c0, .inr (20, [.int 0, .ref c1, .int 0, .int 0, .ref c2, .ref c3, .ref c4, .ref c5, .ref c6, .ref c7, .ref c8, .ref c9, .ref c10, .ref c11, .ref c12, .ref c13, .ref c14, .int 0, .int 0, .int 0, .int 0, .int 0, .int 0, .int 0, .int 0, .int 0, .ref c15, .ref c16, .ref c17, .ref c18, .ref c19, .ref c20, .ref c21, .ref c22, .ref c23, .int 0]))] U.heap ∧ va_K (dC, dI) vwCl [] U ∧ va_D (fun _ => True) [(c0, .inr (20, [.int 0, .ref c1, .int 0, .int 0, .ref c2, .ref c3, .ref c4, .ref c5, .ref c6, .ref c7, .ref c8, .ref c9, .ref c10, .ref c11, .ref c12, .ref c13, .ref c14, .int 0, .int 0, .int 0, .int 0, .int 0, .int 0, .int 0, .int 0, .int 0, .ref c15, .ref c16, .ref c17, .ref c18, .ref c19, .ref c20, .ref c21, .ref c22, .ref c23, .int 0]))] ∧ nv_E (va_A [(c0, .inr (20, [.int 0, .ref c1, .int 0, .int 0, .ref c2, .ref c3, .ref c4, .ref c5, .ref c6, .ref c7, .ref c8, .ref c9, .ref c10, .ref c11, .ref c12, .ref c13, .ref c14, .int 0, .int 0, .int 0, .int 0, .int 0, .int 0, .int 0, .int 0, .int 0, .ref c15, .ref c16, .ref c17, .ref c18, .ref c19, .ref c20, .ref c21, .ref c22, .ref c23, .int 0]))] sz) U)) (va_Qi (fun r _ => r = 0) (fun (_ : Unit) t => va_P (dC, dI) vwCl [(c0, .inr (20, [.int 0, .ref c1, .int 0, .int 0, .ref c2, .ref c3, .ref c4, .ref c5, .ref c6, .ref c7, .ref c8, .ref c9, .ref c10, .ref c11, .ref c12, .ref c13, .ref c14, .int 0, .int 0, .int 0, .int 0, .int 0, .int 0, .int 0, .int 0, .int 0, .ref c15, .ref c16, .ref c17, .ref c18, .ref c19, .ref c20, .ref c21, .ref c22, .ref c23, .int 0]))] t.heap ∧ va_K (dC, dI) vwCl [] t ∧ va_D (va_A [(c0, .inr (20, [.int 0, .ref c1, .int 0, .int 0, .ref c2, .ref c3, .ref c4, .ref c5, .ref c6, .ref c7, .ref c8, .ref c9, .ref c10, .ref c11, .ref c12, .ref c13, .ref c14, .int 0, .int 0, .int 0, .int 0, .int 0, .int 0, .int 0, .int 0, .int 0, .ref c15, .ref c16, .ref c17, .ref c18, .ref c19, .ref c20, .ref c21, .ref c22, .ref c23, .int 0]))] sz) [(c0, .inr (20, [.int 0, .ref c1, .int 0, .int 0, .ref c2, .ref c3, .ref c4, .ref c5, .ref c6, .ref c7, .ref c8, .ref c9, .ref c10, .ref c11, .ref c12, .ref c13, .ref c14, .int 0, .int 0, .int 0, .int 0, .int 0, .int 0, .int 0, .int 0, .int 0, .ref c15, .ref c16, .ref c17, .ref c18, .ref c19, .ref c20, .ref c21, .ref c22, .ref c23, .int 0]))]) (va_A [(c0, .inr (20, [.int 0, .ref c1, .int 0, .int 0, .ref c2, .ref c3, .ref c4, .ref c5, .ref c6, .ref c7, .ref c8, .ref c9, .ref c10, .ref c11, .ref c12, .ref c13, .ref c14, .int 0, .int 0, .int 0, .int 0, .int 0, .int 0, .int 0, .int 0, .int 0, .ref c15, .ref c16, .ref c17, .ref c18, .ref c19, .ref c20, .ref c21, .ref c22, .ref c23, .int 0]))] sz)) 0 0 (va_A [(c0, .inr (20, [.int 0, .ref c1, .int 0, .int 0, .ref c2, .ref c3, .ref c4, .ref c5, .ref c6, .ref c7, .ref c8, .ref c9, .ref c10, .ref c11, .ref c12, .ref c13, .ref c14, .int 0, .int 0, .int 0, .int 0, .int 0, .int 0, .int 0, .int 0, .int 0, .ref c15, .ref c16, .ref c17, .ref c18, .ref c19, .ref c20, .ref c21, .ref c22, .ref c23, .int 0]))] sz) := by
  refine Met.ofW (cc := cX19_cut) (maxL := 2) (ret := (some .int)) (by decide) rfl ?_
  intro p e s m args below meth c s₁ B hml hv
  obtain ⟨rfl, hsz, hP, hK, hD0, hN⟩ := hv
  have hx := B.exec
  have hb := B.bytes
  have hr := B.returns
  have hts := atoms_spec (ws := ow_k_X19_cut) B.pre
  have hown : s.vm.findClass RX19 = some m.cls := findClass_of_methodNamed B.named
  have hlocks := B.notSynchronized
  subst hsz
  have hD := hD0.self (sz := s.heap.size)
  generalize hAe : va_A [(c0, .inr (20, [.int 0, .ref c1, .int 0, .int 0, .ref c2, .ref c3, .ref c4, .ref c5, .ref c6, .ref c7, .ref c8, .ref c9, .ref c10, .ref c11, .ref c12, .ref c13, .ref c14, .int 0, .int 0, .int 0, .int 0, .int 0, .int 0, .int 0, .int 0, .int 0, .ref c15, .ref c16, .ref c17, .ref c18, .ref c19, .ref c20, .ref c21, .ref c22, .ref c23, .int 0]))] s.heap.size = A at hD hN ⊢
  have hA : ∀ q : Nat, s.heap.size ≤ q → A q := fun q h => by rw [← hAe]; exact Or.inr h
  have hS : va_S A s.heap s.heap [] := va_S.rf
  have hl := lv_entry ([.ref c0]) (n := 2) (Nat.le_of_ble_eq_true rfl)
  rw [lg_entry_eq]
  generalize (lg_sl ([.ref c0]) ++ List.replicate (2 - (lg_sl ([.ref c0])).length) Slot.unset).toArray = ls at hl ⊢
  have hl : lv_has ls 2 [(0, .ref c0)] := hl
  refine lv_aload_n hx hb dX19_cut_0 rfl (lv_at hl 0 rfl) ?_
  refine lv_iconst (v := 0) hx hb dX19_cut_1 (by decide) ?_
  refine va_put (D := (dC, dI)) (ci := 20) (v := .int 0) (ty := .int) (C := RX19) (T := TX19) (N := 36) hx hb hts hi_k_X19_cut_X19 tyX19 tyX19_ok nmX19 hown hK hP hD hS 0 rfl rfl 0 (by decide) (hts (.fieldLink RX19 113 "TimeMachineModel" "code" "I") (List.mem_of_getElem? (i := 1) rfl)) (fun _ h9 => h9) rfl (by decide +kernel) rfl rfl (Nat.le_of_ble_eq_true rfl) dX19_cut_2 (fun H locs hP hD hS => ?_)
  have hP : va_P (dC, dI) vwCl [(c0, .inr (20, [.int 0, .ref c1, .int 0, .int 0, .ref c2, .ref c3, .ref c4, .ref c5, .ref c6, .ref c7, .ref c8, .ref c9, .ref c10, .ref c11, .ref c12, .ref c13, .ref c14, .int 0, .int 0, .int 0, .int 0, .int 0, .int 0, .int 0, .int 0, .int 0, .ref c15, .ref c16, .ref c17, .ref c18, .ref c19, .ref c20, .ref c21, .ref c22, .ref c23, .int 0]))] H := hP
  have hD : va_D A [(c0, .inr (20, [.int 0, .ref c1, .int 0, .int 0, .ref c2, .ref c3, .ref c4, .ref c5, .ref c6, .ref c7, .ref c8, .ref c9, .ref c10, .ref c11, .ref c12, .ref c13, .ref c14, .int 0, .int 0, .int 0, .int 0, .int 0, .int 0, .int 0, .int 0, .int 0, .ref c15, .ref c16, .ref c17, .ref c18, .ref c19, .ref c20, .ref c21, .ref c22, .ref c23, .int 0]))] := hD
  refine lv_aload_n hx hb dX19_cut_5 rfl (lv_at hl 0 rfl) ?_
  refine va_get (D := (dC, dI)) (ci := 20) (v := .int 0) (C := RX19) (T := TX19) (N := 36) hx hb hts hi_k_X19_cut_X19 hown hK hP 0 rfl rfl 17 (by decide) (hts (.fieldLink RX19 231 "TimeMachineModel" "booted" "Z") (List.mem_of_getElem? (i := 2) rfl)) (fun _ h9 => h9) rfl dX19_cut_6 ?_
  refine lv_if_ne (tgt := 14) hx hb dX19_cut_9 (by decide) (fun h9 => absurd h9 (by decide)) (fun _ => ?_)
  refine lv_iconst (v := 0) hx hb dX19_cut_12 (by decide) ?_
  have hP9 := hP.sub (ws' := [(c0, .inr (20, [.int 0, .ref c1, .int 0, .int 0, .ref c2, .ref c3, .ref c4, .ref c5, .ref c6, .ref c7, .ref c8, .ref c9, .ref c10, .ref c11, .ref c12, .ref c13, .ref c14, .int 0, .int 0, .int 0, .int 0, .int 0, .int 0, .int 0, .int 0, .int 0, .ref c15, .ref c16, .ref c17, .ref c18, .ref c19, .ref c20, .ref c21, .ref c22, .ref c23, .int 0]))]) [0] rfl
  have hD9 := hD.sub (ws' := [(c0, .inr (20, [.int 0, .ref c1, .int 0, .int 0, .ref c2, .ref c3, .ref c4, .ref c5, .ref c6, .ref c7, .ref c8, .ref c9, .ref c10, .ref c11, .ref c12, .ref c13, .ref c14, .int 0, .int 0, .int 0, .int 0, .int 0, .int 0, .int 0, .int 0, .int 0, .ref c15, .ref c16, .ref c17, .ref c18, .ref c19, .ref c20, .ref c21, .ref c22, .ref c23, .int 0]))]) [0] (by decide) rfl
  have hK9 := hK.sub (tys' := []) [] rfl
  refine W.widen (k := 0) (n := 0) (by decide +kernel) (by decide +kernel) ?_
  exact W.iret (v := 0) hx hb hr (fun t ht hW => ⟨⟨0, (), rfl, rfl, by rw [ht]; exact hP9, va_K.moved hW.alike hK9, hD9⟩, hS.F ht⟩) hS.2.2 dX19_cut_13
def ow_k_X12_isBreak : List Cond := .code yX12_isBreak cX12_isBreak 3 (some .boolean) :: ([.fieldLink RX12 39 "TimeMachine" "breaks" "[LTimeMachine$Condition;"] ++ (u_ws RX12 TX12 12 ++ []))
theorem gd_k_X12_isBreak : ∀ w ∈ ow_k_X12_isBreak, (w.onTables && w.keeps) = true ∨ ∃ ty, w = Cond.arrayClass ty := List.forall_mem_cons.mpr ⟨good_of_word rfl, List.forall_mem_append.mpr ⟨fun w h => good_of_word (List.all_eq_true.mp (by decide +kernel) w h), List.forall_mem_append.mpr ⟨gu_X12, fun _ h => nomatch h⟩⟩⟩
theorem hi_k_X12_isBreak_X12 : ∀ w ∈ u_ws RX12 TX12 12, w ∈ ow_k_X12_isBreak := fun w h => List.mem_cons_of_mem _ (List.mem_append_right _ (List.mem_append_left _ h))
set_option maxHeartbeats 40000000 in
set_option maxRecDepth 100000 in
theorem k_X12_isBreak (l : Launch) (hlt : l.stackTraces = false) (dC : Nat → ClassId) (dI : Nat → Nat → Nat) (c0 : Nat) (c1 : Nat) (c2 : ClassId) (c3 : Nat) (c4 : Nat) (c5 : Nat) (c6 : Nat) (c7 : Nat) (c8 : Nat) (c9 : Nat) (c10 : Nat) (c11 : Nat) (sz : Nat) : Met l yX12_isBreak ow_k_X12_isBreak ({ frames := 0, cells := 0, slots := 0, locals := 0 }) (va_Pc [.ref c0, .ref c3] (fun U => U.heap.size = sz ∧ va_P (dC, dI) vwCl [(c0, .inr (13, [.ref c4, .int 0, .int 0, .ref c5, .ref c6, .ref c7, .ref c8, .ref c1, .ref c9, .ref c10, .int 0, .ref c11])), (c1, .inl (c2, 8, .inr (.inr (.inr (.inr (fun _ => none))))))] U.heap ∧ va_K (dC, dI) vwCl [(c2, .object RX2)] U ∧ va_D (fun _ => True) [(c0, .inr (13, [.ref c4, .int 0, .int 0, .ref c5, .ref c6, .ref c7, .ref c8, .ref c1, .ref c9, .ref c10, .int 0, .ref c11])), (c1, .inl (c2, 8, .inr (.inr (.inr (.inr (fun _ => none))))))] ∧ nv_E (va_A [(c0, .inr (13, [.ref c4, .int 0, .int 0, .ref c5, .ref c6, .ref c7, .ref c8, .ref c1, .ref c9, .ref c10, .int 0, .ref c11])), (c1, .inl (c2, 8, .inr (.inr (.inr (.inr (fun _ => none))))))] sz) U)) (va_Qi (fun r _ => r = 0) (fun (_ : Unit) t => va_P (dC, dI) vwCl [(c0, .inr (13, [.ref c4, .int 0, .int 0, .ref c5, .ref c6, .ref c7, .ref c8, .ref c1, .ref c9, .ref c10, .int 0, .ref c11])), (c1, .inl (c2, 8, .inr (.inr (.inr (.inr (fun _ => none))))))] t.heap ∧ va_K (dC, dI) vwCl [(c2, .object RX2)] t ∧ va_D (va_A [(c0, .inr (13, [.ref c4, .int 0, .int 0, .ref c5, .ref c6, .ref c7, .ref c8, .ref c1, .ref c9, .ref c10, .int 0, .ref c11])), (c1, .inl (c2, 8, .inr (.inr (.inr (.inr (fun _ => none))))))] sz) [(c0, .inr (13, [.ref c4, .int 0, .int 0, .ref c5, .ref c6, .ref c7, .ref c8, .ref c1, .ref c9, .ref c10, .int 0, .ref c11])), (c1, .inl (c2, 8, .inr (.inr (.inr (.inr (fun _ => none))))))]) (va_A [(c0, .inr (13, [.ref c4, .int 0, .int 0, .ref c5, .ref c6, .ref c7, .ref c8, .ref c1, .ref c9, .ref c10, .int 0, .ref c11])), (c1, .inl (c2, 8, .inr (.inr (.inr (.inr (fun _ => none))))))] sz)) 0 0 (va_A [(c0, .inr (13, [.ref c4, .int 0, .int 0, .ref c5, .ref c6, .ref c7, .ref c8, .ref c1, .ref c9, .ref c10, .int 0, .ref c11])), (c1, .inl (c2, 8, .inr (.inr (.inr (.inr (fun _ => none))))))] sz) := by
  refine Met.ofW (cc := cX12_isBreak) (maxL := 3) (ret := (some .boolean)) (by decide) rfl ?_
  intro p e s m args below meth c s₁ B hml hv
  obtain ⟨rfl, hsz, hP, hK, hD0, hN⟩ := hv
  have hx := B.exec
  have hb := B.bytes
  have hr := B.returns
  have hts := atoms_spec (ws := ow_k_X12_isBreak) B.pre
  have hown : s.vm.findClass RX12 = some m.cls := findClass_of_methodNamed B.named
  have hlocks := B.notSynchronized
  subst hsz
  have hD := hD0.self (sz := s.heap.size)
  generalize hAe : va_A [(c0, .inr (13, [.ref c4, .int 0, .int 0, .ref c5, .ref c6, .ref c7, .ref c8, .ref c1, .ref c9, .ref c10, .int 0, .ref c11])), (c1, .inl (c2, 8, .inr (.inr (.inr (.inr (fun _ => none))))))] s.heap.size = A at hD hN ⊢
  have hA : ∀ q : Nat, s.heap.size ≤ q → A q := fun q h => by rw [← hAe]; exact Or.inr h
  have hS : va_S A s.heap s.heap [] := va_S.rf
  have hl := lv_entry ([.ref c0, .ref c3]) (n := 3) (Nat.le_of_ble_eq_true rfl)
  rw [lg_entry_eq]
  generalize (lg_sl ([.ref c0, .ref c3]) ++ List.replicate (3 - (lg_sl ([.ref c0, .ref c3])).length) Slot.unset).toArray = ls at hl ⊢
  have hl : lv_has ls 3 [(0, .ref c0), (1, .ref c3)] := hl
  refine lv_iconst (v := 0) hx hb dX12_isBreak_0 (by decide) ?_
  refine lv_istore_n (lv' := [(2, .int 0), (0, .ref c0), (1, .ref c3)]) hx hb dX12_isBreak_1 rfl hl (by decide) rfl (fun ls hl => ?_)
  refine lv_iload_n hx hb dX12_isBreak_2 rfl (lv_at hl 0 rfl) ?_
  refine lv_bipush (v := 8) hx hb dX12_isBreak_3 (by decide) ?_
  refine lv_icmp_ge (tgt := 26) hx hb dX12_isBreak_5 (by decide) (fun h9 => absurd h9 (by decide)) (fun _ => ?_)
  refine lv_aload_n hx hb dX12_isBreak_8 rfl (lv_at hl 1 rfl) ?_
  refine va_get (D := (dC, dI)) (ci := 13) (v := .ref c1) (C := RX12) (T := TX12) (N := 12) hx hb hts hi_k_X12_isBreak_X12 hown hK hP 0 rfl rfl 7 (by decide) (hts (.fieldLink RX12 39 "TimeMachine" "breaks" "[LTimeMachine$Condition;") (List.mem_of_getElem? (i := 1) rfl)) (fun _ h9 => h9) rfl dX12_isBreak_9 ?_
  refine lv_iload_n hx hb dX12_isBreak_12 rfl (lv_at hl 0 rfl) ?_
  refine va_aldq (i := 0) hx hb hK hP 1 0 rfl rfl (vp_in_iff.mpr ⟨by decide, by decide⟩) dX12_isBreak_13 ?_
  refine W.eq (g2 := F0 m 14 ls [.null]) rfl ?_
  refine lv_aload_n hx hb dX12_isBreak_14 rfl (lv_at hl 2 rfl) ?_
  refine W.eq (g2 := F0 m 15 ls [va_rf (some c3), va_rf (none)]) rfl ?_
  refine lv_acmp_ne (tgt := 20) hx hb dX12_isBreak_15 (by decide) (fun _ => ?_) (fun h9 => absurd h9 (by simp))
  refine lv_iinc (v := 1) (lv' := [(2, .int 1), (0, .ref c0), (1, .ref c3)]) hx hb dX12_isBreak_20 hl (k := 0) rfl (by decide) (by decide) rfl (fun ls hl => ?_)
  refine lv_goto (tgt := 2) hx hb dX12_isBreak_23 (by decide) ?_
  refine lv_iload_n hx hb dX12_isBreak_2 rfl (lv_at hl 0 rfl) ?_
  refine lv_bipush (v := 8) hx hb dX12_isBreak_3 (by decide) ?_
  refine lv_icmp_ge (tgt := 26) hx hb dX12_isBreak_5 (by decide) (fun h9 => absurd h9 (by decide)) (fun _ => ?_)
  refine lv_aload_n hx hb dX12_isBreak_8 rfl (lv_at hl 1 rfl) ?_
  refine va_get (D := (dC, dI)) (ci := 13) (v := .ref c1) (C := RX12) (T := TX12) (N := 12) hx hb hts hi_k_X12_isBreak_X12 hown hK hP 0 rfl rfl 7 (by decide) (hts (.fieldLink RX12 39 "TimeMachine" "breaks" "[LTimeMachine$Condition;") (List.mem_of_getElem? (i := 1) rfl)) (fun _ h9 => h9) rfl dX12_isBreak_9 ?_
  refine lv_iload_n hx hb dX12_isBreak_12 rfl (lv_at hl 0 rfl) ?_
  refine va_aldq (i := 1) hx hb hK hP 1 0 rfl rfl (vp_in_iff.mpr ⟨by decide, by decide⟩) dX12_isBreak_13 ?_
  refine W.eq (g2 := F0 m 14 ls [.null]) rfl ?_
  refine lv_aload_n hx hb dX12_isBreak_14 rfl (lv_at hl 2 rfl) ?_
  refine W.eq (g2 := F0 m 15 ls [va_rf (some c3), va_rf (none)]) rfl ?_
  refine lv_acmp_ne (tgt := 20) hx hb dX12_isBreak_15 (by decide) (fun _ => ?_) (fun h9 => absurd h9 (by simp))
  refine lv_iinc (v := 2) (lv' := [(2, .int 2), (0, .ref c0), (1, .ref c3)]) hx hb dX12_isBreak_20 hl (k := 0) rfl (by decide) (by decide) rfl (fun ls hl => ?_)
  refine lv_goto (tgt := 2) hx hb dX12_isBreak_23 (by decide) ?_
  refine lv_iload_n hx hb dX12_isBreak_2 rfl (lv_at hl 0 rfl) ?_
  refine lv_bipush (v := 8) hx hb dX12_isBreak_3 (by decide) ?_
  refine lv_icmp_ge (tgt := 26) hx hb dX12_isBreak_5 (by decide) (fun h9 => absurd h9 (by decide)) (fun _ => ?_)
  refine lv_aload_n hx hb dX12_isBreak_8 rfl (lv_at hl 1 rfl) ?_
  refine va_get (D := (dC, dI)) (ci := 13) (v := .ref c1) (C := RX12) (T := TX12) (N := 12) hx hb hts hi_k_X12_isBreak_X12 hown hK hP 0 rfl rfl 7 (by decide) (hts (.fieldLink RX12 39 "TimeMachine" "breaks" "[LTimeMachine$Condition;") (List.mem_of_getElem? (i := 1) rfl)) (fun _ h9 => h9) rfl dX12_isBreak_9 ?_
  refine lv_iload_n hx hb dX12_isBreak_12 rfl (lv_at hl 0 rfl) ?_
  refine va_aldq (i := 2) hx hb hK hP 1 0 rfl rfl (vp_in_iff.mpr ⟨by decide, by decide⟩) dX12_isBreak_13 ?_
  refine W.eq (g2 := F0 m 14 ls [.null]) rfl ?_
  refine lv_aload_n hx hb dX12_isBreak_14 rfl (lv_at hl 2 rfl) ?_
  refine W.eq (g2 := F0 m 15 ls [va_rf (some c3), va_rf (none)]) rfl ?_
  refine lv_acmp_ne (tgt := 20) hx hb dX12_isBreak_15 (by decide) (fun _ => ?_) (fun h9 => absurd h9 (by simp))
  refine lv_iinc (v := 3) (lv' := [(2, .int 3), (0, .ref c0), (1, .ref c3)]) hx hb dX12_isBreak_20 hl (k := 0) rfl (by decide) (by decide) rfl (fun ls hl => ?_)
  refine lv_goto (tgt := 2) hx hb dX12_isBreak_23 (by decide) ?_
  refine lv_iload_n hx hb dX12_isBreak_2 rfl (lv_at hl 0 rfl) ?_
  refine lv_bipush (v := 8) hx hb dX12_isBreak_3 (by decide) ?_
  refine lv_icmp_ge (tgt := 26) hx hb dX12_isBreak_5 (by decide) (fun h9 => absurd h9 (by decide)) (fun _ => ?_)
  refine lv_aload_n hx hb dX12_isBreak_8 rfl (lv_at hl 1 rfl) ?_
  refine va_get (D := (dC, dI)) (ci := 13) (v := .ref c1) (C := RX12) (T := TX12) (N := 12) hx hb hts hi_k_X12_isBreak_X12 hown hK hP 0 rfl rfl 7 (by decide) (hts (.fieldLink RX12 39 "TimeMachine" "breaks" "[LTimeMachine$Condition;") (List.mem_of_getElem? (i := 1) rfl)) (fun _ h9 => h9) rfl dX12_isBreak_9 ?_
  refine lv_iload_n hx hb dX12_isBreak_12 rfl (lv_at hl 0 rfl) ?_
  refine va_aldq (i := 3) hx hb hK hP 1 0 rfl rfl (vp_in_iff.mpr ⟨by decide, by decide⟩) dX12_isBreak_13 ?_
  refine W.eq (g2 := F0 m 14 ls [.null]) rfl ?_
  refine lv_aload_n hx hb dX12_isBreak_14 rfl (lv_at hl 2 rfl) ?_
  refine W.eq (g2 := F0 m 15 ls [va_rf (some c3), va_rf (none)]) rfl ?_
  refine lv_acmp_ne (tgt := 20) hx hb dX12_isBreak_15 (by decide) (fun _ => ?_) (fun h9 => absurd h9 (by simp))
  refine lv_iinc (v := 4) (lv' := [(2, .int 4), (0, .ref c0), (1, .ref c3)]) hx hb dX12_isBreak_20 hl (k := 0) rfl (by decide) (by decide) rfl (fun ls hl => ?_)
  refine lv_goto (tgt := 2) hx hb dX12_isBreak_23 (by decide) ?_
  refine lv_iload_n hx hb dX12_isBreak_2 rfl (lv_at hl 0 rfl) ?_
  refine lv_bipush (v := 8) hx hb dX12_isBreak_3 (by decide) ?_
  refine lv_icmp_ge (tgt := 26) hx hb dX12_isBreak_5 (by decide) (fun h9 => absurd h9 (by decide)) (fun _ => ?_)
  refine lv_aload_n hx hb dX12_isBreak_8 rfl (lv_at hl 1 rfl) ?_
  refine va_get (D := (dC, dI)) (ci := 13) (v := .ref c1) (C := RX12) (T := TX12) (N := 12) hx hb hts hi_k_X12_isBreak_X12 hown hK hP 0 rfl rfl 7 (by decide) (hts (.fieldLink RX12 39 "TimeMachine" "breaks" "[LTimeMachine$Condition;") (List.mem_of_getElem? (i := 1) rfl)) (fun _ h9 => h9) rfl dX12_isBreak_9 ?_
  refine lv_iload_n hx hb dX12_isBreak_12 rfl (lv_at hl 0 rfl) ?_
  refine va_aldq (i := 4) hx hb hK hP 1 0 rfl rfl (vp_in_iff.mpr ⟨by decide, by decide⟩) dX12_isBreak_13 ?_
  refine W.eq (g2 := F0 m 14 ls [.null]) rfl ?_
  refine lv_aload_n hx hb dX12_isBreak_14 rfl (lv_at hl 2 rfl) ?_
  refine W.eq (g2 := F0 m 15 ls [va_rf (some c3), va_rf (none)]) rfl ?_
  refine lv_acmp_ne (tgt := 20) hx hb dX12_isBreak_15 (by decide) (fun _ => ?_) (fun h9 => absurd h9 (by simp))
  refine lv_iinc (v := 5) (lv' := [(2, .int 5), (0, .ref c0), (1, .ref c3)]) hx hb dX12_isBreak_20 hl (k := 0) rfl (by decide) (by decide) rfl (fun ls hl => ?_)
  refine lv_goto (tgt := 2) hx hb dX12_isBreak_23 (by decide) ?_
  refine lv_iload_n hx hb dX12_isBreak_2 rfl (lv_at hl 0 rfl) ?_
  refine lv_bipush (v := 8) hx hb dX12_isBreak_3 (by decide) ?_
  refine lv_icmp_ge (tgt := 26) hx hb dX12_isBreak_5 (by decide) (fun h9 => absurd h9 (by decide)) (fun _ => ?_)
  refine lv_aload_n hx hb dX12_isBreak_8 rfl (lv_at hl 1 rfl) ?_
  refine va_get (D := (dC, dI)) (ci := 13) (v := .ref c1) (C := RX12) (T := TX12) (N := 12) hx hb hts hi_k_X12_isBreak_X12 hown hK hP 0 rfl rfl 7 (by decide) (hts (.fieldLink RX12 39 "TimeMachine" "breaks" "[LTimeMachine$Condition;") (List.mem_of_getElem? (i := 1) rfl)) (fun _ h9 => h9) rfl dX12_isBreak_9 ?_
  refine lv_iload_n hx hb dX12_isBreak_12 rfl (lv_at hl 0 rfl) ?_
  refine va_aldq (i := 5) hx hb hK hP 1 0 rfl rfl (vp_in_iff.mpr ⟨by decide, by decide⟩) dX12_isBreak_13 ?_
  refine W.eq (g2 := F0 m 14 ls [.null]) rfl ?_
  refine lv_aload_n hx hb dX12_isBreak_14 rfl (lv_at hl 2 rfl) ?_
  refine W.eq (g2 := F0 m 15 ls [va_rf (some c3), va_rf (none)]) rfl ?_
  refine lv_acmp_ne (tgt := 20) hx hb dX12_isBreak_15 (by decide) (fun _ => ?_) (fun h9 => absurd h9 (by simp))
  refine lv_iinc (v := 6) (lv' := [(2, .int 6), (0, .ref c0), (1, .ref c3)]) hx hb dX12_isBreak_20 hl (k := 0) rfl (by decide) (by decide) rfl (fun ls hl => ?_)
  refine lv_goto (tgt := 2) hx hb dX12_isBreak_23 (by decide) ?_
  refine lv_iload_n hx hb dX12_isBreak_2 rfl (lv_at hl 0 rfl) ?_
  refine lv_bipush (v := 8) hx hb dX12_isBreak_3 (by decide) ?_
  refine lv_icmp_ge (tgt := 26) hx hb dX12_isBreak_5 (by decide) (fun h9 => absurd h9 (by decide)) (fun _ => ?_)
  refine lv_aload_n hx hb dX12_isBreak_8 rfl (lv_at hl 1 rfl) ?_
  refine va_get (D := (dC, dI)) (ci := 13) (v := .ref c1) (C := RX12) (T := TX12) (N := 12) hx hb hts hi_k_X12_isBreak_X12 hown hK hP 0 rfl rfl 7 (by decide) (hts (.fieldLink RX12 39 "TimeMachine" "breaks" "[LTimeMachine$Condition;") (List.mem_of_getElem? (i := 1) rfl)) (fun _ h9 => h9) rfl dX12_isBreak_9 ?_
  refine lv_iload_n hx hb dX12_isBreak_12 rfl (lv_at hl 0 rfl) ?_
  refine va_aldq (i := 6) hx hb hK hP 1 0 rfl rfl (vp_in_iff.mpr ⟨by decide, by decide⟩) dX12_isBreak_13 ?_
  refine W.eq (g2 := F0 m 14 ls [.null]) rfl ?_
  refine lv_aload_n hx hb dX12_isBreak_14 rfl (lv_at hl 2 rfl) ?_
  refine W.eq (g2 := F0 m 15 ls [va_rf (some c3), va_rf (none)]) rfl ?_
  refine lv_acmp_ne (tgt := 20) hx hb dX12_isBreak_15 (by decide) (fun _ => ?_) (fun h9 => absurd h9 (by simp))
  refine lv_iinc (v := 7) (lv' := [(2, .int 7), (0, .ref c0), (1, .ref c3)]) hx hb dX12_isBreak_20 hl (k := 0) rfl (by decide) (by decide) rfl (fun ls hl => ?_)
  refine lv_goto (tgt := 2) hx hb dX12_isBreak_23 (by decide) ?_
  refine lv_iload_n hx hb dX12_isBreak_2 rfl (lv_at hl 0 rfl) ?_
  refine lv_bipush (v := 8) hx hb dX12_isBreak_3 (by decide) ?_
  refine lv_icmp_ge (tgt := 26) hx hb dX12_isBreak_5 (by decide) (fun h9 => absurd h9 (by decide)) (fun _ => ?_)
  refine lv_aload_n hx hb dX12_isBreak_8 rfl (lv_at hl 1 rfl) ?_
  refine va_get (D := (dC, dI)) (ci := 13) (v := .ref c1) (C := RX12) (T := TX12) (N := 12) hx hb hts hi_k_X12_isBreak_X12 hown hK hP 0 rfl rfl 7 (by decide) (hts (.fieldLink RX12 39 "TimeMachine" "breaks" "[LTimeMachine$Condition;") (List.mem_of_getElem? (i := 1) rfl)) (fun _ h9 => h9) rfl dX12_isBreak_9 ?_
  refine lv_iload_n hx hb dX12_isBreak_12 rfl (lv_at hl 0 rfl) ?_
  refine va_aldq (i := 7) hx hb hK hP 1 0 rfl rfl (vp_in_iff.mpr ⟨by decide, by decide⟩) dX12_isBreak_13 ?_
  refine W.eq (g2 := F0 m 14 ls [.null]) rfl ?_
  refine lv_aload_n hx hb dX12_isBreak_14 rfl (lv_at hl 2 rfl) ?_
  refine W.eq (g2 := F0 m 15 ls [va_rf (some c3), va_rf (none)]) rfl ?_
  refine lv_acmp_ne (tgt := 20) hx hb dX12_isBreak_15 (by decide) (fun _ => ?_) (fun h9 => absurd h9 (by simp))
  refine lv_iinc (v := 8) (lv' := [(2, .int 8), (0, .ref c0), (1, .ref c3)]) hx hb dX12_isBreak_20 hl (k := 0) rfl (by decide) (by decide) rfl (fun ls hl => ?_)
  refine lv_goto (tgt := 2) hx hb dX12_isBreak_23 (by decide) ?_
  refine lv_iload_n hx hb dX12_isBreak_2 rfl (lv_at hl 0 rfl) ?_
  refine lv_bipush (v := 8) hx hb dX12_isBreak_3 (by decide) ?_
  refine lv_icmp_ge (tgt := 26) hx hb dX12_isBreak_5 (by decide) (fun _ => ?_) (fun h9 => absurd (by decide) h9)
  refine lv_iconst (v := 0) hx hb dX12_isBreak_26 (by decide) ?_
  have hP9 := hP.sub (ws' := [(c0, .inr (13, [.ref c4, .int 0, .int 0, .ref c5, .ref c6, .ref c7, .ref c8, .ref c1, .ref c9, .ref c10, .int 0, .ref c11])), (c1, .inl (c2, 8, .inr (.inr (.inr (.inr (fun _ => none))))))]) [0, 1] rfl
  have hD9 := hD.sub (ws' := [(c0, .inr (13, [.ref c4, .int 0, .int 0, .ref c5, .ref c6, .ref c7, .ref c8, .ref c1, .ref c9, .ref c10, .int 0, .ref c11])), (c1, .inl (c2, 8, .inr (.inr (.inr (.inr (fun _ => none))))))]) [0, 1] (by decide) rfl
  have hK9 := hK.sub (tys' := [(c2, .object RX2)]) [0] rfl
  refine W.widen (k := 0) (n := 0) (by decide +kernel) (by decide +kernel) ?_
  exact W.zret (v := 0) hx hb hr (by decide) (fun t ht hW => ⟨⟨0, (), rfl, rfl, by rw [ht]; exact hP9, va_K.moved hW.alike hK9, hD9⟩, hS.F ht⟩) hS.2.2 dX12_isBreak_27
def ow_k_X12_unusedCondition : List Cond := .code yX12_unusedCondition cX12_unusedCondition 2 (some (.object "TimeMachine$Condition")) :: ([.fieldLink RX12 43 "TimeMachine" "conditionPool" "[LTimeMachine$Condition;", .methodLink RX12 298 yX12_isBreak, .instanceMethod yX12_isBreak, .selects RX12 yX12_isBreak yX12_isBreak, .initialized RX12] ++ (u_ws RX12 TX12 12 ++ (ow_k_X12_isBreak ++ [])))
theorem gd_k_X12_unusedCondition : ∀ w ∈ ow_k_X12_unusedCondition, (w.onTables && w.keeps) = true ∨ ∃ ty, w = Cond.arrayClass ty := List.forall_mem_cons.mpr ⟨good_of_word rfl, List.forall_mem_append.mpr ⟨fun w h => good_of_word (List.all_eq_true.mp (by decide +kernel) w h), List.forall_mem_append.mpr ⟨gu_X12, List.forall_mem_append.mpr ⟨gd_k_X12_isBreak, fun _ h => nomatch h⟩⟩⟩⟩
theorem hi_k_X12_unusedCondition_X12 : ∀ w ∈ u_ws RX12 TX12 12, w ∈ ow_k_X12_unusedCondition := fun w h => List.mem_cons_of_mem _ (List.mem_append_right _ (List.mem_append_left _ h))
theorem gi_k_X12_unusedCondition_0 : GoodIn ow_k_X12_unusedCondition (wsV RX12 298 RX12 yX12_isBreak ow_k_X12_isBreak) := goodIn_app (goodIn_of _ (by decide +kernel)) (fun w h => ⟨List.mem_cons_of_mem _ (List.mem_append_right _ (List.mem_append_right _ (List.mem_append_left _ h))), gd_k_X12_isBreak w h⟩)
set_option maxHeartbeats 40000000 in
set_option maxRecDepth 100000 in
theorem k_X12_unusedCondition (l : Launch) (hlt : l.stackTraces = false) (dC : Nat → ClassId) (dI : Nat → Nat → Nat) (c0 : Nat) (c1 : Nat) (c2 : ClassId) (c3 : Nat) (c4 : ClassId) (c5 : Nat) (c6 : Nat) (c7 : Nat) (c8 : Nat) (c9 : Nat) (c10 : Nat) (c11 : Nat) (c12 : Nat) (c13 : Nat) (c14 : Nat) (c15 : Nat) (c16 : Nat) (c17 : Nat) (c18 : Nat) (c19 : Nat) (c20 : Nat) (sz : Nat) : Met l yX12_unusedCondition ow_k_X12_unusedCondition ({ frames := 1, cells := 0, slots := 0, locals := 22 }) (va_Pc [.ref c0] (fun U => U.heap.size = sz ∧ va_P (dC, dI) vwCl [(c0, .inr (13, [.ref c14, .int 0, .int 0, .ref c15, .ref c16, .ref c17, .ref c18, .ref c1, .ref c3, .ref c19, .int 0, .ref c20])), (c1, .inl (c2, 8, .inr (.inr (.inr (.inr (fun _ => none)))))), (c3, .inl (c4, 9, .inr (.inr (.inr (.inr (nv_row [some c5, some c6, some c7, some c8, some c9, some c10, some c11, some c12, some c13]))))))] U.heap ∧ va_K (dC, dI) vwCl [(c2, .object RX2), (c4, .object RX2)] U ∧ va_D (fun _ => True) [(c0, .inr (13, [.ref c14, .int 0, .int 0, .ref c15, .ref c16, .ref c17, .ref c18, .ref c1, .ref c3, .ref c19, .int 0, .ref c20])), (c1, .inl (c2, 8, .inr (.inr (.inr (.inr (fun _ => none)))))), (c3, .inl (c4, 9, .inr (.inr (.inr (.inr (nv_row [some c5, some c6, some c7, some c8, some c9, some c10, some c11, some c12, some c13]))))))] ∧ nv_E (va_A [(c0, .inr (13, [.ref c14, .int 0, .int 0, .ref c15, .ref c16, .ref c17, .ref c18, .ref c1, .ref c3, .ref c19, .int 0, .ref c20])), (c1, .inl (c2, 8, .inr (.inr (.inr (.inr (fun _ => none)))))), (c3, .inl (c4, 9, .inr (.inr (.inr (.inr (nv_row [some c5, some c6, some c7, some c8, some c9, some c10, some c11, some c12, some c13]))))))] sz) U)) (va_Qq (fun r _ => r = some c5) (fun (_ : Unit) t => va_P (dC, dI) vwCl [(c3, .inl (c4, 9, .inr (.inr (.inr (.inr (nv_row [some c5, some c6, some c7, some c8, some c9, some c10, some c11, some c12, some c13])))))), (c0, .inr (13, [.ref c14, .int 0, .int 0, .ref c15, .ref c16, .ref c17, .ref c18, .ref c1, .ref c3, .ref c19, .int 0, .ref c20])), (c1, .inl (c2, 8, .inr (.inr (.inr (.inr (fun _ => none))))))] t.heap ∧ va_K (dC, dI) vwCl [(c4, .object RX2), (c2, .object RX2)] t ∧ va_D (va_A [(c0, .inr (13, [.ref c14, .int 0, .int 0, .ref c15, .ref c16, .ref c17, .ref c18, .ref c1, .ref c3, .ref c19, .int 0, .ref c20])), (c1, .inl (c2, 8, .inr (.inr (.inr (.inr (fun _ => none)))))), (c3, .inl (c4, 9, .inr (.inr (.inr (.inr (nv_row [some c5, some c6, some c7, some c8, some c9, some c10, some c11, some c12, some c13]))))))] sz) [(c3, .inl (c4, 9, .inr (.inr (.inr (.inr (nv_row [some c5, some c6, some c7, some c8, some c9, some c10, some c11, some c12, some c13])))))), (c0, .inr (13, [.ref c14, .int 0, .int 0, .ref c15, .ref c16, .ref c17, .ref c18, .ref c1, .ref c3, .ref c19, .int 0, .ref c20])), (c1, .inl (c2, 8, .inr (.inr (.inr (.inr (fun _ => none))))))]) (va_A [(c0, .inr (13, [.ref c14, .int 0, .int 0, .ref c15, .ref c16, .ref c17, .ref c18, .ref c1, .ref c3, .ref c19, .int 0, .ref c20])), (c1, .inl (c2, 8, .inr (.inr (.inr (.inr (fun _ => none)))))), (c3, .inl (c4, 9, .inr (.inr (.inr (.inr (nv_row [some c5, some c6, some c7, some c8, some c9, some c10, some c11, some c12, some c13]))))))] sz)) 0 0 (va_A [(c0, .inr (13, [.ref c14, .int 0, .int 0, .ref c15, .ref c16, .ref c17, .ref c18, .ref c1, .ref c3, .ref c19, .int 0, .ref c20])), (c1, .inl (c2, 8, .inr (.inr (.inr (.inr (fun _ => none)))))), (c3, .inl (c4, 9, .inr (.inr (.inr (.inr (nv_row [some c5, some c6, some c7, some c8, some c9, some c10, some c11, some c12, some c13]))))))] sz) := by
  refine Met.ofW (cc := cX12_unusedCondition) (maxL := 2) (ret := (some (.object "TimeMachine$Condition"))) (by decide) rfl ?_
  intro p e s m args below meth c s₁ B hml hv
  obtain ⟨rfl, hsz, hP, hK, hD0, hN⟩ := hv
  have hx := B.exec
  have hb := B.bytes
  have hr := B.returns
  have hts := atoms_spec (ws := ow_k_X12_unusedCondition) B.pre
  have hown : s.vm.findClass RX12 = some m.cls := findClass_of_methodNamed B.named
  have hlocks := B.notSynchronized
  subst hsz
  have hD := hD0.self (sz := s.heap.size)
  generalize hAe : va_A [(c0, .inr (13, [.ref c14, .int 0, .int 0, .ref c15, .ref c16, .ref c17, .ref c18, .ref c1, .ref c3, .ref c19, .int 0, .ref c20])), (c1, .inl (c2, 8, .inr (.inr (.inr (.inr (fun _ => none)))))), (c3, .inl (c4, 9, .inr (.inr (.inr (.inr (nv_row [some c5, some c6, some c7, some c8, some c9, some c10, some c11, some c12, some c13]))))))] s.heap.size = A at hD hN ⊢
  have hA : ∀ q : Nat, s.heap.size ≤ q → A q := fun q h => by rw [← hAe]; exact Or.inr h
  have hS : va_S A s.heap s.heap [] := va_S.rf
  have hl := lv_entry ([.ref c0]) (n := 2) (Nat.le_of_ble_eq_true rfl)
  rw [lg_entry_eq]
  generalize (lg_sl ([.ref c0]) ++ List.replicate (2 - (lg_sl ([.ref c0])).length) Slot.unset).toArray = ls at hl ⊢
  have hl : lv_has ls 2 [(0, .ref c0)] := hl
  refine lv_iconst (v := 0) hx hb dX12_unusedCondition_0 (by decide) ?_
  refine lv_istore_n (lv' := [(1, .int 0), (0, .ref c0)]) hx hb dX12_unusedCondition_1 rfl hl (by decide) rfl (fun ls hl => ?_)
  refine lv_iload_n hx hb dX12_unusedCondition_2 rfl (lv_at hl 0 rfl) ?_
  refine lv_aload_n hx hb dX12_unusedCondition_3 rfl (lv_at hl 1 rfl) ?_
  refine va_get (D := (dC, dI)) (ci := 13) (v := .ref c3) (C := RX12) (T := TX12) (N := 12) hx hb hts hi_k_X12_unusedCondition_X12 hown hK hP 0 rfl rfl 8 (by decide) (hts (.fieldLink RX12 43 "TimeMachine" "conditionPool" "[LTimeMachine$Condition;") (List.mem_of_getElem? (i := 1) rfl)) (fun _ h9 => h9) rfl dX12_unusedCondition_4 ?_
  refine va_alen (v := 9) hx hb hK hP 2 1 rfl rfl (show Int32.ofNat 9 = 9 by decide) dX12_unusedCondition_7 ?_
  refine lv_iconst (v := 1) hx hb dX12_unusedCondition_8 (by decide) ?_
  refine lv_isub hx hb dX12_unusedCondition_9 ?_
  refine lv_topi (fun z1 ez1 => ?_)
  obtain rfl : z1 = 8 := ez1.trans (by decide)
  refine lv_icmp_ge (tgt := 32) hx hb dX12_unusedCondition_10 (by decide) (fun h9 => absurd h9 (by decide)) (fun _ => ?_)
  refine lv_aload_n hx hb dX12_unusedCondition_13 rfl (lv_at hl 1 rfl) ?_
  refine lv_aload_n hx hb dX12_unusedCondition_14 rfl (lv_at hl 1 rfl) ?_
  refine va_get (D := (dC, dI)) (ci := 13) (v := .ref c3) (C := RX12) (T := TX12) (N := 12) hx hb hts hi_k_X12_unusedCondition_X12 hown hK hP 0 rfl rfl 8 (by decide) (hts (.fieldLink RX12 43 "TimeMachine" "conditionPool" "[LTimeMachine$Condition;") (List.mem_of_getElem? (i := 1) rfl)) (fun _ h9 => h9) rfl dX12_unusedCondition_15 ?_
  refine lv_iload_n hx hb dX12_unusedCondition_18 rfl (lv_at hl 0 rfl) ?_
  refine va_aldq (i := 0) hx hb hK hP 2 1 rfl rfl (vp_in_iff.mpr ⟨by decide, by decide⟩) dX12_unusedCondition_19 ?_
  refine W.eq (g2 := F0 m 20 ls [.ref c5, .ref c0]) (by rw [nv_row_at (k := 0) (by decide)]; rfl) ?_
  have hPc := hP.sub (ws' := [(c0, .inr (13, [.ref c14, .int 0, .int 0, .ref c15, .ref c16, .ref c17, .ref c18, .ref c1, .ref c3, .ref c19, .int 0, .ref c20])), (c1, .inl (c2, 8, .inr (.inr (.inr (.inr (fun _ => none))))))]) [0, 1] rfl
  have hDc := hD.sub (ws' := [(c0, .inr (13, [.ref c14, .int 0, .int 0, .ref c15, .ref c16, .ref c17, .ref c18, .ref c1, .ref c3, .ref c19, .int 0, .ref c20])), (c1, .inl (c2, 8, .inr (.inr (.inr (.inr (fun _ => none))))))]) [0, 1] (by decide) rfl
  have hKc := hK.sub (tys' := [(c2, .object RX2)]) [0] rfl
  have hFc := va_free (wc := [(c0, .inr (13, [.ref c14, .int 0, .int 0, .ref c15, .ref c16, .ref c17, .ref c18, .ref c1, .ref c3, .ref c19, .int 0, .ref c20])), (c1, .inl (c2, 8, .inr (.inr (.inr (.inr (fun _ => none))))))]) hD hS hA [0, 1] rfl
  refine va_calli (va_runV (As := [.ref c5]) (rest := []) ⟨hx, hb, hml, hown, hts⟩ (k_X12_isBreak l hlt dC dI c0 c1 c2 c5 c14 c15 c16 c17 c18 c3 c19 c20  s.heap.size) (cwV 1 hts gi_k_X12_unusedCondition_0 rfl rfl rfl (by decide +kernel) ⟨Nat.le_of_ble_eq_true rfl, Nat.le_of_ble_eq_true rfl⟩) ⟨fun a U g mk q => by obtain ⟨q0, q1, qP, qK, qD, qN⟩ := q; exact ⟨q0, q1, qP, va_K.moved (u := U) (U := U.calling g mk a) (Vm.Alike.refl U.vm) qK, qD, nv_same rfl rfl qN⟩, va_recv hKc hPc (ci := 13) (q0 := 0) rfl rfl, fun U hU hW => ⟨rfl, by rw [hU], by rw [hU]; exact hPc, va_K.moved hW.alike hKc, hDc.weaken (fun _ _ _ _ => trivial), nv_call hS hFc hU hW hN⟩⟩ rfl rfl hl.1 rfl (lv_room (Nat.le_of_ble_eq_true rfl)) dX12_unusedCondition_20 ⟨by decide +kernel, by decide +kernel⟩) hS (fun q _ h => hFc q h) hFc (fun r2 u t H1 locs ht hvm hw hB hz1 hk1 hS => ?_)
  obtain ⟨hP1, hK1, hD1⟩ := hB
  rw [ht] at hP1
  have hK1 := va_K.moved hvm.symm hK1
  obtain rfl : r2 = 0 := hw
  obtain ⟨hP, hD⟩ := va_join (wr := [(c3, .inl (c4, 9, .inr (.inr (.inr (.inr (nv_row [some c5, some c6, some c7, some c8, some c9, some c10, some c11, some c12, some c13]))))))]) (w1 := [(c0, .inr (13, [.ref c14, .int 0, .int 0, .ref c15, .ref c16, .ref c17, .ref c18, .ref c1, .ref c3, .ref c19, .int 0, .ref c20])), (c1, .inl (c2, 8, .inr (.inr (.inr (.inr (fun _ => none))))))]) hP hD [0, 1] [2] rfl rfl (by decide) (by decide) hk1 hFc hP1 hD1
  have hK := (hK.sub (tys' := [(c4, .object RX2)]) [1] rfl).app hK1
  generalize H1 = H at hP hS ⊢
  have hP : va_P (dC, dI) vwCl [(c3, .inl (c4, 9, .inr (.inr (.inr (.inr (nv_row [some c5, some c6, some c7, some c8, some c9, some c10, some c11, some c12, some c13])))))), (c0, .inr (13, [.ref c14, .int 0, .int 0, .ref c15, .ref c16, .ref c17, .ref c18, .ref c1, .ref c3, .ref c19, .int 0, .ref c20])), (c1, .inl (c2, 8, .inr (.inr (.inr (.inr (fun _ => none))))))] H := hP
  have hD : va_D A [(c3, .inl (c4, 9, .inr (.inr (.inr (.inr (nv_row [some c5, some c6, some c7, some c8, some c9, some c10, some c11, some c12, some c13])))))), (c0, .inr (13, [.ref c14, .int 0, .int 0, .ref c15, .ref c16, .ref c17, .ref c18, .ref c1, .ref c3, .ref c19, .int 0, .ref c20])), (c1, .inl (c2, 8, .inr (.inr (.inr (.inr (fun _ => none))))))] := hD
  have hK : va_K (dC, dI) vwCl [(c4, .object RX2), (c2, .object RX2)] s := hK
  refine W.widen (k := 0) (n := 0) (by decide +kernel) (by decide +kernel) ?_
  refine lv_if_eq (tgt := 32) hx hb dX12_unusedCondition_23 (by decide) (fun _ => ?_) (fun h9 => absurd (by decide) h9)
  refine lv_aload_n hx hb dX12_unusedCondition_32 rfl (lv_at hl 1 rfl) ?_
  refine va_get (D := (dC, dI)) (ci := 13) (v := .ref c3) (C := RX12) (T := TX12) (N := 12) hx hb hts hi_k_X12_unusedCondition_X12 hown hK hP 1 rfl rfl 8 (by decide) (hts (.fieldLink RX12 43 "TimeMachine" "conditionPool" "[LTimeMachine$Condition;") (List.mem_of_getElem? (i := 1) rfl)) (fun _ h9 => h9) rfl dX12_unusedCondition_33 ?_
  refine lv_iload_n hx hb dX12_unusedCondition_36 rfl (lv_at hl 0 rfl) ?_
  refine va_aldq (i := 0) hx hb hK hP 0 0 rfl rfl (vp_in_iff.mpr ⟨by decide, by decide⟩) dX12_unusedCondition_37 ?_
  refine W.eq (g2 := F0 m 38 ls [.ref c5]) (by rw [nv_row_at (k := 0) (by decide)]; rfl) ?_
  have hP9 := hP.sub (ws' := [(c3, .inl (c4, 9, .inr (.inr (.inr (.inr (nv_row [some c5, some c6, some c7, some c8, some c9, some c10, some c11, some c12, some c13])))))), (c0, .inr (13, [.ref c14, .int 0, .int 0, .ref c15, .ref c16, .ref c17, .ref c18, .ref c1, .ref c3, .ref c19, .int 0, .ref c20])), (c1, .inl (c2, 8, .inr (.inr (.inr (.inr (fun _ => none))))))]) [0, 1, 2] rfl
  have hD9 := hD.sub (ws' := [(c3, .inl (c4, 9, .inr (.inr (.inr (.inr (nv_row [some c5, some c6, some c7, some c8, some c9, some c10, some c11, some c12, some c13])))))), (c0, .inr (13, [.ref c14, .int 0, .int 0, .ref c15, .ref c16, .ref c17, .ref c18, .ref c1, .ref c3, .ref c19, .int 0, .ref c20])), (c1, .inl (c2, 8, .inr (.inr (.inr (.inr (fun _ => none))))))]) [0, 1, 2] (by decide) rfl
  have hK9 := hK.sub (tys' := [(c4, .object RX2), (c2, .object RX2)]) [0, 1] rfl
  refine W.widen (k := 0) (n := 0) (by decide +kernel) (by decide +kernel) ?_
  exact W.aret (v := .ref c5) hx hb hr (by first | exact Or.inl ⟨_, rfl⟩ | exact Or.inr ⟨_, rfl⟩) (by first | exact Or.inl rfl | exact Or.inr ⟨_, rfl⟩) (fun t ht hW => ⟨⟨some c5, (), rfl, rfl, by rw [ht]; exact hP9, va_K.moved hW.alike hK9, hD9⟩, hS.F ht⟩) hS.2.2 dX12_unusedCondition_38
def ow_k_X2_next : List Cond := .code yX2_next cX2_next 4 none :: ([.fieldLink RX2 49 "TimeMachine$Condition" "at" "I", .fieldLink RX2 45 "TimeMachine$Condition" "stop" "I", .fieldLink RX2 90 "TimeMachine$Condition" "from" "I", .fieldLink RX2 77 "TimeMachine$Condition" "kind" "I"] ++ (u_ws RX2 TX2 20 ++ []))
theorem gd_k_X2_next : ∀ w ∈ ow_k_X2_next, (w.onTables && w.keeps) = true ∨ ∃ ty, w = Cond.arrayClass ty := List.forall_mem_cons.mpr ⟨good_of_word rfl, List.forall_mem_append.mpr ⟨fun w h => good_of_word (List.all_eq_true.mp (by decide +kernel) w h), List.forall_mem_append.mpr ⟨gu_X2, fun _ h => nomatch h⟩⟩⟩
theorem hi_k_X2_next_X2 : ∀ w ∈ u_ws RX2 TX2 20, w ∈ ow_k_X2_next := fun w h => List.mem_cons_of_mem _ (List.mem_append_right _ (List.mem_append_left _ h))
set_option maxHeartbeats 40000000 in
set_option maxRecDepth 100000 in
theorem k_X2_next (l : Launch) (hlt : l.stackTraces = false) (dC : Nat → ClassId) (dI : Nat → Nat → Nat) (c0 : Nat) (c1 : Nat) (c2 : Nat) (c3 : Nat) (c4 : Nat) (c5 : Nat) (c6 : Nat) (c7 : Nat) (c8 : Nat) (c9 : Nat) (sz : Nat) : Met l yX2_next ow_k_X2_next ({ frames := 0, cells := 0, slots := 0, locals := 0 }) (va_Pc [.ref c0] (fun U => U.heap.size = sz ∧ va_P (dC, dI) vwCl [(c0, .inr (3, [.ref c1, .ref c2, .int 0, .ref c3, .int 0, .ref c4, .ref c5, .ref c6, .ref c7, .ref c8, .int 0, .int 0, .ref c9, .int 0, .int 0, .int 0, .int 0, .long 0, .int 0, .int 0]))] U.heap ∧ va_K (dC, dI) vwCl [] U ∧ va_D (fun _ => True) [(c0, .inr (3, [.ref c1, .ref c2, .int 0, .ref c3, .int 0, .ref c4, .ref c5, .ref c6, .ref c7, .ref c8, .int 0, .int 0, .ref c9, .int 0, .int 0, .int 0, .int 0, .long 0, .int 0, .int 0]))] ∧ nv_E (va_A [(c0, .inr (3, [.ref c1, .ref c2, .int 0, .ref c3, .int 0, .ref c4, .ref c5, .ref c6, .ref c7, .ref c8, .int 0, .int 0, .ref c9, .int 0, .int 0, .int 0, .int 0, .long 0, .int 0, .int 0]))] sz) U)) (va_Qv (fun _ => True) (fun (_ : Unit) t => va_P (dC, dI) vwCl [(c0, .inr (3, [.ref c1, .ref c2, .int 0, .ref c3, .int 0, .ref c4, .ref c5, .ref c6, .ref c7, .ref c8, .int 0, .int 0, .ref c9, .int 0, .int 0, .int 0, .int 0, .long 0, .int 0, .int 0]))] t.heap ∧ va_K (dC, dI) vwCl [] t ∧ va_D (va_A [(c0, .inr (3, [.ref c1, .ref c2, .int 0, .ref c3, .int 0, .ref c4, .ref c5, .ref c6, .ref c7, .ref c8, .int 0, .int 0, .ref c9, .int 0, .int 0, .int 0, .int 0, .long 0, .int 0, .int 0]))] sz) [(c0, .inr (3, [.ref c1, .ref c2, .int 0, .ref c3, .int 0, .ref c4, .ref c5, .ref c6, .ref c7, .ref c8, .int 0, .int 0, .ref c9, .int 0, .int 0, .int 0, .int 0, .long 0, .int 0, .int 0]))]) (va_A [(c0, .inr (3, [.ref c1, .ref c2, .int 0, .ref c3, .int 0, .ref c4, .ref c5, .ref c6, .ref c7, .ref c8, .int 0, .int 0, .ref c9, .int 0, .int 0, .int 0, .int 0, .long 0, .int 0, .int 0]))] sz)) 0 0 (va_A [(c0, .inr (3, [.ref c1, .ref c2, .int 0, .ref c3, .int 0, .ref c4, .ref c5, .ref c6, .ref c7, .ref c8, .int 0, .int 0, .ref c9, .int 0, .int 0, .int 0, .int 0, .long 0, .int 0, .int 0]))] sz) := by
  refine Met.ofW (cc := cX2_next) (maxL := 4) (ret := none) (by decide) rfl ?_
  intro p e s m args below meth c s₁ B hml hv
  obtain ⟨rfl, hsz, hP, hK, hD0, hN⟩ := hv
  have hx := B.exec
  have hb := B.bytes
  have hr := B.returns
  have hts := atoms_spec (ws := ow_k_X2_next) B.pre
  have hown : s.vm.findClass RX2 = some m.cls := findClass_of_methodNamed B.named
  have hlocks := B.notSynchronized
  subst hsz
  have hD := hD0.self (sz := s.heap.size)
  generalize hAe : va_A [(c0, .inr (3, [.ref c1, .ref c2, .int 0, .ref c3, .int 0, .ref c4, .ref c5, .ref c6, .ref c7, .ref c8, .int 0, .int 0, .ref c9, .int 0, .int 0, .int 0, .int 0, .long 0, .int 0, .int 0]))] s.heap.size = A at hD hN ⊢
  have hA : ∀ q : Nat, s.heap.size ≤ q → A q := fun q h => by rw [← hAe]; exact Or.inr h
  have hS : va_S A s.heap s.heap [] := va_S.rf
  have hl := lv_entry ([.ref c0]) (n := 4) (Nat.le_of_ble_eq_true rfl)
  rw [lg_entry_eq]
  generalize (lg_sl ([.ref c0]) ++ List.replicate (4 - (lg_sl ([.ref c0])).length) Slot.unset).toArray = ls at hl ⊢
  have hl : lv_has ls 4 [(0, .ref c0)] := hl
  refine lv_aload_n hx hb dX2_next_0 rfl (lv_at hl 0 rfl) ?_
  refine va_get (D := (dC, dI)) (ci := 3) (v := .int 0) (C := RX2) (T := TX2) (N := 20) hx hb hts hi_k_X2_next_X2 hown hK hP 0 rfl rfl 14 (by decide) (hts (.fieldLink RX2 49 "TimeMachine$Condition" "at" "I") (List.mem_of_getElem? (i := 1) rfl)) (fun _ h9 => h9) rfl dX2_next_1 ?_
  refine lv_aload_n hx hb dX2_next_4 rfl (lv_at hl 0 rfl) ?_
  refine va_get (D := (dC, dI)) (ci := 3) (v := .int 0) (C := RX2) (T := TX2) (N := 20) hx hb hts hi_k_X2_next_X2 hown hK hP 0 rfl rfl 13 (by decide) (hts (.fieldLink RX2 45 "TimeMachine$Condition" "stop" "I") (List.mem_of_getElem? (i := 2) rfl)) (fun _ h9 => h9) rfl dX2_next_5 ?_
  refine lv_icmp_ge (tgt := 38) hx hb dX2_next_8 (by decide) (fun _ => ?_) (fun h9 => absurd (by decide) h9)
  refine lv_aload_n hx hb dX2_next_38 rfl (lv_at hl 0 rfl) ?_
  refine lv_aload_n hx hb dX2_next_39 rfl (lv_at hl 0 rfl) ?_
  refine va_get (D := (dC, dI)) (ci := 3) (v := .int 0) (C := RX2) (T := TX2) (N := 20) hx hb hts hi_k_X2_next_X2 hown hK hP 0 rfl rfl 14 (by decide) (hts (.fieldLink RX2 49 "TimeMachine$Condition" "at" "I") (List.mem_of_getElem? (i := 1) rfl)) (fun _ h9 => h9) rfl dX2_next_40 ?_
  refine va_put (D := (dC, dI)) (ci := 3) (v := .int 0) (ty := .int) (C := RX2) (T := TX2) (N := 20) hx hb hts hi_k_X2_next_X2 tyX2 tyX2_ok nmX2 hown hK hP hD hS 0 rfl rfl 16 (by decide) (hts (.fieldLink RX2 90 "TimeMachine$Condition" "from" "I") (List.mem_of_getElem? (i := 3) rfl)) (fun _ h9 => h9) rfl (by decide +kernel) rfl rfl (Nat.le_of_ble_eq_true rfl) dX2_next_43 (fun H locs hP hD hS => ?_)
  have hP : va_P (dC, dI) vwCl [(c0, .inr (3, [.ref c1, .ref c2, .int 0, .ref c3, .int 0, .ref c4, .ref c5, .ref c6, .ref c7, .ref c8, .int 0, .int 0, .ref c9, .int 0, .int 0, .int 0, .int 0, .long 0, .int 0, .int 0]))] H := hP
  have hD : va_D A [(c0, .inr (3, [.ref c1, .ref c2, .int 0, .ref c3, .int 0, .ref c4, .ref c5, .ref c6, .ref c7, .ref c8, .int 0, .int 0, .ref c9, .int 0, .int 0, .int 0, .int 0, .long 0, .int 0, .int 0]))] := hD
  refine lv_aload_n hx hb dX2_next_46 rfl (lv_at hl 0 rfl) ?_
  refine va_get (D := (dC, dI)) (ci := 3) (v := .int 0) (C := RX2) (T := TX2) (N := 20) hx hb hts hi_k_X2_next_X2 hown hK hP 0 rfl rfl 14 (by decide) (hts (.fieldLink RX2 49 "TimeMachine$Condition" "at" "I") (List.mem_of_getElem? (i := 1) rfl)) (fun _ h9 => h9) rfl dX2_next_47 ?_
  refine lv_aload_n hx hb dX2_next_50 rfl (lv_at hl 0 rfl) ?_
  refine va_get (D := (dC, dI)) (ci := 3) (v := .int 0) (C := RX2) (T := TX2) (N := 20) hx hb hts hi_k_X2_next_X2 hown hK hP 0 rfl rfl 13 (by decide) (hts (.fieldLink RX2 45 "TimeMachine$Condition" "stop" "I") (List.mem_of_getElem? (i := 2) rfl)) (fun _ h9 => h9) rfl dX2_next_51 ?_
  refine lv_icmp_lt (tgt := 63) hx hb dX2_next_54 (by decide) (fun h9 => absurd h9 (by decide)) (fun _ => ?_)
  refine lv_aload_n hx hb dX2_next_57 rfl (lv_at hl 0 rfl) ?_
  refine lv_iconst (v := 0) hx hb dX2_next_58 (by decide) ?_
  refine va_put (D := (dC, dI)) (ci := 3) (v := .int 0) (ty := .int) (C := RX2) (T := TX2) (N := 20) hx hb hts hi_k_X2_next_X2 tyX2 tyX2_ok nmX2 hown hK hP hD hS 0 rfl rfl 15 (by decide) (hts (.fieldLink RX2 77 "TimeMachine$Condition" "kind" "I") (List.mem_of_getElem? (i := 4) rfl)) (fun _ h9 => h9) rfl (by decide +kernel) rfl rfl (Nat.le_of_ble_eq_true rfl) dX2_next_59 (fun H locs hP hD hS => ?_)
  have hP : va_P (dC, dI) vwCl [(c0, .inr (3, [.ref c1, .ref c2, .int 0, .ref c3, .int 0, .ref c4, .ref c5, .ref c6, .ref c7, .ref c8, .int 0, .int 0, .ref c9, .int 0, .int 0, .int 0, .int 0, .long 0, .int 0, .int 0]))] H := hP
  have hD : va_D A [(c0, .inr (3, [.ref c1, .ref c2, .int 0, .ref c3, .int 0, .ref c4, .ref c5, .ref c6, .ref c7, .ref c8, .int 0, .int 0, .ref c9, .int 0, .int 0, .int 0, .int 0, .long 0, .int 0, .int 0]))] := hD
  have hP9 := hP.sub (ws' := [(c0, .inr (3, [.ref c1, .ref c2, .int 0, .ref c3, .int 0, .ref c4, .ref c5, .ref c6, .ref c7, .ref c8, .int 0, .int 0, .ref c9, .int 0, .int 0, .int 0, .int 0, .long 0, .int 0, .int 0]))]) [0] rfl
  have hD9 := hD.sub (ws' := [(c0, .inr (3, [.ref c1, .ref c2, .int 0, .ref c3, .int 0, .ref c4, .ref c5, .ref c6, .ref c7, .ref c8, .int 0, .int 0, .ref c9, .int 0, .int 0, .int 0, .int 0, .long 0, .int 0, .int 0]))]) [0] (by decide) rfl
  have hK9 := hK.sub (tys' := []) [] rfl
  refine W.widen (k := 0) (n := 0) (by decide +kernel) (by decide +kernel) ?_
  exact W.vret hx hb hr (fun t ht hW => ⟨⟨(), rfl, trivial, by rw [ht]; exact hP9, va_K.moved hW.alike hK9, hD9⟩, hS.F ht⟩) hS.2.2 dX2_next_62
def ow_k_X2_blame : List Cond := .code yX2_blame cX2_blame 2 none :: ([.fieldLink RX2 64 "TimeMachine$Condition" "fault" "I", .fieldLink RX2 90 "TimeMachine$Condition" "from" "I"] ++ (u_ws RX2 TX2 20 ++ []))
theorem gd_k_X2_blame : ∀ w ∈ ow_k_X2_blame, (w.onTables && w.keeps) = true ∨ ∃ ty, w = Cond.arrayClass ty := List.forall_mem_cons.mpr ⟨good_of_word rfl, List.forall_mem_append.mpr ⟨fun w h => good_of_word (List.all_eq_true.mp (by decide +kernel) w h), List.forall_mem_append.mpr ⟨gu_X2, fun _ h => nomatch h⟩⟩⟩
theorem hi_k_X2_blame_X2 : ∀ w ∈ u_ws RX2 TX2 20, w ∈ ow_k_X2_blame := fun w h => List.mem_cons_of_mem _ (List.mem_append_right _ (List.mem_append_left _ h))
set_option maxHeartbeats 40000000 in
set_option maxRecDepth 100000 in
theorem k_X2_blame (l : Launch) (hlt : l.stackTraces = false) (dC : Nat → ClassId) (dI : Nat → Nat → Nat) (c0 : Nat) (c1 : Nat) (c2 : Nat) (c3 : Nat) (c4 : Nat) (c5 : Nat) (c6 : Nat) (c7 : Nat) (c8 : Nat) (c9 : Nat) (sz : Nat) : Met l yX2_blame ow_k_X2_blame ({ frames := 0, cells := 0, slots := 0, locals := 0 }) (va_Pc [.ref c0, .int 1] (fun U => U.heap.size = sz ∧ va_P (dC, dI) vwCl [(c0, .inr (3, [.ref c1, .ref c2, .int 0, .ref c3, .int 0, .ref c4, .ref c5, .ref c6, .ref c7, .ref c8, .int 0, .int 0, .ref c9, .int 0, .int 0, .int 0, .int 0, .long 0, .int 0, .int 0]))] U.heap ∧ va_K (dC, dI) vwCl [] U ∧ va_D (fun _ => True) [(c0, .inr (3, [.ref c1, .ref c2, .int 0, .ref c3, .int 0, .ref c4, .ref c5, .ref c6, .ref c7, .ref c8, .int 0, .int 0, .ref c9, .int 0, .int 0, .int 0, .int 0, .long 0, .int 0, .int 0]))] ∧ nv_E (va_A [(c0, .inr (3, [.ref c1, .ref c2, .int 0, .ref c3, .int 0, .ref c4, .ref c5, .ref c6, .ref c7, .ref c8, .int 0, .int 0, .ref c9, .int 0, .int 0, .int 0, .int 0, .long 0, .int 0, .int 0]))] sz) U)) (va_Qv (fun _ => True) (fun (_ : Unit) t => va_P (dC, dI) vwCl [(c0, .inr (3, [.ref c1, .ref c2, .int 0, .ref c3, .int 0, .ref c4, .ref c5, .ref c6, .ref c7, .ref c8, .int 0, .int 0, .ref c9, .int 0, .int 0, .int 0, .int 0, .long 0, .int 1, .int 0]))] t.heap ∧ va_K (dC, dI) vwCl [] t ∧ va_D (va_A [(c0, .inr (3, [.ref c1, .ref c2, .int 0, .ref c3, .int 0, .ref c4, .ref c5, .ref c6, .ref c7, .ref c8, .int 0, .int 0, .ref c9, .int 0, .int 0, .int 0, .int 0, .long 0, .int 0, .int 0]))] sz) [(c0, .inr (3, [.ref c1, .ref c2, .int 0, .ref c3, .int 0, .ref c4, .ref c5, .ref c6, .ref c7, .ref c8, .int 0, .int 0, .ref c9, .int 0, .int 0, .int 0, .int 0, .long 0, .int 1, .int 0]))]) (va_A [(c0, .inr (3, [.ref c1, .ref c2, .int 0, .ref c3, .int 0, .ref c4, .ref c5, .ref c6, .ref c7, .ref c8, .int 0, .int 0, .ref c9, .int 0, .int 0, .int 0, .int 0, .long 0, .int 0, .int 0]))] sz)) 0 0 (va_A [(c0, .inr (3, [.ref c1, .ref c2, .int 0, .ref c3, .int 0, .ref c4, .ref c5, .ref c6, .ref c7, .ref c8, .int 0, .int 0, .ref c9, .int 0, .int 0, .int 0, .int 0, .long 0, .int 0, .int 0]))] sz) := by
  refine Met.ofW (cc := cX2_blame) (maxL := 2) (ret := none) (by decide) rfl ?_
  intro p e s m args below meth c s₁ B hml hv
  obtain ⟨rfl, hsz, hP, hK, hD0, hN⟩ := hv
  have hx := B.exec
  have hb := B.bytes
  have hr := B.returns
  have hts := atoms_spec (ws := ow_k_X2_blame) B.pre
  have hown : s.vm.findClass RX2 = some m.cls := findClass_of_methodNamed B.named
  have hlocks := B.notSynchronized
  subst hsz
  have hD := hD0.self (sz := s.heap.size)
  generalize hAe : va_A [(c0, .inr (3, [.ref c1, .ref c2, .int 0, .ref c3, .int 0, .ref c4, .ref c5, .ref c6, .ref c7, .ref c8, .int 0, .int 0, .ref c9, .int 0, .int 0, .int 0, .int 0, .long 0, .int 0, .int 0]))] s.heap.size = A at hD hN ⊢
  have hA : ∀ q : Nat, s.heap.size ≤ q → A q := fun q h => by rw [← hAe]; exact Or.inr h
  have hS : va_S A s.heap s.heap [] := va_S.rf
  have hl := lv_entry ([.ref c0, .int 1]) (n := 2) (Nat.le_of_ble_eq_true rfl)
  rw [lg_entry_eq]
  generalize (lg_sl ([.ref c0, .int 1]) ++ List.replicate (2 - (lg_sl ([.ref c0, .int 1])).length) Slot.unset).toArray = ls at hl ⊢
  have hl : lv_has ls 2 [(0, .ref c0), (1, .int 1)] := hl
  refine lv_aload_n hx hb dX2_blame_0 rfl (lv_at hl 0 rfl) ?_
  refine va_get (D := (dC, dI)) (ci := 3) (v := .int 0) (C := RX2) (T := TX2) (N := 20) hx hb hts hi_k_X2_blame_X2 hown hK hP 0 rfl rfl 18 (by decide) (hts (.fieldLink RX2 64 "TimeMachine$Condition" "fault" "I") (List.mem_of_getElem? (i := 1) rfl)) (fun _ h9 => h9) rfl dX2_blame_1 ?_
  refine lv_if_ne (tgt := 20) hx hb dX2_blame_4 (by decide) (fun h9 => absurd h9 (by decide)) (fun _ => ?_)
  refine lv_aload_n hx hb dX2_blame_7 rfl (lv_at hl 0 rfl) ?_
  refine lv_iload_n hx hb dX2_blame_8 rfl (lv_at hl 1 rfl) ?_
  refine lv_bipush (v := 8) hx hb dX2_blame_9 (by decide) ?_
  refine lv_aload_n hx hb dX2_blame_11 rfl (lv_at hl 0 rfl) ?_
  refine va_get (D := (dC, dI)) (ci := 3) (v := .int 0) (C := RX2) (T := TX2) (N := 20) hx hb hts hi_k_X2_blame_X2 hown hK hP 0 rfl rfl 16 (by decide) (hts (.fieldLink RX2 90 "TimeMachine$Condition" "from" "I") (List.mem_of_getElem? (i := 2) rfl)) (fun _ h9 => h9) rfl dX2_blame_12 ?_
  refine lv_imul hx hb dX2_blame_15 ?_
  refine lv_topi (fun z1 ez1 => ?_)
  obtain rfl : z1 = 0 := ez1.trans (by decide)
  refine lv_iadd hx hb dX2_blame_16 ?_
  refine lv_topi (fun z2 ez2 => ?_)
  obtain rfl : z2 = 1 := ez2.trans (by decide)
  refine va_put (D := (dC, dI)) (ci := 3) (v := .int 1) (ty := .int) (C := RX2) (T := TX2) (N := 20) hx hb hts hi_k_X2_blame_X2 tyX2 tyX2_ok nmX2 hown hK hP hD hS 0 rfl rfl 18 (by decide) (hts (.fieldLink RX2 64 "TimeMachine$Condition" "fault" "I") (List.mem_of_getElem? (i := 1) rfl)) (fun _ h9 => h9) rfl (by decide +kernel) rfl rfl (Nat.le_of_ble_eq_true rfl) dX2_blame_17 (fun H locs hP hD hS => ?_)
  have hP : va_P (dC, dI) vwCl [(c0, .inr (3, [.ref c1, .ref c2, .int 0, .ref c3, .int 0, .ref c4, .ref c5, .ref c6, .ref c7, .ref c8, .int 0, .int 0, .ref c9, .int 0, .int 0, .int 0, .int 0, .long 0, .int 1, .int 0]))] H := hP
  have hD : va_D A [(c0, .inr (3, [.ref c1, .ref c2, .int 0, .ref c3, .int 0, .ref c4, .ref c5, .ref c6, .ref c7, .ref c8, .int 0, .int 0, .ref c9, .int 0, .int 0, .int 0, .int 0, .long 0, .int 1, .int 0]))] := hD
  have hP9 := hP.sub (ws' := [(c0, .inr (3, [.ref c1, .ref c2, .int 0, .ref c3, .int 0, .ref c4, .ref c5, .ref c6, .ref c7, .ref c8, .int 0, .int 0, .ref c9, .int 0, .int 0, .int 0, .int 0, .long 0, .int 1, .int 0]))]) [0] rfl
  have hD9 := hD.sub (ws' := [(c0, .inr (3, [.ref c1, .ref c2, .int 0, .ref c3, .int 0, .ref c4, .ref c5, .ref c6, .ref c7, .ref c8, .int 0, .int 0, .ref c9, .int 0, .int 0, .int 0, .int 0, .long 0, .int 1, .int 0]))]) [0] (by decide) rfl
  have hK9 := hK.sub (tys' := []) [] rfl
  refine W.widen (k := 0) (n := 0) (by decide +kernel) (by decide +kernel) ?_
  exact W.vret hx hb hr (fun t ht hW => ⟨⟨(), rfl, trivial, by rw [ht]; exact hP9, va_K.moved hW.alike hK9, hD9⟩, hS.F ht⟩) hS.2.2 dX2_blame_20
def ow_k_X2_next_v1 : List Cond := .code yX2_next cX2_next 4 none :: ([.fieldLink RX2 49 "TimeMachine$Condition" "at" "I", .fieldLink RX2 45 "TimeMachine$Condition" "stop" "I", .fieldLink RX2 90 "TimeMachine$Condition" "from" "I", .fieldLink RX2 77 "TimeMachine$Condition" "kind" "I"] ++ (u_ws RX2 TX2 20 ++ []))
theorem gd_k_X2_next_v1 : ∀ w ∈ ow_k_X2_next_v1, (w.onTables && w.keeps) = true ∨ ∃ ty, w = Cond.arrayClass ty := List.forall_mem_cons.mpr ⟨good_of_word rfl, List.forall_mem_append.mpr ⟨fun w h => good_of_word (List.all_eq_true.mp (by decide +kernel) w h), List.forall_mem_append.mpr ⟨gu_X2, fun _ h => nomatch h⟩⟩⟩
theorem hi_k_X2_next_v1_X2 : ∀ w ∈ u_ws RX2 TX2 20, w ∈ ow_k_X2_next_v1 := fun w h => List.mem_cons_of_mem _ (List.mem_append_right _ (List.mem_append_left _ h))
set_option maxHeartbeats 40000000 in
set_option maxRecDepth 100000 in
theorem k_X2_next_v1 (l : Launch) (hlt : l.stackTraces = false) (dC : Nat → ClassId) (dI : Nat → Nat → Nat) (c0 : Nat) (c1 : Nat) (c2 : Nat) (c3 : Nat) (c4 : Nat) (c5 : Nat) (c6 : Nat) (c7 : Nat) (c8 : Nat) (c9 : Nat) (sz : Nat) : Met l yX2_next ow_k_X2_next_v1 ({ frames := 0, cells := 0, slots := 0, locals := 0 }) (va_Pc [.ref c0] (fun U => U.heap.size = sz ∧ va_P (dC, dI) vwCl [(c0, .inr (3, [.ref c1, .ref c2, .int 0, .ref c3, .int 0, .ref c4, .ref c5, .ref c6, .ref c7, .ref c8, .int 0, .int 0, .ref c9, .int 0, .int 0, .int 0, .int 0, .long 0, .int 1, .int 0]))] U.heap ∧ va_K (dC, dI) vwCl [] U ∧ va_D (fun _ => True) [(c0, .inr (3, [.ref c1, .ref c2, .int 0, .ref c3, .int 0, .ref c4, .ref c5, .ref c6, .ref c7, .ref c8, .int 0, .int 0, .ref c9, .int 0, .int 0, .int 0, .int 0, .long 0, .int 1, .int 0]))] ∧ nv_E (va_A [(c0, .inr (3, [.ref c1, .ref c2, .int 0, .ref c3, .int 0, .ref c4, .ref c5, .ref c6, .ref c7, .ref c8, .int 0, .int 0, .ref c9, .int 0, .int 0, .int 0, .int 0, .long 0, .int 1, .int 0]))] sz) U)) (va_Qv (fun _ => True) (fun (_ : Unit) t => va_P (dC, dI) vwCl [(c0, .inr (3, [.ref c1, .ref c2, .int 0, .ref c3, .int 0, .ref c4, .ref c5, .ref c6, .ref c7, .ref c8, .int 0, .int 0, .ref c9, .int 0, .int 0, .int 0, .int 0, .long 0, .int 1, .int 0]))] t.heap ∧ va_K (dC, dI) vwCl [] t ∧ va_D (va_A [(c0, .inr (3, [.ref c1, .ref c2, .int 0, .ref c3, .int 0, .ref c4, .ref c5, .ref c6, .ref c7, .ref c8, .int 0, .int 0, .ref c9, .int 0, .int 0, .int 0, .int 0, .long 0, .int 1, .int 0]))] sz) [(c0, .inr (3, [.ref c1, .ref c2, .int 0, .ref c3, .int 0, .ref c4, .ref c5, .ref c6, .ref c7, .ref c8, .int 0, .int 0, .ref c9, .int 0, .int 0, .int 0, .int 0, .long 0, .int 1, .int 0]))]) (va_A [(c0, .inr (3, [.ref c1, .ref c2, .int 0, .ref c3, .int 0, .ref c4, .ref c5, .ref c6, .ref c7, .ref c8, .int 0, .int 0, .ref c9, .int 0, .int 0, .int 0, .int 0, .long 0, .int 1, .int 0]))] sz)) 0 0 (va_A [(c0, .inr (3, [.ref c1, .ref c2, .int 0, .ref c3, .int 0, .ref c4, .ref c5, .ref c6, .ref c7, .ref c8, .int 0, .int 0, .ref c9, .int 0, .int 0, .int 0, .int 0, .long 0, .int 1, .int 0]))] sz) := by
  refine Met.ofW (cc := cX2_next) (maxL := 4) (ret := none) (by decide) rfl ?_
  intro p e s m args below meth c s₁ B hml hv
  obtain ⟨rfl, hsz, hP, hK, hD0, hN⟩ := hv
  have hx := B.exec
  have hb := B.bytes
  have hr := B.returns
  have hts := atoms_spec (ws := ow_k_X2_next_v1) B.pre
  have hown : s.vm.findClass RX2 = some m.cls := findClass_of_methodNamed B.named
  have hlocks := B.notSynchronized
  subst hsz
  have hD := hD0.self (sz := s.heap.size)
  generalize hAe : va_A [(c0, .inr (3, [.ref c1, .ref c2, .int 0, .ref c3, .int 0, .ref c4, .ref c5, .ref c6, .ref c7, .ref c8, .int 0, .int 0, .ref c9, .int 0, .int 0, .int 0, .int 0, .long 0, .int 1, .int 0]))] s.heap.size = A at hD hN ⊢
  have hA : ∀ q : Nat, s.heap.size ≤ q → A q := fun q h => by rw [← hAe]; exact Or.inr h
  have hS : va_S A s.heap s.heap [] := va_S.rf
  have hl := lv_entry ([.ref c0]) (n := 4) (Nat.le_of_ble_eq_true rfl)
  rw [lg_entry_eq]
  generalize (lg_sl ([.ref c0]) ++ List.replicate (4 - (lg_sl ([.ref c0])).length) Slot.unset).toArray = ls at hl ⊢
  have hl : lv_has ls 4 [(0, .ref c0)] := hl
  refine lv_aload_n hx hb dX2_next_0 rfl (lv_at hl 0 rfl) ?_
  refine va_get (D := (dC, dI)) (ci := 3) (v := .int 0) (C := RX2) (T := TX2) (N := 20) hx hb hts hi_k_X2_next_v1_X2 hown hK hP 0 rfl rfl 14 (by decide) (hts (.fieldLink RX2 49 "TimeMachine$Condition" "at" "I") (List.mem_of_getElem? (i := 1) rfl)) (fun _ h9 => h9) rfl dX2_next_1 ?_
  refine lv_aload_n hx hb dX2_next_4 rfl (lv_at hl 0 rfl) ?_
  refine va_get (D := (dC, dI)) (ci := 3) (v := .int 0) (C := RX2) (T := TX2) (N := 20) hx hb hts hi_k_X2_next_v1_X2 hown hK hP 0 rfl rfl 13 (by decide) (hts (.fieldLink RX2 45 "TimeMachine$Condition" "stop" "I") (List.mem_of_getElem? (i := 2) rfl)) (fun _ h9 => h9) rfl dX2_next_5 ?_
  refine lv_icmp_ge (tgt := 38) hx hb dX2_next_8 (by decide) (fun _ => ?_) (fun h9 => absurd (by decide) h9)
  refine lv_aload_n hx hb dX2_next_38 rfl (lv_at hl 0 rfl) ?_
  refine lv_aload_n hx hb dX2_next_39 rfl (lv_at hl 0 rfl) ?_
  refine va_get (D := (dC, dI)) (ci := 3) (v := .int 0) (C := RX2) (T := TX2) (N := 20) hx hb hts hi_k_X2_next_v1_X2 hown hK hP 0 rfl rfl 14 (by decide) (hts (.fieldLink RX2 49 "TimeMachine$Condition" "at" "I") (List.mem_of_getElem? (i := 1) rfl)) (fun _ h9 => h9) rfl dX2_next_40 ?_
  refine va_put (D := (dC, dI)) (ci := 3) (v := .int 0) (ty := .int) (C := RX2) (T := TX2) (N := 20) hx hb hts hi_k_X2_next_v1_X2 tyX2 tyX2_ok nmX2 hown hK hP hD hS 0 rfl rfl 16 (by decide) (hts (.fieldLink RX2 90 "TimeMachine$Condition" "from" "I") (List.mem_of_getElem? (i := 3) rfl)) (fun _ h9 => h9) rfl (by decide +kernel) rfl rfl (Nat.le_of_ble_eq_true rfl) dX2_next_43 (fun H locs hP hD hS => ?_)
  have hP : va_P (dC, dI) vwCl [(c0, .inr (3, [.ref c1, .ref c2, .int 0, .ref c3, .int 0, .ref c4, .ref c5, .ref c6, .ref c7, .ref c8, .int 0, .int 0, .ref c9, .int 0, .int 0, .int 0, .int 0, .long 0, .int 1, .int 0]))] H := hP
  have hD : va_D A [(c0, .inr (3, [.ref c1, .ref c2, .int 0, .ref c3, .int 0, .ref c4, .ref c5, .ref c6, .ref c7, .ref c8, .int 0, .int 0, .ref c9, .int 0, .int 0, .int 0, .int 0, .long 0, .int 1, .int 0]))] := hD
  refine lv_aload_n hx hb dX2_next_46 rfl (lv_at hl 0 rfl) ?_
  refine va_get (D := (dC, dI)) (ci := 3) (v := .int 0) (C := RX2) (T := TX2) (N := 20) hx hb hts hi_k_X2_next_v1_X2 hown hK hP 0 rfl rfl 14 (by decide) (hts (.fieldLink RX2 49 "TimeMachine$Condition" "at" "I") (List.mem_of_getElem? (i := 1) rfl)) (fun _ h9 => h9) rfl dX2_next_47 ?_
  refine lv_aload_n hx hb dX2_next_50 rfl (lv_at hl 0 rfl) ?_
  refine va_get (D := (dC, dI)) (ci := 3) (v := .int 0) (C := RX2) (T := TX2) (N := 20) hx hb hts hi_k_X2_next_v1_X2 hown hK hP 0 rfl rfl 13 (by decide) (hts (.fieldLink RX2 45 "TimeMachine$Condition" "stop" "I") (List.mem_of_getElem? (i := 2) rfl)) (fun _ h9 => h9) rfl dX2_next_51 ?_
  refine lv_icmp_lt (tgt := 63) hx hb dX2_next_54 (by decide) (fun h9 => absurd h9 (by decide)) (fun _ => ?_)
  refine lv_aload_n hx hb dX2_next_57 rfl (lv_at hl 0 rfl) ?_
  refine lv_iconst (v := 0) hx hb dX2_next_58 (by decide) ?_
  refine va_put (D := (dC, dI)) (ci := 3) (v := .int 0) (ty := .int) (C := RX2) (T := TX2) (N := 20) hx hb hts hi_k_X2_next_v1_X2 tyX2 tyX2_ok nmX2 hown hK hP hD hS 0 rfl rfl 15 (by decide) (hts (.fieldLink RX2 77 "TimeMachine$Condition" "kind" "I") (List.mem_of_getElem? (i := 4) rfl)) (fun _ h9 => h9) rfl (by decide +kernel) rfl rfl (Nat.le_of_ble_eq_true rfl) dX2_next_59 (fun H locs hP hD hS => ?_)
  have hP : va_P (dC, dI) vwCl [(c0, .inr (3, [.ref c1, .ref c2, .int 0, .ref c3, .int 0, .ref c4, .ref c5, .ref c6, .ref c7, .ref c8, .int 0, .int 0, .ref c9, .int 0, .int 0, .int 0, .int 0, .long 0, .int 1, .int 0]))] H := hP
  have hD : va_D A [(c0, .inr (3, [.ref c1, .ref c2, .int 0, .ref c3, .int 0, .ref c4, .ref c5, .ref c6, .ref c7, .ref c8, .int 0, .int 0, .ref c9, .int 0, .int 0, .int 0, .int 0, .long 0, .int 1, .int 0]))] := hD
  have hP9 := hP.sub (ws' := [(c0, .inr (3, [.ref c1, .ref c2, .int 0, .ref c3, .int 0, .ref c4, .ref c5, .ref c6, .ref c7, .ref c8, .int 0, .int 0, .ref c9, .int 0, .int 0, .int 0, .int 0, .long 0, .int 1, .int 0]))]) [0] rfl
  have hD9 := hD.sub (ws' := [(c0, .inr (3, [.ref c1, .ref c2, .int 0, .ref c3, .int 0, .ref c4, .ref c5, .ref c6, .ref c7, .ref c8, .int 0, .int 0, .ref c9, .int 0, .int 0, .int 0, .int 0, .long 0, .int 1, .int 0]))]) [0] (by decide) rfl
  have hK9 := hK.sub (tys' := []) [] rfl
  refine W.widen (k := 0) (n := 0) (by decide +kernel) (by decide +kernel) ?_
  exact W.vret hx hb hr (fun t ht hW => ⟨⟨(), rfl, trivial, by rw [ht]; exact hP9, va_K.moved hW.alike hK9, hD9⟩, hS.F ht⟩) hS.2.2 dX2_next_62
def ow_k_X2_takeOperand : List Cond := .code yX2_takeOperand cX2_takeOperand 2 (some .boolean) :: ([.fieldLink RX2 77 "TimeMachine$Condition" "kind" "I", .methodLink RX2 84 yX2_blame, .instanceMethod yX2_blame, .selects RX2 yX2_blame yX2_blame, .initialized RX2, .methodLink RX2 70 yX2_next, .instanceMethod yX2_next, .selects RX2 yX2_next yX2_next] ++ (u_ws RX2 TX2 20 ++ (ow_k_X2_blame ++ (ow_k_X2_next_v1 ++ []))))
theorem gd_k_X2_takeOperand : ∀ w ∈ ow_k_X2_takeOperand, (w.onTables && w.keeps) = true ∨ ∃ ty, w = Cond.arrayClass ty := List.forall_mem_cons.mpr ⟨good_of_word rfl, List.forall_mem_append.mpr ⟨fun w h => good_of_word (List.all_eq_true.mp (by decide +kernel) w h), List.forall_mem_append.mpr ⟨gu_X2, List.forall_mem_append.mpr ⟨gd_k_X2_blame, List.forall_mem_append.mpr ⟨gd_k_X2_next_v1, fun _ h => nomatch h⟩⟩⟩⟩⟩
theorem hi_k_X2_takeOperand_X2 : ∀ w ∈ u_ws RX2 TX2 20, w ∈ ow_k_X2_takeOperand := fun w h => List.mem_cons_of_mem _ (List.mem_append_right _ (List.mem_append_left _ h))
theorem gi_k_X2_takeOperand_0 : GoodIn ow_k_X2_takeOperand (wsV RX2 84 RX2 yX2_blame ow_k_X2_blame) := goodIn_app (goodIn_of _ (by decide +kernel)) (fun w h => ⟨List.mem_cons_of_mem _ (List.mem_append_right _ (List.mem_append_right _ (List.mem_append_left _ h))), gd_k_X2_blame w h⟩)
theorem gi_k_X2_takeOperand_1 : GoodIn ow_k_X2_takeOperand (wsV RX2 70 RX2 yX2_next ow_k_X2_next_v1) := goodIn_app (goodIn_of _ (by decide +kernel)) (fun w h => ⟨List.mem_cons_of_mem _ (List.mem_append_right _ (List.mem_append_right _ (List.mem_append_right _ (List.mem_append_left _ h)))), gd_k_X2_next_v1 w h⟩)
set_option maxHeartbeats 40000000 in
set_option maxRecDepth 100000 in
theorem k_X2_takeOperand (l : Launch) (hlt : l.stackTraces = false) (dC : Nat → ClassId) (dI : Nat → Nat → Nat) (c0 : Nat) (c1 : Nat) (c2 : Nat) (c3 : Nat) (c4 : Nat) (c5 : Nat) (c6 : Nat) (c7 : Nat) (c8 : Nat) (c9 : Nat) (sz : Nat) : Met l yX2_takeOperand ow_k_X2_takeOperand ({ frames := 1, cells := 0, slots := 0, locals := 23 }) (va_Pc [.ref c0] (fun U => U.heap.size = sz ∧ va_P (dC, dI) vwCl [(c0, .inr (3, [.ref c1, .ref c2, .int 0, .ref c3, .int 0, .ref c4, .ref c5, .ref c6, .ref c7, .ref c8, .int 0, .int 0, .ref c9, .int 0, .int 0, .int 0, .int 0, .long 0, .int 0, .int 0]))] U.heap ∧ va_K (dC, dI) vwCl [] U ∧ va_D (fun _ => True) [(c0, .inr (3, [.ref c1, .ref c2, .int 0, .ref c3, .int 0, .ref c4, .ref c5, .ref c6, .ref c7, .ref c8, .int 0, .int 0, .ref c9, .int 0, .int 0, .int 0, .int 0, .long 0, .int 0, .int 0]))] ∧ nv_E (va_A [(c0, .inr (3, [.ref c1, .ref c2, .int 0, .ref c3, .int 0, .ref c4, .ref c5, .ref c6, .ref c7, .ref c8, .int 0, .int 0, .ref c9, .int 0, .int 0, .int 0, .int 0, .long 0, .int 0, .int 0]))] sz) U)) (va_Qi (fun r _ => r = 0) (fun (_ : Unit) t => va_P (dC, dI) vwCl [(c0, .inr (3, [.ref c1, .ref c2, .int 0, .ref c3, .int 0, .ref c4, .ref c5, .ref c6, .ref c7, .ref c8, .int 0, .int 0, .ref c9, .int 0, .int 0, .int 0, .int 0, .long 0, .int 1, .int 0]))] t.heap ∧ va_K (dC, dI) vwCl [] t ∧ va_D (va_A [(c0, .inr (3, [.ref c1, .ref c2, .int 0, .ref c3, .int 0, .ref c4, .ref c5, .ref c6, .ref c7, .ref c8, .int 0, .int 0, .ref c9, .int 0, .int 0, .int 0, .int 0, .long 0, .int 0, .int 0]))] sz) [(c0, .inr (3, [.ref c1, .ref c2, .int 0, .ref c3, .int 0, .ref c4, .ref c5, .ref c6, .ref c7, .ref c8, .int 0, .int 0, .ref c9, .int 0, .int 0, .int 0, .int 0, .long 0, .int 1, .int 0]))]) (va_A [(c0, .inr (3, [.ref c1, .ref c2, .int 0, .ref c3, .int 0, .ref c4, .ref c5, .ref c6, .ref c7, .ref c8, .int 0, .int 0, .ref c9, .int 0, .int 0, .int 0, .int 0, .long 0, .int 0, .int 0]))] sz)) 0 0 (va_A [(c0, .inr (3, [.ref c1, .ref c2, .int 0, .ref c3, .int 0, .ref c4, .ref c5, .ref c6, .ref c7, .ref c8, .int 0, .int 0, .ref c9, .int 0, .int 0, .int 0, .int 0, .long 0, .int 0, .int 0]))] sz) := by
  refine Met.ofW (cc := cX2_takeOperand) (maxL := 2) (ret := (some .boolean)) (by decide) rfl ?_
  intro p e s m args below meth c s₁ B hml hv
  obtain ⟨rfl, hsz, hP, hK, hD0, hN⟩ := hv
  have hx := B.exec
  have hb := B.bytes
  have hr := B.returns
  have hts := atoms_spec (ws := ow_k_X2_takeOperand) B.pre
  have hown : s.vm.findClass RX2 = some m.cls := findClass_of_methodNamed B.named
  have hlocks := B.notSynchronized
  subst hsz
  have hD := hD0.self (sz := s.heap.size)
  generalize hAe : va_A [(c0, .inr (3, [.ref c1, .ref c2, .int 0, .ref c3, .int 0, .ref c4, .ref c5, .ref c6, .ref c7, .ref c8, .int 0, .int 0, .ref c9, .int 0, .int 0, .int 0, .int 0, .long 0, .int 0, .int 0]))] s.heap.size = A at hD hN ⊢
  have hA : ∀ q : Nat, s.heap.size ≤ q → A q := fun q h => by rw [← hAe]; exact Or.inr h
  have hS : va_S A s.heap s.heap [] := va_S.rf
  have hl := lv_entry ([.ref c0]) (n := 2) (Nat.le_of_ble_eq_true rfl)
  rw [lg_entry_eq]
  generalize (lg_sl ([.ref c0]) ++ List.replicate (2 - (lg_sl ([.ref c0])).length) Slot.unset).toArray = ls at hl ⊢
  have hl : lv_has ls 2 [(0, .ref c0)] := hl
  refine lv_iconst (v := 0) hx hb dX2_takeOperand_0 (by decide) ?_
  refine lv_istore_n (lv' := [(1, .int 0), (0, .ref c0)]) hx hb dX2_takeOperand_1 rfl hl (by decide) rfl (fun ls hl => ?_)
  refine lv_aload_n hx hb dX2_takeOperand_2 rfl (lv_at hl 1 rfl) ?_
  refine va_get (D := (dC, dI)) (ci := 3) (v := .int 0) (C := RX2) (T := TX2) (N := 20) hx hb hts hi_k_X2_takeOperand_X2 hown hK hP 0 rfl rfl 15 (by decide) (hts (.fieldLink RX2 77 "TimeMachine$Condition" "kind" "I") (List.mem_of_getElem? (i := 1) rfl)) (fun _ h9 => h9) rfl dX2_takeOperand_3 ?_
  refine lv_iconst (v := 1) hx hb dX2_takeOperand_6 (by decide) ?_
  refine lv_icmp_ne (tgt := 27) hx hb dX2_takeOperand_7 (by decide) (fun _ => ?_) (fun h9 => absurd h9 (by decide))
  refine lv_aload_n hx hb dX2_takeOperand_27 rfl (lv_at hl 1 rfl) ?_
  refine va_get (D := (dC, dI)) (ci := 3) (v := .int 0) (C := RX2) (T := TX2) (N := 20) hx hb hts hi_k_X2_takeOperand_X2 hown hK hP 0 rfl rfl 15 (by decide) (hts (.fieldLink RX2 77 "TimeMachine$Condition" "kind" "I") (List.mem_of_getElem? (i := 1) rfl)) (fun _ h9 => h9) rfl dX2_takeOperand_28 ?_
  refine lv_iconst (v := 2) hx hb dX2_takeOperand_31 (by decide) ?_
  refine lv_icmp_ne (tgt := 43) hx hb dX2_takeOperand_32 (by decide) (fun _ => ?_) (fun h9 => absurd h9 (by decide))
  refine lv_aload_n hx hb dX2_takeOperand_43 rfl (lv_at hl 1 rfl) ?_
  refine va_get (D := (dC, dI)) (ci := 3) (v := .int 0) (C := RX2) (T := TX2) (N := 20) hx hb hts hi_k_X2_takeOperand_X2 hown hK hP 0 rfl rfl 15 (by decide) (hts (.fieldLink RX2 77 "TimeMachine$Condition" "kind" "I") (List.mem_of_getElem? (i := 1) rfl)) (fun _ h9 => h9) rfl dX2_takeOperand_44 ?_
  refine lv_iconst (v := 3) hx hb dX2_takeOperand_47 (by decide) ?_
  refine lv_icmp_ne (tgt := 119) hx hb dX2_takeOperand_48 (by decide) (fun _ => ?_) (fun h9 => absurd h9 (by decide))
  refine lv_aload_n hx hb dX2_takeOperand_119 rfl (lv_at hl 1 rfl) ?_
  refine va_get (D := (dC, dI)) (ci := 3) (v := .int 0) (C := RX2) (T := TX2) (N := 20) hx hb hts hi_k_X2_takeOperand_X2 hown hK hP 0 rfl rfl 15 (by decide) (hts (.fieldLink RX2 77 "TimeMachine$Condition" "kind" "I") (List.mem_of_getElem? (i := 1) rfl)) (fun _ h9 => h9) rfl dX2_takeOperand_120 ?_
  refine lv_iconst (v := 3) hx hb dX2_takeOperand_123 (by decide) ?_
  refine lv_icmp_ne (tgt := 164) hx hb dX2_takeOperand_124 (by decide) (fun _ => ?_) (fun h9 => absurd h9 (by decide))
  refine lv_aload_n hx hb dX2_takeOperand_164 rfl (lv_at hl 1 rfl) ?_
  refine lv_iconst (v := 1) hx hb dX2_takeOperand_165 (by decide) ?_
  have hPc := hP.sub (ws' := [(c0, .inr (3, [.ref c1, .ref c2, .int 0, .ref c3, .int 0, .ref c4, .ref c5, .ref c6, .ref c7, .ref c8, .int 0, .int 0, .ref c9, .int 0, .int 0, .int 0, .int 0, .long 0, .int 0, .int 0]))]) [0] rfl
  have hDc := hD.sub (ws' := [(c0, .inr (3, [.ref c1, .ref c2, .int 0, .ref c3, .int 0, .ref c4, .ref c5, .ref c6, .ref c7, .ref c8, .int 0, .int 0, .ref c9, .int 0, .int 0, .int 0, .int 0, .long 0, .int 0, .int 0]))]) [0] (by decide) rfl
  have hKc := hK.sub (tys' := []) [] rfl
  have hFc := va_free (wc := [(c0, .inr (3, [.ref c1, .ref c2, .int 0, .ref c3, .int 0, .ref c4, .ref c5, .ref c6, .ref c7, .ref c8, .int 0, .int 0, .ref c9, .int 0, .int 0, .int 0, .int 0, .long 0, .int 0, .int 0]))]) hD hS hA [0] rfl
  refine va_callv (va_runV (As := [.int 1]) (rest := []) ⟨hx, hb, hml, hown, hts⟩ (k_X2_blame l hlt dC dI c0 c1 c2 c3 c4 c5 c6 c7 c8 c9  s.heap.size) (cwV 1 hts gi_k_X2_takeOperand_0 rfl rfl rfl (by decide +kernel) ⟨Nat.le_of_ble_eq_true rfl, Nat.le_of_ble_eq_true rfl⟩) ⟨fun a U g mk q => by obtain ⟨q0, q1, qP, qK, qD, qN⟩ := q; exact ⟨q0, q1, qP, va_K.moved (u := U) (U := U.calling g mk a) (Vm.Alike.refl U.vm) qK, qD, nv_same rfl rfl qN⟩, va_recv hKc hPc (ci := 3) (q0 := 0) rfl rfl, fun U hU hW => ⟨rfl, by rw [hU], by rw [hU]; exact hPc, va_K.moved hW.alike hKc, hDc.weaken (fun _ _ _ _ => trivial), nv_call hS hFc hU hW hN⟩⟩ rfl rfl hl.1 rfl (lv_room (Nat.le_of_ble_eq_true rfl)) dX2_takeOperand_166 ⟨by decide +kernel, by decide +kernel⟩) hS (fun q _ h => hFc q h) hFc (fun u t H1 locs ht hvm hw hB hz1 hk1 hS => ?_)
  obtain ⟨hP1, hK1, hD1⟩ := hB
  rw [ht] at hP1
  have hK1 := va_K.moved hvm.symm hK1
  obtain ⟨hP, hD⟩ := va_join (wr := []) (w1 := [(c0, .inr (3, [.ref c1, .ref c2, .int 0, .ref c3, .int 0, .ref c4, .ref c5, .ref c6, .ref c7, .ref c8, .int 0, .int 0, .ref c9, .int 0, .int 0, .int 0, .int 0, .long 0, .int 1, .int 0]))]) hP hD [0] [] rfl rfl (by decide) (by decide) hk1 hFc hP1 hD1
  have hK := (hK.sub (tys' := []) [] rfl).app hK1
  generalize H1 = H at hP hS ⊢
  have hP : va_P (dC, dI) vwCl [(c0, .inr (3, [.ref c1, .ref c2, .int 0, .ref c3, .int 0, .ref c4, .ref c5, .ref c6, .ref c7, .ref c8, .int 0, .int 0, .ref c9, .int 0, .int 0, .int 0, .int 0, .long 0, .int 1, .int 0]))] H := hP
  have hD : va_D A [(c0, .inr (3, [.ref c1, .ref c2, .int 0, .ref c3, .int 0, .ref c4, .ref c5, .ref c6, .ref c7, .ref c8, .int 0, .int 0, .ref c9, .int 0, .int 0, .int 0, .int 0, .long 0, .int 1, .int 0]))] := hD
  have hK : va_K (dC, dI) vwCl [] s := hK
  refine W.widen (k := 0) (n := 0) (by decide +kernel) (by decide +kernel) ?_
  refine lv_aload_n hx hb dX2_takeOperand_169 rfl (lv_at hl 1 rfl) ?_
  have hPc := hP.sub (ws' := [(c0, .inr (3, [.ref c1, .ref c2, .int 0, .ref c3, .int 0, .ref c4, .ref c5, .ref c6, .ref c7, .ref c8, .int 0, .int 0, .ref c9, .int 0, .int 0, .int 0, .int 0, .long 0, .int 1, .int 0]))]) [0] rfl
  have hDc := hD.sub (ws' := [(c0, .inr (3, [.ref c1, .ref c2, .int 0, .ref c3, .int 0, .ref c4, .ref c5, .ref c6, .ref c7, .ref c8, .int 0, .int 0, .ref c9, .int 0, .int 0, .int 0, .int 0, .long 0, .int 1, .int 0]))]) [0] (by decide) rfl
  have hKc := hK.sub (tys' := []) [] rfl
  have hFc := va_free (wc := [(c0, .inr (3, [.ref c1, .ref c2, .int 0, .ref c3, .int 0, .ref c4, .ref c5, .ref c6, .ref c7, .ref c8, .int 0, .int 0, .ref c9, .int 0, .int 0, .int 0, .int 0, .long 0, .int 1, .int 0]))]) hD hS hA [0] rfl
  refine va_callv (va_runV (As := []) (rest := []) ⟨hx, hb, hml, hown, hts⟩ (k_X2_next_v1 l hlt dC dI c0 c1 c2 c3 c4 c5 c6 c7 c8 c9  H.size) (cwV 0 hts gi_k_X2_takeOperand_1 rfl rfl rfl (by decide +kernel) ⟨Nat.le_of_ble_eq_true rfl, Nat.le_of_ble_eq_true rfl⟩) ⟨fun a U g mk q => by obtain ⟨q0, q1, qP, qK, qD, qN⟩ := q; exact ⟨q0, q1, qP, va_K.moved (u := U) (U := U.calling g mk a) (Vm.Alike.refl U.vm) qK, qD, nv_same rfl rfl qN⟩, va_recv hKc hPc (ci := 3) (q0 := 0) rfl rfl, fun U hU hW => ⟨rfl, by rw [hU], by rw [hU]; exact hPc, va_K.moved hW.alike hKc, hDc.weaken (fun _ _ _ _ => trivial), nv_call hS hFc hU hW hN⟩⟩ rfl rfl hl.1 rfl (lv_room (Nat.le_of_ble_eq_true rfl)) dX2_takeOperand_170 ⟨by decide +kernel, by decide +kernel⟩) hS (fun q _ h => hFc q h) hFc (fun u t H1 locs ht hvm hw hB hz1 hk1 hS => ?_)
  obtain ⟨hP1, hK1, hD1⟩ := hB
  rw [ht] at hP1
  have hK1 := va_K.moved hvm.symm hK1
  obtain ⟨hP, hD⟩ := va_join (wr := []) (w1 := [(c0, .inr (3, [.ref c1, .ref c2, .int 0, .ref c3, .int 0, .ref c4, .ref c5, .ref c6, .ref c7, .ref c8, .int 0, .int 0, .ref c9, .int 0, .int 0, .int 0, .int 0, .long 0, .int 1, .int 0]))]) hP hD [0] [] rfl rfl (by decide) (by decide) hk1 hFc hP1 hD1
  have hK := (hK.sub (tys' := []) [] rfl).app hK1
  generalize H1 = H at hP hS ⊢
  have hP : va_P (dC, dI) vwCl [(c0, .inr (3, [.ref c1, .ref c2, .int 0, .ref c3, .int 0, .ref c4, .ref c5, .ref c6, .ref c7, .ref c8, .int 0, .int 0, .ref c9, .int 0, .int 0, .int 0, .int 0, .long 0, .int 1, .int 0]))] H := hP
  have hD : va_D A [(c0, .inr (3, [.ref c1, .ref c2, .int 0, .ref c3, .int 0, .ref c4, .ref c5, .ref c6, .ref c7, .ref c8, .int 0, .int 0, .ref c9, .int 0, .int 0, .int 0, .int 0, .long 0, .int 1, .int 0]))] := hD
  have hK : va_K (dC, dI) vwCl [] s := hK
  refine W.widen (k := 0) (n := 0) (by decide +kernel) (by decide +kernel) ?_
  refine lv_iload_n hx hb dX2_takeOperand_173 rfl (lv_at hl 0 rfl) ?_
  have hP9 := hP.sub (ws' := [(c0, .inr (3, [.ref c1, .ref c2, .int 0, .ref c3, .int 0, .ref c4, .ref c5, .ref c6, .ref c7, .ref c8, .int 0, .int 0, .ref c9, .int 0, .int 0, .int 0, .int 0, .long 0, .int 1, .int 0]))]) [0] rfl
  have hD9 := hD.sub (ws' := [(c0, .inr (3, [.ref c1, .ref c2, .int 0, .ref c3, .int 0, .ref c4, .ref c5, .ref c6, .ref c7, .ref c8, .int 0, .int 0, .ref c9, .int 0, .int 0, .int 0, .int 0, .long 0, .int 1, .int 0]))]) [0] (by decide) rfl
  have hK9 := hK.sub (tys' := []) [] rfl
  refine W.widen (k := 0) (n := 0) (by decide +kernel) (by decide +kernel) ?_
  exact W.zret (v := 0) hx hb hr (by decide) (fun t ht hW => ⟨⟨0, (), rfl, rfl, by rw [ht]; exact hP9, va_K.moved hW.alike hK9, hD9⟩, hS.F ht⟩) hS.2.2 dX2_takeOperand_174
def ow_k_X2_read : List Cond := .code yX2_read cX2_read 4 none :: ([.methodLink RX2 70 yX2_next, .instanceMethod yX2_next, .selects RX2 yX2_next yX2_next, .initialized RX2, .fieldLink RX2 64 "TimeMachine$Condition" "fault" "I", .methodLink RX2 73 yX2_takeOperand, .instanceMethod yX2_takeOperand, .selects RX2 yX2_takeOperand yX2_takeOperand] ++ (u_ws RX2 TX2 20 ++ (ow_k_X2_next ++ (ow_k_X2_takeOperand ++ []))))
theorem gd_k_X2_read : ∀ w ∈ ow_k_X2_read, (w.onTables && w.keeps) = true ∨ ∃ ty, w = Cond.arrayClass ty := List.forall_mem_cons.mpr ⟨good_of_word rfl, List.forall_mem_append.mpr ⟨fun w h => good_of_word (List.all_eq_true.mp (by decide +kernel) w h), List.forall_mem_append.mpr ⟨gu_X2, List.forall_mem_append.mpr ⟨gd_k_X2_next, List.forall_mem_append.mpr ⟨gd_k_X2_takeOperand, fun _ h => nomatch h⟩⟩⟩⟩⟩
theorem hi_k_X2_read_X2 : ∀ w ∈ u_ws RX2 TX2 20, w ∈ ow_k_X2_read := fun w h => List.mem_cons_of_mem _ (List.mem_append_right _ (List.mem_append_left _ h))
theorem gi_k_X2_read_0 : GoodIn ow_k_X2_read (wsV RX2 70 RX2 yX2_next ow_k_X2_next) := goodIn_app (goodIn_of _ (by decide +kernel)) (fun w h => ⟨List.mem_cons_of_mem _ (List.mem_append_right _ (List.mem_append_right _ (List.mem_append_left _ h))), gd_k_X2_next w h⟩)
theorem gi_k_X2_read_1 : GoodIn ow_k_X2_read (wsV RX2 73 RX2 yX2_takeOperand ow_k_X2_takeOperand) := goodIn_app (goodIn_of _ (by decide +kernel)) (fun w h => ⟨List.mem_cons_of_mem _ (List.mem_append_right _ (List.mem_append_right _ (List.mem_append_right _ (List.mem_append_left _ h)))), gd_k_X2_takeOperand w h⟩)
set_option maxHeartbeats 40000000 in
set_option maxRecDepth 100000 in
theorem k_X2_read (l : Launch) (hlt : l.stackTraces = false) (dC : Nat → ClassId) (dI : Nat → Nat → Nat) (c0 : Nat) (c1 : Nat) (c2 : Nat) (c3 : Nat) (c4 : Nat) (c5 : Nat) (c6 : Nat) (c7 : Nat) (c8 : Nat) (c9 : Nat) (sz : Nat) : Met l yX2_read ow_k_X2_read ({ frames := 2, cells := 0, slots := 0, locals := 44 }) (va_Pc [.ref c0] (fun U => U.heap.size = sz ∧ va_P (dC, dI) vwCl [(c0, .inr (3, [.ref c1, .ref c2, .int 0, .ref c3, .int 0, .ref c4, .ref c5, .ref c6, .ref c7, .ref c8, .int 0, .int 0, .ref c9, .int 0, .int 0, .int 0, .int 0, .long 0, .int 0, .int 0]))] U.heap ∧ va_K (dC, dI) vwCl [] U ∧ va_D (fun _ => True) [(c0, .inr (3, [.ref c1, .ref c2, .int 0, .ref c3, .int 0, .ref c4, .ref c5, .ref c6, .ref c7, .ref c8, .int 0, .int 0, .ref c9, .int 0, .int 0, .int 0, .int 0, .long 0, .int 0, .int 0]))] ∧ nv_E (va_A [(c0, .inr (3, [.ref c1, .ref c2, .int 0, .ref c3, .int 0, .ref c4, .ref c5, .ref c6, .ref c7, .ref c8, .int 0, .int 0, .ref c9, .int 0, .int 0, .int 0, .int 0, .long 0, .int 0, .int 0]))] sz) U)) (va_Qv (fun _ => True) (fun (_ : Unit) t => va_P (dC, dI) vwCl [(c0, .inr (3, [.ref c1, .ref c2, .int 0, .ref c3, .int 0, .ref c4, .ref c5, .ref c6, .ref c7, .ref c8, .int 0, .int 0, .ref c9, .int 0, .int 0, .int 0, .int 0, .long 0, .int 1, .int 0]))] t.heap ∧ va_K (dC, dI) vwCl [] t ∧ va_D (va_A [(c0, .inr (3, [.ref c1, .ref c2, .int 0, .ref c3, .int 0, .ref c4, .ref c5, .ref c6, .ref c7, .ref c8, .int 0, .int 0, .ref c9, .int 0, .int 0, .int 0, .int 0, .long 0, .int 0, .int 0]))] sz) [(c0, .inr (3, [.ref c1, .ref c2, .int 0, .ref c3, .int 0, .ref c4, .ref c5, .ref c6, .ref c7, .ref c8, .int 0, .int 0, .ref c9, .int 0, .int 0, .int 0, .int 0, .long 0, .int 1, .int 0]))]) (va_A [(c0, .inr (3, [.ref c1, .ref c2, .int 0, .ref c3, .int 0, .ref c4, .ref c5, .ref c6, .ref c7, .ref c8, .int 0, .int 0, .ref c9, .int 0, .int 0, .int 0, .int 0, .long 0, .int 0, .int 0]))] sz)) 0 0 (va_A [(c0, .inr (3, [.ref c1, .ref c2, .int 0, .ref c3, .int 0, .ref c4, .ref c5, .ref c6, .ref c7, .ref c8, .int 0, .int 0, .ref c9, .int 0, .int 0, .int 0, .int 0, .long 0, .int 0, .int 0]))] sz) := by
  refine Met.ofW (cc := cX2_read) (maxL := 4) (ret := none) (by decide) rfl ?_
  intro p e s m args below meth c s₁ B hml hv
  obtain ⟨rfl, hsz, hP, hK, hD0, hN⟩ := hv
  have hx := B.exec
  have hb := B.bytes
  have hr := B.returns
  have hts := atoms_spec (ws := ow_k_X2_read) B.pre
  have hown : s.vm.findClass RX2 = some m.cls := findClass_of_methodNamed B.named
  have hlocks := B.notSynchronized
  subst hsz
  have hD := hD0.self (sz := s.heap.size)
  generalize hAe : va_A [(c0, .inr (3, [.ref c1, .ref c2, .int 0, .ref c3, .int 0, .ref c4, .ref c5, .ref c6, .ref c7, .ref c8, .int 0, .int 0, .ref c9, .int 0, .int 0, .int 0, .int 0, .long 0, .int 0, .int 0]))] s.heap.size = A at hD hN ⊢
  have hA : ∀ q : Nat, s.heap.size ≤ q → A q := fun q h => by rw [← hAe]; exact Or.inr h
  have hS : va_S A s.heap s.heap [] := va_S.rf
  have hl := lv_entry ([.ref c0]) (n := 4) (Nat.le_of_ble_eq_true rfl)
  rw [lg_entry_eq]
  generalize (lg_sl ([.ref c0]) ++ List.replicate (4 - (lg_sl ([.ref c0])).length) Slot.unset).toArray = ls at hl ⊢
  have hl : lv_has ls 4 [(0, .ref c0)] := hl
  refine lv_iconst (v := 1) hx hb dX2_read_0 (by decide) ?_
  refine lv_istore_n (lv' := [(1, .int 1), (0, .ref c0)]) hx hb dX2_read_1 rfl hl (by decide) rfl (fun ls hl => ?_)
  refine lv_iconst (v := 1) hx hb dX2_read_2 (by decide) ?_
  refine lv_istore_n (lv' := [(2, .int 1), (1, .int 1), (0, .ref c0)]) hx hb dX2_read_3 rfl hl (by decide) rfl (fun ls hl => ?_)
  refine lv_aload_n hx hb dX2_read_4 rfl (lv_at hl 2 rfl) ?_
  have hPc := hP.sub (ws' := [(c0, .inr (3, [.ref c1, .ref c2, .int 0, .ref c3, .int 0, .ref c4, .ref c5, .ref c6, .ref c7, .ref c8, .int 0, .int 0, .ref c9, .int 0, .int 0, .int 0, .int 0, .long 0, .int 0, .int 0]))]) [0] rfl
  have hDc := hD.sub (ws' := [(c0, .inr (3, [.ref c1, .ref c2, .int 0, .ref c3, .int 0, .ref c4, .ref c5, .ref c6, .ref c7, .ref c8, .int 0, .int 0, .ref c9, .int 0, .int 0, .int 0, .int 0, .long 0, .int 0, .int 0]))]) [0] (by decide) rfl
  have hKc := hK.sub (tys' := []) [] rfl
  have hFc := va_free (wc := [(c0, .inr (3, [.ref c1, .ref c2, .int 0, .ref c3, .int 0, .ref c4, .ref c5, .ref c6, .ref c7, .ref c8, .int 0, .int 0, .ref c9, .int 0, .int 0, .int 0, .int 0, .long 0, .int 0, .int 0]))]) hD hS hA [0] rfl
  refine va_callv (va_runV (As := []) (rest := []) ⟨hx, hb, hml, hown, hts⟩ (k_X2_next l hlt dC dI c0 c1 c2 c3 c4 c5 c6 c7 c8 c9  s.heap.size) (cwV 0 hts gi_k_X2_read_0 rfl rfl rfl (by decide +kernel) ⟨Nat.le_of_ble_eq_true rfl, Nat.le_of_ble_eq_true rfl⟩) ⟨fun a U g mk q => by obtain ⟨q0, q1, qP, qK, qD, qN⟩ := q; exact ⟨q0, q1, qP, va_K.moved (u := U) (U := U.calling g mk a) (Vm.Alike.refl U.vm) qK, qD, nv_same rfl rfl qN⟩, va_recv hKc hPc (ci := 3) (q0 := 0) rfl rfl, fun U hU hW => ⟨rfl, by rw [hU], by rw [hU]; exact hPc, va_K.moved hW.alike hKc, hDc.weaken (fun _ _ _ _ => trivial), nv_call hS hFc hU hW hN⟩⟩ rfl rfl hl.1 rfl (lv_room (Nat.le_of_ble_eq_true rfl)) dX2_read_5 ⟨by decide +kernel, by decide +kernel⟩) hS (fun q _ h => hFc q h) hFc (fun u t H1 locs ht hvm hw hB hz1 hk1 hS => ?_)
  obtain ⟨hP1, hK1, hD1⟩ := hB
  rw [ht] at hP1
  have hK1 := va_K.moved hvm.symm hK1
  obtain ⟨hP, hD⟩ := va_join (wr := []) (w1 := [(c0, .inr (3, [.ref c1, .ref c2, .int 0, .ref c3, .int 0, .ref c4, .ref c5, .ref c6, .ref c7, .ref c8, .int 0, .int 0, .ref c9, .int 0, .int 0, .int 0, .int 0, .long 0, .int 0, .int 0]))]) hP hD [0] [] rfl rfl (by decide) (by decide) hk1 hFc hP1 hD1
  have hK := (hK.sub (tys' := []) [] rfl).app hK1
  generalize H1 = H at hP hS ⊢
  have hP : va_P (dC, dI) vwCl [(c0, .inr (3, [.ref c1, .ref c2, .int 0, .ref c3, .int 0, .ref c4, .ref c5, .ref c6, .ref c7, .ref c8, .int 0, .int 0, .ref c9, .int 0, .int 0, .int 0, .int 0, .long 0, .int 0, .int 0]))] H := hP
  have hD : va_D A [(c0, .inr (3, [.ref c1, .ref c2, .int 0, .ref c3, .int 0, .ref c4, .ref c5, .ref c6, .ref c7, .ref c8, .int 0, .int 0, .ref c9, .int 0, .int 0, .int 0, .int 0, .long 0, .int 0, .int 0]))] := hD
  have hK : va_K (dC, dI) vwCl [] s := hK
  refine W.widen (k := 0) (n := 0) (by decide +kernel) (by decide +kernel) ?_
  refine lv_bipush (v := 121) hx hb dX2_read_8 (by decide) ?_
  refine lv_istore_n (lv' := [(3, .int 121), (2, .int 1), (1, .int 1), (0, .ref c0)]) hx hb dX2_read_10 rfl hl (by decide) rfl (fun ls hl => ?_)
  refine lv_iload_n hx hb dX2_read_11 rfl (lv_at hl 0 rfl) ?_
  refine lv_if_le (tgt := 78) hx hb dX2_read_12 (by decide) (fun h9 => absurd h9 (by decide)) (fun _ => ?_)
  refine lv_iload_n hx hb dX2_read_15 rfl (lv_at hl 1 rfl) ?_
  refine lv_if_eq (tgt := 78) hx hb dX2_read_16 (by decide) (fun h9 => absurd h9 (by decide)) (fun _ => ?_)
  refine lv_aload_n hx hb dX2_read_19 rfl (lv_at hl 3 rfl) ?_
  refine va_get (D := (dC, dI)) (ci := 3) (v := .int 0) (C := RX2) (T := TX2) (N := 20) hx hb hts hi_k_X2_read_X2 hown hK hP 0 rfl rfl 18 (by decide) (hts (.fieldLink RX2 64 "TimeMachine$Condition" "fault" "I") (List.mem_of_getElem? (i := 5) rfl)) (fun _ h9 => h9) rfl dX2_read_20 ?_
  refine lv_if_ne (tgt := 78) hx hb dX2_read_23 (by decide) (fun h9 => absurd h9 (by decide)) (fun _ => ?_)
  refine lv_iload_n hx hb dX2_read_26 rfl (lv_at hl 2 rfl) ?_
  refine lv_if_eq (tgt := 38) hx hb dX2_read_27 (by decide) (fun h9 => absurd h9 (by decide)) (fun _ => ?_)
  refine lv_aload_n hx hb dX2_read_30 rfl (lv_at hl 3 rfl) ?_
  have hPc := hP.sub (ws' := [(c0, .inr (3, [.ref c1, .ref c2, .int 0, .ref c3, .int 0, .ref c4, .ref c5, .ref c6, .ref c7, .ref c8, .int 0, .int 0, .ref c9, .int 0, .int 0, .int 0, .int 0, .long 0, .int 0, .int 0]))]) [0] rfl
  have hDc := hD.sub (ws' := [(c0, .inr (3, [.ref c1, .ref c2, .int 0, .ref c3, .int 0, .ref c4, .ref c5, .ref c6, .ref c7, .ref c8, .int 0, .int 0, .ref c9, .int 0, .int 0, .int 0, .int 0, .long 0, .int 0, .int 0]))]) [0] (by decide) rfl
  have hKc := hK.sub (tys' := []) [] rfl
  have hFc := va_free (wc := [(c0, .inr (3, [.ref c1, .ref c2, .int 0, .ref c3, .int 0, .ref c4, .ref c5, .ref c6, .ref c7, .ref c8, .int 0, .int 0, .ref c9, .int 0, .int 0, .int 0, .int 0, .long 0, .int 0, .int 0]))]) hD hS hA [0] rfl
  refine va_calli (va_runV (As := []) (rest := []) ⟨hx, hb, hml, hown, hts⟩ (k_X2_takeOperand l hlt dC dI c0 c1 c2 c3 c4 c5 c6 c7 c8 c9  H.size) (cwV 0 hts gi_k_X2_read_1 rfl rfl rfl (by decide +kernel) ⟨Nat.le_of_ble_eq_true rfl, Nat.le_of_ble_eq_true rfl⟩) ⟨fun a U g mk q => by obtain ⟨q0, q1, qP, qK, qD, qN⟩ := q; exact ⟨q0, q1, qP, va_K.moved (u := U) (U := U.calling g mk a) (Vm.Alike.refl U.vm) qK, qD, nv_same rfl rfl qN⟩, va_recv hKc hPc (ci := 3) (q0 := 0) rfl rfl, fun U hU hW => ⟨rfl, by rw [hU], by rw [hU]; exact hPc, va_K.moved hW.alike hKc, hDc.weaken (fun _ _ _ _ => trivial), nv_call hS hFc hU hW hN⟩⟩ rfl rfl hl.1 rfl (lv_room (Nat.le_of_ble_eq_true rfl)) dX2_read_31 ⟨by decide +kernel, by decide +kernel⟩) hS (fun q _ h => hFc q h) hFc (fun r2 u t H1 locs ht hvm hw hB hz1 hk1 hS => ?_)
  obtain ⟨hP1, hK1, hD1⟩ := hB
  rw [ht] at hP1
  have hK1 := va_K.moved hvm.symm hK1
  obtain rfl : r2 = 0 := hw
  obtain ⟨hP, hD⟩ := va_join (wr := []) (w1 := [(c0, .inr (3, [.ref c1, .ref c2, .int 0, .ref c3, .int 0, .ref c4, .ref c5, .ref c6, .ref c7, .ref c8, .int 0, .int 0, .ref c9, .int 0, .int 0, .int 0, .int 0, .long 0, .int 1, .int 0]))]) hP hD [0] [] rfl rfl (by decide) (by decide) hk1 hFc hP1 hD1
  have hK := (hK.sub (tys' := []) [] rfl).app hK1
  generalize H1 = H at hP hS ⊢
  have hP : va_P (dC, dI) vwCl [(c0, .inr (3, [.ref c1, .ref c2, .int 0, .ref c3, .int 0, .ref c4, .ref c5, .ref c6, .ref c7, .ref c8, .int 0, .int 0, .ref c9, .int 0, .int 0, .int 0, .int 0, .long 0, .int 1, .int 0]))] H := hP
  have hD : va_D A [(c0, .inr (3, [.ref c1, .ref c2, .int 0, .ref c3, .int 0, .ref c4, .ref c5, .ref c6, .ref c7, .ref c8, .int 0, .int 0, .ref c9, .int 0, .int 0, .int 0, .int 0, .long 0, .int 1, .int 0]))] := hD
  have hK : va_K (dC, dI) vwCl [] s := hK
  refine W.widen (k := 0) (n := 0) (by decide +kernel) (by decide +kernel) ?_
  refine lv_istore_n (lv' := [(1, .int 0), (3, .int 121), (2, .int 1), (0, .ref c0)]) hx hb dX2_read_34 rfl hl (by decide) rfl (fun ls hl => ?_)
  refine lv_goto (tgt := 72) hx hb dX2_read_35 (by decide) ?_
  refine lv_iinc (v := 120) (lv' := [(3, .int 120), (1, .int 0), (2, .int 1), (0, .ref c0)]) hx hb dX2_read_72 hl (k := 1) rfl (by decide) (by decide) rfl (fun ls hl => ?_)
  refine lv_goto (tgt := 11) hx hb dX2_read_75 (by decide) ?_
  refine lv_iload_n hx hb dX2_read_11 rfl (lv_at hl 0 rfl) ?_
  refine lv_if_le (tgt := 78) hx hb dX2_read_12 (by decide) (fun h9 => absurd h9 (by decide)) (fun _ => ?_)
  refine lv_iload_n hx hb dX2_read_15 rfl (lv_at hl 2 rfl) ?_
  refine lv_if_eq (tgt := 78) hx hb dX2_read_16 (by decide) (fun h9 => absurd h9 (by decide)) (fun _ => ?_)
  refine lv_aload_n hx hb dX2_read_19 rfl (lv_at hl 3 rfl) ?_
  refine va_get (D := (dC, dI)) (ci := 3) (v := .int 1) (C := RX2) (T := TX2) (N := 20) hx hb hts hi_k_X2_read_X2 hown hK hP 0 rfl rfl 18 (by decide) (hts (.fieldLink RX2 64 "TimeMachine$Condition" "fault" "I") (List.mem_of_getElem? (i := 5) rfl)) (fun _ h9 => h9) rfl dX2_read_20 ?_
  refine lv_if_ne (tgt := 78) hx hb dX2_read_23 (by decide) (fun _ => ?_) (fun h9 => absurd h9 (by decide))
  have hP9 := hP.sub (ws' := [(c0, .inr (3, [.ref c1, .ref c2, .int 0, .ref c3, .int 0, .ref c4, .ref c5, .ref c6, .ref c7, .ref c8, .int 0, .int 0, .ref c9, .int 0, .int 0, .int 0, .int 0, .long 0, .int 1, .int 0]))]) [0] rfl
  have hD9 := hD.sub (ws' := [(c0, .inr (3, [.ref c1, .ref c2, .int 0, .ref c3, .int 0, .ref c4, .ref c5, .ref c6, .ref c7, .ref c8, .int 0, .int 0, .ref c9, .int 0, .int 0, .int 0, .int 0, .long 0, .int 1, .int 0]))]) [0] (by decide) rfl
  have hK9 := hK.sub (tys' := []) [] rfl
  refine W.widen (k := 0) (n := 0) (by decide +kernel) (by decide +kernel) ?_
  exact W.vret hx hb hr (fun t ht hW => ⟨⟨(), rfl, trivial, by rw [ht]; exact hP9, va_K.moved hW.alike hK9, hD9⟩, hS.F ht⟩) hS.2.2 dX2_read_78
def ow_k_X2_compile : List Cond := .code yX2_compile cX2_compile 4 (some .int) :: ([.fieldLink RX2 35 "TimeMachine$Condition" "source" "[B", .methodLink RX2 39 Lib.Math.min.name, .static Lib.Math.min.name, .initialized "java/lang/Math", .code Lib.Math.min.name Lib.Math.min.code 2 (some .int), .fieldLink RX2 45 "TimeMachine$Condition" "stop" "I", .fieldLink RX2 49 "TimeMachine$Condition" "at" "I", .fieldLink RX2 52 "TimeMachine$Condition" "codes" "I", .fieldLink RX2 55 "TimeMachine$Condition" "top" "I", .fieldLink RX2 58 "TimeMachine$Condition" "olds" "I", .fieldLink RX2 61 "TimeMachine$Condition" "parts" "I", .fieldLink RX2 64 "TimeMachine$Condition" "fault" "I", .methodLink RX2 67 yX2_read, .instanceMethod yX2_read, .selects RX2 yX2_read yX2_read, .initialized RX2] ++ (u_ws RX2 TX2 20 ++ (ow_k_X2_read ++ [])))
theorem gd_k_X2_compile : ∀ w ∈ ow_k_X2_compile, (w.onTables && w.keeps) = true ∨ ∃ ty, w = Cond.arrayClass ty := List.forall_mem_cons.mpr ⟨good_of_word rfl, List.forall_mem_append.mpr ⟨fun w h => good_of_word (List.all_eq_true.mp (by decide +kernel) w h), List.forall_mem_append.mpr ⟨gu_X2, List.forall_mem_append.mpr ⟨gd_k_X2_read, fun _ h => nomatch h⟩⟩⟩⟩
theorem hi_k_X2_compile_X2 : ∀ w ∈ u_ws RX2 TX2 20, w ∈ ow_k_X2_compile := fun w h => List.mem_cons_of_mem _ (List.mem_append_right _ (List.mem_append_left _ h))
theorem gi_k_X2_compile_0 : GoodIn ow_k_X2_compile (wsV RX2 67 RX2 yX2_read ow_k_X2_read) := goodIn_app (goodIn_of _ (by decide +kernel)) (fun w h => ⟨List.mem_cons_of_mem _ (List.mem_append_right _ (List.mem_append_right _ (List.mem_append_left _ h))), gd_k_X2_read w h⟩)
