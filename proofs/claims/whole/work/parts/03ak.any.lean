set_option maxHeartbeats 40000000 in
set_option maxRecDepth 100000 in
theorem g_X7_placedShort (l : Launch) (hlt : l.stackTraces = false) (dC : Nat → ClassId) (dI : Nat → Nat → Nat) (v0 : Int32) (v1 : Int32) (sz : Nat) : Met l yX7_placedShort ow_g_X7_placedShort ({ frames := 1, cells := 0, slots := 0, locals := 23 }) (va_Pc [.int v0, .int v1] (fun U => U.heap.size = sz ∧ va_P (dC, dI) vwCl [] U.heap ∧ va_K (dC, dI) vwCl [] U ∧ va_D (fun _ => True) [] ∧ nv_E (va_A [] sz) U)) (va_Qi (fun r _ => ((v0 = 75) ∧ r = ((((((((((((v1 : Int32) >>> ((11 : Int32) &&& 31)) &&& 1) : Int32) <<< ((12 : Int32) &&& 31)) ||| (((((v1 : Int32) >>> ((4 : Int32) &&& 31)) &&& 1) : Int32) <<< ((11 : Int32) &&& 31))) ||| (((((v1 : Int32) >>> ((8 : Int32) &&& 31)) &&& 3) : Int32) <<< ((9 : Int32) &&& 31))) ||| (((((v1 : Int32) >>> ((10 : Int32) &&& 31)) &&& 1) : Int32) <<< ((8 : Int32) &&& 31))) ||| (((((v1 : Int32) >>> ((6 : Int32) &&& 31)) &&& 1) : Int32) <<< ((7 : Int32) &&& 31))) ||| (((((v1 : Int32) >>> ((7 : Int32) &&& 31)) &&& 1) : Int32) <<< ((6 : Int32) &&& 31))) ||| (((((v1 : Int32) >>> ((1 : Int32) &&& 31)) &&& 7) : Int32) <<< ((3 : Int32) &&& 31))) ||| (((((v1 : Int32) >>> ((5 : Int32) &&& 31)) &&& 1) : Int32) <<< ((2 : Int32) &&& 31)))) ∨ ((¬ v0 = 75) ∧ (v0 = 76) ∧ r = (((((((((v1 : Int32) >>> ((8 : Int32) &&& 31)) &&& 1) : Int32) <<< ((12 : Int32) &&& 31)) ||| (((((v1 : Int32) >>> ((3 : Int32) &&& 31)) &&& 3) : Int32) <<< ((10 : Int32) &&& 31))) ||| (((((v1 : Int32) >>> ((6 : Int32) &&& 31)) &&& 3) : Int32) <<< ((5 : Int32) &&& 31))) ||| (((((v1 : Int32) >>> ((1 : Int32) &&& 31)) &&& 3) : Int32) <<< ((3 : Int32) &&& 31))) ||| (((((v1 : Int32) >>> ((5 : Int32) &&& 31)) &&& 1) : Int32) <<< ((2 : Int32) &&& 31)))) ∨ ((¬ v0 = 75) ∧ (¬ v0 = 76) ∧ (v0 = 77) ∧ r = ((((((v1 : Int32) >>> ((5 : Int32) &&& 31)) &&& 1) : Int32) <<< ((12 : Int32) &&& 31)) ||| (((((v1 : Int32) >>> ((0 : Int32) &&& 31)) &&& 31) : Int32) <<< ((2 : Int32) &&& 31)))) ∨ ((¬ v0 = 75) ∧ (¬ v0 = 76) ∧ (¬ v0 = 77) ∧ (v0 = 78) ∧ r = ((((((v1 : Int32) >>> ((5 : Int32) &&& 31)) &&& 1) : Int32) <<< ((12 : Int32) &&& 31)) ||| (((((v1 : Int32) >>> ((0 : Int32) &&& 31)) &&& 31) : Int32) <<< ((2 : Int32) &&& 31)))) ∨ ((¬ v0 = 75) ∧ (¬ v0 = 76) ∧ (¬ v0 = 77) ∧ (¬ v0 = 78) ∧ (v0 = 79) ∧ r = 0) ∨ ((¬ v0 = 75) ∧ (¬ v0 = 76) ∧ (¬ v0 = 77) ∧ (¬ v0 = 78) ∧ (¬ v0 = 79) ∧ (v0 = 80) ∧ r = (((((((v1 : Int32) >>> ((5 : Int32) &&& 31)) &&& 1) : Int32) <<< ((12 : Int32) &&& 31)) ||| (((((v1 : Int32) >>> ((2 : Int32) &&& 31)) &&& 7) : Int32) <<< ((4 : Int32) &&& 31))) ||| (((((v1 : Int32) >>> ((6 : Int32) &&& 31)) &&& 3) : Int32) <<< ((2 : Int32) &&& 31)))) ∨ ((¬ v0 = 75) ∧ (¬ v0 = 76) ∧ (¬ v0 = 77) ∧ (¬ v0 = 78) ∧ (¬ v0 = 79) ∧ (¬ v0 = 80) ∧ (v0 = 81) ∧ r = ((((((v1 : Int32) >>> ((2 : Int32) &&& 31)) &&& 15) : Int32) <<< ((9 : Int32) &&& 31)) ||| (((((v1 : Int32) >>> ((6 : Int32) &&& 31)) &&& 3) : Int32) <<< ((7 : Int32) &&& 31)))) ∨ ((¬ v0 = 75) ∧ (¬ v0 = 76) ∧ (¬ v0 = 77) ∧ (¬ v0 = 78) ∧ (¬ v0 = 79) ∧ (¬ v0 = 80) ∧ (¬ v0 = 81) ∧ (v0 = 82) ∧ r = 0) ∨ ((¬ v0 = 75) ∧ (¬ v0 = 76) ∧ (¬ v0 = 77) ∧ (¬ v0 = 78) ∧ (¬ v0 = 79) ∧ (¬ v0 = 80) ∧ (¬ v0 = 81) ∧ (¬ v0 = 82) ∧ (v0 = 83) ∧ r = 0) ∨ ((¬ v0 = 75) ∧ (¬ v0 = 76) ∧ (¬ v0 = 77) ∧ (¬ v0 = 78) ∧ (¬ v0 = 79) ∧ (¬ v0 = 80) ∧ (¬ v0 = 81) ∧ (¬ v0 = 82) ∧ (¬ v0 = 83) ∧ (v0 = 84) ∧ r = 0) ∨ ((¬ v0 = 75) ∧ (¬ v0 = 76) ∧ (¬ v0 = 77) ∧ (¬ v0 = 78) ∧ (¬ v0 = 79) ∧ (¬ v0 = 80) ∧ (¬ v0 = 81) ∧ (¬ v0 = 82) ∧ (¬ v0 = 83) ∧ (¬ v0 = 84) ∧ (v0 = 85) ∧ r = 0) ∨ ((¬ v0 = 75) ∧ (¬ v0 = 76) ∧ (¬ v0 = 77) ∧ (¬ v0 = 78) ∧ (¬ v0 = 79) ∧ (¬ v0 = 80) ∧ (¬ v0 = 81) ∧ (¬ v0 = 82) ∧ (¬ v0 = 83) ∧ (¬ v0 = 84) ∧ (¬ v0 = 85) ∧ (v0 = 86) ∧ r = (((((v1 : Int32) >>> ((0 : Int32) &&& 31)) &&& 31) : Int32) <<< ((2 : Int32) &&& 31))) ∨ ((¬ v0 = 75) ∧ (¬ v0 = 76) ∧ (¬ v0 = 77) ∧ (¬ v0 = 78) ∧ (¬ v0 = 79) ∧ (¬ v0 = 80) ∧ (¬ v0 = 81) ∧ (¬ v0 = 82) ∧ (¬ v0 = 83) ∧ (¬ v0 = 84) ∧ (¬ v0 = 85) ∧ (¬ v0 = 86) ∧ (v0 = 87) ∧ r = (((((((v1 : Int32) >>> ((3 : Int32) &&& 31)) &&& 7) : Int32) <<< ((10 : Int32) &&& 31)) ||| (((((v1 : Int32) >>> ((2 : Int32) &&& 31)) &&& 1) : Int32) <<< ((6 : Int32) &&& 31))) ||| (((((v1 : Int32) >>> ((6 : Int32) &&& 31)) &&& 1) : Int32) <<< ((5 : Int32) &&& 31)))) ∨ ((¬ v0 = 75) ∧ (¬ v0 = 76) ∧ (¬ v0 = 77) ∧ (¬ v0 = 78) ∧ (¬ v0 = 79) ∧ (¬ v0 = 80) ∧ (¬ v0 = 81) ∧ (¬ v0 = 82) ∧ (¬ v0 = 83) ∧ (¬ v0 = 84) ∧ (¬ v0 = 85) ∧ (¬ v0 = 86) ∧ (¬ v0 = 87) ∧ (v0 = 88) ∧ r = ((((((((v1 : Int32) >>> ((4 : Int32) &&& 31)) &&& 3) : Int32) <<< ((11 : Int32) &&& 31)) ||| (((((v1 : Int32) >>> ((6 : Int32) &&& 31)) &&& 15) : Int32) <<< ((7 : Int32) &&& 31))) ||| (((((v1 : Int32) >>> ((2 : Int32) &&& 31)) &&& 1) : Int32) <<< ((6 : Int32) &&& 31))) ||| (((((v1 : Int32) >>> ((3 : Int32) &&& 31)) &&& 1) : Int32) <<< ((5 : Int32) &&& 31)))) ∨ ((¬ v0 = 75) ∧ (¬ v0 = 76) ∧ (¬ v0 = 77) ∧ (¬ v0 = 78) ∧ (¬ v0 = 79) ∧ (¬ v0 = 80) ∧ (¬ v0 = 81) ∧ (¬ v0 = 82) ∧ (¬ v0 = 83) ∧ (¬ v0 = 84) ∧ (¬ v0 = 85) ∧ (¬ v0 = 86) ∧ (¬ v0 = 87) ∧ (¬ v0 = 88) ∧ (v0 = 89) ∧ r = (((((((((v1 : Int32) >>> ((9 : Int32) &&& 31)) &&& 1) : Int32) <<< ((12 : Int32) &&& 31)) ||| (((((v1 : Int32) >>> ((4 : Int32) &&& 31)) &&& 1) : Int32) <<< ((6 : Int32) &&& 31))) ||| (((((v1 : Int32) >>> ((6 : Int32) &&& 31)) &&& 1) : Int32) <<< ((5 : Int32) &&& 31))) ||| (((((v1 : Int32) >>> ((7 : Int32) &&& 31)) &&& 3) : Int32) <<< ((3 : Int32) &&& 31))) ||| (((((v1 : Int32) >>> ((5 : Int32) &&& 31)) &&& 1) : Int32) <<< ((2 : Int32) &&& 31)))) ∨ ((¬ v0 = 75) ∧ (¬ v0 = 76) ∧ (¬ v0 = 77) ∧ (¬ v0 = 78) ∧ (¬ v0 = 79) ∧ (¬ v0 = 80) ∧ (¬ v0 = 81) ∧ (¬ v0 = 82) ∧ (¬ v0 = 83) ∧ (¬ v0 = 84) ∧ (¬ v0 = 85) ∧ (¬ v0 = 86) ∧ (¬ v0 = 87) ∧ (¬ v0 = 88) ∧ (¬ v0 = 89) ∧ r = 0) ∨ False) (fun (_ : Unit) t => va_P (dC, dI) vwCl [] t.heap ∧ va_K (dC, dI) vwCl [] t ∧ va_D (va_A [] sz) []) (va_A [] sz)) 0 0 (va_A [] sz) := by
  refine Met.ofW (cc := cX7_placedShort) (maxL := 2) (ret := (some .int)) (by decide) rfl ?_
  intro p e s m args below meth c s₁ B hml hv
  obtain ⟨rfl, hsz, hP, hK, hD0, hN⟩ := hv
  have hx := B.exec
  have hb := B.bytes
  have hr := B.returns
  have hts := atoms_spec (ws := ow_g_X7_placedShort) B.pre
  have hown : s.vm.findClass RX7 = some m.cls := findClass_of_methodNamed B.named
  have hlocks := B.notSynchronized
  subst hsz
  have hD := hD0.self (sz := s.heap.size)
  generalize hAe : va_A [] s.heap.size = A at hD hN ⊢
  have hA : ∀ q : Nat, s.heap.size ≤ q → A q := fun q h => by rw [← hAe]; exact Or.inr h
  have hS : va_S A s.heap s.heap [] := va_S.rf
  have hl := lv_entry ([.int v0, .int v1]) (n := 2) (Nat.le_of_ble_eq_true rfl)
  rw [lg_entry_eq]
  generalize (lg_sl ([.int v0, .int v1]) ++ List.replicate (2 - (lg_sl ([.int v0, .int v1])).length) Slot.unset).toArray = ls at hl ⊢
  have hl : lv_has ls 2 [(0, .int v0), (1, .int v1)] := hl
  refine lv_iload_n hx hb dX7_placedShort_0 rfl (lv_at hl 0 rfl) ?_
  by_cases c_1 : v0 = 75
  · refine lv_tableIn (off := 75) (tgt := 76) hx hb dX7_placedShort_1 (by rw [c_1]; decide) (by rw [c_1]; decide) (by rw [c_1]; decide) (by decide) ?_
    refine lv_iload_n hx hb dX7_placedShort_76 rfl (lv_at hl 1 rfl) ?_
    refine lv_bipush (v := 11) hx hb dX7_placedShort_77 (by decide) ?_
    refine lv_iconst (v := 1) hx hb dX7_placedShort_79 (by decide) ?_
    refine lv_bipush (v := 12) hx hb dX7_placedShort_80 (by decide) ?_
    have hPc := hP.sub (ws' := []) [] rfl
    have hDc := hD.sub (ws' := []) [] (by decide) rfl
    have hKc := hK.sub (tys' := []) [] rfl
    have hFc := va_free (wc := []) hD hS hA [] rfl
    refine va_calli (va_runS (As := [.int v1, .int 11, .int 1, .int 12]) (rest := []) ⟨hx, hb, hml, hown, hts⟩ (k_X7_part l hlt dC dI v1  s.heap.size) (cwS 4 hts gi_g_X7_placedShort_0 rfl rfl rfl (by decide +kernel) ⟨Nat.le_of_ble_eq_true rfl, Nat.le_of_ble_eq_true rfl⟩) ⟨fun a U g mk q => by obtain ⟨q0, q1, qP, qK, qD, qN⟩ := q; exact ⟨q0, q1, qP, va_K.moved (u := U) (U := U.calling g mk a) (Vm.Alike.refl U.vm) qK, qD, nv_same rfl rfl qN⟩, fun U hU hW => ⟨rfl, by rw [hU], by rw [hU]; exact hPc, va_K.moved hW.alike hKc, hDc.weaken (fun _ _ _ _ => trivial), nv_call hS hFc hU hW hN⟩⟩ rfl rfl hl.1 rfl (lv_room (Nat.le_of_ble_eq_true rfl)) dX7_placedShort_82 ⟨by decide +kernel, by decide +kernel⟩) hS (fun q _ h => hFc q h) hFc (fun r1 u t H1 locs ht hvm hw hB hz1 hk1 hS => ?_)
    obtain ⟨hP1, hK1, hD1⟩ := hB
    rw [ht] at hP1
    have hK1 := va_K.moved hvm.symm hK1
    obtain ⟨hP, hD⟩ := va_join (wr := []) (w1 := []) hP hD [] [] rfl rfl (by decide) (by decide) hk1 hFc hP1 hD1
    have hK := (hK.sub (tys' := []) [] rfl).app hK1
    generalize H1 = H at hP hS ⊢
    have hP : va_P (dC, dI) vwCl [] H := hP
    have hD : va_D A [] := hD
    have hK : va_K (dC, dI) vwCl [] s := hK
    refine W.widen (k := 0) (n := 0) (by decide +kernel) (by decide +kernel) ?_
    rcases hw with h9 | h9
    · subst h9
      refine lv_iload_n hx hb dX7_placedShort_85 rfl (lv_at hl 1 rfl) ?_
      refine lv_iconst (v := 4) hx hb dX7_placedShort_86 (by decide) ?_
      refine lv_iconst (v := 1) hx hb dX7_placedShort_87 (by decide) ?_
      refine lv_bipush (v := 11) hx hb dX7_placedShort_88 (by decide) ?_
      have hPc := hP.sub (ws' := []) [] rfl
      have hDc := hD.sub (ws' := []) [] (by decide) rfl
      have hKc := hK.sub (tys' := []) [] rfl
      have hFc := va_free (wc := []) hD hS hA [] rfl
      refine va_calli (va_runS (As := [.int v1, .int 4, .int 1, .int 11]) (rest := [.int (((((v1 : Int32) >>> ((11 : Int32) &&& 31)) &&& 1) : Int32) <<< ((12 : Int32) &&& 31))]) ⟨hx, hb, hml, hown, hts⟩ (k_X7_part_v1 l hlt dC dI v1  H.size) (cwS 4 hts gi_g_X7_placedShort_1 rfl rfl rfl (by decide +kernel) ⟨Nat.le_of_ble_eq_true rfl, Nat.le_of_ble_eq_true rfl⟩) ⟨fun a U g mk q => by obtain ⟨q0, q1, qP, qK, qD, qN⟩ := q; exact ⟨q0, q1, qP, va_K.moved (u := U) (U := U.calling g mk a) (Vm.Alike.refl U.vm) qK, qD, nv_same rfl rfl qN⟩, fun U hU hW => ⟨rfl, by rw [hU], by rw [hU]; exact hPc, va_K.moved hW.alike hKc, hDc.weaken (fun _ _ _ _ => trivial), nv_call hS hFc hU hW hN⟩⟩ rfl rfl hl.1 rfl (lv_room (Nat.le_of_ble_eq_true rfl)) dX7_placedShort_90 ⟨by decide +kernel, by decide +kernel⟩) hS (fun q _ h => hFc q h) hFc (fun r2 u t H1 locs ht hvm hw hB hz1 hk1 hS => ?_)
      obtain ⟨hP1, hK1, hD1⟩ := hB
      rw [ht] at hP1
      have hK1 := va_K.moved hvm.symm hK1
      obtain ⟨hP, hD⟩ := va_join (wr := []) (w1 := []) hP hD [] [] rfl rfl (by decide) (by decide) hk1 hFc hP1 hD1
      have hK := (hK.sub (tys' := []) [] rfl).app hK1
      generalize H1 = H at hP hS ⊢
      have hP : va_P (dC, dI) vwCl [] H := hP
      have hD : va_D A [] := hD
      have hK : va_K (dC, dI) vwCl [] s := hK
      refine W.widen (k := 0) (n := 0) (by decide +kernel) (by decide +kernel) ?_
      rcases hw with h9 | h9
      · subst h9
        refine lv_ior hx hb dX7_placedShort_93 ?_
        refine lv_iload_n hx hb dX7_placedShort_94 rfl (lv_at hl 1 rfl) ?_
        refine lv_bipush (v := 8) hx hb dX7_placedShort_95 (by decide) ?_
        refine lv_iconst (v := 2) hx hb dX7_placedShort_97 (by decide) ?_
        refine lv_bipush (v := 9) hx hb dX7_placedShort_98 (by decide) ?_
        have hPc := hP.sub (ws' := []) [] rfl
        have hDc := hD.sub (ws' := []) [] (by decide) rfl
        have hKc := hK.sub (tys' := []) [] rfl
        have hFc := va_free (wc := []) hD hS hA [] rfl
        refine va_calli (va_runS (As := [.int v1, .int 8, .int 2, .int 9]) (rest := [.int ((((((v1 : Int32) >>> ((11 : Int32) &&& 31)) &&& 1) : Int32) <<< ((12 : Int32) &&& 31)) ||| (((((v1 : Int32) >>> ((4 : Int32) &&& 31)) &&& 1) : Int32) <<< ((11 : Int32) &&& 31)))]) ⟨hx, hb, hml, hown, hts⟩ (k_X7_part_v2 l hlt dC dI v1  H.size) (cwS 4 hts gi_g_X7_placedShort_2 rfl rfl rfl (by decide +kernel) ⟨Nat.le_of_ble_eq_true rfl, Nat.le_of_ble_eq_true rfl⟩) ⟨fun a U g mk q => by obtain ⟨q0, q1, qP, qK, qD, qN⟩ := q; exact ⟨q0, q1, qP, va_K.moved (u := U) (U := U.calling g mk a) (Vm.Alike.refl U.vm) qK, qD, nv_same rfl rfl qN⟩, fun U hU hW => ⟨rfl, by rw [hU], by rw [hU]; exact hPc, va_K.moved hW.alike hKc, hDc.weaken (fun _ _ _ _ => trivial), nv_call hS hFc hU hW hN⟩⟩ rfl rfl hl.1 rfl (lv_room (Nat.le_of_ble_eq_true rfl)) dX7_placedShort_100 ⟨by decide +kernel, by decide +kernel⟩) hS (fun q _ h => hFc q h) hFc (fun r3 u t H1 locs ht hvm hw hB hz1 hk1 hS => ?_)
        obtain ⟨hP1, hK1, hD1⟩ := hB
        rw [ht] at hP1
        have hK1 := va_K.moved hvm.symm hK1
        obtain ⟨hP, hD⟩ := va_join (wr := []) (w1 := []) hP hD [] [] rfl rfl (by decide) (by decide) hk1 hFc hP1 hD1
        have hK := (hK.sub (tys' := []) [] rfl).app hK1
        generalize H1 = H at hP hS ⊢
        have hP : va_P (dC, dI) vwCl [] H := hP
        have hD : va_D A [] := hD
        have hK : va_K (dC, dI) vwCl [] s := hK
        refine W.widen (k := 0) (n := 0) (by decide +kernel) (by decide +kernel) ?_
        rcases hw with h9 | h9
        · subst h9
          refine lv_ior hx hb dX7_placedShort_103 ?_
          refine lv_iload_n hx hb dX7_placedShort_104 rfl (lv_at hl 1 rfl) ?_
          refine lv_bipush (v := 10) hx hb dX7_placedShort_105 (by decide) ?_
          refine lv_iconst (v := 1) hx hb dX7_placedShort_107 (by decide) ?_
          refine lv_bipush (v := 8) hx hb dX7_placedShort_108 (by decide) ?_
          have hPc := hP.sub (ws' := []) [] rfl
          have hDc := hD.sub (ws' := []) [] (by decide) rfl
          have hKc := hK.sub (tys' := []) [] rfl
          have hFc := va_free (wc := []) hD hS hA [] rfl
          refine va_calli (va_runS (As := [.int v1, .int 10, .int 1, .int 8]) (rest := [.int (((((((v1 : Int32) >>> ((11 : Int32) &&& 31)) &&& 1) : Int32) <<< ((12 : Int32) &&& 31)) ||| (((((v1 : Int32) >>> ((4 : Int32) &&& 31)) &&& 1) : Int32) <<< ((11 : Int32) &&& 31))) ||| (((((v1 : Int32) >>> ((8 : Int32) &&& 31)) &&& 3) : Int32) <<< ((9 : Int32) &&& 31)))]) ⟨hx, hb, hml, hown, hts⟩ (k_X7_part_v3 l hlt dC dI v1  H.size) (cwS 4 hts gi_g_X7_placedShort_3 rfl rfl rfl (by decide +kernel) ⟨Nat.le_of_ble_eq_true rfl, Nat.le_of_ble_eq_true rfl⟩) ⟨fun a U g mk q => by obtain ⟨q0, q1, qP, qK, qD, qN⟩ := q; exact ⟨q0, q1, qP, va_K.moved (u := U) (U := U.calling g mk a) (Vm.Alike.refl U.vm) qK, qD, nv_same rfl rfl qN⟩, fun U hU hW => ⟨rfl, by rw [hU], by rw [hU]; exact hPc, va_K.moved hW.alike hKc, hDc.weaken (fun _ _ _ _ => trivial), nv_call hS hFc hU hW hN⟩⟩ rfl rfl hl.1 rfl (lv_room (Nat.le_of_ble_eq_true rfl)) dX7_placedShort_110 ⟨by decide +kernel, by decide +kernel⟩) hS (fun q _ h => hFc q h) hFc (fun r4 u t H1 locs ht hvm hw hB hz1 hk1 hS => ?_)
          obtain ⟨hP1, hK1, hD1⟩ := hB
          rw [ht] at hP1
          have hK1 := va_K.moved hvm.symm hK1
          obtain ⟨hP, hD⟩ := va_join (wr := []) (w1 := []) hP hD [] [] rfl rfl (by decide) (by decide) hk1 hFc hP1 hD1
          have hK := (hK.sub (tys' := []) [] rfl).app hK1
          generalize H1 = H at hP hS ⊢
          have hP : va_P (dC, dI) vwCl [] H := hP
          have hD : va_D A [] := hD
          have hK : va_K (dC, dI) vwCl [] s := hK
          refine W.widen (k := 0) (n := 0) (by decide +kernel) (by decide +kernel) ?_
          rcases hw with h9 | h9
          · subst h9
            refine lv_ior hx hb dX7_placedShort_113 ?_
            refine lv_iload_n hx hb dX7_placedShort_114 rfl (lv_at hl 1 rfl) ?_
            refine lv_bipush (v := 6) hx hb dX7_placedShort_115 (by decide) ?_
            refine lv_iconst (v := 1) hx hb dX7_placedShort_117 (by decide) ?_
            refine lv_bipush (v := 7) hx hb dX7_placedShort_118 (by decide) ?_
            have hPc := hP.sub (ws' := []) [] rfl
            have hDc := hD.sub (ws' := []) [] (by decide) rfl
            have hKc := hK.sub (tys' := []) [] rfl
            have hFc := va_free (wc := []) hD hS hA [] rfl
            refine va_calli (va_runS (As := [.int v1, .int 6, .int 1, .int 7]) (rest := [.int ((((((((v1 : Int32) >>> ((11 : Int32) &&& 31)) &&& 1) : Int32) <<< ((12 : Int32) &&& 31)) ||| (((((v1 : Int32) >>> ((4 : Int32) &&& 31)) &&& 1) : Int32) <<< ((11 : Int32) &&& 31))) ||| (((((v1 : Int32) >>> ((8 : Int32) &&& 31)) &&& 3) : Int32) <<< ((9 : Int32) &&& 31))) ||| (((((v1 : Int32) >>> ((10 : Int32) &&& 31)) &&& 1) : Int32) <<< ((8 : Int32) &&& 31)))]) ⟨hx, hb, hml, hown, hts⟩ (k_X7_part_v4 l hlt dC dI v1  H.size) (cwS 4 hts gi_g_X7_placedShort_4 rfl rfl rfl (by decide +kernel) ⟨Nat.le_of_ble_eq_true rfl, Nat.le_of_ble_eq_true rfl⟩) ⟨fun a U g mk q => by obtain ⟨q0, q1, qP, qK, qD, qN⟩ := q; exact ⟨q0, q1, qP, va_K.moved (u := U) (U := U.calling g mk a) (Vm.Alike.refl U.vm) qK, qD, nv_same rfl rfl qN⟩, fun U hU hW => ⟨rfl, by rw [hU], by rw [hU]; exact hPc, va_K.moved hW.alike hKc, hDc.weaken (fun _ _ _ _ => trivial), nv_call hS hFc hU hW hN⟩⟩ rfl rfl hl.1 rfl (lv_room (Nat.le_of_ble_eq_true rfl)) dX7_placedShort_120 ⟨by decide +kernel, by decide +kernel⟩) hS (fun q _ h => hFc q h) hFc (fun r5 u t H1 locs ht hvm hw hB hz1 hk1 hS => ?_)
            obtain ⟨hP1, hK1, hD1⟩ := hB
            rw [ht] at hP1
            have hK1 := va_K.moved hvm.symm hK1
            obtain ⟨hP, hD⟩ := va_join (wr := []) (w1 := []) hP hD [] [] rfl rfl (by decide) (by decide) hk1 hFc hP1 hD1
            have hK := (hK.sub (tys' := []) [] rfl).app hK1
            generalize H1 = H at hP hS ⊢
            have hP : va_P (dC, dI) vwCl [] H := hP
            have hD : va_D A [] := hD
            have hK : va_K (dC, dI) vwCl [] s := hK
            refine W.widen (k := 0) (n := 0) (by decide +kernel) (by decide +kernel) ?_
            rcases hw with h9 | h9
            · subst h9
              refine lv_ior hx hb dX7_placedShort_123 ?_
              refine lv_iload_n hx hb dX7_placedShort_124 rfl (lv_at hl 1 rfl) ?_
              refine lv_bipush (v := 7) hx hb dX7_placedShort_125 (by decide) ?_
              refine lv_iconst (v := 1) hx hb dX7_placedShort_127 (by decide) ?_
              refine lv_bipush (v := 6) hx hb dX7_placedShort_128 (by decide) ?_
              have hPc := hP.sub (ws' := []) [] rfl
              have hDc := hD.sub (ws' := []) [] (by decide) rfl
              have hKc := hK.sub (tys' := []) [] rfl
              have hFc := va_free (wc := []) hD hS hA [] rfl
              refine va_calli (va_runS (As := [.int v1, .int 7, .int 1, .int 6]) (rest := [.int (((((((((v1 : Int32) >>> ((11 : Int32) &&& 31)) &&& 1) : Int32) <<< ((12 : Int32) &&& 31)) ||| (((((v1 : Int32) >>> ((4 : Int32) &&& 31)) &&& 1) : Int32) <<< ((11 : Int32) &&& 31))) ||| (((((v1 : Int32) >>> ((8 : Int32) &&& 31)) &&& 3) : Int32) <<< ((9 : Int32) &&& 31))) ||| (((((v1 : Int32) >>> ((10 : Int32) &&& 31)) &&& 1) : Int32) <<< ((8 : Int32) &&& 31))) ||| (((((v1 : Int32) >>> ((6 : Int32) &&& 31)) &&& 1) : Int32) <<< ((7 : Int32) &&& 31)))]) ⟨hx, hb, hml, hown, hts⟩ (k_X7_part_v5 l hlt dC dI v1  H.size) (cwS 4 hts gi_g_X7_placedShort_5 rfl rfl rfl (by decide +kernel) ⟨Nat.le_of_ble_eq_true rfl, Nat.le_of_ble_eq_true rfl⟩) ⟨fun a U g mk q => by obtain ⟨q0, q1, qP, qK, qD, qN⟩ := q; exact ⟨q0, q1, qP, va_K.moved (u := U) (U := U.calling g mk a) (Vm.Alike.refl U.vm) qK, qD, nv_same rfl rfl qN⟩, fun U hU hW => ⟨rfl, by rw [hU], by rw [hU]; exact hPc, va_K.moved hW.alike hKc, hDc.weaken (fun _ _ _ _ => trivial), nv_call hS hFc hU hW hN⟩⟩ rfl rfl hl.1 rfl (lv_room (Nat.le_of_ble_eq_true rfl)) dX7_placedShort_130 ⟨by decide +kernel, by decide +kernel⟩) hS (fun q _ h => hFc q h) hFc (fun r6 u t H1 locs ht hvm hw hB hz1 hk1 hS => ?_)
              obtain ⟨hP1, hK1, hD1⟩ := hB
              rw [ht] at hP1
              have hK1 := va_K.moved hvm.symm hK1
              obtain ⟨hP, hD⟩ := va_join (wr := []) (w1 := []) hP hD [] [] rfl rfl (by decide) (by decide) hk1 hFc hP1 hD1
              have hK := (hK.sub (tys' := []) [] rfl).app hK1
              generalize H1 = H at hP hS ⊢
              have hP : va_P (dC, dI) vwCl [] H := hP
              have hD : va_D A [] := hD
              have hK : va_K (dC, dI) vwCl [] s := hK
              refine W.widen (k := 0) (n := 0) (by decide +kernel) (by decide +kernel) ?_
              rcases hw with h9 | h9
              · subst h9
                refine lv_ior hx hb dX7_placedShort_133 ?_
                refine lv_iload_n hx hb dX7_placedShort_134 rfl (lv_at hl 1 rfl) ?_
                refine lv_iconst (v := 1) hx hb dX7_placedShort_135 (by decide) ?_
                refine lv_iconst (v := 3) hx hb dX7_placedShort_136 (by decide) ?_
                refine lv_iconst (v := 3) hx hb dX7_placedShort_137 (by decide) ?_
                have hPc := hP.sub (ws' := []) [] rfl
                have hDc := hD.sub (ws' := []) [] (by decide) rfl
                have hKc := hK.sub (tys' := []) [] rfl
                have hFc := va_free (wc := []) hD hS hA [] rfl
                refine va_calli (va_runS (As := [.int v1, .int 1, .int 3, .int 3]) (rest := [.int ((((((((((v1 : Int32) >>> ((11 : Int32) &&& 31)) &&& 1) : Int32) <<< ((12 : Int32) &&& 31)) ||| (((((v1 : Int32) >>> ((4 : Int32) &&& 31)) &&& 1) : Int32) <<< ((11 : Int32) &&& 31))) ||| (((((v1 : Int32) >>> ((8 : Int32) &&& 31)) &&& 3) : Int32) <<< ((9 : Int32) &&& 31))) ||| (((((v1 : Int32) >>> ((10 : Int32) &&& 31)) &&& 1) : Int32) <<< ((8 : Int32) &&& 31))) ||| (((((v1 : Int32) >>> ((6 : Int32) &&& 31)) &&& 1) : Int32) <<< ((7 : Int32) &&& 31))) ||| (((((v1 : Int32) >>> ((7 : Int32) &&& 31)) &&& 1) : Int32) <<< ((6 : Int32) &&& 31)))]) ⟨hx, hb, hml, hown, hts⟩ (k_X7_part_v6 l hlt dC dI v1  H.size) (cwS 4 hts gi_g_X7_placedShort_6 rfl rfl rfl (by decide +kernel) ⟨Nat.le_of_ble_eq_true rfl, Nat.le_of_ble_eq_true rfl⟩) ⟨fun a U g mk q => by obtain ⟨q0, q1, qP, qK, qD, qN⟩ := q; exact ⟨q0, q1, qP, va_K.moved (u := U) (U := U.calling g mk a) (Vm.Alike.refl U.vm) qK, qD, nv_same rfl rfl qN⟩, fun U hU hW => ⟨rfl, by rw [hU], by rw [hU]; exact hPc, va_K.moved hW.alike hKc, hDc.weaken (fun _ _ _ _ => trivial), nv_call hS hFc hU hW hN⟩⟩ rfl rfl hl.1 rfl (lv_room (Nat.le_of_ble_eq_true rfl)) dX7_placedShort_138 ⟨by decide +kernel, by decide +kernel⟩) hS (fun q _ h => hFc q h) hFc (fun r7 u t H1 locs ht hvm hw hB hz1 hk1 hS => ?_)
                obtain ⟨hP1, hK1, hD1⟩ := hB
                rw [ht] at hP1
                have hK1 := va_K.moved hvm.symm hK1
                obtain ⟨hP, hD⟩ := va_join (wr := []) (w1 := []) hP hD [] [] rfl rfl (by decide) (by decide) hk1 hFc hP1 hD1
                have hK := (hK.sub (tys' := []) [] rfl).app hK1
                generalize H1 = H at hP hS ⊢
                have hP : va_P (dC, dI) vwCl [] H := hP
                have hD : va_D A [] := hD
                have hK : va_K (dC, dI) vwCl [] s := hK
                refine W.widen (k := 0) (n := 0) (by decide +kernel) (by decide +kernel) ?_
                rcases hw with h9 | h9
                · subst h9
                  refine lv_ior hx hb dX7_placedShort_141 ?_
                  refine lv_iload_n hx hb dX7_placedShort_142 rfl (lv_at hl 1 rfl) ?_
                  refine lv_iconst (v := 5) hx hb dX7_placedShort_143 (by decide) ?_
                  refine lv_iconst (v := 1) hx hb dX7_placedShort_144 (by decide) ?_
                  refine lv_iconst (v := 2) hx hb dX7_placedShort_145 (by decide) ?_
                  have hPc := hP.sub (ws' := []) [] rfl
                  have hDc := hD.sub (ws' := []) [] (by decide) rfl
                  have hKc := hK.sub (tys' := []) [] rfl
                  have hFc := va_free (wc := []) hD hS hA [] rfl
                  refine va_calli (va_runS (As := [.int v1, .int 5, .int 1, .int 2]) (rest := [.int (((((((((((v1 : Int32) >>> ((11 : Int32) &&& 31)) &&& 1) : Int32) <<< ((12 : Int32) &&& 31)) ||| (((((v1 : Int32) >>> ((4 : Int32) &&& 31)) &&& 1) : Int32) <<< ((11 : Int32) &&& 31))) ||| (((((v1 : Int32) >>> ((8 : Int32) &&& 31)) &&& 3) : Int32) <<< ((9 : Int32) &&& 31))) ||| (((((v1 : Int32) >>> ((10 : Int32) &&& 31)) &&& 1) : Int32) <<< ((8 : Int32) &&& 31))) ||| (((((v1 : Int32) >>> ((6 : Int32) &&& 31)) &&& 1) : Int32) <<< ((7 : Int32) &&& 31))) ||| (((((v1 : Int32) >>> ((7 : Int32) &&& 31)) &&& 1) : Int32) <<< ((6 : Int32) &&& 31))) ||| (((((v1 : Int32) >>> ((1 : Int32) &&& 31)) &&& 7) : Int32) <<< ((3 : Int32) &&& 31)))]) ⟨hx, hb, hml, hown, hts⟩ (k_X7_part_v7 l hlt dC dI v1  H.size) (cwS 4 hts gi_g_X7_placedShort_7 rfl rfl rfl (by decide +kernel) ⟨Nat.le_of_ble_eq_true rfl, Nat.le_of_ble_eq_true rfl⟩) ⟨fun a U g mk q => by obtain ⟨q0, q1, qP, qK, qD, qN⟩ := q; exact ⟨q0, q1, qP, va_K.moved (u := U) (U := U.calling g mk a) (Vm.Alike.refl U.vm) qK, qD, nv_same rfl rfl qN⟩, fun U hU hW => ⟨rfl, by rw [hU], by rw [hU]; exact hPc, va_K.moved hW.alike hKc, hDc.weaken (fun _ _ _ _ => trivial), nv_call hS hFc hU hW hN⟩⟩ rfl rfl hl.1 rfl (lv_room (Nat.le_of_ble_eq_true rfl)) dX7_placedShort_146 ⟨by decide +kernel, by decide +kernel⟩) hS (fun q _ h => hFc q h) hFc (fun r8 u t H1 locs ht hvm hw hB hz1 hk1 hS => ?_)
                  obtain ⟨hP1, hK1, hD1⟩ := hB
                  rw [ht] at hP1
                  have hK1 := va_K.moved hvm.symm hK1
                  obtain ⟨hP, hD⟩ := va_join (wr := []) (w1 := []) hP hD [] [] rfl rfl (by decide) (by decide) hk1 hFc hP1 hD1
                  have hK := (hK.sub (tys' := []) [] rfl).app hK1
                  generalize H1 = H at hP hS ⊢
                  have hP : va_P (dC, dI) vwCl [] H := hP
                  have hD : va_D A [] := hD
                  have hK : va_K (dC, dI) vwCl [] s := hK
                  refine W.widen (k := 0) (n := 0) (by decide +kernel) (by decide +kernel) ?_
                  rcases hw with h9 | h9
                  · subst h9
                    refine lv_ior hx hb dX7_placedShort_149 ?_
                    refine W.widen (k := 0) (n := 0) (by decide +kernel) (by decide +kernel) ?_
                    exact W.iret (v := ((((((((((((v1 : Int32) >>> ((11 : Int32) &&& 31)) &&& 1) : Int32) <<< ((12 : Int32) &&& 31)) ||| (((((v1 : Int32) >>> ((4 : Int32) &&& 31)) &&& 1) : Int32) <<< ((11 : Int32) &&& 31))) ||| (((((v1 : Int32) >>> ((8 : Int32) &&& 31)) &&& 3) : Int32) <<< ((9 : Int32) &&& 31))) ||| (((((v1 : Int32) >>> ((10 : Int32) &&& 31)) &&& 1) : Int32) <<< ((8 : Int32) &&& 31))) ||| (((((v1 : Int32) >>> ((6 : Int32) &&& 31)) &&& 1) : Int32) <<< ((7 : Int32) &&& 31))) ||| (((((v1 : Int32) >>> ((7 : Int32) &&& 31)) &&& 1) : Int32) <<< ((6 : Int32) &&& 31))) ||| (((((v1 : Int32) >>> ((1 : Int32) &&& 31)) &&& 7) : Int32) <<< ((3 : Int32) &&& 31))) ||| (((((v1 : Int32) >>> ((5 : Int32) &&& 31)) &&& 1) : Int32) <<< ((2 : Int32) &&& 31)))) hx hb hr (fun t ht hW => ⟨⟨((((((((((((v1 : Int32) >>> ((11 : Int32) &&& 31)) &&& 1) : Int32) <<< ((12 : Int32) &&& 31)) ||| (((((v1 : Int32) >>> ((4 : Int32) &&& 31)) &&& 1) : Int32) <<< ((11 : Int32) &&& 31))) ||| (((((v1 : Int32) >>> ((8 : Int32) &&& 31)) &&& 3) : Int32) <<< ((9 : Int32) &&& 31))) ||| (((((v1 : Int32) >>> ((10 : Int32) &&& 31)) &&& 1) : Int32) <<< ((8 : Int32) &&& 31))) ||| (((((v1 : Int32) >>> ((6 : Int32) &&& 31)) &&& 1) : Int32) <<< ((7 : Int32) &&& 31))) ||| (((((v1 : Int32) >>> ((7 : Int32) &&& 31)) &&& 1) : Int32) <<< ((6 : Int32) &&& 31))) ||| (((((v1 : Int32) >>> ((1 : Int32) &&& 31)) &&& 7) : Int32) <<< ((3 : Int32) &&& 31))) ||| (((((v1 : Int32) >>> ((5 : Int32) &&& 31)) &&& 1) : Int32) <<< ((2 : Int32) &&& 31))), (), rfl, Or.inl ⟨c_1, rfl⟩, by rw [ht]; exact hP, va_K.moved hW.alike hK, hD⟩, hS.F ht⟩) hS.2.2 dX7_placedShort_150
                  · exact h9.elim
                · exact h9.elim
              · exact h9.elim
            · exact h9.elim
          · exact h9.elim
        · exact h9.elim
      · exact h9.elim
    · exact h9.elim
  by_cases c_10 : v0 = 76
  · refine lv_tableIn (off := 150) (tgt := 151) hx hb dX7_placedShort_1 (by rw [c_10]; decide) (by rw [c_10]; decide) (by rw [c_10]; decide) (by decide) ?_
    refine lv_iload_n hx hb dX7_placedShort_151 rfl (lv_at hl 1 rfl) ?_
    refine lv_bipush (v := 8) hx hb dX7_placedShort_152 (by decide) ?_
    refine lv_iconst (v := 1) hx hb dX7_placedShort_154 (by decide) ?_
    refine lv_bipush (v := 12) hx hb dX7_placedShort_155 (by decide) ?_
    have hPc := hP.sub (ws' := []) [] rfl
    have hDc := hD.sub (ws' := []) [] (by decide) rfl
    have hKc := hK.sub (tys' := []) [] rfl
    have hFc := va_free (wc := []) hD hS hA [] rfl
    refine va_calli (va_runS (As := [.int v1, .int 8, .int 1, .int 12]) (rest := []) ⟨hx, hb, hml, hown, hts⟩ (k_X7_part_v8 l hlt dC dI v1  s.heap.size) (cwS 4 hts gi_g_X7_placedShort_8 rfl rfl rfl (by decide +kernel) ⟨Nat.le_of_ble_eq_true rfl, Nat.le_of_ble_eq_true rfl⟩) ⟨fun a U g mk q => by obtain ⟨q0, q1, qP, qK, qD, qN⟩ := q; exact ⟨q0, q1, qP, va_K.moved (u := U) (U := U.calling g mk a) (Vm.Alike.refl U.vm) qK, qD, nv_same rfl rfl qN⟩, fun U hU hW => ⟨rfl, by rw [hU], by rw [hU]; exact hPc, va_K.moved hW.alike hKc, hDc.weaken (fun _ _ _ _ => trivial), nv_call hS hFc hU hW hN⟩⟩ rfl rfl hl.1 rfl (lv_room (Nat.le_of_ble_eq_true rfl)) dX7_placedShort_157 ⟨by decide +kernel, by decide +kernel⟩) hS (fun q _ h => hFc q h) hFc (fun r9 u t H1 locs ht hvm hw hB hz1 hk1 hS => ?_)
    obtain ⟨hP1, hK1, hD1⟩ := hB
    rw [ht] at hP1
    have hK1 := va_K.moved hvm.symm hK1
    obtain ⟨hP, hD⟩ := va_join (wr := []) (w1 := []) hP hD [] [] rfl rfl (by decide) (by decide) hk1 hFc hP1 hD1
    have hK := (hK.sub (tys' := []) [] rfl).app hK1
    generalize H1 = H at hP hS ⊢
    have hP : va_P (dC, dI) vwCl [] H := hP
    have hD : va_D A [] := hD
    have hK : va_K (dC, dI) vwCl [] s := hK
    refine W.widen (k := 0) (n := 0) (by decide +kernel) (by decide +kernel) ?_
    rcases hw with h9 | h9
    · subst h9
      refine lv_iload_n hx hb dX7_placedShort_160 rfl (lv_at hl 1 rfl) ?_
      refine lv_iconst (v := 3) hx hb dX7_placedShort_161 (by decide) ?_
      refine lv_iconst (v := 2) hx hb dX7_placedShort_162 (by decide) ?_
      refine lv_bipush (v := 10) hx hb dX7_placedShort_163 (by decide) ?_
      have hPc := hP.sub (ws' := []) [] rfl
      have hDc := hD.sub (ws' := []) [] (by decide) rfl
      have hKc := hK.sub (tys' := []) [] rfl
      have hFc := va_free (wc := []) hD hS hA [] rfl
      refine va_calli (va_runS (As := [.int v1, .int 3, .int 2, .int 10]) (rest := [.int (((((v1 : Int32) >>> ((8 : Int32) &&& 31)) &&& 1) : Int32) <<< ((12 : Int32) &&& 31))]) ⟨hx, hb, hml, hown, hts⟩ (k_X7_part_v9 l hlt dC dI v1  H.size) (cwS 4 hts gi_g_X7_placedShort_9 rfl rfl rfl (by decide +kernel) ⟨Nat.le_of_ble_eq_true rfl, Nat.le_of_ble_eq_true rfl⟩) ⟨fun a U g mk q => by obtain ⟨q0, q1, qP, qK, qD, qN⟩ := q; exact ⟨q0, q1, qP, va_K.moved (u := U) (U := U.calling g mk a) (Vm.Alike.refl U.vm) qK, qD, nv_same rfl rfl qN⟩, fun U hU hW => ⟨rfl, by rw [hU], by rw [hU]; exact hPc, va_K.moved hW.alike hKc, hDc.weaken (fun _ _ _ _ => trivial), nv_call hS hFc hU hW hN⟩⟩ rfl rfl hl.1 rfl (lv_room (Nat.le_of_ble_eq_true rfl)) dX7_placedShort_165 ⟨by decide +kernel, by decide +kernel⟩) hS (fun q _ h => hFc q h) hFc (fun r10 u t H1 locs ht hvm hw hB hz1 hk1 hS => ?_)
      obtain ⟨hP1, hK1, hD1⟩ := hB
      rw [ht] at hP1
      have hK1 := va_K.moved hvm.symm hK1
      obtain ⟨hP, hD⟩ := va_join (wr := []) (w1 := []) hP hD [] [] rfl rfl (by decide) (by decide) hk1 hFc hP1 hD1
      have hK := (hK.sub (tys' := []) [] rfl).app hK1
      generalize H1 = H at hP hS ⊢
      have hP : va_P (dC, dI) vwCl [] H := hP
      have hD : va_D A [] := hD
      have hK : va_K (dC, dI) vwCl [] s := hK
      refine W.widen (k := 0) (n := 0) (by decide +kernel) (by decide +kernel) ?_
      rcases hw with h9 | h9
      · subst h9
        refine lv_ior hx hb dX7_placedShort_168 ?_
        refine lv_iload_n hx hb dX7_placedShort_169 rfl (lv_at hl 1 rfl) ?_
        refine lv_bipush (v := 6) hx hb dX7_placedShort_170 (by decide) ?_
        refine lv_iconst (v := 2) hx hb dX7_placedShort_172 (by decide) ?_
        refine lv_iconst (v := 5) hx hb dX7_placedShort_173 (by decide) ?_
        have hPc := hP.sub (ws' := []) [] rfl
        have hDc := hD.sub (ws' := []) [] (by decide) rfl
        have hKc := hK.sub (tys' := []) [] rfl
        have hFc := va_free (wc := []) hD hS hA [] rfl
        refine va_calli (va_runS (As := [.int v1, .int 6, .int 2, .int 5]) (rest := [.int ((((((v1 : Int32) >>> ((8 : Int32) &&& 31)) &&& 1) : Int32) <<< ((12 : Int32) &&& 31)) ||| (((((v1 : Int32) >>> ((3 : Int32) &&& 31)) &&& 3) : Int32) <<< ((10 : Int32) &&& 31)))]) ⟨hx, hb, hml, hown, hts⟩ (k_X7_part_v10 l hlt dC dI v1  H.size) (cwS 4 hts gi_g_X7_placedShort_10 rfl rfl rfl (by decide +kernel) ⟨Nat.le_of_ble_eq_true rfl, Nat.le_of_ble_eq_true rfl⟩) ⟨fun a U g mk q => by obtain ⟨q0, q1, qP, qK, qD, qN⟩ := q; exact ⟨q0, q1, qP, va_K.moved (u := U) (U := U.calling g mk a) (Vm.Alike.refl U.vm) qK, qD, nv_same rfl rfl qN⟩, fun U hU hW => ⟨rfl, by rw [hU], by rw [hU]; exact hPc, va_K.moved hW.alike hKc, hDc.weaken (fun _ _ _ _ => trivial), nv_call hS hFc hU hW hN⟩⟩ rfl rfl hl.1 rfl (lv_room (Nat.le_of_ble_eq_true rfl)) dX7_placedShort_174 ⟨by decide +kernel, by decide +kernel⟩) hS (fun q _ h => hFc q h) hFc (fun r11 u t H1 locs ht hvm hw hB hz1 hk1 hS => ?_)
        obtain ⟨hP1, hK1, hD1⟩ := hB
        rw [ht] at hP1
        have hK1 := va_K.moved hvm.symm hK1
        obtain ⟨hP, hD⟩ := va_join (wr := []) (w1 := []) hP hD [] [] rfl rfl (by decide) (by decide) hk1 hFc hP1 hD1
        have hK := (hK.sub (tys' := []) [] rfl).app hK1
        generalize H1 = H at hP hS ⊢
        have hP : va_P (dC, dI) vwCl [] H := hP
        have hD : va_D A [] := hD
        have hK : va_K (dC, dI) vwCl [] s := hK
        refine W.widen (k := 0) (n := 0) (by decide +kernel) (by decide +kernel) ?_
        rcases hw with h9 | h9
        · subst h9
          refine lv_ior hx hb dX7_placedShort_177 ?_
          refine lv_iload_n hx hb dX7_placedShort_178 rfl (lv_at hl 1 rfl) ?_
          refine lv_iconst (v := 1) hx hb dX7_placedShort_179 (by decide) ?_
          refine lv_iconst (v := 2) hx hb dX7_placedShort_180 (by decide) ?_
          refine lv_iconst (v := 3) hx hb dX7_placedShort_181 (by decide) ?_
          have hPc := hP.sub (ws' := []) [] rfl
          have hDc := hD.sub (ws' := []) [] (by decide) rfl
          have hKc := hK.sub (tys' := []) [] rfl
          have hFc := va_free (wc := []) hD hS hA [] rfl
          refine va_calli (va_runS (As := [.int v1, .int 1, .int 2, .int 3]) (rest := [.int (((((((v1 : Int32) >>> ((8 : Int32) &&& 31)) &&& 1) : Int32) <<< ((12 : Int32) &&& 31)) ||| (((((v1 : Int32) >>> ((3 : Int32) &&& 31)) &&& 3) : Int32) <<< ((10 : Int32) &&& 31))) ||| (((((v1 : Int32) >>> ((6 : Int32) &&& 31)) &&& 3) : Int32) <<< ((5 : Int32) &&& 31)))]) ⟨hx, hb, hml, hown, hts⟩ (k_X7_part_v11 l hlt dC dI v1  H.size) (cwS 4 hts gi_g_X7_placedShort_11 rfl rfl rfl (by decide +kernel) ⟨Nat.le_of_ble_eq_true rfl, Nat.le_of_ble_eq_true rfl⟩) ⟨fun a U g mk q => by obtain ⟨q0, q1, qP, qK, qD, qN⟩ := q; exact ⟨q0, q1, qP, va_K.moved (u := U) (U := U.calling g mk a) (Vm.Alike.refl U.vm) qK, qD, nv_same rfl rfl qN⟩, fun U hU hW => ⟨rfl, by rw [hU], by rw [hU]; exact hPc, va_K.moved hW.alike hKc, hDc.weaken (fun _ _ _ _ => trivial), nv_call hS hFc hU hW hN⟩⟩ rfl rfl hl.1 rfl (lv_room (Nat.le_of_ble_eq_true rfl)) dX7_placedShort_182 ⟨by decide +kernel, by decide +kernel⟩) hS (fun q _ h => hFc q h) hFc (fun r12 u t H1 locs ht hvm hw hB hz1 hk1 hS => ?_)
          obtain ⟨hP1, hK1, hD1⟩ := hB
          rw [ht] at hP1
          have hK1 := va_K.moved hvm.symm hK1
          obtain ⟨hP, hD⟩ := va_join (wr := []) (w1 := []) hP hD [] [] rfl rfl (by decide) (by decide) hk1 hFc hP1 hD1
          have hK := (hK.sub (tys' := []) [] rfl).app hK1
          generalize H1 = H at hP hS ⊢
          have hP : va_P (dC, dI) vwCl [] H := hP
          have hD : va_D A [] := hD
          have hK : va_K (dC, dI) vwCl [] s := hK
          refine W.widen (k := 0) (n := 0) (by decide +kernel) (by decide +kernel) ?_
          rcases hw with h9 | h9
          · subst h9
            refine lv_ior hx hb dX7_placedShort_185 ?_
            refine lv_iload_n hx hb dX7_placedShort_186 rfl (lv_at hl 1 rfl) ?_
            refine lv_iconst (v := 5) hx hb dX7_placedShort_187 (by decide) ?_
            refine lv_iconst (v := 1) hx hb dX7_placedShort_188 (by decide) ?_
            refine lv_iconst (v := 2) hx hb dX7_placedShort_189 (by decide) ?_
            have hPc := hP.sub (ws' := []) [] rfl
            have hDc := hD.sub (ws' := []) [] (by decide) rfl
            have hKc := hK.sub (tys' := []) [] rfl
            have hFc := va_free (wc := []) hD hS hA [] rfl
            refine va_calli (va_runS (As := [.int v1, .int 5, .int 1, .int 2]) (rest := [.int ((((((((v1 : Int32) >>> ((8 : Int32) &&& 31)) &&& 1) : Int32) <<< ((12 : Int32) &&& 31)) ||| (((((v1 : Int32) >>> ((3 : Int32) &&& 31)) &&& 3) : Int32) <<< ((10 : Int32) &&& 31))) ||| (((((v1 : Int32) >>> ((6 : Int32) &&& 31)) &&& 3) : Int32) <<< ((5 : Int32) &&& 31))) ||| (((((v1 : Int32) >>> ((1 : Int32) &&& 31)) &&& 3) : Int32) <<< ((3 : Int32) &&& 31)))]) ⟨hx, hb, hml, hown, hts⟩ (k_X7_part_v7 l hlt dC dI v1  H.size) (cwS 4 hts gi_g_X7_placedShort_7 rfl rfl rfl (by decide +kernel) ⟨Nat.le_of_ble_eq_true rfl, Nat.le_of_ble_eq_true rfl⟩) ⟨fun a U g mk q => by obtain ⟨q0, q1, qP, qK, qD, qN⟩ := q; exact ⟨q0, q1, qP, va_K.moved (u := U) (U := U.calling g mk a) (Vm.Alike.refl U.vm) qK, qD, nv_same rfl rfl qN⟩, fun U hU hW => ⟨rfl, by rw [hU], by rw [hU]; exact hPc, va_K.moved hW.alike hKc, hDc.weaken (fun _ _ _ _ => trivial), nv_call hS hFc hU hW hN⟩⟩ rfl rfl hl.1 rfl (lv_room (Nat.le_of_ble_eq_true rfl)) dX7_placedShort_190 ⟨by decide +kernel, by decide +kernel⟩) hS (fun q _ h => hFc q h) hFc (fun r13 u t H1 locs ht hvm hw hB hz1 hk1 hS => ?_)
            obtain ⟨hP1, hK1, hD1⟩ := hB
            rw [ht] at hP1
            have hK1 := va_K.moved hvm.symm hK1
            obtain ⟨hP, hD⟩ := va_join (wr := []) (w1 := []) hP hD [] [] rfl rfl (by decide) (by decide) hk1 hFc hP1 hD1
            have hK := (hK.sub (tys' := []) [] rfl).app hK1
            generalize H1 = H at hP hS ⊢
            have hP : va_P (dC, dI) vwCl [] H := hP
            have hD : va_D A [] := hD
            have hK : va_K (dC, dI) vwCl [] s := hK
            refine W.widen (k := 0) (n := 0) (by decide +kernel) (by decide +kernel) ?_
            rcases hw with h9 | h9
            · subst h9
              refine lv_ior hx hb dX7_placedShort_193 ?_
              refine W.widen (k := 0) (n := 0) (by decide +kernel) (by decide +kernel) ?_
              exact W.iret (v := (((((((((v1 : Int32) >>> ((8 : Int32) &&& 31)) &&& 1) : Int32) <<< ((12 : Int32) &&& 31)) ||| (((((v1 : Int32) >>> ((3 : Int32) &&& 31)) &&& 3) : Int32) <<< ((10 : Int32) &&& 31))) ||| (((((v1 : Int32) >>> ((6 : Int32) &&& 31)) &&& 3) : Int32) <<< ((5 : Int32) &&& 31))) ||| (((((v1 : Int32) >>> ((1 : Int32) &&& 31)) &&& 3) : Int32) <<< ((3 : Int32) &&& 31))) ||| (((((v1 : Int32) >>> ((5 : Int32) &&& 31)) &&& 1) : Int32) <<< ((2 : Int32) &&& 31)))) hx hb hr (fun t ht hW => ⟨⟨(((((((((v1 : Int32) >>> ((8 : Int32) &&& 31)) &&& 1) : Int32) <<< ((12 : Int32) &&& 31)) ||| (((((v1 : Int32) >>> ((3 : Int32) &&& 31)) &&& 3) : Int32) <<< ((10 : Int32) &&& 31))) ||| (((((v1 : Int32) >>> ((6 : Int32) &&& 31)) &&& 3) : Int32) <<< ((5 : Int32) &&& 31))) ||| (((((v1 : Int32) >>> ((1 : Int32) &&& 31)) &&& 3) : Int32) <<< ((3 : Int32) &&& 31))) ||| (((((v1 : Int32) >>> ((5 : Int32) &&& 31)) &&& 1) : Int32) <<< ((2 : Int32) &&& 31))), (), rfl, Or.inr (Or.inl ⟨c_1, c_10, rfl⟩), by rw [ht]; exact hP, va_K.moved hW.alike hK, hD⟩, hS.F ht⟩) hS.2.2 dX7_placedShort_194
            · exact h9.elim
          · exact h9.elim
        · exact h9.elim
      · exact h9.elim
    · exact h9.elim
  by_cases c_16 : v0 = 77
  · refine lv_tableIn (off := 194) (tgt := 195) hx hb dX7_placedShort_1 (by rw [c_16]; decide) (by rw [c_16]; decide) (by rw [c_16]; decide) (by decide) ?_
    refine lv_iload_n hx hb dX7_placedShort_195 rfl (lv_at hl 1 rfl) ?_
    refine lv_iconst (v := 5) hx hb dX7_placedShort_196 (by decide) ?_
    refine lv_iconst (v := 1) hx hb dX7_placedShort_197 (by decide) ?_
    refine lv_bipush (v := 12) hx hb dX7_placedShort_198 (by decide) ?_
    have hPc := hP.sub (ws' := []) [] rfl
    have hDc := hD.sub (ws' := []) [] (by decide) rfl
    have hKc := hK.sub (tys' := []) [] rfl
    have hFc := va_free (wc := []) hD hS hA [] rfl
    refine va_calli (va_runS (As := [.int v1, .int 5, .int 1, .int 12]) (rest := []) ⟨hx, hb, hml, hown, hts⟩ (k_X7_part_v12 l hlt dC dI v1  s.heap.size) (cwS 4 hts gi_g_X7_placedShort_12 rfl rfl rfl (by decide +kernel) ⟨Nat.le_of_ble_eq_true rfl, Nat.le_of_ble_eq_true rfl⟩) ⟨fun a U g mk q => by obtain ⟨q0, q1, qP, qK, qD, qN⟩ := q; exact ⟨q0, q1, qP, va_K.moved (u := U) (U := U.calling g mk a) (Vm.Alike.refl U.vm) qK, qD, nv_same rfl rfl qN⟩, fun U hU hW => ⟨rfl, by rw [hU], by rw [hU]; exact hPc, va_K.moved hW.alike hKc, hDc.weaken (fun _ _ _ _ => trivial), nv_call hS hFc hU hW hN⟩⟩ rfl rfl hl.1 rfl (lv_room (Nat.le_of_ble_eq_true rfl)) dX7_placedShort_200 ⟨by decide +kernel, by decide +kernel⟩) hS (fun q _ h => hFc q h) hFc (fun r14 u t H1 locs ht hvm hw hB hz1 hk1 hS => ?_)
    obtain ⟨hP1, hK1, hD1⟩ := hB
    rw [ht] at hP1
    have hK1 := va_K.moved hvm.symm hK1
    obtain ⟨hP, hD⟩ := va_join (wr := []) (w1 := []) hP hD [] [] rfl rfl (by decide) (by decide) hk1 hFc hP1 hD1
    have hK := (hK.sub (tys' := []) [] rfl).app hK1
    generalize H1 = H at hP hS ⊢
    have hP : va_P (dC, dI) vwCl [] H := hP
    have hD : va_D A [] := hD
    have hK : va_K (dC, dI) vwCl [] s := hK
    refine W.widen (k := 0) (n := 0) (by decide +kernel) (by decide +kernel) ?_
    rcases hw with h9 | h9
    · subst h9
      refine lv_iload_n hx hb dX7_placedShort_203 rfl (lv_at hl 1 rfl) ?_
      refine lv_iconst (v := 0) hx hb dX7_placedShort_204 (by decide) ?_
      refine lv_iconst (v := 5) hx hb dX7_placedShort_205 (by decide) ?_
      refine lv_iconst (v := 2) hx hb dX7_placedShort_206 (by decide) ?_
      have hPc := hP.sub (ws' := []) [] rfl
      have hDc := hD.sub (ws' := []) [] (by decide) rfl
      have hKc := hK.sub (tys' := []) [] rfl
      have hFc := va_free (wc := []) hD hS hA [] rfl
      refine va_calli (va_runS (As := [.int v1, .int 0, .int 5, .int 2]) (rest := [.int (((((v1 : Int32) >>> ((5 : Int32) &&& 31)) &&& 1) : Int32) <<< ((12 : Int32) &&& 31))]) ⟨hx, hb, hml, hown, hts⟩ (k_X7_part_v13 l hlt dC dI v1  H.size) (cwS 4 hts gi_g_X7_placedShort_13 rfl rfl rfl (by decide +kernel) ⟨Nat.le_of_ble_eq_true rfl, Nat.le_of_ble_eq_true rfl⟩) ⟨fun a U g mk q => by obtain ⟨q0, q1, qP, qK, qD, qN⟩ := q; exact ⟨q0, q1, qP, va_K.moved (u := U) (U := U.calling g mk a) (Vm.Alike.refl U.vm) qK, qD, nv_same rfl rfl qN⟩, fun U hU hW => ⟨rfl, by rw [hU], by rw [hU]; exact hPc, va_K.moved hW.alike hKc, hDc.weaken (fun _ _ _ _ => trivial), nv_call hS hFc hU hW hN⟩⟩ rfl rfl hl.1 rfl (lv_room (Nat.le_of_ble_eq_true rfl)) dX7_placedShort_207 ⟨by decide +kernel, by decide +kernel⟩) hS (fun q _ h => hFc q h) hFc (fun r15 u t H1 locs ht hvm hw hB hz1 hk1 hS => ?_)
      obtain ⟨hP1, hK1, hD1⟩ := hB
      rw [ht] at hP1
      have hK1 := va_K.moved hvm.symm hK1
      obtain ⟨hP, hD⟩ := va_join (wr := []) (w1 := []) hP hD [] [] rfl rfl (by decide) (by decide) hk1 hFc hP1 hD1
      have hK := (hK.sub (tys' := []) [] rfl).app hK1
      generalize H1 = H at hP hS ⊢
      have hP : va_P (dC, dI) vwCl [] H := hP
      have hD : va_D A [] := hD
      have hK : va_K (dC, dI) vwCl [] s := hK
      refine W.widen (k := 0) (n := 0) (by decide +kernel) (by decide +kernel) ?_
      rcases hw with h9 | h9
      · subst h9
        refine lv_ior hx hb dX7_placedShort_210 ?_
        refine W.widen (k := 0) (n := 0) (by decide +kernel) (by decide +kernel) ?_
        exact W.iret (v := ((((((v1 : Int32) >>> ((5 : Int32) &&& 31)) &&& 1) : Int32) <<< ((12 : Int32) &&& 31)) ||| (((((v1 : Int32) >>> ((0 : Int32) &&& 31)) &&& 31) : Int32) <<< ((2 : Int32) &&& 31)))) hx hb hr (fun t ht hW => ⟨⟨((((((v1 : Int32) >>> ((5 : Int32) &&& 31)) &&& 1) : Int32) <<< ((12 : Int32) &&& 31)) ||| (((((v1 : Int32) >>> ((0 : Int32) &&& 31)) &&& 31) : Int32) <<< ((2 : Int32) &&& 31))), (), rfl, Or.inr (Or.inr (Or.inl ⟨c_1, c_10, c_16, rfl⟩)), by rw [ht]; exact hP, va_K.moved hW.alike hK, hD⟩, hS.F ht⟩) hS.2.2 dX7_placedShort_211
      · exact h9.elim
    · exact h9.elim
  by_cases c_19 : v0 = 78
  · refine lv_tableIn (off := 194) (tgt := 195) hx hb dX7_placedShort_1 (by rw [c_19]; decide) (by rw [c_19]; decide) (by rw [c_19]; decide) (by decide) ?_
    refine lv_iload_n hx hb dX7_placedShort_195 rfl (lv_at hl 1 rfl) ?_
    refine lv_iconst (v := 5) hx hb dX7_placedShort_196 (by decide) ?_
    refine lv_iconst (v := 1) hx hb dX7_placedShort_197 (by decide) ?_
    refine lv_bipush (v := 12) hx hb dX7_placedShort_198 (by decide) ?_
    have hPc := hP.sub (ws' := []) [] rfl
    have hDc := hD.sub (ws' := []) [] (by decide) rfl
    have hKc := hK.sub (tys' := []) [] rfl
    have hFc := va_free (wc := []) hD hS hA [] rfl
    refine va_calli (va_runS (As := [.int v1, .int 5, .int 1, .int 12]) (rest := []) ⟨hx, hb, hml, hown, hts⟩ (k_X7_part_v12 l hlt dC dI v1  s.heap.size) (cwS 4 hts gi_g_X7_placedShort_12 rfl rfl rfl (by decide +kernel) ⟨Nat.le_of_ble_eq_true rfl, Nat.le_of_ble_eq_true rfl⟩) ⟨fun a U g mk q => by obtain ⟨q0, q1, qP, qK, qD, qN⟩ := q; exact ⟨q0, q1, qP, va_K.moved (u := U) (U := U.calling g mk a) (Vm.Alike.refl U.vm) qK, qD, nv_same rfl rfl qN⟩, fun U hU hW => ⟨rfl, by rw [hU], by rw [hU]; exact hPc, va_K.moved hW.alike hKc, hDc.weaken (fun _ _ _ _ => trivial), nv_call hS hFc hU hW hN⟩⟩ rfl rfl hl.1 rfl (lv_room (Nat.le_of_ble_eq_true rfl)) dX7_placedShort_200 ⟨by decide +kernel, by decide +kernel⟩) hS (fun q _ h => hFc q h) hFc (fun r16 u t H1 locs ht hvm hw hB hz1 hk1 hS => ?_)
    obtain ⟨hP1, hK1, hD1⟩ := hB
    rw [ht] at hP1
    have hK1 := va_K.moved hvm.symm hK1
    obtain ⟨hP, hD⟩ := va_join (wr := []) (w1 := []) hP hD [] [] rfl rfl (by decide) (by decide) hk1 hFc hP1 hD1
    have hK := (hK.sub (tys' := []) [] rfl).app hK1
    generalize H1 = H at hP hS ⊢
    have hP : va_P (dC, dI) vwCl [] H := hP
    have hD : va_D A [] := hD
    have hK : va_K (dC, dI) vwCl [] s := hK
    refine W.widen (k := 0) (n := 0) (by decide +kernel) (by decide +kernel) ?_
    rcases hw with h9 | h9
    · subst h9
      refine lv_iload_n hx hb dX7_placedShort_203 rfl (lv_at hl 1 rfl) ?_
      refine lv_iconst (v := 0) hx hb dX7_placedShort_204 (by decide) ?_
      refine lv_iconst (v := 5) hx hb dX7_placedShort_205 (by decide) ?_
      refine lv_iconst (v := 2) hx hb dX7_placedShort_206 (by decide) ?_
      have hPc := hP.sub (ws' := []) [] rfl
      have hDc := hD.sub (ws' := []) [] (by decide) rfl
      have hKc := hK.sub (tys' := []) [] rfl
      have hFc := va_free (wc := []) hD hS hA [] rfl
      refine va_calli (va_runS (As := [.int v1, .int 0, .int 5, .int 2]) (rest := [.int (((((v1 : Int32) >>> ((5 : Int32) &&& 31)) &&& 1) : Int32) <<< ((12 : Int32) &&& 31))]) ⟨hx, hb, hml, hown, hts⟩ (k_X7_part_v13 l hlt dC dI v1  H.size) (cwS 4 hts gi_g_X7_placedShort_13 rfl rfl rfl (by decide +kernel) ⟨Nat.le_of_ble_eq_true rfl, Nat.le_of_ble_eq_true rfl⟩) ⟨fun a U g mk q => by obtain ⟨q0, q1, qP, qK, qD, qN⟩ := q; exact ⟨q0, q1, qP, va_K.moved (u := U) (U := U.calling g mk a) (Vm.Alike.refl U.vm) qK, qD, nv_same rfl rfl qN⟩, fun U hU hW => ⟨rfl, by rw [hU], by rw [hU]; exact hPc, va_K.moved hW.alike hKc, hDc.weaken (fun _ _ _ _ => trivial), nv_call hS hFc hU hW hN⟩⟩ rfl rfl hl.1 rfl (lv_room (Nat.le_of_ble_eq_true rfl)) dX7_placedShort_207 ⟨by decide +kernel, by decide +kernel⟩) hS (fun q _ h => hFc q h) hFc (fun r17 u t H1 locs ht hvm hw hB hz1 hk1 hS => ?_)
      obtain ⟨hP1, hK1, hD1⟩ := hB
      rw [ht] at hP1
      have hK1 := va_K.moved hvm.symm hK1
      obtain ⟨hP, hD⟩ := va_join (wr := []) (w1 := []) hP hD [] [] rfl rfl (by decide) (by decide) hk1 hFc hP1 hD1
      have hK := (hK.sub (tys' := []) [] rfl).app hK1
      generalize H1 = H at hP hS ⊢
      have hP : va_P (dC, dI) vwCl [] H := hP
      have hD : va_D A [] := hD
      have hK : va_K (dC, dI) vwCl [] s := hK
      refine W.widen (k := 0) (n := 0) (by decide +kernel) (by decide +kernel) ?_
      rcases hw with h9 | h9
      · subst h9
        refine lv_ior hx hb dX7_placedShort_210 ?_
        refine W.widen (k := 0) (n := 0) (by decide +kernel) (by decide +kernel) ?_
        exact W.iret (v := ((((((v1 : Int32) >>> ((5 : Int32) &&& 31)) &&& 1) : Int32) <<< ((12 : Int32) &&& 31)) ||| (((((v1 : Int32) >>> ((0 : Int32) &&& 31)) &&& 31) : Int32) <<< ((2 : Int32) &&& 31)))) hx hb hr (fun t ht hW => ⟨⟨((((((v1 : Int32) >>> ((5 : Int32) &&& 31)) &&& 1) : Int32) <<< ((12 : Int32) &&& 31)) ||| (((((v1 : Int32) >>> ((0 : Int32) &&& 31)) &&& 31) : Int32) <<< ((2 : Int32) &&& 31))), (), rfl, Or.inr (Or.inr (Or.inr (Or.inl ⟨c_1, c_10, c_16, c_19, rfl⟩))), by rw [ht]; exact hP, va_K.moved hW.alike hK, hD⟩, hS.F ht⟩) hS.2.2 dX7_placedShort_211
      · exact h9.elim
    · exact h9.elim
  by_cases c_22 : v0 = 79
  · refine lv_tableIn (off := 372) (tgt := 373) hx hb dX7_placedShort_1 (by rw [c_22]; decide) (by rw [c_22]; decide) (by rw [c_22]; decide) (by decide) ?_
    refine lv_iconst (v := 0) hx hb dX7_placedShort_373 (by decide) ?_
    refine W.widen (k := 0) (n := 0) (by decide +kernel) (by decide +kernel) ?_
    exact W.iret (v := 0) hx hb hr (fun t ht hW => ⟨⟨0, (), rfl, Or.inr (Or.inr (Or.inr (Or.inr (Or.inl ⟨c_1, c_10, c_16, c_19, c_22, rfl⟩)))), by rw [ht]; exact hP, va_K.moved hW.alike hK, hD⟩, hS.F ht⟩) hS.2.2 dX7_placedShort_374
  by_cases c_23 : v0 = 80
  · refine lv_tableIn (off := 327) (tgt := 328) hx hb dX7_placedShort_1 (by rw [c_23]; decide) (by rw [c_23]; decide) (by rw [c_23]; decide) (by decide) ?_
    refine lv_iload_n hx hb dX7_placedShort_328 rfl (lv_at hl 1 rfl) ?_
    refine lv_iconst (v := 5) hx hb dX7_placedShort_329 (by decide) ?_
    refine lv_iconst (v := 1) hx hb dX7_placedShort_330 (by decide) ?_
    refine lv_bipush (v := 12) hx hb dX7_placedShort_331 (by decide) ?_
    have hPc := hP.sub (ws' := []) [] rfl
    have hDc := hD.sub (ws' := []) [] (by decide) rfl
    have hKc := hK.sub (tys' := []) [] rfl
    have hFc := va_free (wc := []) hD hS hA [] rfl
    refine va_calli (va_runS (As := [.int v1, .int 5, .int 1, .int 12]) (rest := []) ⟨hx, hb, hml, hown, hts⟩ (k_X7_part_v12 l hlt dC dI v1  s.heap.size) (cwS 4 hts gi_g_X7_placedShort_12 rfl rfl rfl (by decide +kernel) ⟨Nat.le_of_ble_eq_true rfl, Nat.le_of_ble_eq_true rfl⟩) ⟨fun a U g mk q => by obtain ⟨q0, q1, qP, qK, qD, qN⟩ := q; exact ⟨q0, q1, qP, va_K.moved (u := U) (U := U.calling g mk a) (Vm.Alike.refl U.vm) qK, qD, nv_same rfl rfl qN⟩, fun U hU hW => ⟨rfl, by rw [hU], by rw [hU]; exact hPc, va_K.moved hW.alike hKc, hDc.weaken (fun _ _ _ _ => trivial), nv_call hS hFc hU hW hN⟩⟩ rfl rfl hl.1 rfl (lv_room (Nat.le_of_ble_eq_true rfl)) dX7_placedShort_333 ⟨by decide +kernel, by decide +kernel⟩) hS (fun q _ h => hFc q h) hFc (fun r18 u t H1 locs ht hvm hw hB hz1 hk1 hS => ?_)
    obtain ⟨hP1, hK1, hD1⟩ := hB
    rw [ht] at hP1
    have hK1 := va_K.moved hvm.symm hK1
    obtain ⟨hP, hD⟩ := va_join (wr := []) (w1 := []) hP hD [] [] rfl rfl (by decide) (by decide) hk1 hFc hP1 hD1
    have hK := (hK.sub (tys' := []) [] rfl).app hK1
    generalize H1 = H at hP hS ⊢
    have hP : va_P (dC, dI) vwCl [] H := hP
    have hD : va_D A [] := hD
    have hK : va_K (dC, dI) vwCl [] s := hK
    refine W.widen (k := 0) (n := 0) (by decide +kernel) (by decide +kernel) ?_
    rcases hw with h9 | h9
    · subst h9
      refine lv_iload_n hx hb dX7_placedShort_336 rfl (lv_at hl 1 rfl) ?_
      refine lv_iconst (v := 2) hx hb dX7_placedShort_337 (by decide) ?_
      refine lv_iconst (v := 3) hx hb dX7_placedShort_338 (by decide) ?_
      refine lv_iconst (v := 4) hx hb dX7_placedShort_339 (by decide) ?_
      have hPc := hP.sub (ws' := []) [] rfl
      have hDc := hD.sub (ws' := []) [] (by decide) rfl
      have hKc := hK.sub (tys' := []) [] rfl
      have hFc := va_free (wc := []) hD hS hA [] rfl
      refine va_calli (va_runS (As := [.int v1, .int 2, .int 3, .int 4]) (rest := [.int (((((v1 : Int32) >>> ((5 : Int32) &&& 31)) &&& 1) : Int32) <<< ((12 : Int32) &&& 31))]) ⟨hx, hb, hml, hown, hts⟩ (k_X7_part_v14 l hlt dC dI v1  H.size) (cwS 4 hts gi_g_X7_placedShort_14 rfl rfl rfl (by decide +kernel) ⟨Nat.le_of_ble_eq_true rfl, Nat.le_of_ble_eq_true rfl⟩) ⟨fun a U g mk q => by obtain ⟨q0, q1, qP, qK, qD, qN⟩ := q; exact ⟨q0, q1, qP, va_K.moved (u := U) (U := U.calling g mk a) (Vm.Alike.refl U.vm) qK, qD, nv_same rfl rfl qN⟩, fun U hU hW => ⟨rfl, by rw [hU], by rw [hU]; exact hPc, va_K.moved hW.alike hKc, hDc.weaken (fun _ _ _ _ => trivial), nv_call hS hFc hU hW hN⟩⟩ rfl rfl hl.1 rfl (lv_room (Nat.le_of_ble_eq_true rfl)) dX7_placedShort_340 ⟨by decide +kernel, by decide +kernel⟩) hS (fun q _ h => hFc q h) hFc (fun r19 u t H1 locs ht hvm hw hB hz1 hk1 hS => ?_)
      obtain ⟨hP1, hK1, hD1⟩ := hB
      rw [ht] at hP1
      have hK1 := va_K.moved hvm.symm hK1
      obtain ⟨hP, hD⟩ := va_join (wr := []) (w1 := []) hP hD [] [] rfl rfl (by decide) (by decide) hk1 hFc hP1 hD1
      have hK := (hK.sub (tys' := []) [] rfl).app hK1
      generalize H1 = H at hP hS ⊢
      have hP : va_P (dC, dI) vwCl [] H := hP
      have hD : va_D A [] := hD
      have hK : va_K (dC, dI) vwCl [] s := hK
      refine W.widen (k := 0) (n := 0) (by decide +kernel) (by decide +kernel) ?_
      rcases hw with h9 | h9
      · subst h9
        refine lv_ior hx hb dX7_placedShort_343 ?_
        refine lv_iload_n hx hb dX7_placedShort_344 rfl (lv_at hl 1 rfl) ?_
        refine lv_bipush (v := 6) hx hb dX7_placedShort_345 (by decide) ?_
        refine lv_iconst (v := 2) hx hb dX7_placedShort_347 (by decide) ?_
        refine lv_iconst (v := 2) hx hb dX7_placedShort_348 (by decide) ?_
        have hPc := hP.sub (ws' := []) [] rfl
        have hDc := hD.sub (ws' := []) [] (by decide) rfl
        have hKc := hK.sub (tys' := []) [] rfl
        have hFc := va_free (wc := []) hD hS hA [] rfl
        refine va_calli (va_runS (As := [.int v1, .int 6, .int 2, .int 2]) (rest := [.int ((((((v1 : Int32) >>> ((5 : Int32) &&& 31)) &&& 1) : Int32) <<< ((12 : Int32) &&& 31)) ||| (((((v1 : Int32) >>> ((2 : Int32) &&& 31)) &&& 7) : Int32) <<< ((4 : Int32) &&& 31)))]) ⟨hx, hb, hml, hown, hts⟩ (k_X7_part_v15 l hlt dC dI v1  H.size) (cwS 4 hts gi_g_X7_placedShort_15 rfl rfl rfl (by decide +kernel) ⟨Nat.le_of_ble_eq_true rfl, Nat.le_of_ble_eq_true rfl⟩) ⟨fun a U g mk q => by obtain ⟨q0, q1, qP, qK, qD, qN⟩ := q; exact ⟨q0, q1, qP, va_K.moved (u := U) (U := U.calling g mk a) (Vm.Alike.refl U.vm) qK, qD, nv_same rfl rfl qN⟩, fun U hU hW => ⟨rfl, by rw [hU], by rw [hU]; exact hPc, va_K.moved hW.alike hKc, hDc.weaken (fun _ _ _ _ => trivial), nv_call hS hFc hU hW hN⟩⟩ rfl rfl hl.1 rfl (lv_room (Nat.le_of_ble_eq_true rfl)) dX7_placedShort_349 ⟨by decide +kernel, by decide +kernel⟩) hS (fun q _ h => hFc q h) hFc (fun r20 u t H1 locs ht hvm hw hB hz1 hk1 hS => ?_)
        obtain ⟨hP1, hK1, hD1⟩ := hB
        rw [ht] at hP1
        have hK1 := va_K.moved hvm.symm hK1
        obtain ⟨hP, hD⟩ := va_join (wr := []) (w1 := []) hP hD [] [] rfl rfl (by decide) (by decide) hk1 hFc hP1 hD1
        have hK := (hK.sub (tys' := []) [] rfl).app hK1
        generalize H1 = H at hP hS ⊢
        have hP : va_P (dC, dI) vwCl [] H := hP
        have hD : va_D A [] := hD
        have hK : va_K (dC, dI) vwCl [] s := hK
        refine W.widen (k := 0) (n := 0) (by decide +kernel) (by decide +kernel) ?_
        rcases hw with h9 | h9
        · subst h9
          refine lv_ior hx hb dX7_placedShort_352 ?_
          refine W.widen (k := 0) (n := 0) (by decide +kernel) (by decide +kernel) ?_
          exact W.iret (v := (((((((v1 : Int32) >>> ((5 : Int32) &&& 31)) &&& 1) : Int32) <<< ((12 : Int32) &&& 31)) ||| (((((v1 : Int32) >>> ((2 : Int32) &&& 31)) &&& 7) : Int32) <<< ((4 : Int32) &&& 31))) ||| (((((v1 : Int32) >>> ((6 : Int32) &&& 31)) &&& 3) : Int32) <<< ((2 : Int32) &&& 31)))) hx hb hr (fun t ht hW => ⟨⟨(((((((v1 : Int32) >>> ((5 : Int32) &&& 31)) &&& 1) : Int32) <<< ((12 : Int32) &&& 31)) ||| (((((v1 : Int32) >>> ((2 : Int32) &&& 31)) &&& 7) : Int32) <<< ((4 : Int32) &&& 31))) ||| (((((v1 : Int32) >>> ((6 : Int32) &&& 31)) &&& 3) : Int32) <<< ((2 : Int32) &&& 31))), (), rfl, Or.inr (Or.inr (Or.inr (Or.inr (Or.inr (Or.inl ⟨c_1, c_10, c_16, c_19, c_22, c_23, rfl⟩))))), by rw [ht]; exact hP, va_K.moved hW.alike hK, hD⟩, hS.F ht⟩) hS.2.2 dX7_placedShort_353
        · exact h9.elim
      · exact h9.elim
    · exact h9.elim
  by_cases c_27 : v0 = 81
  · refine lv_tableIn (off := 353) (tgt := 354) hx hb dX7_placedShort_1 (by rw [c_27]; decide) (by rw [c_27]; decide) (by rw [c_27]; decide) (by decide) ?_
    refine lv_iload_n hx hb dX7_placedShort_354 rfl (lv_at hl 1 rfl) ?_
    refine lv_iconst (v := 2) hx hb dX7_placedShort_355 (by decide) ?_
    refine lv_iconst (v := 4) hx hb dX7_placedShort_356 (by decide) ?_
    refine lv_bipush (v := 9) hx hb dX7_placedShort_357 (by decide) ?_
    have hPc := hP.sub (ws' := []) [] rfl
    have hDc := hD.sub (ws' := []) [] (by decide) rfl
    have hKc := hK.sub (tys' := []) [] rfl
    have hFc := va_free (wc := []) hD hS hA [] rfl
    refine va_calli (va_runS (As := [.int v1, .int 2, .int 4, .int 9]) (rest := []) ⟨hx, hb, hml, hown, hts⟩ (k_X7_part_v16 l hlt dC dI v1  s.heap.size) (cwS 4 hts gi_g_X7_placedShort_16 rfl rfl rfl (by decide +kernel) ⟨Nat.le_of_ble_eq_true rfl, Nat.le_of_ble_eq_true rfl⟩) ⟨fun a U g mk q => by obtain ⟨q0, q1, qP, qK, qD, qN⟩ := q; exact ⟨q0, q1, qP, va_K.moved (u := U) (U := U.calling g mk a) (Vm.Alike.refl U.vm) qK, qD, nv_same rfl rfl qN⟩, fun U hU hW => ⟨rfl, by rw [hU], by rw [hU]; exact hPc, va_K.moved hW.alike hKc, hDc.weaken (fun _ _ _ _ => trivial), nv_call hS hFc hU hW hN⟩⟩ rfl rfl hl.1 rfl (lv_room (Nat.le_of_ble_eq_true rfl)) dX7_placedShort_359 ⟨by decide +kernel, by decide +kernel⟩) hS (fun q _ h => hFc q h) hFc (fun r21 u t H1 locs ht hvm hw hB hz1 hk1 hS => ?_)
    obtain ⟨hP1, hK1, hD1⟩ := hB
    rw [ht] at hP1
    have hK1 := va_K.moved hvm.symm hK1
    obtain ⟨hP, hD⟩ := va_join (wr := []) (w1 := []) hP hD [] [] rfl rfl (by decide) (by decide) hk1 hFc hP1 hD1
    have hK := (hK.sub (tys' := []) [] rfl).app hK1
    generalize H1 = H at hP hS ⊢
    have hP : va_P (dC, dI) vwCl [] H := hP
    have hD : va_D A [] := hD
    have hK : va_K (dC, dI) vwCl [] s := hK
    refine W.widen (k := 0) (n := 0) (by decide +kernel) (by decide +kernel) ?_
    rcases hw with h9 | h9
    · subst h9
      refine lv_iload_n hx hb dX7_placedShort_362 rfl (lv_at hl 1 rfl) ?_
      refine lv_bipush (v := 6) hx hb dX7_placedShort_363 (by decide) ?_
      refine lv_iconst (v := 2) hx hb dX7_placedShort_365 (by decide) ?_
      refine lv_bipush (v := 7) hx hb dX7_placedShort_366 (by decide) ?_
      have hPc := hP.sub (ws' := []) [] rfl
      have hDc := hD.sub (ws' := []) [] (by decide) rfl
      have hKc := hK.sub (tys' := []) [] rfl
      have hFc := va_free (wc := []) hD hS hA [] rfl
      refine va_calli (va_runS (As := [.int v1, .int 6, .int 2, .int 7]) (rest := [.int (((((v1 : Int32) >>> ((2 : Int32) &&& 31)) &&& 15) : Int32) <<< ((9 : Int32) &&& 31))]) ⟨hx, hb, hml, hown, hts⟩ (k_X7_part_v17 l hlt dC dI v1  H.size) (cwS 4 hts gi_g_X7_placedShort_17 rfl rfl rfl (by decide +kernel) ⟨Nat.le_of_ble_eq_true rfl, Nat.le_of_ble_eq_true rfl⟩) ⟨fun a U g mk q => by obtain ⟨q0, q1, qP, qK, qD, qN⟩ := q; exact ⟨q0, q1, qP, va_K.moved (u := U) (U := U.calling g mk a) (Vm.Alike.refl U.vm) qK, qD, nv_same rfl rfl qN⟩, fun U hU hW => ⟨rfl, by rw [hU], by rw [hU]; exact hPc, va_K.moved hW.alike hKc, hDc.weaken (fun _ _ _ _ => trivial), nv_call hS hFc hU hW hN⟩⟩ rfl rfl hl.1 rfl (lv_room (Nat.le_of_ble_eq_true rfl)) dX7_placedShort_368 ⟨by decide +kernel, by decide +kernel⟩) hS (fun q _ h => hFc q h) hFc (fun r22 u t H1 locs ht hvm hw hB hz1 hk1 hS => ?_)
      obtain ⟨hP1, hK1, hD1⟩ := hB
      rw [ht] at hP1
      have hK1 := va_K.moved hvm.symm hK1
      obtain ⟨hP, hD⟩ := va_join (wr := []) (w1 := []) hP hD [] [] rfl rfl (by decide) (by decide) hk1 hFc hP1 hD1
      have hK := (hK.sub (tys' := []) [] rfl).app hK1
      generalize H1 = H at hP hS ⊢
      have hP : va_P (dC, dI) vwCl [] H := hP
      have hD : va_D A [] := hD
      have hK : va_K (dC, dI) vwCl [] s := hK
      refine W.widen (k := 0) (n := 0) (by decide +kernel) (by decide +kernel) ?_
      rcases hw with h9 | h9
      · subst h9
        refine lv_ior hx hb dX7_placedShort_371 ?_
        refine W.widen (k := 0) (n := 0) (by decide +kernel) (by decide +kernel) ?_
        exact W.iret (v := ((((((v1 : Int32) >>> ((2 : Int32) &&& 31)) &&& 15) : Int32) <<< ((9 : Int32) &&& 31)) ||| (((((v1 : Int32) >>> ((6 : Int32) &&& 31)) &&& 3) : Int32) <<< ((7 : Int32) &&& 31)))) hx hb hr (fun t ht hW => ⟨⟨((((((v1 : Int32) >>> ((2 : Int32) &&& 31)) &&& 15) : Int32) <<< ((9 : Int32) &&& 31)) ||| (((((v1 : Int32) >>> ((6 : Int32) &&& 31)) &&& 3) : Int32) <<< ((7 : Int32) &&& 31))), (), rfl, Or.inr (Or.inr (Or.inr (Or.inr (Or.inr (Or.inr (Or.inl ⟨c_1, c_10, c_16, c_19, c_22, c_23, c_27, rfl⟩)))))), by rw [ht]; exact hP, va_K.moved hW.alike hK, hD⟩, hS.F ht⟩) hS.2.2 dX7_placedShort_372
      · exact h9.elim
    · exact h9.elim
  by_cases c_30 : v0 = 82
  · refine lv_tableIn (off := 372) (tgt := 373) hx hb dX7_placedShort_1 (by rw [c_30]; decide) (by rw [c_30]; decide) (by rw [c_30]; decide) (by decide) ?_
    refine lv_iconst (v := 0) hx hb dX7_placedShort_373 (by decide) ?_
    refine W.widen (k := 0) (n := 0) (by decide +kernel) (by decide +kernel) ?_
    exact W.iret (v := 0) hx hb hr (fun t ht hW => ⟨⟨0, (), rfl, Or.inr (Or.inr (Or.inr (Or.inr (Or.inr (Or.inr (Or.inr (Or.inl ⟨c_1, c_10, c_16, c_19, c_22, c_23, c_27, c_30, rfl⟩))))))), by rw [ht]; exact hP, va_K.moved hW.alike hK, hD⟩, hS.F ht⟩) hS.2.2 dX7_placedShort_374
  by_cases c_31 : v0 = 83
  · refine lv_tableIn (off := 372) (tgt := 373) hx hb dX7_placedShort_1 (by rw [c_31]; decide) (by rw [c_31]; decide) (by rw [c_31]; decide) (by decide) ?_
    refine lv_iconst (v := 0) hx hb dX7_placedShort_373 (by decide) ?_
    refine W.widen (k := 0) (n := 0) (by decide +kernel) (by decide +kernel) ?_
    exact W.iret (v := 0) hx hb hr (fun t ht hW => ⟨⟨0, (), rfl, Or.inr (Or.inr (Or.inr (Or.inr (Or.inr (Or.inr (Or.inr (Or.inr (Or.inl ⟨c_1, c_10, c_16, c_19, c_22, c_23, c_27, c_30, c_31, rfl⟩)))))))), by rw [ht]; exact hP, va_K.moved hW.alike hK, hD⟩, hS.F ht⟩) hS.2.2 dX7_placedShort_374
  by_cases c_32 : v0 = 84
  · refine lv_tableIn (off := 372) (tgt := 373) hx hb dX7_placedShort_1 (by rw [c_32]; decide) (by rw [c_32]; decide) (by rw [c_32]; decide) (by decide) ?_
    refine lv_iconst (v := 0) hx hb dX7_placedShort_373 (by decide) ?_
    refine W.widen (k := 0) (n := 0) (by decide +kernel) (by decide +kernel) ?_
    exact W.iret (v := 0) hx hb hr (fun t ht hW => ⟨⟨0, (), rfl, Or.inr (Or.inr (Or.inr (Or.inr (Or.inr (Or.inr (Or.inr (Or.inr (Or.inr (Or.inl ⟨c_1, c_10, c_16, c_19, c_22, c_23, c_27, c_30, c_31, c_32, rfl⟩))))))))), by rw [ht]; exact hP, va_K.moved hW.alike hK, hD⟩, hS.F ht⟩) hS.2.2 dX7_placedShort_374
  by_cases c_33 : v0 = 85
  · refine lv_tableIn (off := 372) (tgt := 373) hx hb dX7_placedShort_1 (by rw [c_33]; decide) (by rw [c_33]; decide) (by rw [c_33]; decide) (by decide) ?_
    refine lv_iconst (v := 0) hx hb dX7_placedShort_373 (by decide) ?_
    refine W.widen (k := 0) (n := 0) (by decide +kernel) (by decide +kernel) ?_
    exact W.iret (v := 0) hx hb hr (fun t ht hW => ⟨⟨0, (), rfl, Or.inr (Or.inr (Or.inr (Or.inr (Or.inr (Or.inr (Or.inr (Or.inr (Or.inr (Or.inr (Or.inl ⟨c_1, c_10, c_16, c_19, c_22, c_23, c_27, c_30, c_31, c_32, c_33, rfl⟩)))))))))), by rw [ht]; exact hP, va_K.moved hW.alike hK, hD⟩, hS.F ht⟩) hS.2.2 dX7_placedShort_374
  by_cases c_34 : v0 = 86
  · refine lv_tableIn (off := 319) (tgt := 320) hx hb dX7_placedShort_1 (by rw [c_34]; decide) (by rw [c_34]; decide) (by rw [c_34]; decide) (by decide) ?_
    refine lv_iload_n hx hb dX7_placedShort_320 rfl (lv_at hl 1 rfl) ?_
    refine lv_iconst (v := 0) hx hb dX7_placedShort_321 (by decide) ?_
    refine lv_iconst (v := 5) hx hb dX7_placedShort_322 (by decide) ?_
    refine lv_iconst (v := 2) hx hb dX7_placedShort_323 (by decide) ?_
    have hPc := hP.sub (ws' := []) [] rfl
    have hDc := hD.sub (ws' := []) [] (by decide) rfl
    have hKc := hK.sub (tys' := []) [] rfl
    have hFc := va_free (wc := []) hD hS hA [] rfl
    refine va_calli (va_runS (As := [.int v1, .int 0, .int 5, .int 2]) (rest := []) ⟨hx, hb, hml, hown, hts⟩ (k_X7_part_v13 l hlt dC dI v1  s.heap.size) (cwS 4 hts gi_g_X7_placedShort_13 rfl rfl rfl (by decide +kernel) ⟨Nat.le_of_ble_eq_true rfl, Nat.le_of_ble_eq_true rfl⟩) ⟨fun a U g mk q => by obtain ⟨q0, q1, qP, qK, qD, qN⟩ := q; exact ⟨q0, q1, qP, va_K.moved (u := U) (U := U.calling g mk a) (Vm.Alike.refl U.vm) qK, qD, nv_same rfl rfl qN⟩, fun U hU hW => ⟨rfl, by rw [hU], by rw [hU]; exact hPc, va_K.moved hW.alike hKc, hDc.weaken (fun _ _ _ _ => trivial), nv_call hS hFc hU hW hN⟩⟩ rfl rfl hl.1 rfl (lv_room (Nat.le_of_ble_eq_true rfl)) dX7_placedShort_324 ⟨by decide +kernel, by decide +kernel⟩) hS (fun q _ h => hFc q h) hFc (fun r23 u t H1 locs ht hvm hw hB hz1 hk1 hS => ?_)
    obtain ⟨hP1, hK1, hD1⟩ := hB
    rw [ht] at hP1
    have hK1 := va_K.moved hvm.symm hK1
    obtain ⟨hP, hD⟩ := va_join (wr := []) (w1 := []) hP hD [] [] rfl rfl (by decide) (by decide) hk1 hFc hP1 hD1
    have hK := (hK.sub (tys' := []) [] rfl).app hK1
    generalize H1 = H at hP hS ⊢
    have hP : va_P (dC, dI) vwCl [] H := hP
    have hD : va_D A [] := hD
    have hK : va_K (dC, dI) vwCl [] s := hK
    refine W.widen (k := 0) (n := 0) (by decide +kernel) (by decide +kernel) ?_
    rcases hw with h9 | h9
    · subst h9
      refine W.widen (k := 0) (n := 0) (by decide +kernel) (by decide +kernel) ?_
      exact W.iret (v := (((((v1 : Int32) >>> ((0 : Int32) &&& 31)) &&& 31) : Int32) <<< ((2 : Int32) &&& 31))) hx hb hr (fun t ht hW => ⟨⟨(((((v1 : Int32) >>> ((0 : Int32) &&& 31)) &&& 31) : Int32) <<< ((2 : Int32) &&& 31)), (), rfl, Or.inr (Or.inr (Or.inr (Or.inr (Or.inr (Or.inr (Or.inr (Or.inr (Or.inr (Or.inr (Or.inr (Or.inl ⟨c_1, c_10, c_16, c_19, c_22, c_23, c_27, c_30, c_31, c_32, c_33, c_34, rfl⟩))))))))))), by rw [ht]; exact hP, va_K.moved hW.alike hK, hD⟩, hS.F ht⟩) hS.2.2 dX7_placedShort_327
    · exact h9.elim
  by_cases c_36 : v0 = 87
  · refine lv_tableIn (off := 247) (tgt := 248) hx hb dX7_placedShort_1 (by rw [c_36]; decide) (by rw [c_36]; decide) (by rw [c_36]; decide) (by decide) ?_
    refine lv_iload_n hx hb dX7_placedShort_248 rfl (lv_at hl 1 rfl) ?_
    refine lv_iconst (v := 3) hx hb dX7_placedShort_249 (by decide) ?_
    refine lv_iconst (v := 3) hx hb dX7_placedShort_250 (by decide) ?_
    refine lv_bipush (v := 10) hx hb dX7_placedShort_251 (by decide) ?_
    have hPc := hP.sub (ws' := []) [] rfl
    have hDc := hD.sub (ws' := []) [] (by decide) rfl
    have hKc := hK.sub (tys' := []) [] rfl
    have hFc := va_free (wc := []) hD hS hA [] rfl
    refine va_calli (va_runS (As := [.int v1, .int 3, .int 3, .int 10]) (rest := []) ⟨hx, hb, hml, hown, hts⟩ (k_X7_part_v18 l hlt dC dI v1  s.heap.size) (cwS 4 hts gi_g_X7_placedShort_18 rfl rfl rfl (by decide +kernel) ⟨Nat.le_of_ble_eq_true rfl, Nat.le_of_ble_eq_true rfl⟩) ⟨fun a U g mk q => by obtain ⟨q0, q1, qP, qK, qD, qN⟩ := q; exact ⟨q0, q1, qP, va_K.moved (u := U) (U := U.calling g mk a) (Vm.Alike.refl U.vm) qK, qD, nv_same rfl rfl qN⟩, fun U hU hW => ⟨rfl, by rw [hU], by rw [hU]; exact hPc, va_K.moved hW.alike hKc, hDc.weaken (fun _ _ _ _ => trivial), nv_call hS hFc hU hW hN⟩⟩ rfl rfl hl.1 rfl (lv_room (Nat.le_of_ble_eq_true rfl)) dX7_placedShort_253 ⟨by decide +kernel, by decide +kernel⟩) hS (fun q _ h => hFc q h) hFc (fun r24 u t H1 locs ht hvm hw hB hz1 hk1 hS => ?_)
    obtain ⟨hP1, hK1, hD1⟩ := hB
    rw [ht] at hP1
    have hK1 := va_K.moved hvm.symm hK1
    obtain ⟨hP, hD⟩ := va_join (wr := []) (w1 := []) hP hD [] [] rfl rfl (by decide) (by decide) hk1 hFc hP1 hD1
    have hK := (hK.sub (tys' := []) [] rfl).app hK1
    generalize H1 = H at hP hS ⊢
    have hP : va_P (dC, dI) vwCl [] H := hP
    have hD : va_D A [] := hD
    have hK : va_K (dC, dI) vwCl [] s := hK
    refine W.widen (k := 0) (n := 0) (by decide +kernel) (by decide +kernel) ?_
    rcases hw with h9 | h9
    · subst h9
      refine lv_iload_n hx hb dX7_placedShort_256 rfl (lv_at hl 1 rfl) ?_
      refine lv_iconst (v := 2) hx hb dX7_placedShort_257 (by decide) ?_
      refine lv_iconst (v := 1) hx hb dX7_placedShort_258 (by decide) ?_
      refine lv_bipush (v := 6) hx hb dX7_placedShort_259 (by decide) ?_
      have hPc := hP.sub (ws' := []) [] rfl
      have hDc := hD.sub (ws' := []) [] (by decide) rfl
      have hKc := hK.sub (tys' := []) [] rfl
      have hFc := va_free (wc := []) hD hS hA [] rfl
      refine va_calli (va_runS (As := [.int v1, .int 2, .int 1, .int 6]) (rest := [.int (((((v1 : Int32) >>> ((3 : Int32) &&& 31)) &&& 7) : Int32) <<< ((10 : Int32) &&& 31))]) ⟨hx, hb, hml, hown, hts⟩ (k_X7_part_v19 l hlt dC dI v1  H.size) (cwS 4 hts gi_g_X7_placedShort_19 rfl rfl rfl (by decide +kernel) ⟨Nat.le_of_ble_eq_true rfl, Nat.le_of_ble_eq_true rfl⟩) ⟨fun a U g mk q => by obtain ⟨q0, q1, qP, qK, qD, qN⟩ := q; exact ⟨q0, q1, qP, va_K.moved (u := U) (U := U.calling g mk a) (Vm.Alike.refl U.vm) qK, qD, nv_same rfl rfl qN⟩, fun U hU hW => ⟨rfl, by rw [hU], by rw [hU]; exact hPc, va_K.moved hW.alike hKc, hDc.weaken (fun _ _ _ _ => trivial), nv_call hS hFc hU hW hN⟩⟩ rfl rfl hl.1 rfl (lv_room (Nat.le_of_ble_eq_true rfl)) dX7_placedShort_261 ⟨by decide +kernel, by decide +kernel⟩) hS (fun q _ h => hFc q h) hFc (fun r25 u t H1 locs ht hvm hw hB hz1 hk1 hS => ?_)
      obtain ⟨hP1, hK1, hD1⟩ := hB
      rw [ht] at hP1
      have hK1 := va_K.moved hvm.symm hK1
      obtain ⟨hP, hD⟩ := va_join (wr := []) (w1 := []) hP hD [] [] rfl rfl (by decide) (by decide) hk1 hFc hP1 hD1
      have hK := (hK.sub (tys' := []) [] rfl).app hK1
      generalize H1 = H at hP hS ⊢
      have hP : va_P (dC, dI) vwCl [] H := hP
      have hD : va_D A [] := hD
      have hK : va_K (dC, dI) vwCl [] s := hK
      refine W.widen (k := 0) (n := 0) (by decide +kernel) (by decide +kernel) ?_
      rcases hw with h9 | h9
      · subst h9
        refine lv_ior hx hb dX7_placedShort_264 ?_
        refine lv_iload_n hx hb dX7_placedShort_265 rfl (lv_at hl 1 rfl) ?_
        refine lv_bipush (v := 6) hx hb dX7_placedShort_266 (by decide) ?_
        refine lv_iconst (v := 1) hx hb dX7_placedShort_268 (by decide) ?_
        refine lv_iconst (v := 5) hx hb dX7_placedShort_269 (by decide) ?_
        have hPc := hP.sub (ws' := []) [] rfl
        have hDc := hD.sub (ws' := []) [] (by decide) rfl
        have hKc := hK.sub (tys' := []) [] rfl
        have hFc := va_free (wc := []) hD hS hA [] rfl
        refine va_calli (va_runS (As := [.int v1, .int 6, .int 1, .int 5]) (rest := [.int ((((((v1 : Int32) >>> ((3 : Int32) &&& 31)) &&& 7) : Int32) <<< ((10 : Int32) &&& 31)) ||| (((((v1 : Int32) >>> ((2 : Int32) &&& 31)) &&& 1) : Int32) <<< ((6 : Int32) &&& 31)))]) ⟨hx, hb, hml, hown, hts⟩ (k_X7_part_v20 l hlt dC dI v1  H.size) (cwS 4 hts gi_g_X7_placedShort_20 rfl rfl rfl (by decide +kernel) ⟨Nat.le_of_ble_eq_true rfl, Nat.le_of_ble_eq_true rfl⟩) ⟨fun a U g mk q => by obtain ⟨q0, q1, qP, qK, qD, qN⟩ := q; exact ⟨q0, q1, qP, va_K.moved (u := U) (U := U.calling g mk a) (Vm.Alike.refl U.vm) qK, qD, nv_same rfl rfl qN⟩, fun U hU hW => ⟨rfl, by rw [hU], by rw [hU]; exact hPc, va_K.moved hW.alike hKc, hDc.weaken (fun _ _ _ _ => trivial), nv_call hS hFc hU hW hN⟩⟩ rfl rfl hl.1 rfl (lv_room (Nat.le_of_ble_eq_true rfl)) dX7_placedShort_270 ⟨by decide +kernel, by decide +kernel⟩) hS (fun q _ h => hFc q h) hFc (fun r26 u t H1 locs ht hvm hw hB hz1 hk1 hS => ?_)
        obtain ⟨hP1, hK1, hD1⟩ := hB
        rw [ht] at hP1
        have hK1 := va_K.moved hvm.symm hK1
        obtain ⟨hP, hD⟩ := va_join (wr := []) (w1 := []) hP hD [] [] rfl rfl (by decide) (by decide) hk1 hFc hP1 hD1
        have hK := (hK.sub (tys' := []) [] rfl).app hK1
        generalize H1 = H at hP hS ⊢
        have hP : va_P (dC, dI) vwCl [] H := hP
        have hD : va_D A [] := hD
        have hK : va_K (dC, dI) vwCl [] s := hK
        refine W.widen (k := 0) (n := 0) (by decide +kernel) (by decide +kernel) ?_
        rcases hw with h9 | h9
        · subst h9
          refine lv_ior hx hb dX7_placedShort_273 ?_
          refine W.widen (k := 0) (n := 0) (by decide +kernel) (by decide +kernel) ?_
          exact W.iret (v := (((((((v1 : Int32) >>> ((3 : Int32) &&& 31)) &&& 7) : Int32) <<< ((10 : Int32) &&& 31)) ||| (((((v1 : Int32) >>> ((2 : Int32) &&& 31)) &&& 1) : Int32) <<< ((6 : Int32) &&& 31))) ||| (((((v1 : Int32) >>> ((6 : Int32) &&& 31)) &&& 1) : Int32) <<< ((5 : Int32) &&& 31)))) hx hb hr (fun t ht hW => ⟨⟨(((((((v1 : Int32) >>> ((3 : Int32) &&& 31)) &&& 7) : Int32) <<< ((10 : Int32) &&& 31)) ||| (((((v1 : Int32) >>> ((2 : Int32) &&& 31)) &&& 1) : Int32) <<< ((6 : Int32) &&& 31))) ||| (((((v1 : Int32) >>> ((6 : Int32) &&& 31)) &&& 1) : Int32) <<< ((5 : Int32) &&& 31))), (), rfl, Or.inr (Or.inr (Or.inr (Or.inr (Or.inr (Or.inr (Or.inr (Or.inr (Or.inr (Or.inr (Or.inr (Or.inr (Or.inl ⟨c_1, c_10, c_16, c_19, c_22, c_23, c_27, c_30, c_31, c_32, c_33, c_34, c_36, rfl⟩)))))))))))), by rw [ht]; exact hP, va_K.moved hW.alike hK, hD⟩, hS.F ht⟩) hS.2.2 dX7_placedShort_274
        · exact h9.elim
      · exact h9.elim
    · exact h9.elim
  by_cases c_40 : v0 = 88
  · refine lv_tableIn (off := 211) (tgt := 212) hx hb dX7_placedShort_1 (by rw [c_40]; decide) (by rw [c_40]; decide) (by rw [c_40]; decide) (by decide) ?_
    refine lv_iload_n hx hb dX7_placedShort_212 rfl (lv_at hl 1 rfl) ?_
    refine lv_iconst (v := 4) hx hb dX7_placedShort_213 (by decide) ?_
    refine lv_iconst (v := 2) hx hb dX7_placedShort_214 (by decide) ?_
    refine lv_bipush (v := 11) hx hb dX7_placedShort_215 (by decide) ?_
    have hPc := hP.sub (ws' := []) [] rfl
    have hDc := hD.sub (ws' := []) [] (by decide) rfl
    have hKc := hK.sub (tys' := []) [] rfl
    have hFc := va_free (wc := []) hD hS hA [] rfl
    refine va_calli (va_runS (As := [.int v1, .int 4, .int 2, .int 11]) (rest := []) ⟨hx, hb, hml, hown, hts⟩ (k_X7_part_v21 l hlt dC dI v1  s.heap.size) (cwS 4 hts gi_g_X7_placedShort_21 rfl rfl rfl (by decide +kernel) ⟨Nat.le_of_ble_eq_true rfl, Nat.le_of_ble_eq_true rfl⟩) ⟨fun a U g mk q => by obtain ⟨q0, q1, qP, qK, qD, qN⟩ := q; exact ⟨q0, q1, qP, va_K.moved (u := U) (U := U.calling g mk a) (Vm.Alike.refl U.vm) qK, qD, nv_same rfl rfl qN⟩, fun U hU hW => ⟨rfl, by rw [hU], by rw [hU]; exact hPc, va_K.moved hW.alike hKc, hDc.weaken (fun _ _ _ _ => trivial), nv_call hS hFc hU hW hN⟩⟩ rfl rfl hl.1 rfl (lv_room (Nat.le_of_ble_eq_true rfl)) dX7_placedShort_217 ⟨by decide +kernel, by decide +kernel⟩) hS (fun q _ h => hFc q h) hFc (fun r27 u t H1 locs ht hvm hw hB hz1 hk1 hS => ?_)
    obtain ⟨hP1, hK1, hD1⟩ := hB
    rw [ht] at hP1
    have hK1 := va_K.moved hvm.symm hK1
    obtain ⟨hP, hD⟩ := va_join (wr := []) (w1 := []) hP hD [] [] rfl rfl (by decide) (by decide) hk1 hFc hP1 hD1
    have hK := (hK.sub (tys' := []) [] rfl).app hK1
    generalize H1 = H at hP hS ⊢
    have hP : va_P (dC, dI) vwCl [] H := hP
    have hD : va_D A [] := hD
    have hK : va_K (dC, dI) vwCl [] s := hK
    refine W.widen (k := 0) (n := 0) (by decide +kernel) (by decide +kernel) ?_
    rcases hw with h9 | h9
    · subst h9
      refine lv_iload_n hx hb dX7_placedShort_220 rfl (lv_at hl 1 rfl) ?_
      refine lv_bipush (v := 6) hx hb dX7_placedShort_221 (by decide) ?_
      refine lv_iconst (v := 4) hx hb dX7_placedShort_223 (by decide) ?_
      refine lv_bipush (v := 7) hx hb dX7_placedShort_224 (by decide) ?_
      have hPc := hP.sub (ws' := []) [] rfl
      have hDc := hD.sub (ws' := []) [] (by decide) rfl
      have hKc := hK.sub (tys' := []) [] rfl
      have hFc := va_free (wc := []) hD hS hA [] rfl
      refine va_calli (va_runS (As := [.int v1, .int 6, .int 4, .int 7]) (rest := [.int (((((v1 : Int32) >>> ((4 : Int32) &&& 31)) &&& 3) : Int32) <<< ((11 : Int32) &&& 31))]) ⟨hx, hb, hml, hown, hts⟩ (k_X7_part_v22 l hlt dC dI v1  H.size) (cwS 4 hts gi_g_X7_placedShort_22 rfl rfl rfl (by decide +kernel) ⟨Nat.le_of_ble_eq_true rfl, Nat.le_of_ble_eq_true rfl⟩) ⟨fun a U g mk q => by obtain ⟨q0, q1, qP, qK, qD, qN⟩ := q; exact ⟨q0, q1, qP, va_K.moved (u := U) (U := U.calling g mk a) (Vm.Alike.refl U.vm) qK, qD, nv_same rfl rfl qN⟩, fun U hU hW => ⟨rfl, by rw [hU], by rw [hU]; exact hPc, va_K.moved hW.alike hKc, hDc.weaken (fun _ _ _ _ => trivial), nv_call hS hFc hU hW hN⟩⟩ rfl rfl hl.1 rfl (lv_room (Nat.le_of_ble_eq_true rfl)) dX7_placedShort_226 ⟨by decide +kernel, by decide +kernel⟩) hS (fun q _ h => hFc q h) hFc (fun r28 u t H1 locs ht hvm hw hB hz1 hk1 hS => ?_)
      obtain ⟨hP1, hK1, hD1⟩ := hB
      rw [ht] at hP1
      have hK1 := va_K.moved hvm.symm hK1
      obtain ⟨hP, hD⟩ := va_join (wr := []) (w1 := []) hP hD [] [] rfl rfl (by decide) (by decide) hk1 hFc hP1 hD1
      have hK := (hK.sub (tys' := []) [] rfl).app hK1
      generalize H1 = H at hP hS ⊢
      have hP : va_P (dC, dI) vwCl [] H := hP
      have hD : va_D A [] := hD
      have hK : va_K (dC, dI) vwCl [] s := hK
      refine W.widen (k := 0) (n := 0) (by decide +kernel) (by decide +kernel) ?_
      rcases hw with h9 | h9
      · subst h9
        refine lv_ior hx hb dX7_placedShort_229 ?_
        refine lv_iload_n hx hb dX7_placedShort_230 rfl (lv_at hl 1 rfl) ?_
        refine lv_iconst (v := 2) hx hb dX7_placedShort_231 (by decide) ?_
        refine lv_iconst (v := 1) hx hb dX7_placedShort_232 (by decide) ?_
        refine lv_bipush (v := 6) hx hb dX7_placedShort_233 (by decide) ?_
        have hPc := hP.sub (ws' := []) [] rfl
        have hDc := hD.sub (ws' := []) [] (by decide) rfl
        have hKc := hK.sub (tys' := []) [] rfl
        have hFc := va_free (wc := []) hD hS hA [] rfl
        refine va_calli (va_runS (As := [.int v1, .int 2, .int 1, .int 6]) (rest := [.int ((((((v1 : Int32) >>> ((4 : Int32) &&& 31)) &&& 3) : Int32) <<< ((11 : Int32) &&& 31)) ||| (((((v1 : Int32) >>> ((6 : Int32) &&& 31)) &&& 15) : Int32) <<< ((7 : Int32) &&& 31)))]) ⟨hx, hb, hml, hown, hts⟩ (k_X7_part_v19 l hlt dC dI v1  H.size) (cwS 4 hts gi_g_X7_placedShort_19 rfl rfl rfl (by decide +kernel) ⟨Nat.le_of_ble_eq_true rfl, Nat.le_of_ble_eq_true rfl⟩) ⟨fun a U g mk q => by obtain ⟨q0, q1, qP, qK, qD, qN⟩ := q; exact ⟨q0, q1, qP, va_K.moved (u := U) (U := U.calling g mk a) (Vm.Alike.refl U.vm) qK, qD, nv_same rfl rfl qN⟩, fun U hU hW => ⟨rfl, by rw [hU], by rw [hU]; exact hPc, va_K.moved hW.alike hKc, hDc.weaken (fun _ _ _ _ => trivial), nv_call hS hFc hU hW hN⟩⟩ rfl rfl hl.1 rfl (lv_room (Nat.le_of_ble_eq_true rfl)) dX7_placedShort_235 ⟨by decide +kernel, by decide +kernel⟩) hS (fun q _ h => hFc q h) hFc (fun r29 u t H1 locs ht hvm hw hB hz1 hk1 hS => ?_)
        obtain ⟨hP1, hK1, hD1⟩ := hB
        rw [ht] at hP1
        have hK1 := va_K.moved hvm.symm hK1
        obtain ⟨hP, hD⟩ := va_join (wr := []) (w1 := []) hP hD [] [] rfl rfl (by decide) (by decide) hk1 hFc hP1 hD1
        have hK := (hK.sub (tys' := []) [] rfl).app hK1
        generalize H1 = H at hP hS ⊢
        have hP : va_P (dC, dI) vwCl [] H := hP
        have hD : va_D A [] := hD
        have hK : va_K (dC, dI) vwCl [] s := hK
        refine W.widen (k := 0) (n := 0) (by decide +kernel) (by decide +kernel) ?_
        rcases hw with h9 | h9
        · subst h9
          refine lv_ior hx hb dX7_placedShort_238 ?_
          refine lv_iload_n hx hb dX7_placedShort_239 rfl (lv_at hl 1 rfl) ?_
          refine lv_iconst (v := 3) hx hb dX7_placedShort_240 (by decide) ?_
          refine lv_iconst (v := 1) hx hb dX7_placedShort_241 (by decide) ?_
          refine lv_iconst (v := 5) hx hb dX7_placedShort_242 (by decide) ?_
          have hPc := hP.sub (ws' := []) [] rfl
          have hDc := hD.sub (ws' := []) [] (by decide) rfl
          have hKc := hK.sub (tys' := []) [] rfl
          have hFc := va_free (wc := []) hD hS hA [] rfl
          refine va_calli (va_runS (As := [.int v1, .int 3, .int 1, .int 5]) (rest := [.int (((((((v1 : Int32) >>> ((4 : Int32) &&& 31)) &&& 3) : Int32) <<< ((11 : Int32) &&& 31)) ||| (((((v1 : Int32) >>> ((6 : Int32) &&& 31)) &&& 15) : Int32) <<< ((7 : Int32) &&& 31))) ||| (((((v1 : Int32) >>> ((2 : Int32) &&& 31)) &&& 1) : Int32) <<< ((6 : Int32) &&& 31)))]) ⟨hx, hb, hml, hown, hts⟩ (k_X7_part_v23 l hlt dC dI v1  H.size) (cwS 4 hts gi_g_X7_placedShort_23 rfl rfl rfl (by decide +kernel) ⟨Nat.le_of_ble_eq_true rfl, Nat.le_of_ble_eq_true rfl⟩) ⟨fun a U g mk q => by obtain ⟨q0, q1, qP, qK, qD, qN⟩ := q; exact ⟨q0, q1, qP, va_K.moved (u := U) (U := U.calling g mk a) (Vm.Alike.refl U.vm) qK, qD, nv_same rfl rfl qN⟩, fun U hU hW => ⟨rfl, by rw [hU], by rw [hU]; exact hPc, va_K.moved hW.alike hKc, hDc.weaken (fun _ _ _ _ => trivial), nv_call hS hFc hU hW hN⟩⟩ rfl rfl hl.1 rfl (lv_room (Nat.le_of_ble_eq_true rfl)) dX7_placedShort_243 ⟨by decide +kernel, by decide +kernel⟩) hS (fun q _ h => hFc q h) hFc (fun r30 u t H1 locs ht hvm hw hB hz1 hk1 hS => ?_)
          obtain ⟨hP1, hK1, hD1⟩ := hB
          rw [ht] at hP1
          have hK1 := va_K.moved hvm.symm hK1
          obtain ⟨hP, hD⟩ := va_join (wr := []) (w1 := []) hP hD [] [] rfl rfl (by decide) (by decide) hk1 hFc hP1 hD1
          have hK := (hK.sub (tys' := []) [] rfl).app hK1
          generalize H1 = H at hP hS ⊢
          have hP : va_P (dC, dI) vwCl [] H := hP
          have hD : va_D A [] := hD
          have hK : va_K (dC, dI) vwCl [] s := hK
          refine W.widen (k := 0) (n := 0) (by decide +kernel) (by decide +kernel) ?_
          rcases hw with h9 | h9
          · subst h9
            refine lv_ior hx hb dX7_placedShort_246 ?_
            refine W.widen (k := 0) (n := 0) (by decide +kernel) (by decide +kernel) ?_
            exact W.iret (v := ((((((((v1 : Int32) >>> ((4 : Int32) &&& 31)) &&& 3) : Int32) <<< ((11 : Int32) &&& 31)) ||| (((((v1 : Int32) >>> ((6 : Int32) &&& 31)) &&& 15) : Int32) <<< ((7 : Int32) &&& 31))) ||| (((((v1 : Int32) >>> ((2 : Int32) &&& 31)) &&& 1) : Int32) <<< ((6 : Int32) &&& 31))) ||| (((((v1 : Int32) >>> ((3 : Int32) &&& 31)) &&& 1) : Int32) <<< ((5 : Int32) &&& 31)))) hx hb hr (fun t ht hW => ⟨⟨((((((((v1 : Int32) >>> ((4 : Int32) &&& 31)) &&& 3) : Int32) <<< ((11 : Int32) &&& 31)) ||| (((((v1 : Int32) >>> ((6 : Int32) &&& 31)) &&& 15) : Int32) <<< ((7 : Int32) &&& 31))) ||| (((((v1 : Int32) >>> ((2 : Int32) &&& 31)) &&& 1) : Int32) <<< ((6 : Int32) &&& 31))) ||| (((((v1 : Int32) >>> ((3 : Int32) &&& 31)) &&& 1) : Int32) <<< ((5 : Int32) &&& 31))), (), rfl, Or.inr (Or.inr (Or.inr (Or.inr (Or.inr (Or.inr (Or.inr (Or.inr (Or.inr (Or.inr (Or.inr (Or.inr (Or.inr (Or.inl ⟨c_1, c_10, c_16, c_19, c_22, c_23, c_27, c_30, c_31, c_32, c_33, c_34, c_36, c_40, rfl⟩))))))))))))), by rw [ht]; exact hP, va_K.moved hW.alike hK, hD⟩, hS.F ht⟩) hS.2.2 dX7_placedShort_247
          · exact h9.elim
        · exact h9.elim
      · exact h9.elim
    · exact h9.elim
  by_cases c_45 : v0 = 89
  · refine lv_tableIn (off := 274) (tgt := 275) hx hb dX7_placedShort_1 (by rw [c_45]; decide) (by rw [c_45]; decide) (by rw [c_45]; decide) (by decide) ?_
    refine lv_iload_n hx hb dX7_placedShort_275 rfl (lv_at hl 1 rfl) ?_
    refine lv_bipush (v := 9) hx hb dX7_placedShort_276 (by decide) ?_
    refine lv_iconst (v := 1) hx hb dX7_placedShort_278 (by decide) ?_
    refine lv_bipush (v := 12) hx hb dX7_placedShort_279 (by decide) ?_
    have hPc := hP.sub (ws' := []) [] rfl
    have hDc := hD.sub (ws' := []) [] (by decide) rfl
    have hKc := hK.sub (tys' := []) [] rfl
    have hFc := va_free (wc := []) hD hS hA [] rfl
    refine va_calli (va_runS (As := [.int v1, .int 9, .int 1, .int 12]) (rest := []) ⟨hx, hb, hml, hown, hts⟩ (k_X7_part_v24 l hlt dC dI v1  s.heap.size) (cwS 4 hts gi_g_X7_placedShort_24 rfl rfl rfl (by decide +kernel) ⟨Nat.le_of_ble_eq_true rfl, Nat.le_of_ble_eq_true rfl⟩) ⟨fun a U g mk q => by obtain ⟨q0, q1, qP, qK, qD, qN⟩ := q; exact ⟨q0, q1, qP, va_K.moved (u := U) (U := U.calling g mk a) (Vm.Alike.refl U.vm) qK, qD, nv_same rfl rfl qN⟩, fun U hU hW => ⟨rfl, by rw [hU], by rw [hU]; exact hPc, va_K.moved hW.alike hKc, hDc.weaken (fun _ _ _ _ => trivial), nv_call hS hFc hU hW hN⟩⟩ rfl rfl hl.1 rfl (lv_room (Nat.le_of_ble_eq_true rfl)) dX7_placedShort_281 ⟨by decide +kernel, by decide +kernel⟩) hS (fun q _ h => hFc q h) hFc (fun r31 u t H1 locs ht hvm hw hB hz1 hk1 hS => ?_)
    obtain ⟨hP1, hK1, hD1⟩ := hB
    rw [ht] at hP1
    have hK1 := va_K.moved hvm.symm hK1
    obtain ⟨hP, hD⟩ := va_join (wr := []) (w1 := []) hP hD [] [] rfl rfl (by decide) (by decide) hk1 hFc hP1 hD1
    have hK := (hK.sub (tys' := []) [] rfl).app hK1
    generalize H1 = H at hP hS ⊢
    have hP : va_P (dC, dI) vwCl [] H := hP
    have hD : va_D A [] := hD
    have hK : va_K (dC, dI) vwCl [] s := hK
    refine W.widen (k := 0) (n := 0) (by decide +kernel) (by decide +kernel) ?_
    rcases hw with h9 | h9
    · subst h9
      refine lv_iload_n hx hb dX7_placedShort_284 rfl (lv_at hl 1 rfl) ?_
      refine lv_iconst (v := 4) hx hb dX7_placedShort_285 (by decide) ?_
      refine lv_iconst (v := 1) hx hb dX7_placedShort_286 (by decide) ?_
      refine lv_bipush (v := 6) hx hb dX7_placedShort_287 (by decide) ?_
      have hPc := hP.sub (ws' := []) [] rfl
      have hDc := hD.sub (ws' := []) [] (by decide) rfl
      have hKc := hK.sub (tys' := []) [] rfl
      have hFc := va_free (wc := []) hD hS hA [] rfl
      refine va_calli (va_runS (As := [.int v1, .int 4, .int 1, .int 6]) (rest := [.int (((((v1 : Int32) >>> ((9 : Int32) &&& 31)) &&& 1) : Int32) <<< ((12 : Int32) &&& 31))]) ⟨hx, hb, hml, hown, hts⟩ (k_X7_part_v25 l hlt dC dI v1  H.size) (cwS 4 hts gi_g_X7_placedShort_25 rfl rfl rfl (by decide +kernel) ⟨Nat.le_of_ble_eq_true rfl, Nat.le_of_ble_eq_true rfl⟩) ⟨fun a U g mk q => by obtain ⟨q0, q1, qP, qK, qD, qN⟩ := q; exact ⟨q0, q1, qP, va_K.moved (u := U) (U := U.calling g mk a) (Vm.Alike.refl U.vm) qK, qD, nv_same rfl rfl qN⟩, fun U hU hW => ⟨rfl, by rw [hU], by rw [hU]; exact hPc, va_K.moved hW.alike hKc, hDc.weaken (fun _ _ _ _ => trivial), nv_call hS hFc hU hW hN⟩⟩ rfl rfl hl.1 rfl (lv_room (Nat.le_of_ble_eq_true rfl)) dX7_placedShort_289 ⟨by decide +kernel, by decide +kernel⟩) hS (fun q _ h => hFc q h) hFc (fun r32 u t H1 locs ht hvm hw hB hz1 hk1 hS => ?_)
      obtain ⟨hP1, hK1, hD1⟩ := hB
      rw [ht] at hP1
      have hK1 := va_K.moved hvm.symm hK1
      obtain ⟨hP, hD⟩ := va_join (wr := []) (w1 := []) hP hD [] [] rfl rfl (by decide) (by decide) hk1 hFc hP1 hD1
      have hK := (hK.sub (tys' := []) [] rfl).app hK1
      generalize H1 = H at hP hS ⊢
      have hP : va_P (dC, dI) vwCl [] H := hP
      have hD : va_D A [] := hD
      have hK : va_K (dC, dI) vwCl [] s := hK
      refine W.widen (k := 0) (n := 0) (by decide +kernel) (by decide +kernel) ?_
      rcases hw with h9 | h9
      · subst h9
        refine lv_ior hx hb dX7_placedShort_292 ?_
        refine lv_iload_n hx hb dX7_placedShort_293 rfl (lv_at hl 1 rfl) ?_
        refine lv_bipush (v := 6) hx hb dX7_placedShort_294 (by decide) ?_
        refine lv_iconst (v := 1) hx hb dX7_placedShort_296 (by decide) ?_
        refine lv_iconst (v := 5) hx hb dX7_placedShort_297 (by decide) ?_
        have hPc := hP.sub (ws' := []) [] rfl
        have hDc := hD.sub (ws' := []) [] (by decide) rfl
        have hKc := hK.sub (tys' := []) [] rfl
        have hFc := va_free (wc := []) hD hS hA [] rfl
        refine va_calli (va_runS (As := [.int v1, .int 6, .int 1, .int 5]) (rest := [.int ((((((v1 : Int32) >>> ((9 : Int32) &&& 31)) &&& 1) : Int32) <<< ((12 : Int32) &&& 31)) ||| (((((v1 : Int32) >>> ((4 : Int32) &&& 31)) &&& 1) : Int32) <<< ((6 : Int32) &&& 31)))]) ⟨hx, hb, hml, hown, hts⟩ (k_X7_part_v20 l hlt dC dI v1  H.size) (cwS 4 hts gi_g_X7_placedShort_20 rfl rfl rfl (by decide +kernel) ⟨Nat.le_of_ble_eq_true rfl, Nat.le_of_ble_eq_true rfl⟩) ⟨fun a U g mk q => by obtain ⟨q0, q1, qP, qK, qD, qN⟩ := q; exact ⟨q0, q1, qP, va_K.moved (u := U) (U := U.calling g mk a) (Vm.Alike.refl U.vm) qK, qD, nv_same rfl rfl qN⟩, fun U hU hW => ⟨rfl, by rw [hU], by rw [hU]; exact hPc, va_K.moved hW.alike hKc, hDc.weaken (fun _ _ _ _ => trivial), nv_call hS hFc hU hW hN⟩⟩ rfl rfl hl.1 rfl (lv_room (Nat.le_of_ble_eq_true rfl)) dX7_placedShort_298 ⟨by decide +kernel, by decide +kernel⟩) hS (fun q _ h => hFc q h) hFc (fun r33 u t H1 locs ht hvm hw hB hz1 hk1 hS => ?_)
        obtain ⟨hP1, hK1, hD1⟩ := hB
        rw [ht] at hP1
        have hK1 := va_K.moved hvm.symm hK1
        obtain ⟨hP, hD⟩ := va_join (wr := []) (w1 := []) hP hD [] [] rfl rfl (by decide) (by decide) hk1 hFc hP1 hD1
        have hK := (hK.sub (tys' := []) [] rfl).app hK1
        generalize H1 = H at hP hS ⊢
        have hP : va_P (dC, dI) vwCl [] H := hP
        have hD : va_D A [] := hD
        have hK : va_K (dC, dI) vwCl [] s := hK
        refine W.widen (k := 0) (n := 0) (by decide +kernel) (by decide +kernel) ?_
        rcases hw with h9 | h9
        · subst h9
          refine lv_ior hx hb dX7_placedShort_301 ?_
          refine lv_iload_n hx hb dX7_placedShort_302 rfl (lv_at hl 1 rfl) ?_
          refine lv_bipush (v := 7) hx hb dX7_placedShort_303 (by decide) ?_
          refine lv_iconst (v := 2) hx hb dX7_placedShort_305 (by decide) ?_
          refine lv_iconst (v := 3) hx hb dX7_placedShort_306 (by decide) ?_
          have hPc := hP.sub (ws' := []) [] rfl
          have hDc := hD.sub (ws' := []) [] (by decide) rfl
          have hKc := hK.sub (tys' := []) [] rfl
          have hFc := va_free (wc := []) hD hS hA [] rfl
          refine va_calli (va_runS (As := [.int v1, .int 7, .int 2, .int 3]) (rest := [.int (((((((v1 : Int32) >>> ((9 : Int32) &&& 31)) &&& 1) : Int32) <<< ((12 : Int32) &&& 31)) ||| (((((v1 : Int32) >>> ((4 : Int32) &&& 31)) &&& 1) : Int32) <<< ((6 : Int32) &&& 31))) ||| (((((v1 : Int32) >>> ((6 : Int32) &&& 31)) &&& 1) : Int32) <<< ((5 : Int32) &&& 31)))]) ⟨hx, hb, hml, hown, hts⟩ (k_X7_part_v26 l hlt dC dI v1  H.size) (cwS 4 hts gi_g_X7_placedShort_26 rfl rfl rfl (by decide +kernel) ⟨Nat.le_of_ble_eq_true rfl, Nat.le_of_ble_eq_true rfl⟩) ⟨fun a U g mk q => by obtain ⟨q0, q1, qP, qK, qD, qN⟩ := q; exact ⟨q0, q1, qP, va_K.moved (u := U) (U := U.calling g mk a) (Vm.Alike.refl U.vm) qK, qD, nv_same rfl rfl qN⟩, fun U hU hW => ⟨rfl, by rw [hU], by rw [hU]; exact hPc, va_K.moved hW.alike hKc, hDc.weaken (fun _ _ _ _ => trivial), nv_call hS hFc hU hW hN⟩⟩ rfl rfl hl.1 rfl (lv_room (Nat.le_of_ble_eq_true rfl)) dX7_placedShort_307 ⟨by decide +kernel, by decide +kernel⟩) hS (fun q _ h => hFc q h) hFc (fun r34 u t H1 locs ht hvm hw hB hz1 hk1 hS => ?_)
          obtain ⟨hP1, hK1, hD1⟩ := hB
          rw [ht] at hP1
          have hK1 := va_K.moved hvm.symm hK1
          obtain ⟨hP, hD⟩ := va_join (wr := []) (w1 := []) hP hD [] [] rfl rfl (by decide) (by decide) hk1 hFc hP1 hD1
          have hK := (hK.sub (tys' := []) [] rfl).app hK1
          generalize H1 = H at hP hS ⊢
          have hP : va_P (dC, dI) vwCl [] H := hP
          have hD : va_D A [] := hD
          have hK : va_K (dC, dI) vwCl [] s := hK
          refine W.widen (k := 0) (n := 0) (by decide +kernel) (by decide +kernel) ?_
          rcases hw with h9 | h9
          · subst h9
            refine lv_ior hx hb dX7_placedShort_310 ?_
            refine lv_iload_n hx hb dX7_placedShort_311 rfl (lv_at hl 1 rfl) ?_
            refine lv_iconst (v := 5) hx hb dX7_placedShort_312 (by decide) ?_
            refine lv_iconst (v := 1) hx hb dX7_placedShort_313 (by decide) ?_
            refine lv_iconst (v := 2) hx hb dX7_placedShort_314 (by decide) ?_
            have hPc := hP.sub (ws' := []) [] rfl
            have hDc := hD.sub (ws' := []) [] (by decide) rfl
            have hKc := hK.sub (tys' := []) [] rfl
            have hFc := va_free (wc := []) hD hS hA [] rfl
            refine va_calli (va_runS (As := [.int v1, .int 5, .int 1, .int 2]) (rest := [.int ((((((((v1 : Int32) >>> ((9 : Int32) &&& 31)) &&& 1) : Int32) <<< ((12 : Int32) &&& 31)) ||| (((((v1 : Int32) >>> ((4 : Int32) &&& 31)) &&& 1) : Int32) <<< ((6 : Int32) &&& 31))) ||| (((((v1 : Int32) >>> ((6 : Int32) &&& 31)) &&& 1) : Int32) <<< ((5 : Int32) &&& 31))) ||| (((((v1 : Int32) >>> ((7 : Int32) &&& 31)) &&& 3) : Int32) <<< ((3 : Int32) &&& 31)))]) ⟨hx, hb, hml, hown, hts⟩ (k_X7_part_v7 l hlt dC dI v1  H.size) (cwS 4 hts gi_g_X7_placedShort_7 rfl rfl rfl (by decide +kernel) ⟨Nat.le_of_ble_eq_true rfl, Nat.le_of_ble_eq_true rfl⟩) ⟨fun a U g mk q => by obtain ⟨q0, q1, qP, qK, qD, qN⟩ := q; exact ⟨q0, q1, qP, va_K.moved (u := U) (U := U.calling g mk a) (Vm.Alike.refl U.vm) qK, qD, nv_same rfl rfl qN⟩, fun U hU hW => ⟨rfl, by rw [hU], by rw [hU]; exact hPc, va_K.moved hW.alike hKc, hDc.weaken (fun _ _ _ _ => trivial), nv_call hS hFc hU hW hN⟩⟩ rfl rfl hl.1 rfl (lv_room (Nat.le_of_ble_eq_true rfl)) dX7_placedShort_315 ⟨by decide +kernel, by decide +kernel⟩) hS (fun q _ h => hFc q h) hFc (fun r35 u t H1 locs ht hvm hw hB hz1 hk1 hS => ?_)
            obtain ⟨hP1, hK1, hD1⟩ := hB
            rw [ht] at hP1
            have hK1 := va_K.moved hvm.symm hK1
            obtain ⟨hP, hD⟩ := va_join (wr := []) (w1 := []) hP hD [] [] rfl rfl (by decide) (by decide) hk1 hFc hP1 hD1
            have hK := (hK.sub (tys' := []) [] rfl).app hK1
            generalize H1 = H at hP hS ⊢
            have hP : va_P (dC, dI) vwCl [] H := hP
            have hD : va_D A [] := hD
            have hK : va_K (dC, dI) vwCl [] s := hK
            refine W.widen (k := 0) (n := 0) (by decide +kernel) (by decide +kernel) ?_
            rcases hw with h9 | h9
            · subst h9
              refine lv_ior hx hb dX7_placedShort_318 ?_
              refine W.widen (k := 0) (n := 0) (by decide +kernel) (by decide +kernel) ?_
              exact W.iret (v := (((((((((v1 : Int32) >>> ((9 : Int32) &&& 31)) &&& 1) : Int32) <<< ((12 : Int32) &&& 31)) ||| (((((v1 : Int32) >>> ((4 : Int32) &&& 31)) &&& 1) : Int32) <<< ((6 : Int32) &&& 31))) ||| (((((v1 : Int32) >>> ((6 : Int32) &&& 31)) &&& 1) : Int32) <<< ((5 : Int32) &&& 31))) ||| (((((v1 : Int32) >>> ((7 : Int32) &&& 31)) &&& 3) : Int32) <<< ((3 : Int32) &&& 31))) ||| (((((v1 : Int32) >>> ((5 : Int32) &&& 31)) &&& 1) : Int32) <<< ((2 : Int32) &&& 31)))) hx hb hr (fun t ht hW => ⟨⟨(((((((((v1 : Int32) >>> ((9 : Int32) &&& 31)) &&& 1) : Int32) <<< ((12 : Int32) &&& 31)) ||| (((((v1 : Int32) >>> ((4 : Int32) &&& 31)) &&& 1) : Int32) <<< ((6 : Int32) &&& 31))) ||| (((((v1 : Int32) >>> ((6 : Int32) &&& 31)) &&& 1) : Int32) <<< ((5 : Int32) &&& 31))) ||| (((((v1 : Int32) >>> ((7 : Int32) &&& 31)) &&& 3) : Int32) <<< ((3 : Int32) &&& 31))) ||| (((((v1 : Int32) >>> ((5 : Int32) &&& 31)) &&& 1) : Int32) <<< ((2 : Int32) &&& 31))), (), rfl, Or.inr (Or.inr (Or.inr (Or.inr (Or.inr (Or.inr (Or.inr (Or.inr (Or.inr (Or.inr (Or.inr (Or.inr (Or.inr (Or.inr (Or.inl ⟨c_1, c_10, c_16, c_19, c_22, c_23, c_27, c_30, c_31, c_32, c_33, c_34, c_36, c_40, c_45, rfl⟩)))))))))))))), by rw [ht]; exact hP, va_K.moved hW.alike hK, hD⟩, hS.F ht⟩) hS.2.2 dX7_placedShort_319
            · exact h9.elim
          · exact h9.elim
        · exact h9.elim
      · exact h9.elim
    · exact h9.elim
  refine lv_tableOut (tgt := 373) hx hb dX7_placedShort_1 (by have g0 := nv_nei c_1 (k := 75) (by decide); have g1 := nv_nei c_10 (k := 76) (by decide); have g2 := nv_nei c_16 (k := 77) (by decide); have g3 := nv_nei c_19 (k := 78) (by decide); have g4 := nv_nei c_22 (k := 79) (by decide); have g5 := nv_nei c_23 (k := 80) (by decide); have g6 := nv_nei c_27 (k := 81) (by decide); have g7 := nv_nei c_30 (k := 82) (by decide); have g8 := nv_nei c_31 (k := 83) (by decide); have g9 := nv_nei c_32 (k := 84) (by decide); have g10 := nv_nei c_33 (k := 85) (by decide); have g11 := nv_nei c_34 (k := 86) (by decide); have g12 := nv_nei c_36 (k := 87) (by decide); have g13 := nv_nei c_40 (k := 88) (by decide); have g14 := nv_nei c_45 (k := 89) (by decide); omega) (by decide) ?_
  refine lv_iconst (v := 0) hx hb dX7_placedShort_373 (by decide) ?_
  refine W.widen (k := 0) (n := 0) (by decide +kernel) (by decide +kernel) ?_
  exact W.iret (v := 0) hx hb hr (fun t ht hW => ⟨⟨0, (), rfl, Or.inr (Or.inr (Or.inr (Or.inr (Or.inr (Or.inr (Or.inr (Or.inr (Or.inr (Or.inr (Or.inr (Or.inr (Or.inr (Or.inr (Or.inr (Or.inl ⟨c_1, c_10, c_16, c_19, c_22, c_23, c_27, c_30, c_31, c_32, c_33, c_34, c_36, c_40, c_45, rfl⟩))))))))))))))), by rw [ht]; exact hP, va_K.moved hW.alike hK, hD⟩, hS.F ht⟩) hS.2.2 dX7_placedShort_374
def ow_g_X12_end : List Cond := .code yX12_end cX12_end 2 (some .int) :: ([.fieldLink RX12 66 "TimeMachine" "fresh" "Z", .fieldLink RX12 58 "TimeMachine" "taped" "I"] ++ (u_ws RX12 TX12 12 ++ []))
theorem gd_g_X12_end : ∀ w ∈ ow_g_X12_end, (w.onTables && w.keeps) = true ∨ ∃ ty, w = Cond.arrayClass ty := List.forall_mem_cons.mpr ⟨good_of_word rfl, List.forall_mem_append.mpr ⟨fun w h => good_of_word (List.all_eq_true.mp (by decide +kernel) w h), List.forall_mem_append.mpr ⟨gu_X12, fun _ h => nomatch h⟩⟩⟩
theorem hi_g_X12_end_X12 : ∀ w ∈ u_ws RX12 TX12 12, w ∈ ow_g_X12_end := fun w h => List.mem_cons_of_mem _ (List.mem_append_right _ (List.mem_append_left _ h))
set_option maxHeartbeats 40000000 in
set_option maxRecDepth 100000 in
theorem g_X12_end (l : Launch) (hlt : l.stackTraces = false) (dC : Nat → ClassId) (dI : Nat → Nat → Nat) (h0 : Nat) (v0 : Int32) (o_h0_tape : Option Nat) (w_h0_taped : Int32) (w_h0_fresh : Int32) (o_h0_programs : Option Nat) (o_h0_programPool : Option Nat) (o_h0_assembler : Option Nat) (o_h0_timeline : Option Nat) (o_h0_breaks : Option Nat) (o_h0_conditionPool : Option Nat) (o_h0_log : Option Nat) (w_h0_logged : Int32) (o_h0_letters : Option Nat) (sz : Nat) : Met l yX12_end ow_g_X12_end ({ frames := 0, cells := 0, slots := 0, locals := 0 }) (va_Pc [.ref h0, .int v0] (fun U => U.heap.size = sz ∧ va_P (dC, dI) vwCl [(h0, .inr (13, [va_rf (o_h0_tape), .int w_h0_taped, .int w_h0_fresh, va_rf (o_h0_programs), va_rf (o_h0_programPool), va_rf (o_h0_assembler), va_rf (o_h0_timeline), va_rf (o_h0_breaks), va_rf (o_h0_conditionPool), va_rf (o_h0_log), .int w_h0_logged, va_rf (o_h0_letters)]))] U.heap ∧ va_K (dC, dI) vwCl [] U ∧ va_D (fun _ => True) [(h0, .inr (13, [va_rf (o_h0_tape), .int w_h0_taped, .int w_h0_fresh, va_rf (o_h0_programs), va_rf (o_h0_programPool), va_rf (o_h0_assembler), va_rf (o_h0_timeline), va_rf (o_h0_breaks), va_rf (o_h0_conditionPool), va_rf (o_h0_log), .int w_h0_logged, va_rf (o_h0_letters)]))] ∧ nv_E (va_A [(h0, .inr (13, [va_rf (o_h0_tape), .int w_h0_taped, .int w_h0_fresh, va_rf (o_h0_programs), va_rf (o_h0_programPool), va_rf (o_h0_assembler), va_rf (o_h0_timeline), va_rf (o_h0_breaks), va_rf (o_h0_conditionPool), va_rf (o_h0_log), .int w_h0_logged, va_rf (o_h0_letters)]))] sz) U)) (va_Qi (fun r u => ((v0 < 0) ∧ r = (-1) ∧ u = [(h0, .inr (13, [va_rf (o_h0_tape), .int w_h0_taped, .int w_h0_fresh, va_rf (o_h0_programs), va_rf (o_h0_programPool), va_rf (o_h0_assembler), va_rf (o_h0_timeline), va_rf (o_h0_breaks), va_rf (o_h0_conditionPool), va_rf (o_h0_log), .int w_h0_logged, va_rf (o_h0_letters)]))]) ∨ ((¬ v0 < 0) ∧ (20 < v0) ∧ r = (-1) ∧ u = [(h0, .inr (13, [va_rf (o_h0_tape), .int w_h0_taped, .int w_h0_fresh, va_rf (o_h0_programs), va_rf (o_h0_programPool), va_rf (o_h0_assembler), va_rf (o_h0_timeline), va_rf (o_h0_breaks), va_rf (o_h0_conditionPool), va_rf (o_h0_log), .int w_h0_logged, va_rf (o_h0_letters)]))]) ∨ ((¬ v0 < 0) ∧ (¬ 20 < v0) ∧ (¬ w_h0_fresh = 0) ∧ r = (w_h0_taped - (20 - v0)) ∧ u = [(h0, .inr (13, [va_rf (o_h0_tape), .int (w_h0_taped - (20 - v0)), .int 0, va_rf (o_h0_programs), va_rf (o_h0_programPool), va_rf (o_h0_assembler), va_rf (o_h0_timeline), va_rf (o_h0_breaks), va_rf (o_h0_conditionPool), va_rf (o_h0_log), .int w_h0_logged, va_rf (o_h0_letters)]))]) ∨ ((¬ v0 < 0) ∧ (¬ 20 < v0) ∧ (w_h0_fresh = 0) ∧ r = (-1) ∧ u = [(h0, .inr (13, [va_rf (o_h0_tape), .int w_h0_taped, .int w_h0_fresh, va_rf (o_h0_programs), va_rf (o_h0_programPool), va_rf (o_h0_assembler), va_rf (o_h0_timeline), va_rf (o_h0_breaks), va_rf (o_h0_conditionPool), va_rf (o_h0_log), .int w_h0_logged, va_rf (o_h0_letters)]))]) ∨ False) (fun (u : va_W) t => va_P (dC, dI) vwCl u t.heap ∧ va_K (dC, dI) vwCl [] t ∧ va_D (va_A [(h0, .inr (13, [va_rf (o_h0_tape), .int w_h0_taped, .int w_h0_fresh, va_rf (o_h0_programs), va_rf (o_h0_programPool), va_rf (o_h0_assembler), va_rf (o_h0_timeline), va_rf (o_h0_breaks), va_rf (o_h0_conditionPool), va_rf (o_h0_log), .int w_h0_logged, va_rf (o_h0_letters)]))] sz) u) (va_A [(h0, .inr (13, [va_rf (o_h0_tape), .int w_h0_taped, .int w_h0_fresh, va_rf (o_h0_programs), va_rf (o_h0_programPool), va_rf (o_h0_assembler), va_rf (o_h0_timeline), va_rf (o_h0_breaks), va_rf (o_h0_conditionPool), va_rf (o_h0_log), .int w_h0_logged, va_rf (o_h0_letters)]))] sz)) 0 0 (va_A [(h0, .inr (13, [va_rf (o_h0_tape), .int w_h0_taped, .int w_h0_fresh, va_rf (o_h0_programs), va_rf (o_h0_programPool), va_rf (o_h0_assembler), va_rf (o_h0_timeline), va_rf (o_h0_breaks), va_rf (o_h0_conditionPool), va_rf (o_h0_log), .int w_h0_logged, va_rf (o_h0_letters)]))] sz) := by
  refine Met.ofW (cc := cX12_end) (maxL := 2) (ret := (some .int)) (by decide) rfl ?_
  intro p e s m args below meth c s₁ B hml hv
  obtain ⟨rfl, hsz, hP, hK, hD0, hN⟩ := hv
  have hx := B.exec
  have hb := B.bytes
  have hr := B.returns
  have hts := atoms_spec (ws := ow_g_X12_end) B.pre
  have hown : s.vm.findClass RX12 = some m.cls := findClass_of_methodNamed B.named
  have hlocks := B.notSynchronized
  subst hsz
  have hD := hD0.self (sz := s.heap.size)
  generalize hAe : va_A [(h0, .inr (13, [va_rf (o_h0_tape), .int w_h0_taped, .int w_h0_fresh, va_rf (o_h0_programs), va_rf (o_h0_programPool), va_rf (o_h0_assembler), va_rf (o_h0_timeline), va_rf (o_h0_breaks), va_rf (o_h0_conditionPool), va_rf (o_h0_log), .int w_h0_logged, va_rf (o_h0_letters)]))] s.heap.size = A at hD hN ⊢
  have hA : ∀ q : Nat, s.heap.size ≤ q → A q := fun q h => by rw [← hAe]; exact Or.inr h
  have hS : va_S A s.heap s.heap [] := va_S.rf
  have hl := lv_entry ([.ref h0, .int v0]) (n := 2) (Nat.le_of_ble_eq_true rfl)
  rw [lg_entry_eq]
  generalize (lg_sl ([.ref h0, .int v0]) ++ List.replicate (2 - (lg_sl ([.ref h0, .int v0])).length) Slot.unset).toArray = ls at hl ⊢
  have hl : lv_has ls 2 [(0, .ref h0), (1, .int v0)] := hl
  refine lv_iload_n hx hb dX12_end_0 rfl (lv_at hl 1 rfl) ?_
  refine lv_if_lt (tgt := 17) hx hb dX12_end_1 (by decide) (fun c_1 => ?_) (fun c_1 => ?_)
  · refine lv_iconst (v := (-1)) hx hb dX12_end_17 (by decide) ?_
    refine W.widen (k := 0) (n := 0) (by decide +kernel) (by decide +kernel) ?_
    exact W.iret (v := (-1)) hx hb hr (fun t ht hW => ⟨⟨(-1), [(h0, .inr (13, [va_rf (o_h0_tape), .int w_h0_taped, .int w_h0_fresh, va_rf (o_h0_programs), va_rf (o_h0_programPool), va_rf (o_h0_assembler), va_rf (o_h0_timeline), va_rf (o_h0_breaks), va_rf (o_h0_conditionPool), va_rf (o_h0_log), .int w_h0_logged, va_rf (o_h0_letters)]))], rfl, Or.inl ⟨c_1, rfl, rfl⟩, by rw [ht]; exact hP.sub (ws' := [(h0, .inr (13, [va_rf (o_h0_tape), .int w_h0_taped, .int w_h0_fresh, va_rf (o_h0_programs), va_rf (o_h0_programPool), va_rf (o_h0_assembler), va_rf (o_h0_timeline), va_rf (o_h0_breaks), va_rf (o_h0_conditionPool), va_rf (o_h0_log), .int w_h0_logged, va_rf (o_h0_letters)]))]) [0] rfl, va_K.moved hW.alike (hK.sub (tys' := []) [] rfl), hD.sub (ws' := [(h0, .inr (13, [va_rf (o_h0_tape), .int w_h0_taped, .int w_h0_fresh, va_rf (o_h0_programs), va_rf (o_h0_programPool), va_rf (o_h0_assembler), va_rf (o_h0_timeline), va_rf (o_h0_breaks), va_rf (o_h0_conditionPool), va_rf (o_h0_log), .int w_h0_logged, va_rf (o_h0_letters)]))]) [0] (by decide) rfl⟩, hS.F ht⟩) hS.2.2 dX12_end_18
  · refine lv_iload_n hx hb dX12_end_4 rfl (lv_at hl 1 rfl) ?_
    refine lv_bipush (v := 20) hx hb dX12_end_5 (by decide) ?_
    refine lv_icmp_gt (tgt := 17) hx hb dX12_end_7 (by decide) (fun c_2 => ?_) (fun c_2 => ?_)
    · refine lv_iconst (v := (-1)) hx hb dX12_end_17 (by decide) ?_
      refine W.widen (k := 0) (n := 0) (by decide +kernel) (by decide +kernel) ?_
      exact W.iret (v := (-1)) hx hb hr (fun t ht hW => ⟨⟨(-1), [(h0, .inr (13, [va_rf (o_h0_tape), .int w_h0_taped, .int w_h0_fresh, va_rf (o_h0_programs), va_rf (o_h0_programPool), va_rf (o_h0_assembler), va_rf (o_h0_timeline), va_rf (o_h0_breaks), va_rf (o_h0_conditionPool), va_rf (o_h0_log), .int w_h0_logged, va_rf (o_h0_letters)]))], rfl, Or.inr (Or.inl ⟨c_1, c_2, rfl, rfl⟩), by rw [ht]; exact hP.sub (ws' := [(h0, .inr (13, [va_rf (o_h0_tape), .int w_h0_taped, .int w_h0_fresh, va_rf (o_h0_programs), va_rf (o_h0_programPool), va_rf (o_h0_assembler), va_rf (o_h0_timeline), va_rf (o_h0_breaks), va_rf (o_h0_conditionPool), va_rf (o_h0_log), .int w_h0_logged, va_rf (o_h0_letters)]))]) [0] rfl, va_K.moved hW.alike (hK.sub (tys' := []) [] rfl), hD.sub (ws' := [(h0, .inr (13, [va_rf (o_h0_tape), .int w_h0_taped, .int w_h0_fresh, va_rf (o_h0_programs), va_rf (o_h0_programPool), va_rf (o_h0_assembler), va_rf (o_h0_timeline), va_rf (o_h0_breaks), va_rf (o_h0_conditionPool), va_rf (o_h0_log), .int w_h0_logged, va_rf (o_h0_letters)]))]) [0] (by decide) rfl⟩, hS.F ht⟩) hS.2.2 dX12_end_18
    · refine lv_aload_n hx hb dX12_end_10 rfl (lv_at hl 0 rfl) ?_
      refine va_get (D := (dC, dI)) (ci := 13) (v := .int w_h0_fresh) (C := RX12) (T := TX12) (N := 12) hx hb hts hi_g_X12_end_X12 hown hK hP 0 rfl rfl 2 (by decide) (hts (.fieldLink RX12 66 "TimeMachine" "fresh" "Z") (List.mem_of_getElem? (i := 1) rfl)) (fun _ h9 => h9) rfl dX12_end_11 ?_
      refine lv_if_ne (tgt := 19) hx hb dX12_end_14 (by decide) (fun c_3 => ?_) (fun c_3 => ?_)
      · refine lv_aload_n hx hb dX12_end_19 rfl (lv_at hl 0 rfl) ?_
        refine lv_dup hx hb dX12_end_20 rfl ?_
        refine va_get (D := (dC, dI)) (ci := 13) (v := .int w_h0_taped) (C := RX12) (T := TX12) (N := 12) hx hb hts hi_g_X12_end_X12 hown hK hP 0 rfl rfl 1 (by decide) (hts (.fieldLink RX12 58 "TimeMachine" "taped" "I") (List.mem_of_getElem? (i := 2) rfl)) (fun _ h9 => h9) rfl dX12_end_21 ?_
        refine lv_bipush (v := 20) hx hb dX12_end_24 (by decide) ?_
        refine lv_iload_n hx hb dX12_end_26 rfl (lv_at hl 1 rfl) ?_
        refine lv_isub hx hb dX12_end_27 ?_
        refine lv_isub hx hb dX12_end_28 ?_
        refine va_put (D := (dC, dI)) (ci := 13) (v := .int (w_h0_taped - (20 - v0))) (ty := .int) (C := RX12) (T := TX12) (N := 12) hx hb hts hi_g_X12_end_X12 tyX12 tyX12_ok nmX12 hown hK hP hD hS 0 rfl rfl 1 (by decide) (hts (.fieldLink RX12 58 "TimeMachine" "taped" "I") (List.mem_of_getElem? (i := 2) rfl)) (fun _ h9 => h9) rfl (by decide +kernel) rfl rfl (Nat.le_of_ble_eq_true rfl) dX12_end_29 (fun H locs hP hD hS => ?_)
        have hP : va_P (dC, dI) vwCl [(h0, .inr (13, [va_rf (o_h0_tape), .int (w_h0_taped - (20 - v0)), .int w_h0_fresh, va_rf (o_h0_programs), va_rf (o_h0_programPool), va_rf (o_h0_assembler), va_rf (o_h0_timeline), va_rf (o_h0_breaks), va_rf (o_h0_conditionPool), va_rf (o_h0_log), .int w_h0_logged, va_rf (o_h0_letters)]))] H := hP
        have hD : va_D A [(h0, .inr (13, [va_rf (o_h0_tape), .int (w_h0_taped - (20 - v0)), .int w_h0_fresh, va_rf (o_h0_programs), va_rf (o_h0_programPool), va_rf (o_h0_assembler), va_rf (o_h0_timeline), va_rf (o_h0_breaks), va_rf (o_h0_conditionPool), va_rf (o_h0_log), .int w_h0_logged, va_rf (o_h0_letters)]))] := hD
        refine lv_aload_n hx hb dX12_end_32 rfl (lv_at hl 0 rfl) ?_
        refine lv_iconst (v := 0) hx hb dX12_end_33 (by decide) ?_
        refine va_put (D := (dC, dI)) (ci := 13) (v := .int 0) (ty := .boolean) (C := RX12) (T := TX12) (N := 12) hx hb hts hi_g_X12_end_X12 tyX12 tyX12_ok nmX12 hown hK hP hD hS 0 rfl rfl 2 (by decide) (hts (.fieldLink RX12 66 "TimeMachine" "fresh" "Z") (List.mem_of_getElem? (i := 1) rfl)) (fun _ h9 => h9) rfl (by decide +kernel) rfl rfl (Nat.le_of_ble_eq_true rfl) dX12_end_34 (fun H locs hP hD hS => ?_)
        have hP : va_P (dC, dI) vwCl [(h0, .inr (13, [va_rf (o_h0_tape), .int (w_h0_taped - (20 - v0)), .int 0, va_rf (o_h0_programs), va_rf (o_h0_programPool), va_rf (o_h0_assembler), va_rf (o_h0_timeline), va_rf (o_h0_breaks), va_rf (o_h0_conditionPool), va_rf (o_h0_log), .int w_h0_logged, va_rf (o_h0_letters)]))] H := hP
        have hD : va_D A [(h0, .inr (13, [va_rf (o_h0_tape), .int (w_h0_taped - (20 - v0)), .int 0, va_rf (o_h0_programs), va_rf (o_h0_programPool), va_rf (o_h0_assembler), va_rf (o_h0_timeline), va_rf (o_h0_breaks), va_rf (o_h0_conditionPool), va_rf (o_h0_log), .int w_h0_logged, va_rf (o_h0_letters)]))] := hD
        refine lv_aload_n hx hb dX12_end_37 rfl (lv_at hl 0 rfl) ?_
        refine va_get (D := (dC, dI)) (ci := 13) (v := .int (w_h0_taped - (20 - v0))) (C := RX12) (T := TX12) (N := 12) hx hb hts hi_g_X12_end_X12 hown hK hP 0 rfl rfl 1 (by decide) (hts (.fieldLink RX12 58 "TimeMachine" "taped" "I") (List.mem_of_getElem? (i := 2) rfl)) (fun _ h9 => h9) rfl dX12_end_38 ?_
        refine W.widen (k := 0) (n := 0) (by decide +kernel) (by decide +kernel) ?_
        exact W.iret (v := (w_h0_taped - (20 - v0))) hx hb hr (fun t ht hW => ⟨⟨(w_h0_taped - (20 - v0)), [(h0, .inr (13, [va_rf (o_h0_tape), .int (w_h0_taped - (20 - v0)), .int 0, va_rf (o_h0_programs), va_rf (o_h0_programPool), va_rf (o_h0_assembler), va_rf (o_h0_timeline), va_rf (o_h0_breaks), va_rf (o_h0_conditionPool), va_rf (o_h0_log), .int w_h0_logged, va_rf (o_h0_letters)]))], rfl, Or.inr (Or.inr (Or.inl ⟨c_1, c_2, c_3, rfl, rfl⟩)), by rw [ht]; exact hP.sub (ws' := [(h0, .inr (13, [va_rf (o_h0_tape), .int (w_h0_taped - (20 - v0)), .int 0, va_rf (o_h0_programs), va_rf (o_h0_programPool), va_rf (o_h0_assembler), va_rf (o_h0_timeline), va_rf (o_h0_breaks), va_rf (o_h0_conditionPool), va_rf (o_h0_log), .int w_h0_logged, va_rf (o_h0_letters)]))]) [0] rfl, va_K.moved hW.alike (hK.sub (tys' := []) [] rfl), hD.sub (ws' := [(h0, .inr (13, [va_rf (o_h0_tape), .int (w_h0_taped - (20 - v0)), .int 0, va_rf (o_h0_programs), va_rf (o_h0_programPool), va_rf (o_h0_assembler), va_rf (o_h0_timeline), va_rf (o_h0_breaks), va_rf (o_h0_conditionPool), va_rf (o_h0_log), .int w_h0_logged, va_rf (o_h0_letters)]))]) [0] (by decide) rfl⟩, hS.F ht⟩) hS.2.2 dX12_end_41
      · refine lv_iconst (v := (-1)) hx hb dX12_end_17 (by decide) ?_
        refine W.widen (k := 0) (n := 0) (by decide +kernel) (by decide +kernel) ?_
        exact W.iret (v := (-1)) hx hb hr (fun t ht hW => ⟨⟨(-1), [(h0, .inr (13, [va_rf (o_h0_tape), .int w_h0_taped, .int w_h0_fresh, va_rf (o_h0_programs), va_rf (o_h0_programPool), va_rf (o_h0_assembler), va_rf (o_h0_timeline), va_rf (o_h0_breaks), va_rf (o_h0_conditionPool), va_rf (o_h0_log), .int w_h0_logged, va_rf (o_h0_letters)]))], rfl, Or.inr (Or.inr (Or.inr (Or.inl ⟨c_1, c_2, c_3, rfl, rfl⟩))), by rw [ht]; exact hP.sub (ws' := [(h0, .inr (13, [va_rf (o_h0_tape), .int w_h0_taped, .int w_h0_fresh, va_rf (o_h0_programs), va_rf (o_h0_programPool), va_rf (o_h0_assembler), va_rf (o_h0_timeline), va_rf (o_h0_breaks), va_rf (o_h0_conditionPool), va_rf (o_h0_log), .int w_h0_logged, va_rf (o_h0_letters)]))]) [0] rfl, va_K.moved hW.alike (hK.sub (tys' := []) [] rfl), hD.sub (ws' := [(h0, .inr (13, [va_rf (o_h0_tape), .int w_h0_taped, .int w_h0_fresh, va_rf (o_h0_programs), va_rf (o_h0_programPool), va_rf (o_h0_assembler), va_rf (o_h0_timeline), va_rf (o_h0_breaks), va_rf (o_h0_conditionPool), va_rf (o_h0_log), .int w_h0_logged, va_rf (o_h0_letters)]))]) [0] (by decide) rfl⟩, hS.F ht⟩) hS.2.2 dX12_end_18
def ow_k_X19_in_v4 : List Cond := .code yX19_in cX19_in 6 (some .boolean) :: ([] ++ [])
theorem gd_k_X19_in_v4 : ∀ w ∈ ow_k_X19_in_v4, (w.onTables && w.keeps) = true ∨ ∃ ty, w = Cond.arrayClass ty := List.forall_mem_cons.mpr ⟨good_of_word rfl, List.forall_mem_append.mpr ⟨fun w h => good_of_word (List.all_eq_true.mp (by decide +kernel) w h), fun _ h => nomatch h⟩⟩
set_option maxHeartbeats 40000000 in
set_option maxRecDepth 100000 in
theorem k_X19_in_v4 (l : Launch) (hlt : l.stackTraces = false) (dC : Nat → ClassId) (dI : Nat → Nat → Nat) (c0 : Int32) (sz : Nat) : Met l yX19_in ow_k_X19_in_v4 ({ frames := 0, cells := 0, slots := 0, locals := 0 }) (va_Pc [.long (c0.toInt64), .long 0, .long 20] (fun U => U.heap.size = sz ∧ va_P (dC, dI) vwCl [] U.heap ∧ va_K (dC, dI) vwCl [] U ∧ va_D (fun _ => True) [] ∧ nv_E (va_A [] sz) U)) (va_Qi (fun r _ => ((c0 < 0) ∧ r = 0) ∨ ((¬ c0 < 0) ∧ (20 < c0) ∧ r = 0) ∨ ((¬ c0 < 0) ∧ (¬ 20 < c0) ∧ r = 1) ∨ False) (fun (_ : Unit) t => va_P (dC, dI) vwCl [] t.heap ∧ va_K (dC, dI) vwCl [] t ∧ va_D (va_A [] sz) []) (va_A [] sz)) 0 0 (va_A [] sz) := by
  refine Met.ofW (cc := cX19_in) (maxL := 6) (ret := (some .boolean)) (by decide) rfl ?_
  intro p e s m args below meth c s₁ B hml hv
  obtain ⟨rfl, hsz, hP, hK, hD0, hN⟩ := hv
  have hx := B.exec
  have hb := B.bytes
  have hr := B.returns
  have hts := atoms_spec (ws := ow_k_X19_in_v4) B.pre
  have hown : s.vm.findClass RX19 = some m.cls := findClass_of_methodNamed B.named
  have hlocks := B.notSynchronized
  subst hsz
  have hD := hD0.self (sz := s.heap.size)
  generalize hAe : va_A [] s.heap.size = A at hD hN ⊢
  have hA : ∀ q : Nat, s.heap.size ≤ q → A q := fun q h => by rw [← hAe]; exact Or.inr h
  have hS : va_S A s.heap s.heap [] := va_S.rf
  have hl := lv_entry ([.long (c0.toInt64), .long 0, .long 20]) (n := 6) (Nat.le_of_ble_eq_true rfl)
  rw [lg_entry_eq]
  generalize (lg_sl ([.long (c0.toInt64), .long 0, .long 20]) ++ List.replicate (6 - (lg_sl ([.long (c0.toInt64), .long 0, .long 20])).length) Slot.unset).toArray = ls at hl ⊢
  have hl : lv_has ls 6 [(0, .long (c0.toInt64)), (2, .long 0), (4, .long 20)] := hl
  refine lv_lload_n hx hb dX19_in_0 rfl (lv_at hl 0 rfl) ?_
  refine lv_lload_n hx hb dX19_in_1 rfl (lv_at hl 1 rfl) ?_
  refine W.lcmp hx hb dX19_in_2 ?_
  refine lv_if_lt (tgt := 17) hx hb dX19_in_3 (by decide) (fun h9 => (fun (c_1 : c0 < 0) => ?_) ((nv_ci_lt (x := c0) (k := 0) (K := 0) (by decide)).mp h9)) (fun h9 => (fun (c_1 : ¬ c0 < 0) => ?_) (fun h8 => h9 ((nv_ci_lt (x := c0) (k := 0) (K := 0) (by decide)).mpr h8)))
  · refine lv_iconst (v := 0) hx hb dX19_in_17 (by decide) ?_
    refine W.widen (k := 0) (n := 0) (by decide +kernel) (by decide +kernel) ?_
    exact W.zret (v := 0) hx hb hr (by first | rfl | decide) (fun t ht hW => ⟨⟨0, (), rfl, Or.inl ⟨c_1, rfl⟩, by rw [ht]; exact hP, va_K.moved hW.alike hK, hD⟩, hS.F ht⟩) hS.2.2 dX19_in_18
  · refine lv_lload_n hx hb dX19_in_6 rfl (lv_at hl 0 rfl) ?_
    refine lv_lload hx hb dX19_in_7 (lv_at hl 2 rfl) ?_
    refine W.lcmp hx hb dX19_in_9 ?_
    refine lv_if_gt (tgt := 17) hx hb dX19_in_10 (by decide) (fun h9 => (fun (c_2 : 20 < c0) => ?_) ((nv_ci_gt (x := c0) (k := 20) (K := 20) (by decide)).mp h9)) (fun h9 => (fun (c_2 : ¬ 20 < c0) => ?_) (fun h8 => h9 ((nv_ci_gt (x := c0) (k := 20) (K := 20) (by decide)).mpr h8)))
    · refine lv_iconst (v := 0) hx hb dX19_in_17 (by decide) ?_
      refine W.widen (k := 0) (n := 0) (by decide +kernel) (by decide +kernel) ?_
      exact W.zret (v := 0) hx hb hr (by first | rfl | decide) (fun t ht hW => ⟨⟨0, (), rfl, Or.inr (Or.inl ⟨c_1, c_2, rfl⟩), by rw [ht]; exact hP, va_K.moved hW.alike hK, hD⟩, hS.F ht⟩) hS.2.2 dX19_in_18
    · refine lv_iconst (v := 1) hx hb dX19_in_13 (by decide) ?_
      refine lv_goto (tgt := 18) hx hb dX19_in_14 (by decide) ?_
      refine W.widen (k := 0) (n := 0) (by decide +kernel) (by decide +kernel) ?_
      exact W.zret (v := 1) hx hb hr (by first | rfl | decide) (fun t ht hW => ⟨⟨1, (), rfl, Or.inr (Or.inr (Or.inl ⟨c_1, c_2, rfl⟩)), by rw [ht]; exact hP, va_K.moved hW.alike hK, hD⟩, hS.F ht⟩) hS.2.2 dX19_in_18
def ow_g_X19_end : List Cond := .code yX19_end cX19_end 2 (some .int) :: ([.fieldLink RX19 113 "TimeMachineModel" "code" "I", .fieldLink RX19 120 "TimeMachineModel" "fed" "Z", .constantLong RX19 124 (20), .methodLink RX19 126 yX19_in, .static yX19_in, .initialized RX19, .fieldLink RX19 117 "TimeMachineModel" "taped" "I"] ++ (u_ws RX19 TX19 36 ++ (ow_k_X19_in_v4 ++ [])))
theorem gd_g_X19_end : ∀ w ∈ ow_g_X19_end, (w.onTables && w.keeps) = true ∨ ∃ ty, w = Cond.arrayClass ty := List.forall_mem_cons.mpr ⟨good_of_word rfl, List.forall_mem_append.mpr ⟨fun w h => good_of_word (List.all_eq_true.mp (by decide +kernel) w h), List.forall_mem_append.mpr ⟨gu_X19, List.forall_mem_append.mpr ⟨gd_k_X19_in_v4, fun _ h => nomatch h⟩⟩⟩⟩
theorem hi_g_X19_end_X19 : ∀ w ∈ u_ws RX19 TX19 36, w ∈ ow_g_X19_end := fun w h => List.mem_cons_of_mem _ (List.mem_append_right _ (List.mem_append_left _ h))
theorem gi_g_X19_end_0 : GoodIn ow_g_X19_end (wsS RX19 126 yX19_in ow_k_X19_in_v4) := goodIn_app (goodIn_of _ (by decide +kernel)) (fun w h => ⟨List.mem_cons_of_mem _ (List.mem_append_right _ (List.mem_append_right _ (List.mem_append_left _ h))), gd_k_X19_in_v4 w h⟩)
set_option maxHeartbeats 40000000 in
set_option maxRecDepth 100000 in
theorem g_X19_end (l : Launch) (hlt : l.stackTraces = false) (dC : Nat → ClassId) (dI : Nat → Nat → Nat) (h0 : Nat) (v0 : Int32) (w_h0_code : Int32) (o_h0_tape : Option Nat) (w_h0_taped : Int32) (w_h0_fed : Int32) (o_h0_isProgram : Option Nat) (o_h0_text : Option Nat) (o_h0_data : Option Nat) (o_h0_ends : Option Nat) (o_h0_constants : Option Nat) (o_h0_images : Option Nat) (o_h0_labels : Option Nat) (o_h0_booting : Option Nat) (o_h0_assembler : Option Nat) (o_h0_m : Option Nat) (o_h0_conditions : Option Nat) (o_h0_codec : Option Nat) (o_h0_reader : Option Nat) (w_h0_booted : Int32) (w_h0_program : Int32) (w_h0_now : Int32) (w_h0_end : Int32) (w_h0_why : Int32) (w_h0_events : Int32) (w_h0_scheduled : Int32) (w_h0_taken : Int32) (w_h0_refused : Int32) (o_h0_kind : Option Nat) (o_h0_b : Option Nat) (o_h0_when : Option Nat) (o_h0_laterKind : Option Nat) (o_h0_laterB : Option Nat) (o_h0_a : Option Nat) (o_h0_laterA : Option Nat) (o_h0_laterWhen : Option Nat) (o_h0_log : Option Nat) (w_h0_logged : Int32) (sz : Nat) : Met l yX19_end ow_g_X19_end ({ frames := 1, cells := 0, slots := 0, locals := 25 }) (va_Pc [.ref h0, .int v0] (fun U => U.heap.size = sz ∧ va_P (dC, dI) vwCl [(h0, .inr (20, [.int w_h0_code, va_rf (o_h0_tape), .int w_h0_taped, .int w_h0_fed, va_rf (o_h0_isProgram), va_rf (o_h0_text), va_rf (o_h0_data), va_rf (o_h0_ends), va_rf (o_h0_constants), va_rf (o_h0_images), va_rf (o_h0_labels), va_rf (o_h0_booting), va_rf (o_h0_assembler), va_rf (o_h0_m), va_rf (o_h0_conditions), va_rf (o_h0_codec), va_rf (o_h0_reader), .int w_h0_booted, .int w_h0_program, .int w_h0_now, .int w_h0_end, .int w_h0_why, .int w_h0_events, .int w_h0_scheduled, .int w_h0_taken, .int w_h0_refused, va_rf (o_h0_kind), va_rf (o_h0_b), va_rf (o_h0_when), va_rf (o_h0_laterKind), va_rf (o_h0_laterB), va_rf (o_h0_a), va_rf (o_h0_laterA), va_rf (o_h0_laterWhen), va_rf (o_h0_log), .int w_h0_logged]))] U.heap ∧ va_K (dC, dI) vwCl [] U ∧ va_D (fun _ => True) [(h0, .inr (20, [.int w_h0_code, va_rf (o_h0_tape), .int w_h0_taped, .int w_h0_fed, va_rf (o_h0_isProgram), va_rf (o_h0_text), va_rf (o_h0_data), va_rf (o_h0_ends), va_rf (o_h0_constants), va_rf (o_h0_images), va_rf (o_h0_labels), va_rf (o_h0_booting), va_rf (o_h0_assembler), va_rf (o_h0_m), va_rf (o_h0_conditions), va_rf (o_h0_codec), va_rf (o_h0_reader), .int w_h0_booted, .int w_h0_program, .int w_h0_now, .int w_h0_end, .int w_h0_why, .int w_h0_events, .int w_h0_scheduled, .int w_h0_taken, .int w_h0_refused, va_rf (o_h0_kind), va_rf (o_h0_b), va_rf (o_h0_when), va_rf (o_h0_laterKind), va_rf (o_h0_laterB), va_rf (o_h0_a), va_rf (o_h0_laterA), va_rf (o_h0_laterWhen), va_rf (o_h0_log), .int w_h0_logged]))] ∧ nv_E (va_A [(h0, .inr (20, [.int w_h0_code, va_rf (o_h0_tape), .int w_h0_taped, .int w_h0_fed, va_rf (o_h0_isProgram), va_rf (o_h0_text), va_rf (o_h0_data), va_rf (o_h0_ends), va_rf (o_h0_constants), va_rf (o_h0_images), va_rf (o_h0_labels), va_rf (o_h0_booting), va_rf (o_h0_assembler), va_rf (o_h0_m), va_rf (o_h0_conditions), va_rf (o_h0_codec), va_rf (o_h0_reader), .int w_h0_booted, .int w_h0_program, .int w_h0_now, .int w_h0_end, .int w_h0_why, .int w_h0_events, .int w_h0_scheduled, .int w_h0_taken, .int w_h0_refused, va_rf (o_h0_kind), va_rf (o_h0_b), va_rf (o_h0_when), va_rf (o_h0_laterKind), va_rf (o_h0_laterB), va_rf (o_h0_a), va_rf (o_h0_laterA), va_rf (o_h0_laterWhen), va_rf (o_h0_log), .int w_h0_logged]))] sz) U)) (va_Qi (fun r u => ((w_h0_fed = 0) ∧ r = (-1) ∧ u = [(h0, .inr (20, [.int 0, va_rf (o_h0_tape), .int w_h0_taped, .int w_h0_fed, va_rf (o_h0_isProgram), va_rf (o_h0_text), va_rf (o_h0_data), va_rf (o_h0_ends), va_rf (o_h0_constants), va_rf (o_h0_images), va_rf (o_h0_labels), va_rf (o_h0_booting), va_rf (o_h0_assembler), va_rf (o_h0_m), va_rf (o_h0_conditions), va_rf (o_h0_codec), va_rf (o_h0_reader), .int w_h0_booted, .int w_h0_program, .int w_h0_now, .int w_h0_end, .int w_h0_why, .int w_h0_events, .int w_h0_scheduled, .int w_h0_taken, .int w_h0_refused, va_rf (o_h0_kind), va_rf (o_h0_b), va_rf (o_h0_when), va_rf (o_h0_laterKind), va_rf (o_h0_laterB), va_rf (o_h0_a), va_rf (o_h0_laterA), va_rf (o_h0_laterWhen), va_rf (o_h0_log), .int w_h0_logged]))]) ∨ ((¬ w_h0_fed = 0) ∧ (v0 < 0) ∧ r = (-1) ∧ u = [(h0, .inr (20, [.int 0, va_rf (o_h0_tape), .int w_h0_taped, .int w_h0_fed, va_rf (o_h0_isProgram), va_rf (o_h0_text), va_rf (o_h0_data), va_rf (o_h0_ends), va_rf (o_h0_constants), va_rf (o_h0_images), va_rf (o_h0_labels), va_rf (o_h0_booting), va_rf (o_h0_assembler), va_rf (o_h0_m), va_rf (o_h0_conditions), va_rf (o_h0_codec), va_rf (o_h0_reader), .int w_h0_booted, .int w_h0_program, .int w_h0_now, .int w_h0_end, .int w_h0_why, .int w_h0_events, .int w_h0_scheduled, .int w_h0_taken, .int w_h0_refused, va_rf (o_h0_kind), va_rf (o_h0_b), va_rf (o_h0_when), va_rf (o_h0_laterKind), va_rf (o_h0_laterB), va_rf (o_h0_a), va_rf (o_h0_laterA), va_rf (o_h0_laterWhen), va_rf (o_h0_log), .int w_h0_logged]))]) ∨ ((¬ w_h0_fed = 0) ∧ (¬ v0 < 0) ∧ (20 < v0) ∧ r = (-1) ∧ u = [(h0, .inr (20, [.int 0, va_rf (o_h0_tape), .int w_h0_taped, .int w_h0_fed, va_rf (o_h0_isProgram), va_rf (o_h0_text), va_rf (o_h0_data), va_rf (o_h0_ends), va_rf (o_h0_constants), va_rf (o_h0_images), va_rf (o_h0_labels), va_rf (o_h0_booting), va_rf (o_h0_assembler), va_rf (o_h0_m), va_rf (o_h0_conditions), va_rf (o_h0_codec), va_rf (o_h0_reader), .int w_h0_booted, .int w_h0_program, .int w_h0_now, .int w_h0_end, .int w_h0_why, .int w_h0_events, .int w_h0_scheduled, .int w_h0_taken, .int w_h0_refused, va_rf (o_h0_kind), va_rf (o_h0_b), va_rf (o_h0_when), va_rf (o_h0_laterKind), va_rf (o_h0_laterB), va_rf (o_h0_a), va_rf (o_h0_laterA), va_rf (o_h0_laterWhen), va_rf (o_h0_log), .int w_h0_logged]))]) ∨ ((¬ w_h0_fed = 0) ∧ (¬ v0 < 0) ∧ (¬ 20 < v0) ∧ r = (w_h0_taped - (20 - v0)) ∧ u = [(h0, .inr (20, [.int 0, va_rf (o_h0_tape), .int (w_h0_taped - (20 - v0)), .int 0, va_rf (o_h0_isProgram), va_rf (o_h0_text), va_rf (o_h0_data), va_rf (o_h0_ends), va_rf (o_h0_constants), va_rf (o_h0_images), va_rf (o_h0_labels), va_rf (o_h0_booting), va_rf (o_h0_assembler), va_rf (o_h0_m), va_rf (o_h0_conditions), va_rf (o_h0_codec), va_rf (o_h0_reader), .int w_h0_booted, .int w_h0_program, .int w_h0_now, .int w_h0_end, .int w_h0_why, .int w_h0_events, .int w_h0_scheduled, .int w_h0_taken, .int w_h0_refused, va_rf (o_h0_kind), va_rf (o_h0_b), va_rf (o_h0_when), va_rf (o_h0_laterKind), va_rf (o_h0_laterB), va_rf (o_h0_a), va_rf (o_h0_laterA), va_rf (o_h0_laterWhen), va_rf (o_h0_log), .int w_h0_logged]))]) ∨ False) (fun (u : va_W) t => va_P (dC, dI) vwCl u t.heap ∧ va_K (dC, dI) vwCl [] t ∧ va_D (va_A [(h0, .inr (20, [.int w_h0_code, va_rf (o_h0_tape), .int w_h0_taped, .int w_h0_fed, va_rf (o_h0_isProgram), va_rf (o_h0_text), va_rf (o_h0_data), va_rf (o_h0_ends), va_rf (o_h0_constants), va_rf (o_h0_images), va_rf (o_h0_labels), va_rf (o_h0_booting), va_rf (o_h0_assembler), va_rf (o_h0_m), va_rf (o_h0_conditions), va_rf (o_h0_codec), va_rf (o_h0_reader), .int w_h0_booted, .int w_h0_program, .int w_h0_now, .int w_h0_end, .int w_h0_why, .int w_h0_events, .int w_h0_scheduled, .int w_h0_taken, .int w_h0_refused, va_rf (o_h0_kind), va_rf (o_h0_b), va_rf (o_h0_when), va_rf (o_h0_laterKind), va_rf (o_h0_laterB), va_rf (o_h0_a), va_rf (o_h0_laterA), va_rf (o_h0_laterWhen), va_rf (o_h0_log), .int w_h0_logged]))] sz) u) (va_A [(h0, .inr (20, [.int w_h0_code, va_rf (o_h0_tape), .int w_h0_taped, .int w_h0_fed, va_rf (o_h0_isProgram), va_rf (o_h0_text), va_rf (o_h0_data), va_rf (o_h0_ends), va_rf (o_h0_constants), va_rf (o_h0_images), va_rf (o_h0_labels), va_rf (o_h0_booting), va_rf (o_h0_assembler), va_rf (o_h0_m), va_rf (o_h0_conditions), va_rf (o_h0_codec), va_rf (o_h0_reader), .int w_h0_booted, .int w_h0_program, .int w_h0_now, .int w_h0_end, .int w_h0_why, .int w_h0_events, .int w_h0_scheduled, .int w_h0_taken, .int w_h0_refused, va_rf (o_h0_kind), va_rf (o_h0_b), va_rf (o_h0_when), va_rf (o_h0_laterKind), va_rf (o_h0_laterB), va_rf (o_h0_a), va_rf (o_h0_laterA), va_rf (o_h0_laterWhen), va_rf (o_h0_log), .int w_h0_logged]))] sz)) 0 0 (va_A [(h0, .inr (20, [.int w_h0_code, va_rf (o_h0_tape), .int w_h0_taped, .int w_h0_fed, va_rf (o_h0_isProgram), va_rf (o_h0_text), va_rf (o_h0_data), va_rf (o_h0_ends), va_rf (o_h0_constants), va_rf (o_h0_images), va_rf (o_h0_labels), va_rf (o_h0_booting), va_rf (o_h0_assembler), va_rf (o_h0_m), va_rf (o_h0_conditions), va_rf (o_h0_codec), va_rf (o_h0_reader), .int w_h0_booted, .int w_h0_program, .int w_h0_now, .int w_h0_end, .int w_h0_why, .int w_h0_events, .int w_h0_scheduled, .int w_h0_taken, .int w_h0_refused, va_rf (o_h0_kind), va_rf (o_h0_b), va_rf (o_h0_when), va_rf (o_h0_laterKind), va_rf (o_h0_laterB), va_rf (o_h0_a), va_rf (o_h0_laterA), va_rf (o_h0_laterWhen), va_rf (o_h0_log), .int w_h0_logged]))] sz) := by
  refine Met.ofW (cc := cX19_end) (maxL := 2) (ret := (some .int)) (by decide) rfl ?_
  intro p e s m args below meth c s₁ B hml hv
  obtain ⟨rfl, hsz, hP, hK, hD0, hN⟩ := hv
  have hx := B.exec
  have hb := B.bytes
  have hr := B.returns
  have hts := atoms_spec (ws := ow_g_X19_end) B.pre
  have hown : s.vm.findClass RX19 = some m.cls := findClass_of_methodNamed B.named
  have hlocks := B.notSynchronized
  subst hsz
  have hD := hD0.self (sz := s.heap.size)
  generalize hAe : va_A [(h0, .inr (20, [.int w_h0_code, va_rf (o_h0_tape), .int w_h0_taped, .int w_h0_fed, va_rf (o_h0_isProgram), va_rf (o_h0_text), va_rf (o_h0_data), va_rf (o_h0_ends), va_rf (o_h0_constants), va_rf (o_h0_images), va_rf (o_h0_labels), va_rf (o_h0_booting), va_rf (o_h0_assembler), va_rf (o_h0_m), va_rf (o_h0_conditions), va_rf (o_h0_codec), va_rf (o_h0_reader), .int w_h0_booted, .int w_h0_program, .int w_h0_now, .int w_h0_end, .int w_h0_why, .int w_h0_events, .int w_h0_scheduled, .int w_h0_taken, .int w_h0_refused, va_rf (o_h0_kind), va_rf (o_h0_b), va_rf (o_h0_when), va_rf (o_h0_laterKind), va_rf (o_h0_laterB), va_rf (o_h0_a), va_rf (o_h0_laterA), va_rf (o_h0_laterWhen), va_rf (o_h0_log), .int w_h0_logged]))] s.heap.size = A at hD hN ⊢
  have hA : ∀ q : Nat, s.heap.size ≤ q → A q := fun q h => by rw [← hAe]; exact Or.inr h
  have hS : va_S A s.heap s.heap [] := va_S.rf
  have hl := lv_entry ([.ref h0, .int v0]) (n := 2) (Nat.le_of_ble_eq_true rfl)
  rw [lg_entry_eq]
  generalize (lg_sl ([.ref h0, .int v0]) ++ List.replicate (2 - (lg_sl ([.ref h0, .int v0])).length) Slot.unset).toArray = ls at hl ⊢
  have hl : lv_has ls 2 [(0, .ref h0), (1, .int v0)] := hl
  refine lv_aload_n hx hb dX19_end_0 rfl (lv_at hl 0 rfl) ?_
  refine lv_iconst (v := 0) hx hb dX19_end_1 (by decide) ?_
  refine va_put (D := (dC, dI)) (ci := 20) (v := .int 0) (ty := .int) (C := RX19) (T := TX19) (N := 36) hx hb hts hi_g_X19_end_X19 tyX19 tyX19_ok nmX19 hown hK hP hD hS 0 rfl rfl 0 (by decide) (hts (.fieldLink RX19 113 "TimeMachineModel" "code" "I") (List.mem_of_getElem? (i := 1) rfl)) (fun _ h9 => h9) rfl (by decide +kernel) rfl rfl (Nat.le_of_ble_eq_true rfl) dX19_end_2 (fun H locs hP hD hS => ?_)
  have hP : va_P (dC, dI) vwCl [(h0, .inr (20, [.int 0, va_rf (o_h0_tape), .int w_h0_taped, .int w_h0_fed, va_rf (o_h0_isProgram), va_rf (o_h0_text), va_rf (o_h0_data), va_rf (o_h0_ends), va_rf (o_h0_constants), va_rf (o_h0_images), va_rf (o_h0_labels), va_rf (o_h0_booting), va_rf (o_h0_assembler), va_rf (o_h0_m), va_rf (o_h0_conditions), va_rf (o_h0_codec), va_rf (o_h0_reader), .int w_h0_booted, .int w_h0_program, .int w_h0_now, .int w_h0_end, .int w_h0_why, .int w_h0_events, .int w_h0_scheduled, .int w_h0_taken, .int w_h0_refused, va_rf (o_h0_kind), va_rf (o_h0_b), va_rf (o_h0_when), va_rf (o_h0_laterKind), va_rf (o_h0_laterB), va_rf (o_h0_a), va_rf (o_h0_laterA), va_rf (o_h0_laterWhen), va_rf (o_h0_log), .int w_h0_logged]))] H := hP
  have hD : va_D A [(h0, .inr (20, [.int 0, va_rf (o_h0_tape), .int w_h0_taped, .int w_h0_fed, va_rf (o_h0_isProgram), va_rf (o_h0_text), va_rf (o_h0_data), va_rf (o_h0_ends), va_rf (o_h0_constants), va_rf (o_h0_images), va_rf (o_h0_labels), va_rf (o_h0_booting), va_rf (o_h0_assembler), va_rf (o_h0_m), va_rf (o_h0_conditions), va_rf (o_h0_codec), va_rf (o_h0_reader), .int w_h0_booted, .int w_h0_program, .int w_h0_now, .int w_h0_end, .int w_h0_why, .int w_h0_events, .int w_h0_scheduled, .int w_h0_taken, .int w_h0_refused, va_rf (o_h0_kind), va_rf (o_h0_b), va_rf (o_h0_when), va_rf (o_h0_laterKind), va_rf (o_h0_laterB), va_rf (o_h0_a), va_rf (o_h0_laterA), va_rf (o_h0_laterWhen), va_rf (o_h0_log), .int w_h0_logged]))] := hD
  refine lv_aload_n hx hb dX19_end_5 rfl (lv_at hl 0 rfl) ?_
  refine va_get (D := (dC, dI)) (ci := 20) (v := .int w_h0_fed) (C := RX19) (T := TX19) (N := 36) hx hb hts hi_g_X19_end_X19 hown hK hP 0 rfl rfl 3 (by decide) (hts (.fieldLink RX19 120 "TimeMachineModel" "fed" "Z") (List.mem_of_getElem? (i := 2) rfl)) (fun _ h9 => h9) rfl dX19_end_6 ?_
  refine lv_if_eq (tgt := 24) hx hb dX19_end_9 (by decide) (fun c_1 => ?_) (fun c_1 => ?_)
  · refine lv_iconst (v := (-1)) hx hb dX19_end_24 (by decide) ?_
    refine W.widen (k := 0) (n := 0) (by decide +kernel) (by decide +kernel) ?_
    exact W.iret (v := (-1)) hx hb hr (fun t ht hW => ⟨⟨(-1), [(h0, .inr (20, [.int 0, va_rf (o_h0_tape), .int w_h0_taped, .int w_h0_fed, va_rf (o_h0_isProgram), va_rf (o_h0_text), va_rf (o_h0_data), va_rf (o_h0_ends), va_rf (o_h0_constants), va_rf (o_h0_images), va_rf (o_h0_labels), va_rf (o_h0_booting), va_rf (o_h0_assembler), va_rf (o_h0_m), va_rf (o_h0_conditions), va_rf (o_h0_codec), va_rf (o_h0_reader), .int w_h0_booted, .int w_h0_program, .int w_h0_now, .int w_h0_end, .int w_h0_why, .int w_h0_events, .int w_h0_scheduled, .int w_h0_taken, .int w_h0_refused, va_rf (o_h0_kind), va_rf (o_h0_b), va_rf (o_h0_when), va_rf (o_h0_laterKind), va_rf (o_h0_laterB), va_rf (o_h0_a), va_rf (o_h0_laterA), va_rf (o_h0_laterWhen), va_rf (o_h0_log), .int w_h0_logged]))], rfl, Or.inl ⟨c_1, rfl, rfl⟩, by rw [ht]; exact hP.sub (ws' := [(h0, .inr (20, [.int 0, va_rf (o_h0_tape), .int w_h0_taped, .int w_h0_fed, va_rf (o_h0_isProgram), va_rf (o_h0_text), va_rf (o_h0_data), va_rf (o_h0_ends), va_rf (o_h0_constants), va_rf (o_h0_images), va_rf (o_h0_labels), va_rf (o_h0_booting), va_rf (o_h0_assembler), va_rf (o_h0_m), va_rf (o_h0_conditions), va_rf (o_h0_codec), va_rf (o_h0_reader), .int w_h0_booted, .int w_h0_program, .int w_h0_now, .int w_h0_end, .int w_h0_why, .int w_h0_events, .int w_h0_scheduled, .int w_h0_taken, .int w_h0_refused, va_rf (o_h0_kind), va_rf (o_h0_b), va_rf (o_h0_when), va_rf (o_h0_laterKind), va_rf (o_h0_laterB), va_rf (o_h0_a), va_rf (o_h0_laterA), va_rf (o_h0_laterWhen), va_rf (o_h0_log), .int w_h0_logged]))]) [0] rfl, va_K.moved hW.alike (hK.sub (tys' := []) [] rfl), hD.sub (ws' := [(h0, .inr (20, [.int 0, va_rf (o_h0_tape), .int w_h0_taped, .int w_h0_fed, va_rf (o_h0_isProgram), va_rf (o_h0_text), va_rf (o_h0_data), va_rf (o_h0_ends), va_rf (o_h0_constants), va_rf (o_h0_images), va_rf (o_h0_labels), va_rf (o_h0_booting), va_rf (o_h0_assembler), va_rf (o_h0_m), va_rf (o_h0_conditions), va_rf (o_h0_codec), va_rf (o_h0_reader), .int w_h0_booted, .int w_h0_program, .int w_h0_now, .int w_h0_end, .int w_h0_why, .int w_h0_events, .int w_h0_scheduled, .int w_h0_taken, .int w_h0_refused, va_rf (o_h0_kind), va_rf (o_h0_b), va_rf (o_h0_when), va_rf (o_h0_laterKind), va_rf (o_h0_laterB), va_rf (o_h0_a), va_rf (o_h0_laterA), va_rf (o_h0_laterWhen), va_rf (o_h0_log), .int w_h0_logged]))]) [0] (by decide) rfl⟩, hS.F ht⟩) hS.2.2 dX19_end_25
  · refine lv_iload_n hx hb dX19_end_12 rfl (lv_at hl 1 rfl) ?_
    refine lv_i2l hx hb dX19_end_13 rfl ?_
    refine lv_lconst (v := 0) hx hb dX19_end_14 (by decide) ?_
    refine lv_ldc2 hx hb hown (hts (.constantLong RX19 124 (20)) (List.mem_of_getElem? (i := 3) rfl)) dX19_end_15 ?_
    have hPc := hP.sub (ws' := []) [] rfl
    have hDc := hD.sub (ws' := []) [] (by decide) rfl
    have hKc := hK.sub (tys' := []) [] rfl
    have hFc := va_free (wc := []) hD hS hA [] rfl
    refine va_calli (va_runS (As := [.long (v0.toInt64), .long 0, .long 20]) (rest := []) ⟨hx, hb, hml, hown, hts⟩ (k_X19_in_v4 l hlt dC dI v0  H.size) (cwS 3 hts gi_g_X19_end_0 rfl rfl rfl (by decide +kernel) ⟨Nat.le_of_ble_eq_true rfl, Nat.le_of_ble_eq_true rfl⟩) ⟨fun a U g mk q => by obtain ⟨q0, q1, qP, qK, qD, qN⟩ := q; exact ⟨q0, q1, qP, va_K.moved (u := U) (U := U.calling g mk a) (Vm.Alike.refl U.vm) qK, qD, nv_same rfl rfl qN⟩, fun U hU hW => ⟨rfl, by rw [hU], by rw [hU]; exact hPc, va_K.moved hW.alike hKc, hDc.weaken (fun _ _ _ _ => trivial), nv_call hS hFc hU hW hN⟩⟩ rfl rfl hl.1 rfl (lv_room (Nat.le_of_ble_eq_true rfl)) dX19_end_18 ⟨by decide +kernel, by decide +kernel⟩) hS (fun q _ h => hFc q h) hFc (fun r1 u t H1 locs ht hvm hw hB hz1 hk1 hS => ?_)
    obtain ⟨hP1, hK1, hD1⟩ := hB
    rw [ht] at hP1
    have hK1 := va_K.moved hvm.symm hK1
    obtain ⟨hP, hD⟩ := va_join (wr := [(h0, .inr (20, [.int 0, va_rf (o_h0_tape), .int w_h0_taped, .int w_h0_fed, va_rf (o_h0_isProgram), va_rf (o_h0_text), va_rf (o_h0_data), va_rf (o_h0_ends), va_rf (o_h0_constants), va_rf (o_h0_images), va_rf (o_h0_labels), va_rf (o_h0_booting), va_rf (o_h0_assembler), va_rf (o_h0_m), va_rf (o_h0_conditions), va_rf (o_h0_codec), va_rf (o_h0_reader), .int w_h0_booted, .int w_h0_program, .int w_h0_now, .int w_h0_end, .int w_h0_why, .int w_h0_events, .int w_h0_scheduled, .int w_h0_taken, .int w_h0_refused, va_rf (o_h0_kind), va_rf (o_h0_b), va_rf (o_h0_when), va_rf (o_h0_laterKind), va_rf (o_h0_laterB), va_rf (o_h0_a), va_rf (o_h0_laterA), va_rf (o_h0_laterWhen), va_rf (o_h0_log), .int w_h0_logged]))]) (w1 := []) hP hD [] [0] rfl rfl (by decide) (by decide) hk1 hFc hP1 hD1
    have hK := (hK.sub (tys' := []) [] rfl).app hK1
    generalize H1 = H at hP hS ⊢
    have hP : va_P (dC, dI) vwCl [(h0, .inr (20, [.int 0, va_rf (o_h0_tape), .int w_h0_taped, .int w_h0_fed, va_rf (o_h0_isProgram), va_rf (o_h0_text), va_rf (o_h0_data), va_rf (o_h0_ends), va_rf (o_h0_constants), va_rf (o_h0_images), va_rf (o_h0_labels), va_rf (o_h0_booting), va_rf (o_h0_assembler), va_rf (o_h0_m), va_rf (o_h0_conditions), va_rf (o_h0_codec), va_rf (o_h0_reader), .int w_h0_booted, .int w_h0_program, .int w_h0_now, .int w_h0_end, .int w_h0_why, .int w_h0_events, .int w_h0_scheduled, .int w_h0_taken, .int w_h0_refused, va_rf (o_h0_kind), va_rf (o_h0_b), va_rf (o_h0_when), va_rf (o_h0_laterKind), va_rf (o_h0_laterB), va_rf (o_h0_a), va_rf (o_h0_laterA), va_rf (o_h0_laterWhen), va_rf (o_h0_log), .int w_h0_logged]))] H := hP
    have hD : va_D A [(h0, .inr (20, [.int 0, va_rf (o_h0_tape), .int w_h0_taped, .int w_h0_fed, va_rf (o_h0_isProgram), va_rf (o_h0_text), va_rf (o_h0_data), va_rf (o_h0_ends), va_rf (o_h0_constants), va_rf (o_h0_images), va_rf (o_h0_labels), va_rf (o_h0_booting), va_rf (o_h0_assembler), va_rf (o_h0_m), va_rf (o_h0_conditions), va_rf (o_h0_codec), va_rf (o_h0_reader), .int w_h0_booted, .int w_h0_program, .int w_h0_now, .int w_h0_end, .int w_h0_why, .int w_h0_events, .int w_h0_scheduled, .int w_h0_taken, .int w_h0_refused, va_rf (o_h0_kind), va_rf (o_h0_b), va_rf (o_h0_when), va_rf (o_h0_laterKind), va_rf (o_h0_laterB), va_rf (o_h0_a), va_rf (o_h0_laterA), va_rf (o_h0_laterWhen), va_rf (o_h0_log), .int w_h0_logged]))] := hD
    have hK : va_K (dC, dI) vwCl [] s := hK
    refine W.widen (k := 0) (n := 0) (by decide +kernel) (by decide +kernel) ?_
    rcases hw with ⟨c_2_0, h9⟩ | ⟨c_2_0, c_2_1, h9⟩ | ⟨c_2_0, c_2_1, h9⟩ | h9
    · subst h9
      refine lv_if_ne (tgt := 26) hx hb dX19_end_21 (by decide) (fun h9 => absurd h9 (by decide)) (fun _ => ?_)
      refine lv_iconst (v := (-1)) hx hb dX19_end_24 (by decide) ?_
      refine W.widen (k := 0) (n := 0) (by decide +kernel) (by decide +kernel) ?_
      exact W.iret (v := (-1)) hx hb hr (fun t ht hW => ⟨⟨(-1), [(h0, .inr (20, [.int 0, va_rf (o_h0_tape), .int w_h0_taped, .int w_h0_fed, va_rf (o_h0_isProgram), va_rf (o_h0_text), va_rf (o_h0_data), va_rf (o_h0_ends), va_rf (o_h0_constants), va_rf (o_h0_images), va_rf (o_h0_labels), va_rf (o_h0_booting), va_rf (o_h0_assembler), va_rf (o_h0_m), va_rf (o_h0_conditions), va_rf (o_h0_codec), va_rf (o_h0_reader), .int w_h0_booted, .int w_h0_program, .int w_h0_now, .int w_h0_end, .int w_h0_why, .int w_h0_events, .int w_h0_scheduled, .int w_h0_taken, .int w_h0_refused, va_rf (o_h0_kind), va_rf (o_h0_b), va_rf (o_h0_when), va_rf (o_h0_laterKind), va_rf (o_h0_laterB), va_rf (o_h0_a), va_rf (o_h0_laterA), va_rf (o_h0_laterWhen), va_rf (o_h0_log), .int w_h0_logged]))], rfl, Or.inr (Or.inl ⟨c_1, c_2_0, rfl, rfl⟩), by rw [ht]; exact hP.sub (ws' := [(h0, .inr (20, [.int 0, va_rf (o_h0_tape), .int w_h0_taped, .int w_h0_fed, va_rf (o_h0_isProgram), va_rf (o_h0_text), va_rf (o_h0_data), va_rf (o_h0_ends), va_rf (o_h0_constants), va_rf (o_h0_images), va_rf (o_h0_labels), va_rf (o_h0_booting), va_rf (o_h0_assembler), va_rf (o_h0_m), va_rf (o_h0_conditions), va_rf (o_h0_codec), va_rf (o_h0_reader), .int w_h0_booted, .int w_h0_program, .int w_h0_now, .int w_h0_end, .int w_h0_why, .int w_h0_events, .int w_h0_scheduled, .int w_h0_taken, .int w_h0_refused, va_rf (o_h0_kind), va_rf (o_h0_b), va_rf (o_h0_when), va_rf (o_h0_laterKind), va_rf (o_h0_laterB), va_rf (o_h0_a), va_rf (o_h0_laterA), va_rf (o_h0_laterWhen), va_rf (o_h0_log), .int w_h0_logged]))]) [0] rfl, va_K.moved hW.alike (hK.sub (tys' := []) [] rfl), hD.sub (ws' := [(h0, .inr (20, [.int 0, va_rf (o_h0_tape), .int w_h0_taped, .int w_h0_fed, va_rf (o_h0_isProgram), va_rf (o_h0_text), va_rf (o_h0_data), va_rf (o_h0_ends), va_rf (o_h0_constants), va_rf (o_h0_images), va_rf (o_h0_labels), va_rf (o_h0_booting), va_rf (o_h0_assembler), va_rf (o_h0_m), va_rf (o_h0_conditions), va_rf (o_h0_codec), va_rf (o_h0_reader), .int w_h0_booted, .int w_h0_program, .int w_h0_now, .int w_h0_end, .int w_h0_why, .int w_h0_events, .int w_h0_scheduled, .int w_h0_taken, .int w_h0_refused, va_rf (o_h0_kind), va_rf (o_h0_b), va_rf (o_h0_when), va_rf (o_h0_laterKind), va_rf (o_h0_laterB), va_rf (o_h0_a), va_rf (o_h0_laterA), va_rf (o_h0_laterWhen), va_rf (o_h0_log), .int w_h0_logged]))]) [0] (by decide) rfl⟩, hS.F ht⟩) hS.2.2 dX19_end_25
    · subst h9
      refine lv_if_ne (tgt := 26) hx hb dX19_end_21 (by decide) (fun h9 => absurd h9 (by decide)) (fun _ => ?_)
      refine lv_iconst (v := (-1)) hx hb dX19_end_24 (by decide) ?_
      refine W.widen (k := 0) (n := 0) (by decide +kernel) (by decide +kernel) ?_
      exact W.iret (v := (-1)) hx hb hr (fun t ht hW => ⟨⟨(-1), [(h0, .inr (20, [.int 0, va_rf (o_h0_tape), .int w_h0_taped, .int w_h0_fed, va_rf (o_h0_isProgram), va_rf (o_h0_text), va_rf (o_h0_data), va_rf (o_h0_ends), va_rf (o_h0_constants), va_rf (o_h0_images), va_rf (o_h0_labels), va_rf (o_h0_booting), va_rf (o_h0_assembler), va_rf (o_h0_m), va_rf (o_h0_conditions), va_rf (o_h0_codec), va_rf (o_h0_reader), .int w_h0_booted, .int w_h0_program, .int w_h0_now, .int w_h0_end, .int w_h0_why, .int w_h0_events, .int w_h0_scheduled, .int w_h0_taken, .int w_h0_refused, va_rf (o_h0_kind), va_rf (o_h0_b), va_rf (o_h0_when), va_rf (o_h0_laterKind), va_rf (o_h0_laterB), va_rf (o_h0_a), va_rf (o_h0_laterA), va_rf (o_h0_laterWhen), va_rf (o_h0_log), .int w_h0_logged]))], rfl, Or.inr (Or.inr (Or.inl ⟨c_1, c_2_0, c_2_1, rfl, rfl⟩)), by rw [ht]; exact hP.sub (ws' := [(h0, .inr (20, [.int 0, va_rf (o_h0_tape), .int w_h0_taped, .int w_h0_fed, va_rf (o_h0_isProgram), va_rf (o_h0_text), va_rf (o_h0_data), va_rf (o_h0_ends), va_rf (o_h0_constants), va_rf (o_h0_images), va_rf (o_h0_labels), va_rf (o_h0_booting), va_rf (o_h0_assembler), va_rf (o_h0_m), va_rf (o_h0_conditions), va_rf (o_h0_codec), va_rf (o_h0_reader), .int w_h0_booted, .int w_h0_program, .int w_h0_now, .int w_h0_end, .int w_h0_why, .int w_h0_events, .int w_h0_scheduled, .int w_h0_taken, .int w_h0_refused, va_rf (o_h0_kind), va_rf (o_h0_b), va_rf (o_h0_when), va_rf (o_h0_laterKind), va_rf (o_h0_laterB), va_rf (o_h0_a), va_rf (o_h0_laterA), va_rf (o_h0_laterWhen), va_rf (o_h0_log), .int w_h0_logged]))]) [0] rfl, va_K.moved hW.alike (hK.sub (tys' := []) [] rfl), hD.sub (ws' := [(h0, .inr (20, [.int 0, va_rf (o_h0_tape), .int w_h0_taped, .int w_h0_fed, va_rf (o_h0_isProgram), va_rf (o_h0_text), va_rf (o_h0_data), va_rf (o_h0_ends), va_rf (o_h0_constants), va_rf (o_h0_images), va_rf (o_h0_labels), va_rf (o_h0_booting), va_rf (o_h0_assembler), va_rf (o_h0_m), va_rf (o_h0_conditions), va_rf (o_h0_codec), va_rf (o_h0_reader), .int w_h0_booted, .int w_h0_program, .int w_h0_now, .int w_h0_end, .int w_h0_why, .int w_h0_events, .int w_h0_scheduled, .int w_h0_taken, .int w_h0_refused, va_rf (o_h0_kind), va_rf (o_h0_b), va_rf (o_h0_when), va_rf (o_h0_laterKind), va_rf (o_h0_laterB), va_rf (o_h0_a), va_rf (o_h0_laterA), va_rf (o_h0_laterWhen), va_rf (o_h0_log), .int w_h0_logged]))]) [0] (by decide) rfl⟩, hS.F ht⟩) hS.2.2 dX19_end_25
    · subst h9
      refine lv_if_ne (tgt := 26) hx hb dX19_end_21 (by decide) (fun _ => ?_) (fun h9 => absurd h9 (by decide))
      refine lv_aload_n hx hb dX19_end_26 rfl (lv_at hl 0 rfl) ?_
      refine lv_dup hx hb dX19_end_27 rfl ?_
      refine va_get (D := (dC, dI)) (ci := 20) (v := .int w_h0_taped) (C := RX19) (T := TX19) (N := 36) hx hb hts hi_g_X19_end_X19 hown hK hP 0 rfl rfl 2 (by decide) (hts (.fieldLink RX19 117 "TimeMachineModel" "taped" "I") (List.mem_of_getElem? (i := 7) rfl)) (fun _ h9 => h9) rfl dX19_end_28 ?_
      refine lv_bipush (v := 20) hx hb dX19_end_31 (by decide) ?_
      refine lv_iload_n hx hb dX19_end_33 rfl (lv_at hl 1 rfl) ?_
      refine lv_isub hx hb dX19_end_34 ?_
      refine lv_isub hx hb dX19_end_35 ?_
      refine va_put (D := (dC, dI)) (ci := 20) (v := .int (w_h0_taped - (20 - v0))) (ty := .int) (C := RX19) (T := TX19) (N := 36) hx hb hts hi_g_X19_end_X19 tyX19 tyX19_ok nmX19 hown hK hP hD hS 0 rfl rfl 2 (by decide) (hts (.fieldLink RX19 117 "TimeMachineModel" "taped" "I") (List.mem_of_getElem? (i := 7) rfl)) (fun _ h9 => h9) rfl (by decide +kernel) rfl rfl (Nat.le_of_ble_eq_true rfl) dX19_end_36 (fun H locs hP hD hS => ?_)
      have hP : va_P (dC, dI) vwCl [(h0, .inr (20, [.int 0, va_rf (o_h0_tape), .int (w_h0_taped - (20 - v0)), .int w_h0_fed, va_rf (o_h0_isProgram), va_rf (o_h0_text), va_rf (o_h0_data), va_rf (o_h0_ends), va_rf (o_h0_constants), va_rf (o_h0_images), va_rf (o_h0_labels), va_rf (o_h0_booting), va_rf (o_h0_assembler), va_rf (o_h0_m), va_rf (o_h0_conditions), va_rf (o_h0_codec), va_rf (o_h0_reader), .int w_h0_booted, .int w_h0_program, .int w_h0_now, .int w_h0_end, .int w_h0_why, .int w_h0_events, .int w_h0_scheduled, .int w_h0_taken, .int w_h0_refused, va_rf (o_h0_kind), va_rf (o_h0_b), va_rf (o_h0_when), va_rf (o_h0_laterKind), va_rf (o_h0_laterB), va_rf (o_h0_a), va_rf (o_h0_laterA), va_rf (o_h0_laterWhen), va_rf (o_h0_log), .int w_h0_logged]))] H := hP
      have hD : va_D A [(h0, .inr (20, [.int 0, va_rf (o_h0_tape), .int (w_h0_taped - (20 - v0)), .int w_h0_fed, va_rf (o_h0_isProgram), va_rf (o_h0_text), va_rf (o_h0_data), va_rf (o_h0_ends), va_rf (o_h0_constants), va_rf (o_h0_images), va_rf (o_h0_labels), va_rf (o_h0_booting), va_rf (o_h0_assembler), va_rf (o_h0_m), va_rf (o_h0_conditions), va_rf (o_h0_codec), va_rf (o_h0_reader), .int w_h0_booted, .int w_h0_program, .int w_h0_now, .int w_h0_end, .int w_h0_why, .int w_h0_events, .int w_h0_scheduled, .int w_h0_taken, .int w_h0_refused, va_rf (o_h0_kind), va_rf (o_h0_b), va_rf (o_h0_when), va_rf (o_h0_laterKind), va_rf (o_h0_laterB), va_rf (o_h0_a), va_rf (o_h0_laterA), va_rf (o_h0_laterWhen), va_rf (o_h0_log), .int w_h0_logged]))] := hD
      refine lv_aload_n hx hb dX19_end_39 rfl (lv_at hl 0 rfl) ?_
      refine lv_iconst (v := 0) hx hb dX19_end_40 (by decide) ?_
      refine va_put (D := (dC, dI)) (ci := 20) (v := .int 0) (ty := .boolean) (C := RX19) (T := TX19) (N := 36) hx hb hts hi_g_X19_end_X19 tyX19 tyX19_ok nmX19 hown hK hP hD hS 0 rfl rfl 3 (by decide) (hts (.fieldLink RX19 120 "TimeMachineModel" "fed" "Z") (List.mem_of_getElem? (i := 2) rfl)) (fun _ h9 => h9) rfl (by decide +kernel) rfl rfl (Nat.le_of_ble_eq_true rfl) dX19_end_41 (fun H locs hP hD hS => ?_)
      have hP : va_P (dC, dI) vwCl [(h0, .inr (20, [.int 0, va_rf (o_h0_tape), .int (w_h0_taped - (20 - v0)), .int 0, va_rf (o_h0_isProgram), va_rf (o_h0_text), va_rf (o_h0_data), va_rf (o_h0_ends), va_rf (o_h0_constants), va_rf (o_h0_images), va_rf (o_h0_labels), va_rf (o_h0_booting), va_rf (o_h0_assembler), va_rf (o_h0_m), va_rf (o_h0_conditions), va_rf (o_h0_codec), va_rf (o_h0_reader), .int w_h0_booted, .int w_h0_program, .int w_h0_now, .int w_h0_end, .int w_h0_why, .int w_h0_events, .int w_h0_scheduled, .int w_h0_taken, .int w_h0_refused, va_rf (o_h0_kind), va_rf (o_h0_b), va_rf (o_h0_when), va_rf (o_h0_laterKind), va_rf (o_h0_laterB), va_rf (o_h0_a), va_rf (o_h0_laterA), va_rf (o_h0_laterWhen), va_rf (o_h0_log), .int w_h0_logged]))] H := hP
      have hD : va_D A [(h0, .inr (20, [.int 0, va_rf (o_h0_tape), .int (w_h0_taped - (20 - v0)), .int 0, va_rf (o_h0_isProgram), va_rf (o_h0_text), va_rf (o_h0_data), va_rf (o_h0_ends), va_rf (o_h0_constants), va_rf (o_h0_images), va_rf (o_h0_labels), va_rf (o_h0_booting), va_rf (o_h0_assembler), va_rf (o_h0_m), va_rf (o_h0_conditions), va_rf (o_h0_codec), va_rf (o_h0_reader), .int w_h0_booted, .int w_h0_program, .int w_h0_now, .int w_h0_end, .int w_h0_why, .int w_h0_events, .int w_h0_scheduled, .int w_h0_taken, .int w_h0_refused, va_rf (o_h0_kind), va_rf (o_h0_b), va_rf (o_h0_when), va_rf (o_h0_laterKind), va_rf (o_h0_laterB), va_rf (o_h0_a), va_rf (o_h0_laterA), va_rf (o_h0_laterWhen), va_rf (o_h0_log), .int w_h0_logged]))] := hD
      refine lv_aload_n hx hb dX19_end_44 rfl (lv_at hl 0 rfl) ?_
      refine va_get (D := (dC, dI)) (ci := 20) (v := .int (w_h0_taped - (20 - v0))) (C := RX19) (T := TX19) (N := 36) hx hb hts hi_g_X19_end_X19 hown hK hP 0 rfl rfl 2 (by decide) (hts (.fieldLink RX19 117 "TimeMachineModel" "taped" "I") (List.mem_of_getElem? (i := 7) rfl)) (fun _ h9 => h9) rfl dX19_end_45 ?_
      refine W.widen (k := 0) (n := 0) (by decide +kernel) (by decide +kernel) ?_
      exact W.iret (v := (w_h0_taped - (20 - v0))) hx hb hr (fun t ht hW => ⟨⟨(w_h0_taped - (20 - v0)), [(h0, .inr (20, [.int 0, va_rf (o_h0_tape), .int (w_h0_taped - (20 - v0)), .int 0, va_rf (o_h0_isProgram), va_rf (o_h0_text), va_rf (o_h0_data), va_rf (o_h0_ends), va_rf (o_h0_constants), va_rf (o_h0_images), va_rf (o_h0_labels), va_rf (o_h0_booting), va_rf (o_h0_assembler), va_rf (o_h0_m), va_rf (o_h0_conditions), va_rf (o_h0_codec), va_rf (o_h0_reader), .int w_h0_booted, .int w_h0_program, .int w_h0_now, .int w_h0_end, .int w_h0_why, .int w_h0_events, .int w_h0_scheduled, .int w_h0_taken, .int w_h0_refused, va_rf (o_h0_kind), va_rf (o_h0_b), va_rf (o_h0_when), va_rf (o_h0_laterKind), va_rf (o_h0_laterB), va_rf (o_h0_a), va_rf (o_h0_laterA), va_rf (o_h0_laterWhen), va_rf (o_h0_log), .int w_h0_logged]))], rfl, Or.inr (Or.inr (Or.inr (Or.inl ⟨c_1, c_2_0, c_2_1, rfl, rfl⟩))), by rw [ht]; exact hP.sub (ws' := [(h0, .inr (20, [.int 0, va_rf (o_h0_tape), .int (w_h0_taped - (20 - v0)), .int 0, va_rf (o_h0_isProgram), va_rf (o_h0_text), va_rf (o_h0_data), va_rf (o_h0_ends), va_rf (o_h0_constants), va_rf (o_h0_images), va_rf (o_h0_labels), va_rf (o_h0_booting), va_rf (o_h0_assembler), va_rf (o_h0_m), va_rf (o_h0_conditions), va_rf (o_h0_codec), va_rf (o_h0_reader), .int w_h0_booted, .int w_h0_program, .int w_h0_now, .int w_h0_end, .int w_h0_why, .int w_h0_events, .int w_h0_scheduled, .int w_h0_taken, .int w_h0_refused, va_rf (o_h0_kind), va_rf (o_h0_b), va_rf (o_h0_when), va_rf (o_h0_laterKind), va_rf (o_h0_laterB), va_rf (o_h0_a), va_rf (o_h0_laterA), va_rf (o_h0_laterWhen), va_rf (o_h0_log), .int w_h0_logged]))]) [0] rfl, va_K.moved hW.alike (hK.sub (tys' := []) [] rfl), hD.sub (ws' := [(h0, .inr (20, [.int 0, va_rf (o_h0_tape), .int (w_h0_taped - (20 - v0)), .int 0, va_rf (o_h0_isProgram), va_rf (o_h0_text), va_rf (o_h0_data), va_rf (o_h0_ends), va_rf (o_h0_constants), va_rf (o_h0_images), va_rf (o_h0_labels), va_rf (o_h0_booting), va_rf (o_h0_assembler), va_rf (o_h0_m), va_rf (o_h0_conditions), va_rf (o_h0_codec), va_rf (o_h0_reader), .int w_h0_booted, .int w_h0_program, .int w_h0_now, .int w_h0_end, .int w_h0_why, .int w_h0_events, .int w_h0_scheduled, .int w_h0_taken, .int w_h0_refused, va_rf (o_h0_kind), va_rf (o_h0_b), va_rf (o_h0_when), va_rf (o_h0_laterKind), va_rf (o_h0_laterB), va_rf (o_h0_a), va_rf (o_h0_laterA), va_rf (o_h0_laterWhen), va_rf (o_h0_log), .int w_h0_logged]))]) [0] (by decide) rfl⟩, hS.F ht⟩) hS.2.2 dX19_end_48
    · exact h9.elim
def ow_g_X19_reason : List Cond := .code yX19_reason cX19_reason 1 (some .int) :: ([.fieldLink RX19 113 "TimeMachineModel" "code" "I", .fieldLink RX19 285 "TimeMachineModel" "why" "I"] ++ (u_ws RX19 TX19 36 ++ []))
theorem gd_g_X19_reason : ∀ w ∈ ow_g_X19_reason, (w.onTables && w.keeps) = true ∨ ∃ ty, w = Cond.arrayClass ty := List.forall_mem_cons.mpr ⟨good_of_word rfl, List.forall_mem_append.mpr ⟨fun w h => good_of_word (List.all_eq_true.mp (by decide +kernel) w h), List.forall_mem_append.mpr ⟨gu_X19, fun _ h => nomatch h⟩⟩⟩
theorem hi_g_X19_reason_X19 : ∀ w ∈ u_ws RX19 TX19 36, w ∈ ow_g_X19_reason := fun w h => List.mem_cons_of_mem _ (List.mem_append_right _ (List.mem_append_left _ h))
set_option maxHeartbeats 40000000 in
set_option maxRecDepth 100000 in
theorem g_X19_reason (l : Launch) (hlt : l.stackTraces = false) (dC : Nat → ClassId) (dI : Nat → Nat → Nat) (h0 : Nat) (w_h0_code : Int32) (o_h0_tape : Option Nat) (w_h0_taped : Int32) (w_h0_fed : Int32) (o_h0_isProgram : Option Nat) (o_h0_text : Option Nat) (o_h0_data : Option Nat) (o_h0_ends : Option Nat) (o_h0_constants : Option Nat) (o_h0_images : Option Nat) (o_h0_labels : Option Nat) (o_h0_booting : Option Nat) (o_h0_assembler : Option Nat) (o_h0_m : Option Nat) (o_h0_conditions : Option Nat) (o_h0_codec : Option Nat) (o_h0_reader : Option Nat) (w_h0_booted : Int32) (w_h0_program : Int32) (w_h0_now : Int32) (w_h0_end : Int32) (w_h0_why : Int32) (w_h0_events : Int32) (w_h0_scheduled : Int32) (w_h0_taken : Int32) (w_h0_refused : Int32) (o_h0_kind : Option Nat) (o_h0_b : Option Nat) (o_h0_when : Option Nat) (o_h0_laterKind : Option Nat) (o_h0_laterB : Option Nat) (o_h0_a : Option Nat) (o_h0_laterA : Option Nat) (o_h0_laterWhen : Option Nat) (o_h0_log : Option Nat) (w_h0_logged : Int32) (sz : Nat) : Met l yX19_reason ow_g_X19_reason ({ frames := 0, cells := 0, slots := 0, locals := 0 }) (va_Pc [.ref h0] (fun U => U.heap.size = sz ∧ va_P (dC, dI) vwCl [(h0, .inr (20, [.int w_h0_code, va_rf (o_h0_tape), .int w_h0_taped, .int w_h0_fed, va_rf (o_h0_isProgram), va_rf (o_h0_text), va_rf (o_h0_data), va_rf (o_h0_ends), va_rf (o_h0_constants), va_rf (o_h0_images), va_rf (o_h0_labels), va_rf (o_h0_booting), va_rf (o_h0_assembler), va_rf (o_h0_m), va_rf (o_h0_conditions), va_rf (o_h0_codec), va_rf (o_h0_reader), .int w_h0_booted, .int w_h0_program, .int w_h0_now, .int w_h0_end, .int w_h0_why, .int w_h0_events, .int w_h0_scheduled, .int w_h0_taken, .int w_h0_refused, va_rf (o_h0_kind), va_rf (o_h0_b), va_rf (o_h0_when), va_rf (o_h0_laterKind), va_rf (o_h0_laterB), va_rf (o_h0_a), va_rf (o_h0_laterA), va_rf (o_h0_laterWhen), va_rf (o_h0_log), .int w_h0_logged]))] U.heap ∧ va_K (dC, dI) vwCl [] U ∧ va_D (fun _ => True) [(h0, .inr (20, [.int w_h0_code, va_rf (o_h0_tape), .int w_h0_taped, .int w_h0_fed, va_rf (o_h0_isProgram), va_rf (o_h0_text), va_rf (o_h0_data), va_rf (o_h0_ends), va_rf (o_h0_constants), va_rf (o_h0_images), va_rf (o_h0_labels), va_rf (o_h0_booting), va_rf (o_h0_assembler), va_rf (o_h0_m), va_rf (o_h0_conditions), va_rf (o_h0_codec), va_rf (o_h0_reader), .int w_h0_booted, .int w_h0_program, .int w_h0_now, .int w_h0_end, .int w_h0_why, .int w_h0_events, .int w_h0_scheduled, .int w_h0_taken, .int w_h0_refused, va_rf (o_h0_kind), va_rf (o_h0_b), va_rf (o_h0_when), va_rf (o_h0_laterKind), va_rf (o_h0_laterB), va_rf (o_h0_a), va_rf (o_h0_laterA), va_rf (o_h0_laterWhen), va_rf (o_h0_log), .int w_h0_logged]))] ∧ nv_E (va_A [(h0, .inr (20, [.int w_h0_code, va_rf (o_h0_tape), .int w_h0_taped, .int w_h0_fed, va_rf (o_h0_isProgram), va_rf (o_h0_text), va_rf (o_h0_data), va_rf (o_h0_ends), va_rf (o_h0_constants), va_rf (o_h0_images), va_rf (o_h0_labels), va_rf (o_h0_booting), va_rf (o_h0_assembler), va_rf (o_h0_m), va_rf (o_h0_conditions), va_rf (o_h0_codec), va_rf (o_h0_reader), .int w_h0_booted, .int w_h0_program, .int w_h0_now, .int w_h0_end, .int w_h0_why, .int w_h0_events, .int w_h0_scheduled, .int w_h0_taken, .int w_h0_refused, va_rf (o_h0_kind), va_rf (o_h0_b), va_rf (o_h0_when), va_rf (o_h0_laterKind), va_rf (o_h0_laterB), va_rf (o_h0_a), va_rf (o_h0_laterA), va_rf (o_h0_laterWhen), va_rf (o_h0_log), .int w_h0_logged]))] sz) U)) (va_Qi (fun r u => (r = w_h0_why ∧ u = [(h0, .inr (20, [.int 0, va_rf (o_h0_tape), .int w_h0_taped, .int w_h0_fed, va_rf (o_h0_isProgram), va_rf (o_h0_text), va_rf (o_h0_data), va_rf (o_h0_ends), va_rf (o_h0_constants), va_rf (o_h0_images), va_rf (o_h0_labels), va_rf (o_h0_booting), va_rf (o_h0_assembler), va_rf (o_h0_m), va_rf (o_h0_conditions), va_rf (o_h0_codec), va_rf (o_h0_reader), .int w_h0_booted, .int w_h0_program, .int w_h0_now, .int w_h0_end, .int w_h0_why, .int w_h0_events, .int w_h0_scheduled, .int w_h0_taken, .int w_h0_refused, va_rf (o_h0_kind), va_rf (o_h0_b), va_rf (o_h0_when), va_rf (o_h0_laterKind), va_rf (o_h0_laterB), va_rf (o_h0_a), va_rf (o_h0_laterA), va_rf (o_h0_laterWhen), va_rf (o_h0_log), .int w_h0_logged]))]) ∨ False) (fun (u : va_W) t => va_P (dC, dI) vwCl u t.heap ∧ va_K (dC, dI) vwCl [] t ∧ va_D (va_A [(h0, .inr (20, [.int w_h0_code, va_rf (o_h0_tape), .int w_h0_taped, .int w_h0_fed, va_rf (o_h0_isProgram), va_rf (o_h0_text), va_rf (o_h0_data), va_rf (o_h0_ends), va_rf (o_h0_constants), va_rf (o_h0_images), va_rf (o_h0_labels), va_rf (o_h0_booting), va_rf (o_h0_assembler), va_rf (o_h0_m), va_rf (o_h0_conditions), va_rf (o_h0_codec), va_rf (o_h0_reader), .int w_h0_booted, .int w_h0_program, .int w_h0_now, .int w_h0_end, .int w_h0_why, .int w_h0_events, .int w_h0_scheduled, .int w_h0_taken, .int w_h0_refused, va_rf (o_h0_kind), va_rf (o_h0_b), va_rf (o_h0_when), va_rf (o_h0_laterKind), va_rf (o_h0_laterB), va_rf (o_h0_a), va_rf (o_h0_laterA), va_rf (o_h0_laterWhen), va_rf (o_h0_log), .int w_h0_logged]))] sz) u) (va_A [(h0, .inr (20, [.int w_h0_code, va_rf (o_h0_tape), .int w_h0_taped, .int w_h0_fed, va_rf (o_h0_isProgram), va_rf (o_h0_text), va_rf (o_h0_data), va_rf (o_h0_ends), va_rf (o_h0_constants), va_rf (o_h0_images), va_rf (o_h0_labels), va_rf (o_h0_booting), va_rf (o_h0_assembler), va_rf (o_h0_m), va_rf (o_h0_conditions), va_rf (o_h0_codec), va_rf (o_h0_reader), .int w_h0_booted, .int w_h0_program, .int w_h0_now, .int w_h0_end, .int w_h0_why, .int w_h0_events, .int w_h0_scheduled, .int w_h0_taken, .int w_h0_refused, va_rf (o_h0_kind), va_rf (o_h0_b), va_rf (o_h0_when), va_rf (o_h0_laterKind), va_rf (o_h0_laterB), va_rf (o_h0_a), va_rf (o_h0_laterA), va_rf (o_h0_laterWhen), va_rf (o_h0_log), .int w_h0_logged]))] sz)) 0 0 (va_A [(h0, .inr (20, [.int w_h0_code, va_rf (o_h0_tape), .int w_h0_taped, .int w_h0_fed, va_rf (o_h0_isProgram), va_rf (o_h0_text), va_rf (o_h0_data), va_rf (o_h0_ends), va_rf (o_h0_constants), va_rf (o_h0_images), va_rf (o_h0_labels), va_rf (o_h0_booting), va_rf (o_h0_assembler), va_rf (o_h0_m), va_rf (o_h0_conditions), va_rf (o_h0_codec), va_rf (o_h0_reader), .int w_h0_booted, .int w_h0_program, .int w_h0_now, .int w_h0_end, .int w_h0_why, .int w_h0_events, .int w_h0_scheduled, .int w_h0_taken, .int w_h0_refused, va_rf (o_h0_kind), va_rf (o_h0_b), va_rf (o_h0_when), va_rf (o_h0_laterKind), va_rf (o_h0_laterB), va_rf (o_h0_a), va_rf (o_h0_laterA), va_rf (o_h0_laterWhen), va_rf (o_h0_log), .int w_h0_logged]))] sz) := by
  refine Met.ofW (cc := cX19_reason) (maxL := 1) (ret := (some .int)) (by decide) rfl ?_
  intro p e s m args below meth c s₁ B hml hv
  obtain ⟨rfl, hsz, hP, hK, hD0, hN⟩ := hv
  have hx := B.exec
  have hb := B.bytes
  have hr := B.returns
  have hts := atoms_spec (ws := ow_g_X19_reason) B.pre
  have hown : s.vm.findClass RX19 = some m.cls := findClass_of_methodNamed B.named
  have hlocks := B.notSynchronized
  subst hsz
  have hD := hD0.self (sz := s.heap.size)
  generalize hAe : va_A [(h0, .inr (20, [.int w_h0_code, va_rf (o_h0_tape), .int w_h0_taped, .int w_h0_fed, va_rf (o_h0_isProgram), va_rf (o_h0_text), va_rf (o_h0_data), va_rf (o_h0_ends), va_rf (o_h0_constants), va_rf (o_h0_images), va_rf (o_h0_labels), va_rf (o_h0_booting), va_rf (o_h0_assembler), va_rf (o_h0_m), va_rf (o_h0_conditions), va_rf (o_h0_codec), va_rf (o_h0_reader), .int w_h0_booted, .int w_h0_program, .int w_h0_now, .int w_h0_end, .int w_h0_why, .int w_h0_events, .int w_h0_scheduled, .int w_h0_taken, .int w_h0_refused, va_rf (o_h0_kind), va_rf (o_h0_b), va_rf (o_h0_when), va_rf (o_h0_laterKind), va_rf (o_h0_laterB), va_rf (o_h0_a), va_rf (o_h0_laterA), va_rf (o_h0_laterWhen), va_rf (o_h0_log), .int w_h0_logged]))] s.heap.size = A at hD hN ⊢
  have hA : ∀ q : Nat, s.heap.size ≤ q → A q := fun q h => by rw [← hAe]; exact Or.inr h
  have hS : va_S A s.heap s.heap [] := va_S.rf
  have hl := lv_entry ([.ref h0]) (n := 1) (Nat.le_of_ble_eq_true rfl)
  rw [lg_entry_eq]
  generalize (lg_sl ([.ref h0]) ++ List.replicate (1 - (lg_sl ([.ref h0])).length) Slot.unset).toArray = ls at hl ⊢
  have hl : lv_has ls 1 [(0, .ref h0)] := hl
  refine lv_aload_n hx hb dX19_reason_0 rfl (lv_at hl 0 rfl) ?_
  refine lv_iconst (v := 0) hx hb dX19_reason_1 (by decide) ?_
  refine va_put (D := (dC, dI)) (ci := 20) (v := .int 0) (ty := .int) (C := RX19) (T := TX19) (N := 36) hx hb hts hi_g_X19_reason_X19 tyX19 tyX19_ok nmX19 hown hK hP hD hS 0 rfl rfl 0 (by decide) (hts (.fieldLink RX19 113 "TimeMachineModel" "code" "I") (List.mem_of_getElem? (i := 1) rfl)) (fun _ h9 => h9) rfl (by decide +kernel) rfl rfl (Nat.le_of_ble_eq_true rfl) dX19_reason_2 (fun H locs hP hD hS => ?_)
  have hP : va_P (dC, dI) vwCl [(h0, .inr (20, [.int 0, va_rf (o_h0_tape), .int w_h0_taped, .int w_h0_fed, va_rf (o_h0_isProgram), va_rf (o_h0_text), va_rf (o_h0_data), va_rf (o_h0_ends), va_rf (o_h0_constants), va_rf (o_h0_images), va_rf (o_h0_labels), va_rf (o_h0_booting), va_rf (o_h0_assembler), va_rf (o_h0_m), va_rf (o_h0_conditions), va_rf (o_h0_codec), va_rf (o_h0_reader), .int w_h0_booted, .int w_h0_program, .int w_h0_now, .int w_h0_end, .int w_h0_why, .int w_h0_events, .int w_h0_scheduled, .int w_h0_taken, .int w_h0_refused, va_rf (o_h0_kind), va_rf (o_h0_b), va_rf (o_h0_when), va_rf (o_h0_laterKind), va_rf (o_h0_laterB), va_rf (o_h0_a), va_rf (o_h0_laterA), va_rf (o_h0_laterWhen), va_rf (o_h0_log), .int w_h0_logged]))] H := hP
  have hD : va_D A [(h0, .inr (20, [.int 0, va_rf (o_h0_tape), .int w_h0_taped, .int w_h0_fed, va_rf (o_h0_isProgram), va_rf (o_h0_text), va_rf (o_h0_data), va_rf (o_h0_ends), va_rf (o_h0_constants), va_rf (o_h0_images), va_rf (o_h0_labels), va_rf (o_h0_booting), va_rf (o_h0_assembler), va_rf (o_h0_m), va_rf (o_h0_conditions), va_rf (o_h0_codec), va_rf (o_h0_reader), .int w_h0_booted, .int w_h0_program, .int w_h0_now, .int w_h0_end, .int w_h0_why, .int w_h0_events, .int w_h0_scheduled, .int w_h0_taken, .int w_h0_refused, va_rf (o_h0_kind), va_rf (o_h0_b), va_rf (o_h0_when), va_rf (o_h0_laterKind), va_rf (o_h0_laterB), va_rf (o_h0_a), va_rf (o_h0_laterA), va_rf (o_h0_laterWhen), va_rf (o_h0_log), .int w_h0_logged]))] := hD
  refine lv_aload_n hx hb dX19_reason_5 rfl (lv_at hl 0 rfl) ?_
  refine va_get (D := (dC, dI)) (ci := 20) (v := .int w_h0_why) (C := RX19) (T := TX19) (N := 36) hx hb hts hi_g_X19_reason_X19 hown hK hP 0 rfl rfl 21 (by decide) (hts (.fieldLink RX19 285 "TimeMachineModel" "why" "I") (List.mem_of_getElem? (i := 2) rfl)) (fun _ h9 => h9) rfl dX19_reason_6 ?_
  refine W.widen (k := 0) (n := 0) (by decide +kernel) (by decide +kernel) ?_
  exact W.iret (v := w_h0_why) hx hb hr (fun t ht hW => ⟨⟨w_h0_why, [(h0, .inr (20, [.int 0, va_rf (o_h0_tape), .int w_h0_taped, .int w_h0_fed, va_rf (o_h0_isProgram), va_rf (o_h0_text), va_rf (o_h0_data), va_rf (o_h0_ends), va_rf (o_h0_constants), va_rf (o_h0_images), va_rf (o_h0_labels), va_rf (o_h0_booting), va_rf (o_h0_assembler), va_rf (o_h0_m), va_rf (o_h0_conditions), va_rf (o_h0_codec), va_rf (o_h0_reader), .int w_h0_booted, .int w_h0_program, .int w_h0_now, .int w_h0_end, .int w_h0_why, .int w_h0_events, .int w_h0_scheduled, .int w_h0_taken, .int w_h0_refused, va_rf (o_h0_kind), va_rf (o_h0_b), va_rf (o_h0_when), va_rf (o_h0_laterKind), va_rf (o_h0_laterB), va_rf (o_h0_a), va_rf (o_h0_laterA), va_rf (o_h0_laterWhen), va_rf (o_h0_log), .int w_h0_logged]))], rfl, Or.inl ⟨rfl, rfl⟩, by rw [ht]; exact hP.sub (ws' := [(h0, .inr (20, [.int 0, va_rf (o_h0_tape), .int w_h0_taped, .int w_h0_fed, va_rf (o_h0_isProgram), va_rf (o_h0_text), va_rf (o_h0_data), va_rf (o_h0_ends), va_rf (o_h0_constants), va_rf (o_h0_images), va_rf (o_h0_labels), va_rf (o_h0_booting), va_rf (o_h0_assembler), va_rf (o_h0_m), va_rf (o_h0_conditions), va_rf (o_h0_codec), va_rf (o_h0_reader), .int w_h0_booted, .int w_h0_program, .int w_h0_now, .int w_h0_end, .int w_h0_why, .int w_h0_events, .int w_h0_scheduled, .int w_h0_taken, .int w_h0_refused, va_rf (o_h0_kind), va_rf (o_h0_b), va_rf (o_h0_when), va_rf (o_h0_laterKind), va_rf (o_h0_laterB), va_rf (o_h0_a), va_rf (o_h0_laterA), va_rf (o_h0_laterWhen), va_rf (o_h0_log), .int w_h0_logged]))]) [0] rfl, va_K.moved hW.alike (hK.sub (tys' := []) [] rfl), hD.sub (ws' := [(h0, .inr (20, [.int 0, va_rf (o_h0_tape), .int w_h0_taped, .int w_h0_fed, va_rf (o_h0_isProgram), va_rf (o_h0_text), va_rf (o_h0_data), va_rf (o_h0_ends), va_rf (o_h0_constants), va_rf (o_h0_images), va_rf (o_h0_labels), va_rf (o_h0_booting), va_rf (o_h0_assembler), va_rf (o_h0_m), va_rf (o_h0_conditions), va_rf (o_h0_codec), va_rf (o_h0_reader), .int w_h0_booted, .int w_h0_program, .int w_h0_now, .int w_h0_end, .int w_h0_why, .int w_h0_events, .int w_h0_scheduled, .int w_h0_taken, .int w_h0_refused, va_rf (o_h0_kind), va_rf (o_h0_b), va_rf (o_h0_when), va_rf (o_h0_laterKind), va_rf (o_h0_laterB), va_rf (o_h0_a), va_rf (o_h0_laterA), va_rf (o_h0_laterWhen), va_rf (o_h0_log), .int w_h0_logged]))]) [0] (by decide) rfl⟩, hS.F ht⟩) hS.2.2 dX19_reason_9
def ow_g_X12_reason : List Cond := .code yX12_reason cX12_reason 1 (some .int) :: ([.fieldLink RX12 33 "TimeMachine" "timeline" "LTimeMachine$Timeline;", .fieldLink RX12 162 "TimeMachine$Timeline" "why" "I"] ++ (u_ws RX12 TX12 12 ++ (u_ws RX11 TX11 16 ++ [])))
theorem gd_g_X12_reason : ∀ w ∈ ow_g_X12_reason, (w.onTables && w.keeps) = true ∨ ∃ ty, w = Cond.arrayClass ty := List.forall_mem_cons.mpr ⟨good_of_word rfl, List.forall_mem_append.mpr ⟨fun w h => good_of_word (List.all_eq_true.mp (by decide +kernel) w h), List.forall_mem_append.mpr ⟨gu_X12, List.forall_mem_append.mpr ⟨gu_X11, fun _ h => nomatch h⟩⟩⟩⟩
theorem hi_g_X12_reason_X12 : ∀ w ∈ u_ws RX12 TX12 12, w ∈ ow_g_X12_reason := fun w h => List.mem_cons_of_mem _ (List.mem_append_right _ (List.mem_append_left _ h))
theorem hi_g_X12_reason_X11 : ∀ w ∈ u_ws RX11 TX11 16, w ∈ ow_g_X12_reason := fun w h => List.mem_cons_of_mem _ (List.mem_append_right _ (List.mem_append_right _ (List.mem_append_left _ h)))
