set_option maxHeartbeats 40000000 in
set_option maxRecDepth 100000 in
theorem g_X16_four (l : Launch) (hlt : l.stackTraces = false) (dC : Nat → ClassId) (dI : Nat → Nat → Nat) (v0 : Int32) (v1 : Int32) (sz : Nat) : Met l yX16_four ow_g_X16_four ({ frames := 1, cells := 0, slots := 0, locals := 24 }) (va_Pc [.int v0, .int v1] (fun U => U.heap.size = sz ∧ va_P (dC, dI) vwCl [] U.heap ∧ va_K (dC, dI) vwCl [] U ∧ va_D (fun _ => True) [] ∧ nv_E (va_A [] sz) U)) (va_Qi (fun r _ => ((¬ ((((v0 : Int32).toUInt32 >>> ((10 : Int32).toUInt32 &&& Int32.toUInt32 31)).toInt32) &&& 3) = 2) ∧ (¬ ((((v0 : Int32).toUInt32 >>> ((12 : Int32).toUInt32 &&& Int32.toUInt32 31)).toInt32) &&& 1) = 1) ∧ (2 ≤ ((((v0 : Int32).toUInt32 >>> ((10 : Int32).toUInt32 &&& Int32.toUInt32 31)).toInt32) &&& 3)) ∧ (¬ ((((v0 : Int32).toUInt32 >>> ((5 : Int32).toUInt32 &&& Int32.toUInt32 31)).toInt32) &&& 3) = 0) ∧ (¬ ((((v0 : Int32).toUInt32 >>> ((5 : Int32).toUInt32 &&& Int32.toUInt32 31)).toInt32) &&& 3) = 1) ∧ r = (((((51 ||| (((8 + ((((v0 : Int32).toUInt32 >>> ((7 : Int32).toUInt32 &&& Int32.toUInt32 31)).toInt32) &&& 7)) : Int32) <<< ((7 : Int32) &&& 31))) ||| (((((((v0 : Int32).toUInt32 >>> ((5 : Int32).toUInt32 &&& Int32.toUInt32 31)).toInt32) &&& 3) + 4) : Int32) <<< ((12 : Int32) &&& 31))) ||| (((8 + ((((v0 : Int32).toUInt32 >>> ((7 : Int32).toUInt32 &&& Int32.toUInt32 31)).toInt32) &&& 7)) : Int32) <<< ((15 : Int32) &&& 31))) ||| (((8 + ((((v0 : Int32).toUInt32 >>> ((2 : Int32).toUInt32 &&& Int32.toUInt32 31)).toInt32) &&& 7)) : Int32) <<< ((20 : Int32) &&& 31))) ||| 0)) ∨ ((¬ ((((v0 : Int32).toUInt32 >>> ((10 : Int32).toUInt32 &&& Int32.toUInt32 31)).toInt32) &&& 3) = 2) ∧ (¬ ((((v0 : Int32).toUInt32 >>> ((12 : Int32).toUInt32 &&& Int32.toUInt32 31)).toInt32) &&& 1) = 1) ∧ (2 ≤ ((((v0 : Int32).toUInt32 >>> ((10 : Int32).toUInt32 &&& Int32.toUInt32 31)).toInt32) &&& 3)) ∧ (¬ ((((v0 : Int32).toUInt32 >>> ((5 : Int32).toUInt32 &&& Int32.toUInt32 31)).toInt32) &&& 3) = 0) ∧ (((((v0 : Int32).toUInt32 >>> ((5 : Int32).toUInt32 &&& Int32.toUInt32 31)).toInt32) &&& 3) = 1) ∧ r = (((((51 ||| (((8 + ((((v0 : Int32).toUInt32 >>> ((7 : Int32).toUInt32 &&& Int32.toUInt32 31)).toInt32) &&& 7)) : Int32) <<< ((7 : Int32) &&& 31))) ||| 16384) ||| (((8 + ((((v0 : Int32).toUInt32 >>> ((7 : Int32).toUInt32 &&& Int32.toUInt32 31)).toInt32) &&& 7)) : Int32) <<< ((15 : Int32) &&& 31))) ||| (((8 + ((((v0 : Int32).toUInt32 >>> ((2 : Int32).toUInt32 &&& Int32.toUInt32 31)).toInt32) &&& 7)) : Int32) <<< ((20 : Int32) &&& 31))) ||| 0)) ∨ ((¬ ((((v0 : Int32).toUInt32 >>> ((10 : Int32).toUInt32 &&& Int32.toUInt32 31)).toInt32) &&& 3) = 2) ∧ (¬ ((((v0 : Int32).toUInt32 >>> ((12 : Int32).toUInt32 &&& Int32.toUInt32 31)).toInt32) &&& 1) = 1) ∧ (2 ≤ ((((v0 : Int32).toUInt32 >>> ((10 : Int32).toUInt32 &&& Int32.toUInt32 31)).toInt32) &&& 3)) ∧ (((((v0 : Int32).toUInt32 >>> ((5 : Int32).toUInt32 &&& Int32.toUInt32 31)).toInt32) &&& 3) = 0) ∧ r = (((((51 ||| (((8 + ((((v0 : Int32).toUInt32 >>> ((7 : Int32).toUInt32 &&& Int32.toUInt32 31)).toInt32) &&& 7)) : Int32) <<< ((7 : Int32) &&& 31))) ||| 0) ||| (((8 + ((((v0 : Int32).toUInt32 >>> ((7 : Int32).toUInt32 &&& Int32.toUInt32 31)).toInt32) &&& 7)) : Int32) <<< ((15 : Int32) &&& 31))) ||| (((8 + ((((v0 : Int32).toUInt32 >>> ((2 : Int32).toUInt32 &&& Int32.toUInt32 31)).toInt32) &&& 7)) : Int32) <<< ((20 : Int32) &&& 31))) ||| 1073741824)) ∨ ((¬ ((((v0 : Int32).toUInt32 >>> ((10 : Int32).toUInt32 &&& Int32.toUInt32 31)).toInt32) &&& 3) = 2) ∧ (¬ ((((v0 : Int32).toUInt32 >>> ((12 : Int32).toUInt32 &&& Int32.toUInt32 31)).toInt32) &&& 1) = 1) ∧ (¬ 2 ≤ ((((v0 : Int32).toUInt32 >>> ((10 : Int32).toUInt32 &&& Int32.toUInt32 31)).toInt32) &&& 3)) ∧ r = ((((19 ||| (((8 + ((((v0 : Int32).toUInt32 >>> ((7 : Int32).toUInt32 &&& Int32.toUInt32 31)).toInt32) &&& 7)) : Int32) <<< ((7 : Int32) &&& 31))) ||| 20480) ||| (((8 + ((((v0 : Int32).toUInt32 >>> ((7 : Int32).toUInt32 &&& Int32.toUInt32 31)).toInt32) &&& 7)) : Int32) <<< ((15 : Int32) &&& 31))) ||| (((((((v0 : Int32).toUInt32 >>> ((2 : Int32).toUInt32 &&& Int32.toUInt32 31)).toInt32) &&& 31) ||| ((((((v0 : Int32).toUInt32 >>> ((10 : Int32).toUInt32 &&& Int32.toUInt32 31)).toInt32) &&& 3) : Int32) <<< ((10 : Int32) &&& 31))) : Int32) <<< ((20 : Int32) &&& 31)))) ∨ ((¬ ((((v0 : Int32).toUInt32 >>> ((10 : Int32).toUInt32 &&& Int32.toUInt32 31)).toInt32) &&& 3) = 2) ∧ (((((v0 : Int32).toUInt32 >>> ((12 : Int32).toUInt32 &&& Int32.toUInt32 31)).toInt32) &&& 1) = 1) ∧ r = 0) ∨ ((((((v0 : Int32).toUInt32 >>> ((10 : Int32).toUInt32 &&& Int32.toUInt32 31)).toInt32) &&& 3) = 2) ∧ r = ((((19 ||| (((8 + ((((v0 : Int32).toUInt32 >>> ((7 : Int32).toUInt32 &&& Int32.toUInt32 31)).toInt32) &&& 7)) : Int32) <<< ((7 : Int32) &&& 31))) ||| 28672) ||| (((8 + ((((v0 : Int32).toUInt32 >>> ((7 : Int32).toUInt32 &&& Int32.toUInt32 31)).toInt32) &&& 7)) : Int32) <<< ((15 : Int32) &&& 31))) ||| ((v1 : Int32) <<< ((20 : Int32) &&& 31)))) ∨ False) (fun (_ : Unit) t => va_P (dC, dI) vwCl [] t.heap ∧ va_K (dC, dI) vwCl [] t ∧ va_D (va_A [] sz) []) (va_A [] sz)) 0 0 (va_A [] sz) := by
  refine Met.ofW (cc := cX16_four) (maxL := 6) (ret := (some .int)) (by decide) rfl ?_
  intro p e s m args below meth c s₁ B hml hv
  obtain ⟨rfl, hsz, hP, hK, hD0, hN⟩ := hv
  have hx := B.exec
  have hb := B.bytes
  have hr := B.returns
  have hts := atoms_spec (ws := ow_g_X16_four) B.pre
  have hown : s.vm.findClass RX16 = some m.cls := findClass_of_methodNamed B.named
  have hlocks := B.notSynchronized
  subst hsz
  have hD := hD0.self (sz := s.heap.size)
  generalize hAe : va_A [] s.heap.size = A at hD hN ⊢
  have hA : ∀ q : Nat, s.heap.size ≤ q → A q := fun q h => by rw [← hAe]; exact Or.inr h
  have hS : va_S A s.heap s.heap [] := va_S.rf
  have hl := lv_entry ([.int v0, .int v1]) (n := 6) (Nat.le_of_ble_eq_true rfl)
  rw [lg_entry_eq]
  generalize (lg_sl ([.int v0, .int v1]) ++ List.replicate (6 - (lg_sl ([.int v0, .int v1])).length) Slot.unset).toArray = ls at hl ⊢
  have hl : lv_has ls 6 [(0, .int v0), (1, .int v1)] := hl
  refine lv_bipush (v := 8) hx hb dX16_four_0 (by decide) ?_
  refine lv_iload_n hx hb dX16_four_2 rfl (lv_at hl 0 rfl) ?_
  refine lv_bipush (v := 7) hx hb dX16_four_3 (by decide) ?_
  refine lv_iconst (v := 3) hx hb dX16_four_5 (by decide) ?_
  have hPc := hP.sub (ws' := []) [] rfl
  have hDc := hD.sub (ws' := []) [] (by decide) rfl
  have hKc := hK.sub (tys' := []) [] rfl
  have hFc := va_free (wc := []) hD hS hA [] rfl
  refine va_calli (va_runS (As := [.int v0, .int 7, .int 3]) (rest := [.int 8]) ⟨hx, hb, hml, hown, hts⟩ (k_X16_part_v11 l hlt dC dI v0  s.heap.size) (cwS 3 hts gi_g_X16_four_0 rfl rfl rfl (by decide +kernel) ⟨Nat.le_of_ble_eq_true rfl, Nat.le_of_ble_eq_true rfl⟩) ⟨fun a U g mk q => by obtain ⟨q0, q1, qP, qK, qD, qN⟩ := q; exact ⟨q0, q1, qP, va_K.moved (u := U) (U := U.calling g mk a) (Vm.Alike.refl U.vm) qK, qD, nv_same rfl rfl qN⟩, fun U hU hW => ⟨rfl, by rw [hU], by rw [hU]; exact hPc, va_K.moved hW.alike hKc, hDc.weaken (fun _ _ _ _ => trivial), nv_call hS hFc hU hW hN⟩⟩ rfl rfl hl.1 rfl (lv_room (Nat.le_of_ble_eq_true rfl)) dX16_four_6 ⟨by decide +kernel, by decide +kernel⟩) hS (fun q _ h => hFc q h) hFc (fun r1 u t H1 locs ht hvm hw hB hz1 hk1 hS => ?_)
  obtain ⟨hP1, hK1, hD1⟩ := hB
  rw [ht] at hP1
  have hK1 := va_K.moved hvm.symm hK1
  obtain ⟨hP, hD⟩ := va_join (wr := []) (w1 := []) hP hD [] [] rfl rfl (by decide) (by decide) hk1 hFc hP1 hD1
  have hK := (hK.sub (tys' := []) [] rfl).app hK1
  generalize H1 = H at hP hS ⊢
  have hP : va_P (dC, dI) vwCl [] H := hP
  have hD : va_D A [] := hD
  have hK : va_K (dC, dI) vwCl [] s := hK
  refine W.widen (k := 0) (n := 0) (by decide +kernel) (by decide +kernel) ?_
  rcases hw with h9 | h9
  · subst h9
    refine lv_iadd hx hb dX16_four_9 ?_
    refine lv_istore_n (lv' := [(2, .int (8 + ((((v0 : Int32).toUInt32 >>> ((7 : Int32).toUInt32 &&& Int32.toUInt32 31)).toInt32) &&& 7))), (0, .int v0), (1, .int v1)]) hx hb dX16_four_10 rfl hl (by decide) rfl (fun ls hl => ?_)
    refine lv_bipush (v := 8) hx hb dX16_four_11 (by decide) ?_
    refine lv_iload_n hx hb dX16_four_13 rfl (lv_at hl 1 rfl) ?_
    refine lv_iconst (v := 2) hx hb dX16_four_14 (by decide) ?_
    refine lv_iconst (v := 3) hx hb dX16_four_15 (by decide) ?_
    have hPc := hP.sub (ws' := []) [] rfl
    have hDc := hD.sub (ws' := []) [] (by decide) rfl
    have hKc := hK.sub (tys' := []) [] rfl
    have hFc := va_free (wc := []) hD hS hA [] rfl
    refine va_calli (va_runS (As := [.int v0, .int 2, .int 3]) (rest := [.int 8]) ⟨hx, hb, hml, hown, hts⟩ (k_X16_part_v10 l hlt dC dI v0  H.size) (cwS 3 hts gi_g_X16_four_1 rfl rfl rfl (by decide +kernel) ⟨Nat.le_of_ble_eq_true rfl, Nat.le_of_ble_eq_true rfl⟩) ⟨fun a U g mk q => by obtain ⟨q0, q1, qP, qK, qD, qN⟩ := q; exact ⟨q0, q1, qP, va_K.moved (u := U) (U := U.calling g mk a) (Vm.Alike.refl U.vm) qK, qD, nv_same rfl rfl qN⟩, fun U hU hW => ⟨rfl, by rw [hU], by rw [hU]; exact hPc, va_K.moved hW.alike hKc, hDc.weaken (fun _ _ _ _ => trivial), nv_call hS hFc hU hW hN⟩⟩ rfl rfl hl.1 rfl (lv_room (Nat.le_of_ble_eq_true rfl)) dX16_four_16 ⟨by decide +kernel, by decide +kernel⟩) hS (fun q _ h => hFc q h) hFc (fun r2 u t H1 locs ht hvm hw hB hz1 hk1 hS => ?_)
    obtain ⟨hP1, hK1, hD1⟩ := hB
    rw [ht] at hP1
    have hK1 := va_K.moved hvm.symm hK1
    obtain ⟨hP, hD⟩ := va_join (wr := []) (w1 := []) hP hD [] [] rfl rfl (by decide) (by decide) hk1 hFc hP1 hD1
    have hK := (hK.sub (tys' := []) [] rfl).app hK1
    generalize H1 = H at hP hS ⊢
    have hP : va_P (dC, dI) vwCl [] H := hP
    have hD : va_D A [] := hD
    have hK : va_K (dC, dI) vwCl [] s := hK
    refine W.widen (k := 0) (n := 0) (by decide +kernel) (by decide +kernel) ?_
    rcases hw with h9 | h9
    · subst h9
      refine lv_iadd hx hb dX16_four_19 ?_
      refine lv_istore_n (lv' := [(3, .int (8 + ((((v0 : Int32).toUInt32 >>> ((2 : Int32).toUInt32 &&& Int32.toUInt32 31)).toInt32) &&& 7))), (2, .int (8 + ((((v0 : Int32).toUInt32 >>> ((7 : Int32).toUInt32 &&& Int32.toUInt32 31)).toInt32) &&& 7))), (0, .int v0), (1, .int v1)]) hx hb dX16_four_20 rfl hl (by decide) rfl (fun ls hl => ?_)
      refine lv_iload_n hx hb dX16_four_21 rfl (lv_at hl 2 rfl) ?_
      refine lv_bipush (v := 10) hx hb dX16_four_22 (by decide) ?_
      refine lv_iconst (v := 2) hx hb dX16_four_24 (by decide) ?_
      have hPc := hP.sub (ws' := []) [] rfl
      have hDc := hD.sub (ws' := []) [] (by decide) rfl
      have hKc := hK.sub (tys' := []) [] rfl
      have hFc := va_free (wc := []) hD hS hA [] rfl
      refine va_calli (va_runS (As := [.int v0, .int 10, .int 2]) (rest := []) ⟨hx, hb, hml, hown, hts⟩ (k_X16_part_v17 l hlt dC dI v0  H.size) (cwS 3 hts gi_g_X16_four_2 rfl rfl rfl (by decide +kernel) ⟨Nat.le_of_ble_eq_true rfl, Nat.le_of_ble_eq_true rfl⟩) ⟨fun a U g mk q => by obtain ⟨q0, q1, qP, qK, qD, qN⟩ := q; exact ⟨q0, q1, qP, va_K.moved (u := U) (U := U.calling g mk a) (Vm.Alike.refl U.vm) qK, qD, nv_same rfl rfl qN⟩, fun U hU hW => ⟨rfl, by rw [hU], by rw [hU]; exact hPc, va_K.moved hW.alike hKc, hDc.weaken (fun _ _ _ _ => trivial), nv_call hS hFc hU hW hN⟩⟩ rfl rfl hl.1 rfl (lv_room (Nat.le_of_ble_eq_true rfl)) dX16_four_25 ⟨by decide +kernel, by decide +kernel⟩) hS (fun q _ h => hFc q h) hFc (fun r3 u t H1 locs ht hvm hw hB hz1 hk1 hS => ?_)
      obtain ⟨hP1, hK1, hD1⟩ := hB
      rw [ht] at hP1
      have hK1 := va_K.moved hvm.symm hK1
      obtain ⟨hP, hD⟩ := va_join (wr := []) (w1 := []) hP hD [] [] rfl rfl (by decide) (by decide) hk1 hFc hP1 hD1
      have hK := (hK.sub (tys' := []) [] rfl).app hK1
      generalize H1 = H at hP hS ⊢
      have hP : va_P (dC, dI) vwCl [] H := hP
      have hD : va_D A [] := hD
      have hK : va_K (dC, dI) vwCl [] s := hK
      refine W.widen (k := 0) (n := 0) (by decide +kernel) (by decide +kernel) ?_
      rcases hw with h9 | h9
      · subst h9
        refine lv_istore (lv' := [(4, .int ((((v0 : Int32).toUInt32 >>> ((10 : Int32).toUInt32 &&& Int32.toUInt32 31)).toInt32) &&& 3)), (3, .int (8 + ((((v0 : Int32).toUInt32 >>> ((2 : Int32).toUInt32 &&& Int32.toUInt32 31)).toInt32) &&& 7))), (2, .int (8 + ((((v0 : Int32).toUInt32 >>> ((7 : Int32).toUInt32 &&& Int32.toUInt32 31)).toInt32) &&& 7))), (0, .int v0), (1, .int v1)]) hx hb dX16_four_28 hl (by decide) rfl (fun ls hl => ?_)
        refine lv_iload_n hx hb dX16_four_30 rfl (lv_at hl 3 rfl) ?_
        refine lv_iconst (v := 5) hx hb dX16_four_31 (by decide) ?_
        refine lv_iconst (v := 2) hx hb dX16_four_32 (by decide) ?_
        have hPc := hP.sub (ws' := []) [] rfl
        have hDc := hD.sub (ws' := []) [] (by decide) rfl
        have hKc := hK.sub (tys' := []) [] rfl
        have hFc := va_free (wc := []) hD hS hA [] rfl
        refine va_calli (va_runS (As := [.int v0, .int 5, .int 2]) (rest := []) ⟨hx, hb, hml, hown, hts⟩ (k_X16_part_v18 l hlt dC dI v0  H.size) (cwS 3 hts gi_g_X16_four_3 rfl rfl rfl (by decide +kernel) ⟨Nat.le_of_ble_eq_true rfl, Nat.le_of_ble_eq_true rfl⟩) ⟨fun a U g mk q => by obtain ⟨q0, q1, qP, qK, qD, qN⟩ := q; exact ⟨q0, q1, qP, va_K.moved (u := U) (U := U.calling g mk a) (Vm.Alike.refl U.vm) qK, qD, nv_same rfl rfl qN⟩, fun U hU hW => ⟨rfl, by rw [hU], by rw [hU]; exact hPc, va_K.moved hW.alike hKc, hDc.weaken (fun _ _ _ _ => trivial), nv_call hS hFc hU hW hN⟩⟩ rfl rfl hl.1 rfl (lv_room (Nat.le_of_ble_eq_true rfl)) dX16_four_33 ⟨by decide +kernel, by decide +kernel⟩) hS (fun q _ h => hFc q h) hFc (fun r4 u t H1 locs ht hvm hw hB hz1 hk1 hS => ?_)
        obtain ⟨hP1, hK1, hD1⟩ := hB
        rw [ht] at hP1
        have hK1 := va_K.moved hvm.symm hK1
        obtain ⟨hP, hD⟩ := va_join (wr := []) (w1 := []) hP hD [] [] rfl rfl (by decide) (by decide) hk1 hFc hP1 hD1
        have hK := (hK.sub (tys' := []) [] rfl).app hK1
        generalize H1 = H at hP hS ⊢
        have hP : va_P (dC, dI) vwCl [] H := hP
        have hD : va_D A [] := hD
        have hK : va_K (dC, dI) vwCl [] s := hK
        refine W.widen (k := 0) (n := 0) (by decide +kernel) (by decide +kernel) ?_
        rcases hw with h9 | h9
        · subst h9
          refine lv_istore (lv' := [(5, .int ((((v0 : Int32).toUInt32 >>> ((5 : Int32).toUInt32 &&& Int32.toUInt32 31)).toInt32) &&& 3)), (4, .int ((((v0 : Int32).toUInt32 >>> ((10 : Int32).toUInt32 &&& Int32.toUInt32 31)).toInt32) &&& 3)), (3, .int (8 + ((((v0 : Int32).toUInt32 >>> ((2 : Int32).toUInt32 &&& Int32.toUInt32 31)).toInt32) &&& 7))), (2, .int (8 + ((((v0 : Int32).toUInt32 >>> ((7 : Int32).toUInt32 &&& Int32.toUInt32 31)).toInt32) &&& 7))), (0, .int v0), (1, .int v1)]) hx hb dX16_four_36 hl (by decide) rfl (fun ls hl => ?_)
          refine lv_iload hx hb dX16_four_38 (lv_at hl 1 rfl) ?_
          refine lv_iconst (v := 2) hx hb dX16_four_40 (by decide) ?_
          refine lv_icmp_ne (tgt := 55) hx hb dX16_four_41 (by decide) (fun c_5 => ?_) (fun c_5 => ?_)
          · refine lv_iload_n hx hb dX16_four_55 rfl (lv_at hl 4 rfl) ?_
            refine lv_bipush (v := 12) hx hb dX16_four_56 (by decide) ?_
            refine lv_iconst (v := 1) hx hb dX16_four_58 (by decide) ?_
            have hPc := hP.sub (ws' := []) [] rfl
            have hDc := hD.sub (ws' := []) [] (by decide) rfl
            have hKc := hK.sub (tys' := []) [] rfl
            have hFc := va_free (wc := []) hD hS hA [] rfl
            refine va_calli (va_runS (As := [.int v0, .int 12, .int 1]) (rest := []) ⟨hx, hb, hml, hown, hts⟩ (k_X16_part_v9 l hlt dC dI v0  H.size) (cwS 3 hts gi_g_X16_four_4 rfl rfl rfl (by decide +kernel) ⟨Nat.le_of_ble_eq_true rfl, Nat.le_of_ble_eq_true rfl⟩) ⟨fun a U g mk q => by obtain ⟨q0, q1, qP, qK, qD, qN⟩ := q; exact ⟨q0, q1, qP, va_K.moved (u := U) (U := U.calling g mk a) (Vm.Alike.refl U.vm) qK, qD, nv_same rfl rfl qN⟩, fun U hU hW => ⟨rfl, by rw [hU], by rw [hU]; exact hPc, va_K.moved hW.alike hKc, hDc.weaken (fun _ _ _ _ => trivial), nv_call hS hFc hU hW hN⟩⟩ rfl rfl hl.1 rfl (lv_room (Nat.le_of_ble_eq_true rfl)) dX16_four_59 ⟨by decide +kernel, by decide +kernel⟩) hS (fun q _ h => hFc q h) hFc (fun r5 u t H1 locs ht hvm hw hB hz1 hk1 hS => ?_)
            obtain ⟨hP1, hK1, hD1⟩ := hB
            rw [ht] at hP1
            have hK1 := va_K.moved hvm.symm hK1
            obtain ⟨hP, hD⟩ := va_join (wr := []) (w1 := []) hP hD [] [] rfl rfl (by decide) (by decide) hk1 hFc hP1 hD1
            have hK := (hK.sub (tys' := []) [] rfl).app hK1
            generalize H1 = H at hP hS ⊢
            have hP : va_P (dC, dI) vwCl [] H := hP
            have hD : va_D A [] := hD
            have hK : va_K (dC, dI) vwCl [] s := hK
            refine W.widen (k := 0) (n := 0) (by decide +kernel) (by decide +kernel) ?_
            rcases hw with h9 | h9
            · subst h9
              refine lv_iconst (v := 1) hx hb dX16_four_62 (by decide) ?_
              refine lv_icmp_ne (tgt := 68) hx hb dX16_four_63 (by decide) (fun c_7 => ?_) (fun c_7 => ?_)
              · refine lv_iload hx hb dX16_four_68 (lv_at hl 1 rfl) ?_
                refine lv_iconst (v := 2) hx hb dX16_four_70 (by decide) ?_
                refine lv_icmp_ge (tgt := 95) hx hb dX16_four_71 (by decide) (fun c_8 => ?_) (fun c_8 => ?_)
                · refine lv_iload hx hb dX16_four_95 (lv_at hl 0 rfl) ?_
                  refine lv_if_ne (tgt := 112) hx hb dX16_four_97 (by decide) (fun c_9 => ?_) (fun c_9 => ?_)
                  · refine lv_iload hx hb dX16_four_112 (lv_at hl 0 rfl) ?_
                    refine lv_iconst (v := 1) hx hb dX16_four_114 (by decide) ?_
                    refine lv_icmp_ne (tgt := 122) hx hb dX16_four_115 (by decide) (fun c_10 => ?_) (fun c_10 => ?_)
                    · refine lv_iload hx hb dX16_four_122 (lv_at hl 0 rfl) ?_
                      refine lv_iconst (v := 4) hx hb dX16_four_124 (by decide) ?_
                      refine lv_iadd hx hb dX16_four_125 ?_
                      refine lv_iconst (v := 0) hx hb dX16_four_126 (by decide) ?_
                      refine lv_iload_n hx hb dX16_four_127 rfl (lv_at hl 3 rfl) ?_
                      refine lv_iload_n hx hb dX16_four_128 rfl (lv_at hl 3 rfl) ?_
                      refine lv_iload_n hx hb dX16_four_129 rfl (lv_at hl 2 rfl) ?_
                      have hPc := hP.sub (ws' := []) [] rfl
                      have hDc := hD.sub (ws' := []) [] (by decide) rfl
                      have hKc := hK.sub (tys' := []) [] rfl
                      have hFc := va_free (wc := []) hD hS hA [] rfl
                      refine va_calli (va_runS (As := [.int (((((v0 : Int32).toUInt32 >>> ((5 : Int32).toUInt32 &&& Int32.toUInt32 31)).toInt32) &&& 3) + 4), .int 0, .int (8 + ((((v0 : Int32).toUInt32 >>> ((7 : Int32).toUInt32 &&& Int32.toUInt32 31)).toInt32) &&& 7)), .int (8 + ((((v0 : Int32).toUInt32 >>> ((7 : Int32).toUInt32 &&& Int32.toUInt32 31)).toInt32) &&& 7)), .int (8 + ((((v0 : Int32).toUInt32 >>> ((2 : Int32).toUInt32 &&& Int32.toUInt32 31)).toInt32) &&& 7))]) (rest := []) ⟨hx, hb, hml, hown, hts⟩ (k_X16_threes l hlt dC dI (((((v0 : Int32).toUInt32 >>> ((5 : Int32).toUInt32 &&& Int32.toUInt32 31)).toInt32) &&& 3) + 4) (8 + ((((v0 : Int32).toUInt32 >>> ((7 : Int32).toUInt32 &&& Int32.toUInt32 31)).toInt32) &&& 7)) (8 + ((((v0 : Int32).toUInt32 >>> ((7 : Int32).toUInt32 &&& Int32.toUInt32 31)).toInt32) &&& 7)) (8 + ((((v0 : Int32).toUInt32 >>> ((2 : Int32).toUInt32 &&& Int32.toUInt32 31)).toInt32) &&& 7))  H.size) (cwS 5 hts gi_g_X16_four_5 rfl rfl rfl (by decide +kernel) ⟨Nat.le_of_ble_eq_true rfl, Nat.le_of_ble_eq_true rfl⟩) ⟨fun a U g mk q => by obtain ⟨q0, q1, qP, qK, qD, qN⟩ := q; exact ⟨q0, q1, qP, va_K.moved (u := U) (U := U.calling g mk a) (Vm.Alike.refl U.vm) qK, qD, nv_same rfl rfl qN⟩, fun U hU hW => ⟨rfl, by rw [hU], by rw [hU]; exact hPc, va_K.moved hW.alike hKc, hDc.weaken (fun _ _ _ _ => trivial), nv_call hS hFc hU hW hN⟩⟩ rfl rfl hl.1 rfl (lv_room (Nat.le_of_ble_eq_true rfl)) dX16_four_130 ⟨by decide +kernel, by decide +kernel⟩) hS (fun q _ h => hFc q h) hFc (fun r10 u t H1 locs ht hvm hw hB hz1 hk1 hS => ?_)
                      obtain ⟨hP1, hK1, hD1⟩ := hB
                      rw [ht] at hP1
                      have hK1 := va_K.moved hvm.symm hK1
                      obtain ⟨hP, hD⟩ := va_join (wr := []) (w1 := []) hP hD [] [] rfl rfl (by decide) (by decide) hk1 hFc hP1 hD1
                      have hK := (hK.sub (tys' := []) [] rfl).app hK1
                      generalize H1 = H at hP hS ⊢
                      have hP : va_P (dC, dI) vwCl [] H := hP
                      have hD : va_D A [] := hD
                      have hK : va_K (dC, dI) vwCl [] s := hK
                      refine W.widen (k := 0) (n := 0) (by decide +kernel) (by decide +kernel) ?_
                      rcases hw with h9 | h9
                      · subst h9
                        refine W.widen (k := 0) (n := 0) (by decide +kernel) (by decide +kernel) ?_
                        exact W.iret (v := (((((51 ||| (((8 + ((((v0 : Int32).toUInt32 >>> ((7 : Int32).toUInt32 &&& Int32.toUInt32 31)).toInt32) &&& 7)) : Int32) <<< ((7 : Int32) &&& 31))) ||| (((((((v0 : Int32).toUInt32 >>> ((5 : Int32).toUInt32 &&& Int32.toUInt32 31)).toInt32) &&& 3) + 4) : Int32) <<< ((12 : Int32) &&& 31))) ||| (((8 + ((((v0 : Int32).toUInt32 >>> ((7 : Int32).toUInt32 &&& Int32.toUInt32 31)).toInt32) &&& 7)) : Int32) <<< ((15 : Int32) &&& 31))) ||| (((8 + ((((v0 : Int32).toUInt32 >>> ((2 : Int32).toUInt32 &&& Int32.toUInt32 31)).toInt32) &&& 7)) : Int32) <<< ((20 : Int32) &&& 31))) ||| 0)) hx hb hr (fun t ht hW => ⟨⟨(((((51 ||| (((8 + ((((v0 : Int32).toUInt32 >>> ((7 : Int32).toUInt32 &&& Int32.toUInt32 31)).toInt32) &&& 7)) : Int32) <<< ((7 : Int32) &&& 31))) ||| (((((((v0 : Int32).toUInt32 >>> ((5 : Int32).toUInt32 &&& Int32.toUInt32 31)).toInt32) &&& 3) + 4) : Int32) <<< ((12 : Int32) &&& 31))) ||| (((8 + ((((v0 : Int32).toUInt32 >>> ((7 : Int32).toUInt32 &&& Int32.toUInt32 31)).toInt32) &&& 7)) : Int32) <<< ((15 : Int32) &&& 31))) ||| (((8 + ((((v0 : Int32).toUInt32 >>> ((2 : Int32).toUInt32 &&& Int32.toUInt32 31)).toInt32) &&& 7)) : Int32) <<< ((20 : Int32) &&& 31))) ||| 0), (), rfl, Or.inl ⟨c_5, c_7, c_8, c_9, c_10, rfl⟩, by rw [ht]; exact hP, va_K.moved hW.alike hK, hD⟩, hS.F ht⟩) hS.2.2 dX16_four_133
                      · exact h9.elim
                    · refine lv_iconst (v := 4) hx hb dX16_four_118 (by decide) ?_
                      refine lv_goto (tgt := 126) hx hb dX16_four_119 (by decide) ?_
                      refine lv_iconst (v := 0) hx hb dX16_four_126 (by decide) ?_
                      refine lv_iload_n hx hb dX16_four_127 rfl (lv_at hl 3 rfl) ?_
                      refine lv_iload_n hx hb dX16_four_128 rfl (lv_at hl 3 rfl) ?_
                      refine lv_iload_n hx hb dX16_four_129 rfl (lv_at hl 2 rfl) ?_
                      have hPc := hP.sub (ws' := []) [] rfl
                      have hDc := hD.sub (ws' := []) [] (by decide) rfl
                      have hKc := hK.sub (tys' := []) [] rfl
                      have hFc := va_free (wc := []) hD hS hA [] rfl
                      refine va_calli (va_runS (As := [.int 4, .int 0, .int (8 + ((((v0 : Int32).toUInt32 >>> ((7 : Int32).toUInt32 &&& Int32.toUInt32 31)).toInt32) &&& 7)), .int (8 + ((((v0 : Int32).toUInt32 >>> ((7 : Int32).toUInt32 &&& Int32.toUInt32 31)).toInt32) &&& 7)), .int (8 + ((((v0 : Int32).toUInt32 >>> ((2 : Int32).toUInt32 &&& Int32.toUInt32 31)).toInt32) &&& 7))]) (rest := []) ⟨hx, hb, hml, hown, hts⟩ (k_X16_threes_v1 l hlt dC dI (8 + ((((v0 : Int32).toUInt32 >>> ((7 : Int32).toUInt32 &&& Int32.toUInt32 31)).toInt32) &&& 7)) (8 + ((((v0 : Int32).toUInt32 >>> ((7 : Int32).toUInt32 &&& Int32.toUInt32 31)).toInt32) &&& 7)) (8 + ((((v0 : Int32).toUInt32 >>> ((2 : Int32).toUInt32 &&& Int32.toUInt32 31)).toInt32) &&& 7))  H.size) (cwS 5 hts gi_g_X16_four_6 rfl rfl rfl (by decide +kernel) ⟨Nat.le_of_ble_eq_true rfl, Nat.le_of_ble_eq_true rfl⟩) ⟨fun a U g mk q => by obtain ⟨q0, q1, qP, qK, qD, qN⟩ := q; exact ⟨q0, q1, qP, va_K.moved (u := U) (U := U.calling g mk a) (Vm.Alike.refl U.vm) qK, qD, nv_same rfl rfl qN⟩, fun U hU hW => ⟨rfl, by rw [hU], by rw [hU]; exact hPc, va_K.moved hW.alike hKc, hDc.weaken (fun _ _ _ _ => trivial), nv_call hS hFc hU hW hN⟩⟩ rfl rfl hl.1 rfl (lv_room (Nat.le_of_ble_eq_true rfl)) dX16_four_130 ⟨by decide +kernel, by decide +kernel⟩) hS (fun q _ h => hFc q h) hFc (fun r14 u t H1 locs ht hvm hw hB hz1 hk1 hS => ?_)
                      obtain ⟨hP1, hK1, hD1⟩ := hB
                      rw [ht] at hP1
                      have hK1 := va_K.moved hvm.symm hK1
                      obtain ⟨hP, hD⟩ := va_join (wr := []) (w1 := []) hP hD [] [] rfl rfl (by decide) (by decide) hk1 hFc hP1 hD1
                      have hK := (hK.sub (tys' := []) [] rfl).app hK1
                      generalize H1 = H at hP hS ⊢
                      have hP : va_P (dC, dI) vwCl [] H := hP
                      have hD : va_D A [] := hD
                      have hK : va_K (dC, dI) vwCl [] s := hK
                      refine W.widen (k := 0) (n := 0) (by decide +kernel) (by decide +kernel) ?_
                      rcases hw with h9 | h9
                      · subst h9
                        refine W.widen (k := 0) (n := 0) (by decide +kernel) (by decide +kernel) ?_
                        exact W.iret (v := (((((51 ||| (((8 + ((((v0 : Int32).toUInt32 >>> ((7 : Int32).toUInt32 &&& Int32.toUInt32 31)).toInt32) &&& 7)) : Int32) <<< ((7 : Int32) &&& 31))) ||| 16384) ||| (((8 + ((((v0 : Int32).toUInt32 >>> ((7 : Int32).toUInt32 &&& Int32.toUInt32 31)).toInt32) &&& 7)) : Int32) <<< ((15 : Int32) &&& 31))) ||| (((8 + ((((v0 : Int32).toUInt32 >>> ((2 : Int32).toUInt32 &&& Int32.toUInt32 31)).toInt32) &&& 7)) : Int32) <<< ((20 : Int32) &&& 31))) ||| 0)) hx hb hr (fun t ht hW => ⟨⟨(((((51 ||| (((8 + ((((v0 : Int32).toUInt32 >>> ((7 : Int32).toUInt32 &&& Int32.toUInt32 31)).toInt32) &&& 7)) : Int32) <<< ((7 : Int32) &&& 31))) ||| 16384) ||| (((8 + ((((v0 : Int32).toUInt32 >>> ((7 : Int32).toUInt32 &&& Int32.toUInt32 31)).toInt32) &&& 7)) : Int32) <<< ((15 : Int32) &&& 31))) ||| (((8 + ((((v0 : Int32).toUInt32 >>> ((2 : Int32).toUInt32 &&& Int32.toUInt32 31)).toInt32) &&& 7)) : Int32) <<< ((20 : Int32) &&& 31))) ||| 0), (), rfl, Or.inr (Or.inl ⟨c_5, c_7, c_8, c_9, c_10, rfl⟩), by rw [ht]; exact hP, va_K.moved hW.alike hK, hD⟩, hS.F ht⟩) hS.2.2 dX16_four_133
                      · exact h9.elim
                  · refine lv_iconst (v := 0) hx hb dX16_four_100 (by decide) ?_
                    refine lv_bipush (v := 32) hx hb dX16_four_101 (by decide) ?_
                    refine lv_iload_n hx hb dX16_four_103 rfl (lv_at hl 3 rfl) ?_
                    refine lv_iload_n hx hb dX16_four_104 rfl (lv_at hl 3 rfl) ?_
                    refine lv_iload_n hx hb dX16_four_105 rfl (lv_at hl 2 rfl) ?_
                    have hPc := hP.sub (ws' := []) [] rfl
                    have hDc := hD.sub (ws' := []) [] (by decide) rfl
                    have hKc := hK.sub (tys' := []) [] rfl
                    have hFc := va_free (wc := []) hD hS hA [] rfl
                    refine va_calli (va_runS (As := [.int 0, .int 32, .int (8 + ((((v0 : Int32).toUInt32 >>> ((7 : Int32).toUInt32 &&& Int32.toUInt32 31)).toInt32) &&& 7)), .int (8 + ((((v0 : Int32).toUInt32 >>> ((7 : Int32).toUInt32 &&& Int32.toUInt32 31)).toInt32) &&& 7)), .int (8 + ((((v0 : Int32).toUInt32 >>> ((2 : Int32).toUInt32 &&& Int32.toUInt32 31)).toInt32) &&& 7))]) (rest := []) ⟨hx, hb, hml, hown, hts⟩ (k_X16_threes_v2 l hlt dC dI (8 + ((((v0 : Int32).toUInt32 >>> ((7 : Int32).toUInt32 &&& Int32.toUInt32 31)).toInt32) &&& 7)) (8 + ((((v0 : Int32).toUInt32 >>> ((7 : Int32).toUInt32 &&& Int32.toUInt32 31)).toInt32) &&& 7)) (8 + ((((v0 : Int32).toUInt32 >>> ((2 : Int32).toUInt32 &&& Int32.toUInt32 31)).toInt32) &&& 7))  H.size) (cwS 5 hts gi_g_X16_four_7 rfl rfl rfl (by decide +kernel) ⟨Nat.le_of_ble_eq_true rfl, Nat.le_of_ble_eq_true rfl⟩) ⟨fun a U g mk q => by obtain ⟨q0, q1, qP, qK, qD, qN⟩ := q; exact ⟨q0, q1, qP, va_K.moved (u := U) (U := U.calling g mk a) (Vm.Alike.refl U.vm) qK, qD, nv_same rfl rfl qN⟩, fun U hU hW => ⟨rfl, by rw [hU], by rw [hU]; exact hPc, va_K.moved hW.alike hKc, hDc.weaken (fun _ _ _ _ => trivial), nv_call hS hFc hU hW hN⟩⟩ rfl rfl hl.1 rfl (lv_room (Nat.le_of_ble_eq_true rfl)) dX16_four_106 ⟨by decide +kernel, by decide +kernel⟩) hS (fun q _ h => hFc q h) hFc (fun r18 u t H1 locs ht hvm hw hB hz1 hk1 hS => ?_)
                    obtain ⟨hP1, hK1, hD1⟩ := hB
                    rw [ht] at hP1
                    have hK1 := va_K.moved hvm.symm hK1
                    obtain ⟨hP, hD⟩ := va_join (wr := []) (w1 := []) hP hD [] [] rfl rfl (by decide) (by decide) hk1 hFc hP1 hD1
                    have hK := (hK.sub (tys' := []) [] rfl).app hK1
                    generalize H1 = H at hP hS ⊢
                    have hP : va_P (dC, dI) vwCl [] H := hP
                    have hD : va_D A [] := hD
                    have hK : va_K (dC, dI) vwCl [] s := hK
                    refine W.widen (k := 0) (n := 0) (by decide +kernel) (by decide +kernel) ?_
                    rcases hw with h9 | h9
                    · subst h9
                      refine lv_goto (tgt := 133) hx hb dX16_four_109 (by decide) ?_
                      refine W.widen (k := 0) (n := 0) (by decide +kernel) (by decide +kernel) ?_
                      exact W.iret (v := (((((51 ||| (((8 + ((((v0 : Int32).toUInt32 >>> ((7 : Int32).toUInt32 &&& Int32.toUInt32 31)).toInt32) &&& 7)) : Int32) <<< ((7 : Int32) &&& 31))) ||| 0) ||| (((8 + ((((v0 : Int32).toUInt32 >>> ((7 : Int32).toUInt32 &&& Int32.toUInt32 31)).toInt32) &&& 7)) : Int32) <<< ((15 : Int32) &&& 31))) ||| (((8 + ((((v0 : Int32).toUInt32 >>> ((2 : Int32).toUInt32 &&& Int32.toUInt32 31)).toInt32) &&& 7)) : Int32) <<< ((20 : Int32) &&& 31))) ||| 1073741824)) hx hb hr (fun t ht hW => ⟨⟨(((((51 ||| (((8 + ((((v0 : Int32).toUInt32 >>> ((7 : Int32).toUInt32 &&& Int32.toUInt32 31)).toInt32) &&& 7)) : Int32) <<< ((7 : Int32) &&& 31))) ||| 0) ||| (((8 + ((((v0 : Int32).toUInt32 >>> ((7 : Int32).toUInt32 &&& Int32.toUInt32 31)).toInt32) &&& 7)) : Int32) <<< ((15 : Int32) &&& 31))) ||| (((8 + ((((v0 : Int32).toUInt32 >>> ((2 : Int32).toUInt32 &&& Int32.toUInt32 31)).toInt32) &&& 7)) : Int32) <<< ((20 : Int32) &&& 31))) ||| 1073741824), (), rfl, Or.inr (Or.inr (Or.inl ⟨c_5, c_7, c_8, c_9, rfl⟩)), by rw [ht]; exact hP, va_K.moved hW.alike hK, hD⟩, hS.F ht⟩) hS.2.2 dX16_four_133
                    · exact h9.elim
                · refine lv_bipush (v := 19) hx hb dX16_four_74 (by decide) ?_
                  refine lv_iconst (v := 5) hx hb dX16_four_76 (by decide) ?_
                  refine lv_iload_n hx hb dX16_four_77 rfl (lv_at hl 3 rfl) ?_
                  refine lv_iload_n hx hb dX16_four_78 rfl (lv_at hl 3 rfl) ?_
                  refine lv_iload_n hx hb dX16_four_79 rfl (lv_at hl 4 rfl) ?_
                  refine lv_iconst (v := 2) hx hb dX16_four_80 (by decide) ?_
                  refine lv_iconst (v := 5) hx hb dX16_four_81 (by decide) ?_
                  have hPc := hP.sub (ws' := []) [] rfl
                  have hDc := hD.sub (ws' := []) [] (by decide) rfl
                  have hKc := hK.sub (tys' := []) [] rfl
                  have hFc := va_free (wc := []) hD hS hA [] rfl
                  refine va_calli (va_runS (As := [.int v0, .int 2, .int 5]) (rest := [.int (8 + ((((v0 : Int32).toUInt32 >>> ((7 : Int32).toUInt32 &&& Int32.toUInt32 31)).toInt32) &&& 7)), .int (8 + ((((v0 : Int32).toUInt32 >>> ((7 : Int32).toUInt32 &&& Int32.toUInt32 31)).toInt32) &&& 7)), .int 5, .int 19]) ⟨hx, hb, hml, hown, hts⟩ (k_X16_part_v19 l hlt dC dI v0  H.size) (cwS 3 hts gi_g_X16_four_8 rfl rfl rfl (by decide +kernel) ⟨Nat.le_of_ble_eq_true rfl, Nat.le_of_ble_eq_true rfl⟩) ⟨fun a U g mk q => by obtain ⟨q0, q1, qP, qK, qD, qN⟩ := q; exact ⟨q0, q1, qP, va_K.moved (u := U) (U := U.calling g mk a) (Vm.Alike.refl U.vm) qK, qD, nv_same rfl rfl qN⟩, fun U hU hW => ⟨rfl, by rw [hU], by rw [hU]; exact hPc, va_K.moved hW.alike hKc, hDc.weaken (fun _ _ _ _ => trivial), nv_call hS hFc hU hW hN⟩⟩ rfl rfl hl.1 rfl (lv_room (Nat.le_of_ble_eq_true rfl)) dX16_four_82 ⟨by decide +kernel, by decide +kernel⟩) hS (fun q _ h => hFc q h) hFc (fun r19 u t H1 locs ht hvm hw hB hz1 hk1 hS => ?_)
                  obtain ⟨hP1, hK1, hD1⟩ := hB
                  rw [ht] at hP1
                  have hK1 := va_K.moved hvm.symm hK1
                  obtain ⟨hP, hD⟩ := va_join (wr := []) (w1 := []) hP hD [] [] rfl rfl (by decide) (by decide) hk1 hFc hP1 hD1
                  have hK := (hK.sub (tys' := []) [] rfl).app hK1
                  generalize H1 = H at hP hS ⊢
                  have hP : va_P (dC, dI) vwCl [] H := hP
                  have hD : va_D A [] := hD
                  have hK : va_K (dC, dI) vwCl [] s := hK
                  refine W.widen (k := 0) (n := 0) (by decide +kernel) (by decide +kernel) ?_
                  rcases hw with h9 | h9
                  · subst h9
                    refine lv_iload hx hb dX16_four_85 (lv_at hl 1 rfl) ?_
                    refine lv_bipush (v := 10) hx hb dX16_four_87 (by decide) ?_
                    refine lv_ishl hx hb dX16_four_89 ?_
                    refine lv_ior hx hb dX16_four_90 ?_
                    have hPc := hP.sub (ws' := []) [] rfl
                    have hDc := hD.sub (ws' := []) [] (by decide) rfl
                    have hKc := hK.sub (tys' := []) [] rfl
                    have hFc := va_free (wc := []) hD hS hA [] rfl
                    refine va_calli (va_runS (As := [.int 19, .int 5, .int (8 + ((((v0 : Int32).toUInt32 >>> ((7 : Int32).toUInt32 &&& Int32.toUInt32 31)).toInt32) &&& 7)), .int (8 + ((((v0 : Int32).toUInt32 >>> ((7 : Int32).toUInt32 &&& Int32.toUInt32 31)).toInt32) &&& 7)), .int (((((v0 : Int32).toUInt32 >>> ((2 : Int32).toUInt32 &&& Int32.toUInt32 31)).toInt32) &&& 31) ||| ((((((v0 : Int32).toUInt32 >>> ((10 : Int32).toUInt32 &&& Int32.toUInt32 31)).toInt32) &&& 3) : Int32) <<< ((10 : Int32) &&& 31)))]) (rest := []) ⟨hx, hb, hml, hown, hts⟩ (k_X16_immediate_v2 l hlt dC dI (8 + ((((v0 : Int32).toUInt32 >>> ((7 : Int32).toUInt32 &&& Int32.toUInt32 31)).toInt32) &&& 7)) (8 + ((((v0 : Int32).toUInt32 >>> ((7 : Int32).toUInt32 &&& Int32.toUInt32 31)).toInt32) &&& 7)) (((((v0 : Int32).toUInt32 >>> ((2 : Int32).toUInt32 &&& Int32.toUInt32 31)).toInt32) &&& 31) ||| ((((((v0 : Int32).toUInt32 >>> ((10 : Int32).toUInt32 &&& Int32.toUInt32 31)).toInt32) &&& 3) : Int32) <<< ((10 : Int32) &&& 31)))  H.size) (cwS 5 hts gi_g_X16_four_9 rfl rfl rfl (by decide +kernel) ⟨Nat.le_of_ble_eq_true rfl, Nat.le_of_ble_eq_true rfl⟩) ⟨fun a U g mk q => by obtain ⟨q0, q1, qP, qK, qD, qN⟩ := q; exact ⟨q0, q1, qP, va_K.moved (u := U) (U := U.calling g mk a) (Vm.Alike.refl U.vm) qK, qD, nv_same rfl rfl qN⟩, fun U hU hW => ⟨rfl, by rw [hU], by rw [hU]; exact hPc, va_K.moved hW.alike hKc, hDc.weaken (fun _ _ _ _ => trivial), nv_call hS hFc hU hW hN⟩⟩ rfl rfl hl.1 rfl (lv_room (Nat.le_of_ble_eq_true rfl)) dX16_four_91 ⟨by decide +kernel, by decide +kernel⟩) hS (fun q _ h => hFc q h) hFc (fun r23 u t H1 locs ht hvm hw hB hz1 hk1 hS => ?_)
                    obtain ⟨hP1, hK1, hD1⟩ := hB
                    rw [ht] at hP1
                    have hK1 := va_K.moved hvm.symm hK1
                    obtain ⟨hP, hD⟩ := va_join (wr := []) (w1 := []) hP hD [] [] rfl rfl (by decide) (by decide) hk1 hFc hP1 hD1
                    have hK := (hK.sub (tys' := []) [] rfl).app hK1
                    generalize H1 = H at hP hS ⊢
                    have hP : va_P (dC, dI) vwCl [] H := hP
                    have hD : va_D A [] := hD
                    have hK : va_K (dC, dI) vwCl [] s := hK
                    refine W.widen (k := 0) (n := 0) (by decide +kernel) (by decide +kernel) ?_
                    rcases hw with h9 | h9
                    · subst h9
                      refine W.widen (k := 0) (n := 0) (by decide +kernel) (by decide +kernel) ?_
                      exact W.iret (v := ((((19 ||| (((8 + ((((v0 : Int32).toUInt32 >>> ((7 : Int32).toUInt32 &&& Int32.toUInt32 31)).toInt32) &&& 7)) : Int32) <<< ((7 : Int32) &&& 31))) ||| 20480) ||| (((8 + ((((v0 : Int32).toUInt32 >>> ((7 : Int32).toUInt32 &&& Int32.toUInt32 31)).toInt32) &&& 7)) : Int32) <<< ((15 : Int32) &&& 31))) ||| (((((((v0 : Int32).toUInt32 >>> ((2 : Int32).toUInt32 &&& Int32.toUInt32 31)).toInt32) &&& 31) ||| ((((((v0 : Int32).toUInt32 >>> ((10 : Int32).toUInt32 &&& Int32.toUInt32 31)).toInt32) &&& 3) : Int32) <<< ((10 : Int32) &&& 31))) : Int32) <<< ((20 : Int32) &&& 31)))) hx hb hr (fun t ht hW => ⟨⟨((((19 ||| (((8 + ((((v0 : Int32).toUInt32 >>> ((7 : Int32).toUInt32 &&& Int32.toUInt32 31)).toInt32) &&& 7)) : Int32) <<< ((7 : Int32) &&& 31))) ||| 20480) ||| (((8 + ((((v0 : Int32).toUInt32 >>> ((7 : Int32).toUInt32 &&& Int32.toUInt32 31)).toInt32) &&& 7)) : Int32) <<< ((15 : Int32) &&& 31))) ||| (((((((v0 : Int32).toUInt32 >>> ((2 : Int32).toUInt32 &&& Int32.toUInt32 31)).toInt32) &&& 31) ||| ((((((v0 : Int32).toUInt32 >>> ((10 : Int32).toUInt32 &&& Int32.toUInt32 31)).toInt32) &&& 3) : Int32) <<< ((10 : Int32) &&& 31))) : Int32) <<< ((20 : Int32) &&& 31))), (), rfl, Or.inr (Or.inr (Or.inr (Or.inl ⟨c_5, c_7, c_8, rfl⟩))), by rw [ht]; exact hP, va_K.moved hW.alike hK, hD⟩, hS.F ht⟩) hS.2.2 dX16_four_94
                    · exact h9.elim
                  · exact h9.elim
              · refine lv_iconst (v := 0) hx hb dX16_four_66 (by decide) ?_
                refine W.widen (k := 0) (n := 0) (by decide +kernel) (by decide +kernel) ?_
                exact W.iret (v := 0) hx hb hr (fun t ht hW => ⟨⟨0, (), rfl, Or.inr (Or.inr (Or.inr (Or.inr (Or.inl ⟨c_5, c_7, rfl⟩)))), by rw [ht]; exact hP, va_K.moved hW.alike hK, hD⟩, hS.F ht⟩) hS.2.2 dX16_four_67
            · exact h9.elim
          · refine lv_bipush (v := 19) hx hb dX16_four_44 (by decide) ?_
            refine lv_bipush (v := 7) hx hb dX16_four_46 (by decide) ?_
            refine lv_iload_n hx hb dX16_four_48 rfl (lv_at hl 3 rfl) ?_
            refine lv_iload_n hx hb dX16_four_49 rfl (lv_at hl 3 rfl) ?_
            refine lv_iload_n hx hb dX16_four_50 rfl (lv_at hl 5 rfl) ?_
            have hPc := hP.sub (ws' := []) [] rfl
            have hDc := hD.sub (ws' := []) [] (by decide) rfl
            have hKc := hK.sub (tys' := []) [] rfl
            have hFc := va_free (wc := []) hD hS hA [] rfl
            refine va_calli (va_runS (As := [.int 19, .int 7, .int (8 + ((((v0 : Int32).toUInt32 >>> ((7 : Int32).toUInt32 &&& Int32.toUInt32 31)).toInt32) &&& 7)), .int (8 + ((((v0 : Int32).toUInt32 >>> ((7 : Int32).toUInt32 &&& Int32.toUInt32 31)).toInt32) &&& 7)), .int v1]) (rest := []) ⟨hx, hb, hml, hown, hts⟩ (k_X16_immediate_v3 l hlt dC dI (8 + ((((v0 : Int32).toUInt32 >>> ((7 : Int32).toUInt32 &&& Int32.toUInt32 31)).toInt32) &&& 7)) (8 + ((((v0 : Int32).toUInt32 >>> ((7 : Int32).toUInt32 &&& Int32.toUInt32 31)).toInt32) &&& 7)) v1  H.size) (cwS 5 hts gi_g_X16_four_10 rfl rfl rfl (by decide +kernel) ⟨Nat.le_of_ble_eq_true rfl, Nat.le_of_ble_eq_true rfl⟩) ⟨fun a U g mk q => by obtain ⟨q0, q1, qP, qK, qD, qN⟩ := q; exact ⟨q0, q1, qP, va_K.moved (u := U) (U := U.calling g mk a) (Vm.Alike.refl U.vm) qK, qD, nv_same rfl rfl qN⟩, fun U hU hW => ⟨rfl, by rw [hU], by rw [hU]; exact hPc, va_K.moved hW.alike hKc, hDc.weaken (fun _ _ _ _ => trivial), nv_call hS hFc hU hW hN⟩⟩ rfl rfl hl.1 rfl (lv_room (Nat.le_of_ble_eq_true rfl)) dX16_four_51 ⟨by decide +kernel, by decide +kernel⟩) hS (fun q _ h => hFc q h) hFc (fun r26 u t H1 locs ht hvm hw hB hz1 hk1 hS => ?_)
            obtain ⟨hP1, hK1, hD1⟩ := hB
            rw [ht] at hP1
            have hK1 := va_K.moved hvm.symm hK1
            obtain ⟨hP, hD⟩ := va_join (wr := []) (w1 := []) hP hD [] [] rfl rfl (by decide) (by decide) hk1 hFc hP1 hD1
            have hK := (hK.sub (tys' := []) [] rfl).app hK1
            generalize H1 = H at hP hS ⊢
            have hP : va_P (dC, dI) vwCl [] H := hP
            have hD : va_D A [] := hD
            have hK : va_K (dC, dI) vwCl [] s := hK
            refine W.widen (k := 0) (n := 0) (by decide +kernel) (by decide +kernel) ?_
            rcases hw with h9 | h9
            · subst h9
              refine W.widen (k := 0) (n := 0) (by decide +kernel) (by decide +kernel) ?_
              exact W.iret (v := ((((19 ||| (((8 + ((((v0 : Int32).toUInt32 >>> ((7 : Int32).toUInt32 &&& Int32.toUInt32 31)).toInt32) &&& 7)) : Int32) <<< ((7 : Int32) &&& 31))) ||| 28672) ||| (((8 + ((((v0 : Int32).toUInt32 >>> ((7 : Int32).toUInt32 &&& Int32.toUInt32 31)).toInt32) &&& 7)) : Int32) <<< ((15 : Int32) &&& 31))) ||| ((v1 : Int32) <<< ((20 : Int32) &&& 31)))) hx hb hr (fun t ht hW => ⟨⟨((((19 ||| (((8 + ((((v0 : Int32).toUInt32 >>> ((7 : Int32).toUInt32 &&& Int32.toUInt32 31)).toInt32) &&& 7)) : Int32) <<< ((7 : Int32) &&& 31))) ||| 28672) ||| (((8 + ((((v0 : Int32).toUInt32 >>> ((7 : Int32).toUInt32 &&& Int32.toUInt32 31)).toInt32) &&& 7)) : Int32) <<< ((15 : Int32) &&& 31))) ||| ((v1 : Int32) <<< ((20 : Int32) &&& 31))), (), rfl, Or.inr (Or.inr (Or.inr (Or.inr (Or.inr (Or.inl ⟨c_5, rfl⟩))))), by rw [ht]; exact hP, va_K.moved hW.alike hK, hD⟩, hS.F ht⟩) hS.2.2 dX16_four_54
            · exact h9.elim
        · exact h9.elim
      · exact h9.elim
    · exact h9.elim
  · exact h9.elim
def ow_k_X16_plain : List Cond := .code yX16_plain cX16_plain 1 (some .long) :: ([.constantLong RX16 258 (4294967295)] ++ [])
theorem gd_k_X16_plain : ∀ w ∈ ow_k_X16_plain, (w.onTables && w.keeps) = true ∨ ∃ ty, w = Cond.arrayClass ty := List.forall_mem_cons.mpr ⟨good_of_word rfl, List.forall_mem_append.mpr ⟨fun w h => good_of_word (List.all_eq_true.mp (by decide +kernel) w h), fun _ h => nomatch h⟩⟩
set_option maxHeartbeats 40000000 in
set_option maxRecDepth 100000 in
theorem k_X16_plain (l : Launch) (hlt : l.stackTraces = false) (dC : Nat → ClassId) (dI : Nat → Nat → Nat) (c0 : Int32) (sz : Nat) : Met l yX16_plain ow_k_X16_plain ({ frames := 0, cells := 0, slots := 0, locals := 0 }) (va_Pc [.int c0] (fun U => U.heap.size = sz ∧ va_P (dC, dI) vwCl [] U.heap ∧ va_K (dC, dI) vwCl [] U ∧ va_D (fun _ => True) [] ∧ nv_E (va_A [] sz) U)) (va_Ql (fun r _ => (r = (((c0.toInt64) : Int64) &&& 4294967295)) ∨ False) (fun (_ : Unit) t => va_P (dC, dI) vwCl [] t.heap ∧ va_K (dC, dI) vwCl [] t ∧ va_D (va_A [] sz) []) (va_A [] sz)) 0 0 (va_A [] sz) := by
  refine Met.ofW (cc := cX16_plain) (maxL := 1) (ret := (some .long)) (by decide) rfl ?_
  intro p e s m args below meth c s₁ B hml hv
  obtain ⟨rfl, hsz, hP, hK, hD0, hN⟩ := hv
  have hx := B.exec
  have hb := B.bytes
  have hr := B.returns
  have hts := atoms_spec (ws := ow_k_X16_plain) B.pre
  have hown : s.vm.findClass RX16 = some m.cls := findClass_of_methodNamed B.named
  have hlocks := B.notSynchronized
  subst hsz
  have hD := hD0.self (sz := s.heap.size)
  generalize hAe : va_A [] s.heap.size = A at hD hN ⊢
  have hA : ∀ q : Nat, s.heap.size ≤ q → A q := fun q h => by rw [← hAe]; exact Or.inr h
  have hS : va_S A s.heap s.heap [] := va_S.rf
  have hl := lv_entry ([.int c0]) (n := 1) (Nat.le_of_ble_eq_true rfl)
  rw [lg_entry_eq]
  generalize (lg_sl ([.int c0]) ++ List.replicate (1 - (lg_sl ([.int c0])).length) Slot.unset).toArray = ls at hl ⊢
  have hl : lv_has ls 1 [(0, .int c0)] := hl
  refine lv_iload_n hx hb dX16_plain_0 rfl (lv_at hl 0 rfl) ?_
  refine lv_i2l hx hb dX16_plain_1 rfl ?_
  refine lv_ldc2 hx hb hown (hts (.constantLong RX16 258 (4294967295)) (List.mem_of_getElem? (i := 1) rfl)) dX16_plain_2 ?_
  refine lv_land hx hb dX16_plain_5 ?_
  refine W.widen (k := 0) (n := 0) (by decide +kernel) (by decide +kernel) ?_
  exact W.lret (v := (((c0.toInt64) : Int64) &&& 4294967295)) hx hb hr (fun t ht hW => ⟨⟨(((c0.toInt64) : Int64) &&& 4294967295), (), rfl, Or.inl rfl, by rw [ht]; exact hP, va_K.moved hW.alike hK, hD⟩, hS.F ht⟩) hS.2.2 dX16_plain_6
def ow_g_X16_reckoned : List Cond := .code yX16_reckoned cX16_reckoned 3 (some .int) :: ([.methodLink RX16 390 yX16_plain, .static yX16_plain, .initialized RX16] ++ (ow_k_X16_plain ++ []))
theorem gd_g_X16_reckoned : ∀ w ∈ ow_g_X16_reckoned, (w.onTables && w.keeps) = true ∨ ∃ ty, w = Cond.arrayClass ty := List.forall_mem_cons.mpr ⟨good_of_word rfl, List.forall_mem_append.mpr ⟨fun w h => good_of_word (List.all_eq_true.mp (by decide +kernel) w h), List.forall_mem_append.mpr ⟨gd_k_X16_plain, fun _ h => nomatch h⟩⟩⟩
theorem gi_g_X16_reckoned_0 : GoodIn ow_g_X16_reckoned (wsS RX16 390 yX16_plain ow_k_X16_plain) := goodIn_app (goodIn_of _ (by decide +kernel)) (fun w h => ⟨List.mem_cons_of_mem _ (List.mem_append_right _ (List.mem_append_left _ h)), gd_k_X16_plain w h⟩)
set_option maxHeartbeats 40000000 in
set_option maxRecDepth 100000 in
theorem g_X16_reckoned (l : Launch) (hlt : l.stackTraces = false) (dC : Nat → ClassId) (dI : Nat → Nat → Nat) (v0 : Int32) (v1 : Int32) (v2 : Int32) (sz : Nat) : Met l yX16_reckoned ow_g_X16_reckoned ({ frames := 1, cells := 0, slots := 0, locals := 20 }) (va_Pc [.int v0, .int v1, .int v2] (fun U => U.heap.size = sz ∧ va_P (dC, dI) vwCl [] U.heap ∧ va_K (dC, dI) vwCl [] U ∧ va_D (fun _ => True) [] ∧ nv_E (va_A [] sz) U)) (va_Qi (fun r _ => ((v0 = 0) ∧ r = (v1 + v2)) ∨ ((¬ v0 = 0) ∧ (v0 = 1) ∧ r = (v1 &&& v2)) ∨ ((¬ v0 = 0) ∧ (¬ v0 = 1) ∧ (v0 = 2) ∧ (v2 ≤ v1) ∧ r = 0) ∨ ((¬ v0 = 0) ∧ (¬ v0 = 1) ∧ (v0 = 2) ∧ (¬ v2 ≤ v1) ∧ r = 1) ∨ ((¬ v0 = 0) ∧ (¬ v0 = 1) ∧ (¬ v0 = 2) ∧ (v0 = 3) ∧ (0 ≤ (lg_cmp (((v1.toInt64) : Int64) &&& 4294967295) (((v2.toInt64) : Int64) &&& 4294967295))) ∧ r = 0) ∨ ((¬ v0 = 0) ∧ (¬ v0 = 1) ∧ (¬ v0 = 2) ∧ (v0 = 3) ∧ (¬ 0 ≤ (lg_cmp (((v1.toInt64) : Int64) &&& 4294967295) (((v2.toInt64) : Int64) &&& 4294967295))) ∧ r = 1) ∨ ((¬ v0 = 0) ∧ (¬ v0 = 1) ∧ (¬ v0 = 2) ∧ (¬ v0 = 3) ∧ (v0 = 4) ∧ r = (v1 ^^^ v2)) ∨ ((¬ v0 = 0) ∧ (¬ v0 = 1) ∧ (¬ v0 = 2) ∧ (¬ v0 = 3) ∧ (¬ v0 = 4) ∧ (v0 = 5) ∧ r = (v1 &&& v2)) ∨ ((¬ v0 = 0) ∧ (¬ v0 = 1) ∧ (¬ v0 = 2) ∧ (¬ v0 = 3) ∧ (¬ v0 = 4) ∧ (¬ v0 = 5) ∧ (v0 = 6) ∧ r = (v1 ||| v2)) ∨ ((¬ v0 = 0) ∧ (¬ v0 = 1) ∧ (¬ v0 = 2) ∧ (¬ v0 = 3) ∧ (¬ v0 = 4) ∧ (¬ v0 = 5) ∧ (¬ v0 = 6) ∧ r = (v1 &&& v2)) ∨ False) (fun (_ : Unit) t => va_P (dC, dI) vwCl [] t.heap ∧ va_K (dC, dI) vwCl [] t ∧ va_D (va_A [] sz) []) (va_A [] sz)) 0 0 (va_A [] sz) := by
  refine Met.ofW (cc := cX16_reckoned) (maxL := 3) (ret := (some .int)) (by decide) rfl ?_
  intro p e s m args below meth c s₁ B hml hv
  obtain ⟨rfl, hsz, hP, hK, hD0, hN⟩ := hv
  have hx := B.exec
  have hb := B.bytes
  have hr := B.returns
  have hts := atoms_spec (ws := ow_g_X16_reckoned) B.pre
  have hown : s.vm.findClass RX16 = some m.cls := findClass_of_methodNamed B.named
  have hlocks := B.notSynchronized
  subst hsz
  have hD := hD0.self (sz := s.heap.size)
  generalize hAe : va_A [] s.heap.size = A at hD hN ⊢
  have hA : ∀ q : Nat, s.heap.size ≤ q → A q := fun q h => by rw [← hAe]; exact Or.inr h
  have hS : va_S A s.heap s.heap [] := va_S.rf
  have hl := lv_entry ([.int v0, .int v1, .int v2]) (n := 3) (Nat.le_of_ble_eq_true rfl)
  rw [lg_entry_eq]
  generalize (lg_sl ([.int v0, .int v1, .int v2]) ++ List.replicate (3 - (lg_sl ([.int v0, .int v1, .int v2])).length) Slot.unset).toArray = ls at hl ⊢
  have hl : lv_has ls 3 [(0, .int v0), (1, .int v1), (2, .int v2)] := hl
  refine lv_iload_n hx hb dX16_reckoned_0 rfl (lv_at hl 0 rfl) ?_
  by_cases c_1 : v0 = 0
  · refine lv_tableIn (off := 43) (tgt := 44) hx hb dX16_reckoned_1 (by rw [c_1]; decide) (by rw [c_1]; decide) (by rw [c_1]; decide) (by decide) ?_
    refine lv_iload_n hx hb dX16_reckoned_44 rfl (lv_at hl 1 rfl) ?_
    refine lv_iload_n hx hb dX16_reckoned_45 rfl (lv_at hl 2 rfl) ?_
    refine lv_iadd hx hb dX16_reckoned_46 ?_
    refine W.widen (k := 0) (n := 0) (by decide +kernel) (by decide +kernel) ?_
    exact W.iret (v := (v1 + v2)) hx hb hr (fun t ht hW => ⟨⟨(v1 + v2), (), rfl, Or.inl ⟨c_1, rfl⟩, by rw [ht]; exact hP, va_K.moved hW.alike hK, hD⟩, hS.F ht⟩) hS.2.2 dX16_reckoned_47
  by_cases c_2 : v0 = 1
  · refine lv_tableIn (off := 84) (tgt := 85) hx hb dX16_reckoned_1 (by rw [c_2]; decide) (by rw [c_2]; decide) (by rw [c_2]; decide) (by decide) ?_
    refine lv_iload_n hx hb dX16_reckoned_85 rfl (lv_at hl 1 rfl) ?_
    refine lv_iload_n hx hb dX16_reckoned_86 rfl (lv_at hl 2 rfl) ?_
    refine lv_iand hx hb dX16_reckoned_87 ?_
    refine W.widen (k := 0) (n := 0) (by decide +kernel) (by decide +kernel) ?_
    exact W.iret (v := (v1 &&& v2)) hx hb hr (fun t ht hW => ⟨⟨(v1 &&& v2), (), rfl, Or.inr (Or.inl ⟨c_1, c_2, rfl⟩), by rw [ht]; exact hP, va_K.moved hW.alike hK, hD⟩, hS.F ht⟩) hS.2.2 dX16_reckoned_88
  by_cases c_3 : v0 = 2
  · refine lv_tableIn (off := 47) (tgt := 48) hx hb dX16_reckoned_1 (by rw [c_3]; decide) (by rw [c_3]; decide) (by rw [c_3]; decide) (by decide) ?_
    refine lv_iload_n hx hb dX16_reckoned_48 rfl (lv_at hl 1 rfl) ?_
    refine lv_iload_n hx hb dX16_reckoned_49 rfl (lv_at hl 2 rfl) ?_
    refine lv_icmp_ge (tgt := 57) hx hb dX16_reckoned_50 (by decide) (fun c_4 => ?_) (fun c_4 => ?_)
    · refine lv_iconst (v := 0) hx hb dX16_reckoned_57 (by decide) ?_
      refine W.widen (k := 0) (n := 0) (by decide +kernel) (by decide +kernel) ?_
      exact W.iret (v := 0) hx hb hr (fun t ht hW => ⟨⟨0, (), rfl, Or.inr (Or.inr (Or.inl ⟨c_1, c_2, c_3, c_4, rfl⟩)), by rw [ht]; exact hP, va_K.moved hW.alike hK, hD⟩, hS.F ht⟩) hS.2.2 dX16_reckoned_58
    · refine lv_iconst (v := 1) hx hb dX16_reckoned_53 (by decide) ?_
      refine lv_goto (tgt := 58) hx hb dX16_reckoned_54 (by decide) ?_
      refine W.widen (k := 0) (n := 0) (by decide +kernel) (by decide +kernel) ?_
      exact W.iret (v := 1) hx hb hr (fun t ht hW => ⟨⟨1, (), rfl, Or.inr (Or.inr (Or.inr (Or.inl ⟨c_1, c_2, c_3, c_4, rfl⟩))), by rw [ht]; exact hP, va_K.moved hW.alike hK, hD⟩, hS.F ht⟩) hS.2.2 dX16_reckoned_58
  by_cases c_5 : v0 = 3
  · refine lv_tableIn (off := 58) (tgt := 59) hx hb dX16_reckoned_1 (by rw [c_5]; decide) (by rw [c_5]; decide) (by rw [c_5]; decide) (by decide) ?_
    refine lv_iload_n hx hb dX16_reckoned_59 rfl (lv_at hl 1 rfl) ?_
    have hPc := hP.sub (ws' := []) [] rfl
    have hDc := hD.sub (ws' := []) [] (by decide) rfl
    have hKc := hK.sub (tys' := []) [] rfl
    have hFc := va_free (wc := []) hD hS hA [] rfl
    refine va_calll (va_runS (As := [.int v1]) (rest := []) ⟨hx, hb, hml, hown, hts⟩ (k_X16_plain l hlt dC dI v1  s.heap.size) (cwS 1 hts gi_g_X16_reckoned_0 rfl rfl rfl (by decide +kernel) ⟨Nat.le_of_ble_eq_true rfl, Nat.le_of_ble_eq_true rfl⟩) ⟨fun a U g mk q => by obtain ⟨q0, q1, qP, qK, qD, qN⟩ := q; exact ⟨q0, q1, qP, va_K.moved (u := U) (U := U.calling g mk a) (Vm.Alike.refl U.vm) qK, qD, nv_same rfl rfl qN⟩, fun U hU hW => ⟨rfl, by rw [hU], by rw [hU]; exact hPc, va_K.moved hW.alike hKc, hDc.weaken (fun _ _ _ _ => trivial), nv_call hS hFc hU hW hN⟩⟩ rfl rfl hl.1 rfl (lv_room (Nat.le_of_ble_eq_true rfl)) dX16_reckoned_60 ⟨by decide +kernel, by decide +kernel⟩) hS (fun q _ h => hFc q h) hFc (fun r1 u t H1 locs ht hvm hw hB hz1 hk1 hS => ?_)
    obtain ⟨hP1, hK1, hD1⟩ := hB
    rw [ht] at hP1
    have hK1 := va_K.moved hvm.symm hK1
    obtain ⟨hP, hD⟩ := va_join (wr := []) (w1 := []) hP hD [] [] rfl rfl (by decide) (by decide) hk1 hFc hP1 hD1
    have hK := (hK.sub (tys' := []) [] rfl).app hK1
    generalize H1 = H at hP hS ⊢
    have hP : va_P (dC, dI) vwCl [] H := hP
    have hD : va_D A [] := hD
    have hK : va_K (dC, dI) vwCl [] s := hK
    refine W.widen (k := 0) (n := 0) (by decide +kernel) (by decide +kernel) ?_
    rcases hw with h9 | h9
    · subst h9
      refine lv_iload_n hx hb dX16_reckoned_63 rfl (lv_at hl 2 rfl) ?_
      have hPc := hP.sub (ws' := []) [] rfl
      have hDc := hD.sub (ws' := []) [] (by decide) rfl
      have hKc := hK.sub (tys' := []) [] rfl
      have hFc := va_free (wc := []) hD hS hA [] rfl
      refine va_calll (va_runS (As := [.int v2]) (rest := [.long (((v1.toInt64) : Int64) &&& 4294967295)]) ⟨hx, hb, hml, hown, hts⟩ (k_X16_plain l hlt dC dI v2  H.size) (cwS 1 hts gi_g_X16_reckoned_0 rfl rfl rfl (by decide +kernel) ⟨Nat.le_of_ble_eq_true rfl, Nat.le_of_ble_eq_true rfl⟩) ⟨fun a U g mk q => by obtain ⟨q0, q1, qP, qK, qD, qN⟩ := q; exact ⟨q0, q1, qP, va_K.moved (u := U) (U := U.calling g mk a) (Vm.Alike.refl U.vm) qK, qD, nv_same rfl rfl qN⟩, fun U hU hW => ⟨rfl, by rw [hU], by rw [hU]; exact hPc, va_K.moved hW.alike hKc, hDc.weaken (fun _ _ _ _ => trivial), nv_call hS hFc hU hW hN⟩⟩ rfl rfl hl.1 rfl (lv_room (Nat.le_of_ble_eq_true rfl)) dX16_reckoned_64 ⟨by decide +kernel, by decide +kernel⟩) hS (fun q _ h => hFc q h) hFc (fun r2 u t H1 locs ht hvm hw hB hz1 hk1 hS => ?_)
      obtain ⟨hP1, hK1, hD1⟩ := hB
      rw [ht] at hP1
      have hK1 := va_K.moved hvm.symm hK1
      obtain ⟨hP, hD⟩ := va_join (wr := []) (w1 := []) hP hD [] [] rfl rfl (by decide) (by decide) hk1 hFc hP1 hD1
      have hK := (hK.sub (tys' := []) [] rfl).app hK1
      generalize H1 = H at hP hS ⊢
      have hP : va_P (dC, dI) vwCl [] H := hP
      have hD : va_D A [] := hD
      have hK : va_K (dC, dI) vwCl [] s := hK
      refine W.widen (k := 0) (n := 0) (by decide +kernel) (by decide +kernel) ?_
      rcases hw with h9 | h9
      · subst h9
        refine W.lcmp hx hb dX16_reckoned_67 ?_
        refine lv_if_ge (tgt := 75) hx hb dX16_reckoned_68 (by decide) (fun c_8 => ?_) (fun c_8 => ?_)
        · refine lv_iconst (v := 0) hx hb dX16_reckoned_75 (by decide) ?_
          refine W.widen (k := 0) (n := 0) (by decide +kernel) (by decide +kernel) ?_
          exact W.iret (v := 0) hx hb hr (fun t ht hW => ⟨⟨0, (), rfl, Or.inr (Or.inr (Or.inr (Or.inr (Or.inl ⟨c_1, c_2, c_3, c_5, c_8, rfl⟩)))), by rw [ht]; exact hP, va_K.moved hW.alike hK, hD⟩, hS.F ht⟩) hS.2.2 dX16_reckoned_76
        · refine lv_iconst (v := 1) hx hb dX16_reckoned_71 (by decide) ?_
          refine lv_goto (tgt := 76) hx hb dX16_reckoned_72 (by decide) ?_
          refine W.widen (k := 0) (n := 0) (by decide +kernel) (by decide +kernel) ?_
          exact W.iret (v := 1) hx hb hr (fun t ht hW => ⟨⟨1, (), rfl, Or.inr (Or.inr (Or.inr (Or.inr (Or.inr (Or.inl ⟨c_1, c_2, c_3, c_5, c_8, rfl⟩))))), by rw [ht]; exact hP, va_K.moved hW.alike hK, hD⟩, hS.F ht⟩) hS.2.2 dX16_reckoned_76
      · exact h9.elim
    · exact h9.elim
  by_cases c_9 : v0 = 4
  · refine lv_tableIn (off := 76) (tgt := 77) hx hb dX16_reckoned_1 (by rw [c_9]; decide) (by rw [c_9]; decide) (by rw [c_9]; decide) (by decide) ?_
    refine lv_iload_n hx hb dX16_reckoned_77 rfl (lv_at hl 1 rfl) ?_
    refine lv_iload_n hx hb dX16_reckoned_78 rfl (lv_at hl 2 rfl) ?_
    refine lv_ixor hx hb dX16_reckoned_79 ?_
    refine W.widen (k := 0) (n := 0) (by decide +kernel) (by decide +kernel) ?_
    exact W.iret (v := (v1 ^^^ v2)) hx hb hr (fun t ht hW => ⟨⟨(v1 ^^^ v2), (), rfl, Or.inr (Or.inr (Or.inr (Or.inr (Or.inr (Or.inr (Or.inl ⟨c_1, c_2, c_3, c_5, c_9, rfl⟩)))))), by rw [ht]; exact hP, va_K.moved hW.alike hK, hD⟩, hS.F ht⟩) hS.2.2 dX16_reckoned_80
  by_cases c_10 : v0 = 5
  · refine lv_tableIn (off := 84) (tgt := 85) hx hb dX16_reckoned_1 (by rw [c_10]; decide) (by rw [c_10]; decide) (by rw [c_10]; decide) (by decide) ?_
    refine lv_iload_n hx hb dX16_reckoned_85 rfl (lv_at hl 1 rfl) ?_
    refine lv_iload_n hx hb dX16_reckoned_86 rfl (lv_at hl 2 rfl) ?_
    refine lv_iand hx hb dX16_reckoned_87 ?_
    refine W.widen (k := 0) (n := 0) (by decide +kernel) (by decide +kernel) ?_
    exact W.iret (v := (v1 &&& v2)) hx hb hr (fun t ht hW => ⟨⟨(v1 &&& v2), (), rfl, Or.inr (Or.inr (Or.inr (Or.inr (Or.inr (Or.inr (Or.inr (Or.inl ⟨c_1, c_2, c_3, c_5, c_9, c_10, rfl⟩))))))), by rw [ht]; exact hP, va_K.moved hW.alike hK, hD⟩, hS.F ht⟩) hS.2.2 dX16_reckoned_88
  by_cases c_11 : v0 = 6
  · refine lv_tableIn (off := 80) (tgt := 81) hx hb dX16_reckoned_1 (by rw [c_11]; decide) (by rw [c_11]; decide) (by rw [c_11]; decide) (by decide) ?_
    refine lv_iload_n hx hb dX16_reckoned_81 rfl (lv_at hl 1 rfl) ?_
    refine lv_iload_n hx hb dX16_reckoned_82 rfl (lv_at hl 2 rfl) ?_
    refine lv_ior hx hb dX16_reckoned_83 ?_
    refine W.widen (k := 0) (n := 0) (by decide +kernel) (by decide +kernel) ?_
    exact W.iret (v := (v1 ||| v2)) hx hb hr (fun t ht hW => ⟨⟨(v1 ||| v2), (), rfl, Or.inr (Or.inr (Or.inr (Or.inr (Or.inr (Or.inr (Or.inr (Or.inr (Or.inl ⟨c_1, c_2, c_3, c_5, c_9, c_10, c_11, rfl⟩)))))))), by rw [ht]; exact hP, va_K.moved hW.alike hK, hD⟩, hS.F ht⟩) hS.2.2 dX16_reckoned_84
  refine lv_tableOut (tgt := 85) hx hb dX16_reckoned_1 (by have g0 := nv_nei c_1 (k := 0) (by decide); have g1 := nv_nei c_2 (k := 1) (by decide); have g2 := nv_nei c_3 (k := 2) (by decide); have g3 := nv_nei c_5 (k := 3) (by decide); have g4 := nv_nei c_9 (k := 4) (by decide); have g5 := nv_nei c_10 (k := 5) (by decide); have g6 := nv_nei c_11 (k := 6) (by decide); omega) (by decide) ?_
  refine lv_iload_n hx hb dX16_reckoned_85 rfl (lv_at hl 1 rfl) ?_
  refine lv_iload_n hx hb dX16_reckoned_86 rfl (lv_at hl 2 rfl) ?_
  refine lv_iand hx hb dX16_reckoned_87 ?_
  refine W.widen (k := 0) (n := 0) (by decide +kernel) (by decide +kernel) ?_
  exact W.iret (v := (v1 &&& v2)) hx hb hr (fun t ht hW => ⟨⟨(v1 &&& v2), (), rfl, Or.inr (Or.inr (Or.inr (Or.inr (Or.inr (Or.inr (Or.inr (Or.inr (Or.inr (Or.inl ⟨c_1, c_2, c_3, c_5, c_9, c_10, c_11, rfl⟩))))))))), by rw [ht]; exact hP, va_K.moved hW.alike hK, hD⟩, hS.F ht⟩) hS.2.2 dX16_reckoned_88
def ow_g_X19_in : List Cond := .code yX19_in cX19_in 6 (some .boolean) :: ([] ++ [])
theorem gd_g_X19_in : ∀ w ∈ ow_g_X19_in, (w.onTables && w.keeps) = true ∨ ∃ ty, w = Cond.arrayClass ty := List.forall_mem_cons.mpr ⟨good_of_word rfl, List.forall_mem_append.mpr ⟨fun w h => good_of_word (List.all_eq_true.mp (by decide +kernel) w h), fun _ h => nomatch h⟩⟩
set_option maxHeartbeats 40000000 in
set_option maxRecDepth 100000 in
theorem g_X19_in (l : Launch) (hlt : l.stackTraces = false) (dC : Nat → ClassId) (dI : Nat → Nat → Nat) (v0 : Int64) (v1 : Int64) (v2 : Int64) (sz : Nat) : Met l yX19_in ow_g_X19_in ({ frames := 0, cells := 0, slots := 0, locals := 0 }) (va_Pc [.long v0, .long v1, .long v2] (fun U => U.heap.size = sz ∧ va_P (dC, dI) vwCl [] U.heap ∧ va_K (dC, dI) vwCl [] U ∧ va_D (fun _ => True) [] ∧ nv_E (va_A [] sz) U)) (va_Qi (fun r _ => ((v0 < v1) ∧ r = 0) ∨ ((¬ v0 < v1) ∧ (v2 < v0) ∧ r = 0) ∨ ((¬ v0 < v1) ∧ (¬ v2 < v0) ∧ r = 1) ∨ False) (fun (_ : Unit) t => va_P (dC, dI) vwCl [] t.heap ∧ va_K (dC, dI) vwCl [] t ∧ va_D (va_A [] sz) []) (va_A [] sz)) 0 0 (va_A [] sz) := by
  refine Met.ofW (cc := cX19_in) (maxL := 6) (ret := (some .boolean)) (by decide) rfl ?_
  intro p e s m args below meth c s₁ B hml hv
  obtain ⟨rfl, hsz, hP, hK, hD0, hN⟩ := hv
  have hx := B.exec
  have hb := B.bytes
  have hr := B.returns
  have hts := atoms_spec (ws := ow_g_X19_in) B.pre
  have hown : s.vm.findClass RX19 = some m.cls := findClass_of_methodNamed B.named
  have hlocks := B.notSynchronized
  subst hsz
  have hD := hD0.self (sz := s.heap.size)
  generalize hAe : va_A [] s.heap.size = A at hD hN ⊢
  have hA : ∀ q : Nat, s.heap.size ≤ q → A q := fun q h => by rw [← hAe]; exact Or.inr h
  have hS : va_S A s.heap s.heap [] := va_S.rf
  have hl := lv_entry ([.long v0, .long v1, .long v2]) (n := 6) (Nat.le_of_ble_eq_true rfl)
  rw [lg_entry_eq]
  generalize (lg_sl ([.long v0, .long v1, .long v2]) ++ List.replicate (6 - (lg_sl ([.long v0, .long v1, .long v2])).length) Slot.unset).toArray = ls at hl ⊢
  have hl : lv_has ls 6 [(0, .long v0), (2, .long v1), (4, .long v2)] := hl
  refine lv_lload_n hx hb dX19_in_0 rfl (lv_at hl 0 rfl) ?_
  refine lv_lload_n hx hb dX19_in_1 rfl (lv_at hl 1 rfl) ?_
  refine W.lcmp hx hb dX19_in_2 ?_
  refine lv_if_lt (tgt := 17) hx hb dX19_in_3 (by decide) (fun h9 => (fun (c_1 : v0 < v1) => ?_) ((nv_cl_lt (a := v0) (b := v1)).mp h9)) (fun h9 => (fun (c_1 : ¬ v0 < v1) => ?_) (fun h8 => h9 ((nv_cl_lt (a := v0) (b := v1)).mpr h8)))
  · refine lv_iconst (v := 0) hx hb dX19_in_17 (by decide) ?_
    refine W.widen (k := 0) (n := 0) (by decide +kernel) (by decide +kernel) ?_
    exact W.zret (v := 0) hx hb hr (by first | rfl | decide) (fun t ht hW => ⟨⟨0, (), rfl, Or.inl ⟨c_1, rfl⟩, by rw [ht]; exact hP, va_K.moved hW.alike hK, hD⟩, hS.F ht⟩) hS.2.2 dX19_in_18
  · refine lv_lload_n hx hb dX19_in_6 rfl (lv_at hl 0 rfl) ?_
    refine lv_lload hx hb dX19_in_7 (lv_at hl 2 rfl) ?_
    refine W.lcmp hx hb dX19_in_9 ?_
    refine lv_if_gt (tgt := 17) hx hb dX19_in_10 (by decide) (fun h9 => (fun (c_2 : v2 < v0) => ?_) ((nv_cl_gt (a := v0) (b := v2)).mp h9)) (fun h9 => (fun (c_2 : ¬ v2 < v0) => ?_) (fun h8 => h9 ((nv_cl_gt (a := v0) (b := v2)).mpr h8)))
    · refine lv_iconst (v := 0) hx hb dX19_in_17 (by decide) ?_
      refine W.widen (k := 0) (n := 0) (by decide +kernel) (by decide +kernel) ?_
      exact W.zret (v := 0) hx hb hr (by first | rfl | decide) (fun t ht hW => ⟨⟨0, (), rfl, Or.inr (Or.inl ⟨c_1, c_2, rfl⟩), by rw [ht]; exact hP, va_K.moved hW.alike hK, hD⟩, hS.F ht⟩) hS.2.2 dX19_in_18
    · refine lv_iconst (v := 1) hx hb dX19_in_13 (by decide) ?_
      refine lv_goto (tgt := 18) hx hb dX19_in_14 (by decide) ?_
      refine W.widen (k := 0) (n := 0) (by decide +kernel) (by decide +kernel) ?_
      exact W.zret (v := 1) hx hb hr (by first | rfl | decide) (fun t ht hW => ⟨⟨1, (), rfl, Or.inr (Or.inr (Or.inl ⟨c_1, c_2, rfl⟩)), by rw [ht]; exact hP, va_K.moved hW.alike hK, hD⟩, hS.F ht⟩) hS.2.2 dX19_in_18
def ow_k_X19_in : List Cond := .code yX19_in cX19_in 6 (some .boolean) :: ([] ++ [])
theorem gd_k_X19_in : ∀ w ∈ ow_k_X19_in, (w.onTables && w.keeps) = true ∨ ∃ ty, w = Cond.arrayClass ty := List.forall_mem_cons.mpr ⟨good_of_word rfl, List.forall_mem_append.mpr ⟨fun w h => good_of_word (List.all_eq_true.mp (by decide +kernel) w h), fun _ h => nomatch h⟩⟩
set_option maxHeartbeats 40000000 in
set_option maxRecDepth 100000 in
theorem k_X19_in (l : Launch) (hlt : l.stackTraces = false) (dC : Nat → ClassId) (dI : Nat → Nat → Nat) (c0 : Int64) (sz : Nat) : Met l yX19_in ow_k_X19_in ({ frames := 0, cells := 0, slots := 0, locals := 0 }) (va_Pc [.long c0, .long 0, .long 1099511627776] (fun U => U.heap.size = sz ∧ va_P (dC, dI) vwCl [] U.heap ∧ va_K (dC, dI) vwCl [] U ∧ va_D (fun _ => True) [] ∧ nv_E (va_A [] sz) U)) (va_Qi (fun r _ => ((c0 < 0) ∧ r = 0) ∨ ((¬ c0 < 0) ∧ (1099511627776 < c0) ∧ r = 0) ∨ ((¬ c0 < 0) ∧ (¬ 1099511627776 < c0) ∧ r = 1) ∨ False) (fun (_ : Unit) t => va_P (dC, dI) vwCl [] t.heap ∧ va_K (dC, dI) vwCl [] t ∧ va_D (va_A [] sz) []) (va_A [] sz)) 0 0 (va_A [] sz) := by
  refine Met.ofW (cc := cX19_in) (maxL := 6) (ret := (some .boolean)) (by decide) rfl ?_
  intro p e s m args below meth c s₁ B hml hv
  obtain ⟨rfl, hsz, hP, hK, hD0, hN⟩ := hv
  have hx := B.exec
  have hb := B.bytes
  have hr := B.returns
  have hts := atoms_spec (ws := ow_k_X19_in) B.pre
  have hown : s.vm.findClass RX19 = some m.cls := findClass_of_methodNamed B.named
  have hlocks := B.notSynchronized
  subst hsz
  have hD := hD0.self (sz := s.heap.size)
  generalize hAe : va_A [] s.heap.size = A at hD hN ⊢
  have hA : ∀ q : Nat, s.heap.size ≤ q → A q := fun q h => by rw [← hAe]; exact Or.inr h
  have hS : va_S A s.heap s.heap [] := va_S.rf
  have hl := lv_entry ([.long c0, .long 0, .long 1099511627776]) (n := 6) (Nat.le_of_ble_eq_true rfl)
  rw [lg_entry_eq]
  generalize (lg_sl ([.long c0, .long 0, .long 1099511627776]) ++ List.replicate (6 - (lg_sl ([.long c0, .long 0, .long 1099511627776])).length) Slot.unset).toArray = ls at hl ⊢
  have hl : lv_has ls 6 [(0, .long c0), (2, .long 0), (4, .long 1099511627776)] := hl
  refine lv_lload_n hx hb dX19_in_0 rfl (lv_at hl 0 rfl) ?_
  refine lv_lload_n hx hb dX19_in_1 rfl (lv_at hl 1 rfl) ?_
  refine W.lcmp hx hb dX19_in_2 ?_
  refine lv_if_lt (tgt := 17) hx hb dX19_in_3 (by decide) (fun h9 => (fun (c_1 : c0 < 0) => ?_) ((nv_cl_lt (a := c0) (b := 0)).mp h9)) (fun h9 => (fun (c_1 : ¬ c0 < 0) => ?_) (fun h8 => h9 ((nv_cl_lt (a := c0) (b := 0)).mpr h8)))
  · refine lv_iconst (v := 0) hx hb dX19_in_17 (by decide) ?_
    refine W.widen (k := 0) (n := 0) (by decide +kernel) (by decide +kernel) ?_
    exact W.zret (v := 0) hx hb hr (by first | rfl | decide) (fun t ht hW => ⟨⟨0, (), rfl, Or.inl ⟨c_1, rfl⟩, by rw [ht]; exact hP, va_K.moved hW.alike hK, hD⟩, hS.F ht⟩) hS.2.2 dX19_in_18
  · refine lv_lload_n hx hb dX19_in_6 rfl (lv_at hl 0 rfl) ?_
    refine lv_lload hx hb dX19_in_7 (lv_at hl 2 rfl) ?_
    refine W.lcmp hx hb dX19_in_9 ?_
    refine lv_if_gt (tgt := 17) hx hb dX19_in_10 (by decide) (fun h9 => (fun (c_2 : 1099511627776 < c0) => ?_) ((nv_cl_gt (a := c0) (b := 1099511627776)).mp h9)) (fun h9 => (fun (c_2 : ¬ 1099511627776 < c0) => ?_) (fun h8 => h9 ((nv_cl_gt (a := c0) (b := 1099511627776)).mpr h8)))
    · refine lv_iconst (v := 0) hx hb dX19_in_17 (by decide) ?_
      refine W.widen (k := 0) (n := 0) (by decide +kernel) (by decide +kernel) ?_
      exact W.zret (v := 0) hx hb hr (by first | rfl | decide) (fun t ht hW => ⟨⟨0, (), rfl, Or.inr (Or.inl ⟨c_1, c_2, rfl⟩), by rw [ht]; exact hP, va_K.moved hW.alike hK, hD⟩, hS.F ht⟩) hS.2.2 dX19_in_18
    · refine lv_iconst (v := 1) hx hb dX19_in_13 (by decide) ?_
      refine lv_goto (tgt := 18) hx hb dX19_in_14 (by decide) ?_
      refine W.widen (k := 0) (n := 0) (by decide +kernel) (by decide +kernel) ?_
      exact W.zret (v := 1) hx hb hr (by first | rfl | decide) (fun t ht hW => ⟨⟨1, (), rfl, Or.inr (Or.inr (Or.inl ⟨c_1, c_2, rfl⟩)), by rw [ht]; exact hP, va_K.moved hW.alike hK, hD⟩, hS.F ht⟩) hS.2.2 dX19_in_18
def ow_k_X19_in_v1 : List Cond := .code yX19_in cX19_in 6 (some .boolean) :: ([] ++ [])
theorem gd_k_X19_in_v1 : ∀ w ∈ ow_k_X19_in_v1, (w.onTables && w.keeps) = true ∨ ∃ ty, w = Cond.arrayClass ty := List.forall_mem_cons.mpr ⟨good_of_word rfl, List.forall_mem_append.mpr ⟨fun w h => good_of_word (List.all_eq_true.mp (by decide +kernel) w h), fun _ h => nomatch h⟩⟩
set_option maxHeartbeats 40000000 in
set_option maxRecDepth 100000 in
theorem k_X19_in_v1 (l : Launch) (hlt : l.stackTraces = false) (dC : Nat → ClassId) (dI : Nat → Nat → Nat) (c0 : Int64) (sz : Nat) : Met l yX19_in ow_k_X19_in_v1 ({ frames := 0, cells := 0, slots := 0, locals := 0 }) (va_Pc [.long c0, .long 0, .long 15] (fun U => U.heap.size = sz ∧ va_P (dC, dI) vwCl [] U.heap ∧ va_K (dC, dI) vwCl [] U ∧ va_D (fun _ => True) [] ∧ nv_E (va_A [] sz) U)) (va_Qi (fun r _ => ((c0 < 0) ∧ r = 0) ∨ ((¬ c0 < 0) ∧ (15 < c0) ∧ r = 0) ∨ ((¬ c0 < 0) ∧ (¬ 15 < c0) ∧ r = 1) ∨ False) (fun (_ : Unit) t => va_P (dC, dI) vwCl [] t.heap ∧ va_K (dC, dI) vwCl [] t ∧ va_D (va_A [] sz) []) (va_A [] sz)) 0 0 (va_A [] sz) := by
  refine Met.ofW (cc := cX19_in) (maxL := 6) (ret := (some .boolean)) (by decide) rfl ?_
  intro p e s m args below meth c s₁ B hml hv
  obtain ⟨rfl, hsz, hP, hK, hD0, hN⟩ := hv
  have hx := B.exec
  have hb := B.bytes
  have hr := B.returns
  have hts := atoms_spec (ws := ow_k_X19_in_v1) B.pre
  have hown : s.vm.findClass RX19 = some m.cls := findClass_of_methodNamed B.named
  have hlocks := B.notSynchronized
  subst hsz
  have hD := hD0.self (sz := s.heap.size)
  generalize hAe : va_A [] s.heap.size = A at hD hN ⊢
  have hA : ∀ q : Nat, s.heap.size ≤ q → A q := fun q h => by rw [← hAe]; exact Or.inr h
  have hS : va_S A s.heap s.heap [] := va_S.rf
  have hl := lv_entry ([.long c0, .long 0, .long 15]) (n := 6) (Nat.le_of_ble_eq_true rfl)
  rw [lg_entry_eq]
  generalize (lg_sl ([.long c0, .long 0, .long 15]) ++ List.replicate (6 - (lg_sl ([.long c0, .long 0, .long 15])).length) Slot.unset).toArray = ls at hl ⊢
  have hl : lv_has ls 6 [(0, .long c0), (2, .long 0), (4, .long 15)] := hl
  refine lv_lload_n hx hb dX19_in_0 rfl (lv_at hl 0 rfl) ?_
  refine lv_lload_n hx hb dX19_in_1 rfl (lv_at hl 1 rfl) ?_
  refine W.lcmp hx hb dX19_in_2 ?_
  refine lv_if_lt (tgt := 17) hx hb dX19_in_3 (by decide) (fun h9 => (fun (c_1 : c0 < 0) => ?_) ((nv_cl_lt (a := c0) (b := 0)).mp h9)) (fun h9 => (fun (c_1 : ¬ c0 < 0) => ?_) (fun h8 => h9 ((nv_cl_lt (a := c0) (b := 0)).mpr h8)))
  · refine lv_iconst (v := 0) hx hb dX19_in_17 (by decide) ?_
    refine W.widen (k := 0) (n := 0) (by decide +kernel) (by decide +kernel) ?_
    exact W.zret (v := 0) hx hb hr (by first | rfl | decide) (fun t ht hW => ⟨⟨0, (), rfl, Or.inl ⟨c_1, rfl⟩, by rw [ht]; exact hP, va_K.moved hW.alike hK, hD⟩, hS.F ht⟩) hS.2.2 dX19_in_18
  · refine lv_lload_n hx hb dX19_in_6 rfl (lv_at hl 0 rfl) ?_
    refine lv_lload hx hb dX19_in_7 (lv_at hl 2 rfl) ?_
    refine W.lcmp hx hb dX19_in_9 ?_
    refine lv_if_gt (tgt := 17) hx hb dX19_in_10 (by decide) (fun h9 => (fun (c_2 : 15 < c0) => ?_) ((nv_cl_gt (a := c0) (b := 15)).mp h9)) (fun h9 => (fun (c_2 : ¬ 15 < c0) => ?_) (fun h8 => h9 ((nv_cl_gt (a := c0) (b := 15)).mpr h8)))
    · refine lv_iconst (v := 0) hx hb dX19_in_17 (by decide) ?_
      refine W.widen (k := 0) (n := 0) (by decide +kernel) (by decide +kernel) ?_
      exact W.zret (v := 0) hx hb hr (by first | rfl | decide) (fun t ht hW => ⟨⟨0, (), rfl, Or.inr (Or.inl ⟨c_1, c_2, rfl⟩), by rw [ht]; exact hP, va_K.moved hW.alike hK, hD⟩, hS.F ht⟩) hS.2.2 dX19_in_18
    · refine lv_iconst (v := 1) hx hb dX19_in_13 (by decide) ?_
      refine lv_goto (tgt := 18) hx hb dX19_in_14 (by decide) ?_
      refine W.widen (k := 0) (n := 0) (by decide +kernel) (by decide +kernel) ?_
      exact W.zret (v := 1) hx hb hr (by first | rfl | decide) (fun t ht hW => ⟨⟨1, (), rfl, Or.inr (Or.inr (Or.inl ⟨c_1, c_2, rfl⟩)), by rw [ht]; exact hP, va_K.moved hW.alike hK, hD⟩, hS.F ht⟩) hS.2.2 dX19_in_18
def ow_k_X19_in_v2 : List Cond := .code yX19_in cX19_in 6 (some .boolean) :: ([] ++ [])
theorem gd_k_X19_in_v2 : ∀ w ∈ ow_k_X19_in_v2, (w.onTables && w.keeps) = true ∨ ∃ ty, w = Cond.arrayClass ty := List.forall_mem_cons.mpr ⟨good_of_word rfl, List.forall_mem_append.mpr ⟨fun w h => good_of_word (List.all_eq_true.mp (by decide +kernel) w h), fun _ h => nomatch h⟩⟩
set_option maxHeartbeats 40000000 in
set_option maxRecDepth 100000 in
theorem k_X19_in_v2 (l : Launch) (hlt : l.stackTraces = false) (dC : Nat → ClassId) (dI : Nat → Nat → Nat) (c0 : Int32) (sz : Nat) : Met l yX19_in ow_k_X19_in_v2 ({ frames := 0, cells := 0, slots := 0, locals := 0 }) (va_Pc [.long (c0.toInt64), .long 1, .long 31] (fun U => U.heap.size = sz ∧ va_P (dC, dI) vwCl [] U.heap ∧ va_K (dC, dI) vwCl [] U ∧ va_D (fun _ => True) [] ∧ nv_E (va_A [] sz) U)) (va_Qi (fun r _ => ((c0 < 1) ∧ r = 0) ∨ ((¬ c0 < 1) ∧ (31 < c0) ∧ r = 0) ∨ ((¬ c0 < 1) ∧ (¬ 31 < c0) ∧ r = 1) ∨ False) (fun (_ : Unit) t => va_P (dC, dI) vwCl [] t.heap ∧ va_K (dC, dI) vwCl [] t ∧ va_D (va_A [] sz) []) (va_A [] sz)) 0 0 (va_A [] sz) := by
  refine Met.ofW (cc := cX19_in) (maxL := 6) (ret := (some .boolean)) (by decide) rfl ?_
  intro p e s m args below meth c s₁ B hml hv
  obtain ⟨rfl, hsz, hP, hK, hD0, hN⟩ := hv
  have hx := B.exec
  have hb := B.bytes
  have hr := B.returns
  have hts := atoms_spec (ws := ow_k_X19_in_v2) B.pre
  have hown : s.vm.findClass RX19 = some m.cls := findClass_of_methodNamed B.named
  have hlocks := B.notSynchronized
  subst hsz
  have hD := hD0.self (sz := s.heap.size)
  generalize hAe : va_A [] s.heap.size = A at hD hN ⊢
  have hA : ∀ q : Nat, s.heap.size ≤ q → A q := fun q h => by rw [← hAe]; exact Or.inr h
  have hS : va_S A s.heap s.heap [] := va_S.rf
  have hl := lv_entry ([.long (c0.toInt64), .long 1, .long 31]) (n := 6) (Nat.le_of_ble_eq_true rfl)
  rw [lg_entry_eq]
  generalize (lg_sl ([.long (c0.toInt64), .long 1, .long 31]) ++ List.replicate (6 - (lg_sl ([.long (c0.toInt64), .long 1, .long 31])).length) Slot.unset).toArray = ls at hl ⊢
  have hl : lv_has ls 6 [(0, .long (c0.toInt64)), (2, .long 1), (4, .long 31)] := hl
  refine lv_lload_n hx hb dX19_in_0 rfl (lv_at hl 0 rfl) ?_
  refine lv_lload_n hx hb dX19_in_1 rfl (lv_at hl 1 rfl) ?_
  refine W.lcmp hx hb dX19_in_2 ?_
  refine lv_if_lt (tgt := 17) hx hb dX19_in_3 (by decide) (fun h9 => (fun (c_1 : c0 < 1) => ?_) ((nv_ci_lt (x := c0) (k := 1) (K := 1) (by decide)).mp h9)) (fun h9 => (fun (c_1 : ¬ c0 < 1) => ?_) (fun h8 => h9 ((nv_ci_lt (x := c0) (k := 1) (K := 1) (by decide)).mpr h8)))
  · refine lv_iconst (v := 0) hx hb dX19_in_17 (by decide) ?_
    refine W.widen (k := 0) (n := 0) (by decide +kernel) (by decide +kernel) ?_
    exact W.zret (v := 0) hx hb hr (by first | rfl | decide) (fun t ht hW => ⟨⟨0, (), rfl, Or.inl ⟨c_1, rfl⟩, by rw [ht]; exact hP, va_K.moved hW.alike hK, hD⟩, hS.F ht⟩) hS.2.2 dX19_in_18
  · refine lv_lload_n hx hb dX19_in_6 rfl (lv_at hl 0 rfl) ?_
    refine lv_lload hx hb dX19_in_7 (lv_at hl 2 rfl) ?_
    refine W.lcmp hx hb dX19_in_9 ?_
    refine lv_if_gt (tgt := 17) hx hb dX19_in_10 (by decide) (fun h9 => (fun (c_2 : 31 < c0) => ?_) ((nv_ci_gt (x := c0) (k := 31) (K := 31) (by decide)).mp h9)) (fun h9 => (fun (c_2 : ¬ 31 < c0) => ?_) (fun h8 => h9 ((nv_ci_gt (x := c0) (k := 31) (K := 31) (by decide)).mpr h8)))
    · refine lv_iconst (v := 0) hx hb dX19_in_17 (by decide) ?_
      refine W.widen (k := 0) (n := 0) (by decide +kernel) (by decide +kernel) ?_
      exact W.zret (v := 0) hx hb hr (by first | rfl | decide) (fun t ht hW => ⟨⟨0, (), rfl, Or.inr (Or.inl ⟨c_1, c_2, rfl⟩), by rw [ht]; exact hP, va_K.moved hW.alike hK, hD⟩, hS.F ht⟩) hS.2.2 dX19_in_18
    · refine lv_iconst (v := 1) hx hb dX19_in_13 (by decide) ?_
      refine lv_goto (tgt := 18) hx hb dX19_in_14 (by decide) ?_
      refine W.widen (k := 0) (n := 0) (by decide +kernel) (by decide +kernel) ?_
      exact W.zret (v := 1) hx hb hr (by first | rfl | decide) (fun t ht hW => ⟨⟨1, (), rfl, Or.inr (Or.inr (Or.inl ⟨c_1, c_2, rfl⟩)), by rw [ht]; exact hP, va_K.moved hW.alike hK, hD⟩, hS.F ht⟩) hS.2.2 dX19_in_18
def ow_k_X19_in_v3 : List Cond := .code yX19_in cX19_in 6 (some .boolean) :: ([] ++ [])
theorem gd_k_X19_in_v3 : ∀ w ∈ ow_k_X19_in_v3, (w.onTables && w.keeps) = true ∨ ∃ ty, w = Cond.arrayClass ty := List.forall_mem_cons.mpr ⟨good_of_word rfl, List.forall_mem_append.mpr ⟨fun w h => good_of_word (List.all_eq_true.mp (by decide +kernel) w h), fun _ h => nomatch h⟩⟩
set_option maxHeartbeats 40000000 in
set_option maxRecDepth 100000 in
theorem k_X19_in_v3 (l : Launch) (hlt : l.stackTraces = false) (dC : Nat → ClassId) (dI : Nat → Nat → Nat) (c0 : Int32) (sz : Nat) : Met l yX19_in ow_k_X19_in_v3 ({ frames := 0, cells := 0, slots := 0, locals := 0 }) (va_Pc [.long (c0.toInt64), .long 1, .long 8] (fun U => U.heap.size = sz ∧ va_P (dC, dI) vwCl [] U.heap ∧ va_K (dC, dI) vwCl [] U ∧ va_D (fun _ => True) [] ∧ nv_E (va_A [] sz) U)) (va_Qi (fun r _ => ((c0 < 1) ∧ r = 0) ∨ ((¬ c0 < 1) ∧ (8 < c0) ∧ r = 0) ∨ ((¬ c0 < 1) ∧ (¬ 8 < c0) ∧ r = 1) ∨ False) (fun (_ : Unit) t => va_P (dC, dI) vwCl [] t.heap ∧ va_K (dC, dI) vwCl [] t ∧ va_D (va_A [] sz) []) (va_A [] sz)) 0 0 (va_A [] sz) := by
  refine Met.ofW (cc := cX19_in) (maxL := 6) (ret := (some .boolean)) (by decide) rfl ?_
  intro p e s m args below meth c s₁ B hml hv
  obtain ⟨rfl, hsz, hP, hK, hD0, hN⟩ := hv
  have hx := B.exec
  have hb := B.bytes
  have hr := B.returns
  have hts := atoms_spec (ws := ow_k_X19_in_v3) B.pre
  have hown : s.vm.findClass RX19 = some m.cls := findClass_of_methodNamed B.named
  have hlocks := B.notSynchronized
  subst hsz
  have hD := hD0.self (sz := s.heap.size)
  generalize hAe : va_A [] s.heap.size = A at hD hN ⊢
  have hA : ∀ q : Nat, s.heap.size ≤ q → A q := fun q h => by rw [← hAe]; exact Or.inr h
  have hS : va_S A s.heap s.heap [] := va_S.rf
  have hl := lv_entry ([.long (c0.toInt64), .long 1, .long 8]) (n := 6) (Nat.le_of_ble_eq_true rfl)
  rw [lg_entry_eq]
  generalize (lg_sl ([.long (c0.toInt64), .long 1, .long 8]) ++ List.replicate (6 - (lg_sl ([.long (c0.toInt64), .long 1, .long 8])).length) Slot.unset).toArray = ls at hl ⊢
  have hl : lv_has ls 6 [(0, .long (c0.toInt64)), (2, .long 1), (4, .long 8)] := hl
  refine lv_lload_n hx hb dX19_in_0 rfl (lv_at hl 0 rfl) ?_
  refine lv_lload_n hx hb dX19_in_1 rfl (lv_at hl 1 rfl) ?_
  refine W.lcmp hx hb dX19_in_2 ?_
  refine lv_if_lt (tgt := 17) hx hb dX19_in_3 (by decide) (fun h9 => (fun (c_1 : c0 < 1) => ?_) ((nv_ci_lt (x := c0) (k := 1) (K := 1) (by decide)).mp h9)) (fun h9 => (fun (c_1 : ¬ c0 < 1) => ?_) (fun h8 => h9 ((nv_ci_lt (x := c0) (k := 1) (K := 1) (by decide)).mpr h8)))
  · refine lv_iconst (v := 0) hx hb dX19_in_17 (by decide) ?_
    refine W.widen (k := 0) (n := 0) (by decide +kernel) (by decide +kernel) ?_
    exact W.zret (v := 0) hx hb hr (by first | rfl | decide) (fun t ht hW => ⟨⟨0, (), rfl, Or.inl ⟨c_1, rfl⟩, by rw [ht]; exact hP, va_K.moved hW.alike hK, hD⟩, hS.F ht⟩) hS.2.2 dX19_in_18
  · refine lv_lload_n hx hb dX19_in_6 rfl (lv_at hl 0 rfl) ?_
    refine lv_lload hx hb dX19_in_7 (lv_at hl 2 rfl) ?_
    refine W.lcmp hx hb dX19_in_9 ?_
    refine lv_if_gt (tgt := 17) hx hb dX19_in_10 (by decide) (fun h9 => (fun (c_2 : 8 < c0) => ?_) ((nv_ci_gt (x := c0) (k := 8) (K := 8) (by decide)).mp h9)) (fun h9 => (fun (c_2 : ¬ 8 < c0) => ?_) (fun h8 => h9 ((nv_ci_gt (x := c0) (k := 8) (K := 8) (by decide)).mpr h8)))
    · refine lv_iconst (v := 0) hx hb dX19_in_17 (by decide) ?_
      refine W.widen (k := 0) (n := 0) (by decide +kernel) (by decide +kernel) ?_
      exact W.zret (v := 0) hx hb hr (by first | rfl | decide) (fun t ht hW => ⟨⟨0, (), rfl, Or.inr (Or.inl ⟨c_1, c_2, rfl⟩), by rw [ht]; exact hP, va_K.moved hW.alike hK, hD⟩, hS.F ht⟩) hS.2.2 dX19_in_18
    · refine lv_iconst (v := 1) hx hb dX19_in_13 (by decide) ?_
      refine lv_goto (tgt := 18) hx hb dX19_in_14 (by decide) ?_
      refine W.widen (k := 0) (n := 0) (by decide +kernel) (by decide +kernel) ?_
      exact W.zret (v := 1) hx hb hr (by first | rfl | decide) (fun t ht hW => ⟨⟨1, (), rfl, Or.inr (Or.inr (Or.inl ⟨c_1, c_2, rfl⟩)), by rw [ht]; exact hP, va_K.moved hW.alike hK, hD⟩, hS.F ht⟩) hS.2.2 dX19_in_18
def ow_g_X19_isSaid : List Cond := .code yX19_isSaid cX19_isSaid 4 (some .boolean) :: ([.constantLong RX19 261 (1099511627776), .methodLink RX19 126 yX19_in, .static yX19_in, .initialized RX19, .constantLong RX19 255 (15), .constantLong RX19 259 (31), .constantLong RX19 257 (8)] ++ (ow_k_X19_in ++ (ow_k_X19_in_v1 ++ (ow_k_X19_in_v2 ++ (ow_k_X19_in_v3 ++ [])))))
theorem gd_g_X19_isSaid : ∀ w ∈ ow_g_X19_isSaid, (w.onTables && w.keeps) = true ∨ ∃ ty, w = Cond.arrayClass ty := List.forall_mem_cons.mpr ⟨good_of_word rfl, List.forall_mem_append.mpr ⟨fun w h => good_of_word (List.all_eq_true.mp (by decide +kernel) w h), List.forall_mem_append.mpr ⟨gd_k_X19_in, List.forall_mem_append.mpr ⟨gd_k_X19_in_v1, List.forall_mem_append.mpr ⟨gd_k_X19_in_v2, List.forall_mem_append.mpr ⟨gd_k_X19_in_v3, fun _ h => nomatch h⟩⟩⟩⟩⟩⟩
theorem gi_g_X19_isSaid_0 : GoodIn ow_g_X19_isSaid (wsS RX19 126 yX19_in ow_k_X19_in) := goodIn_app (goodIn_of _ (by decide +kernel)) (fun w h => ⟨List.mem_cons_of_mem _ (List.mem_append_right _ (List.mem_append_left _ h)), gd_k_X19_in w h⟩)
theorem gi_g_X19_isSaid_1 : GoodIn ow_g_X19_isSaid (wsS RX19 126 yX19_in ow_k_X19_in_v1) := goodIn_app (goodIn_of _ (by decide +kernel)) (fun w h => ⟨List.mem_cons_of_mem _ (List.mem_append_right _ (List.mem_append_right _ (List.mem_append_left _ h))), gd_k_X19_in_v1 w h⟩)
theorem gi_g_X19_isSaid_2 : GoodIn ow_g_X19_isSaid (wsS RX19 126 yX19_in ow_k_X19_in_v2) := goodIn_app (goodIn_of _ (by decide +kernel)) (fun w h => ⟨List.mem_cons_of_mem _ (List.mem_append_right _ (List.mem_append_right _ (List.mem_append_right _ (List.mem_append_left _ h)))), gd_k_X19_in_v2 w h⟩)
theorem gi_g_X19_isSaid_3 : GoodIn ow_g_X19_isSaid (wsS RX19 126 yX19_in ow_k_X19_in_v3) := goodIn_app (goodIn_of _ (by decide +kernel)) (fun w h => ⟨List.mem_cons_of_mem _ (List.mem_append_right _ (List.mem_append_right _ (List.mem_append_right _ (List.mem_append_right _ (List.mem_append_left _ h))))), gd_k_X19_in_v3 w h⟩)
set_option maxHeartbeats 40000000 in
set_option maxRecDepth 100000 in
theorem g_X19_isSaid (l : Launch) (hlt : l.stackTraces = false) (dC : Nat → ClassId) (dI : Nat → Nat → Nat) (v0 : Int32) (v1 : Int64) (v2 : Int32) (sz : Nat) : Met l yX19_isSaid ow_g_X19_isSaid ({ frames := 1, cells := 0, slots := 0, locals := 25 }) (va_Pc [.int v0, .long v1, .int v2] (fun U => U.heap.size = sz ∧ va_P (dC, dI) vwCl [] U.heap ∧ va_K (dC, dI) vwCl [] U ∧ va_D (fun _ => True) [] ∧ nv_E (va_A [] sz) U)) (va_Qi (fun r _ => ((¬ v0 = 0) ∧ (¬ v0 = 1) ∧ (¬ v0 = 2) ∧ (¬ v0 = 3) ∧ (¬ v0 = 4) ∧ r = 0) ∨ ((¬ v0 = 0) ∧ (¬ v0 = 1) ∧ (¬ v0 = 2) ∧ (¬ v0 = 3) ∧ (v0 = 4) ∧ r = 1) ∨ ((¬ v0 = 0) ∧ (¬ v0 = 1) ∧ (¬ v0 = 2) ∧ (v0 = 3) ∧ (v1 < 0) ∧ r = 0) ∨ ((¬ v0 = 0) ∧ (¬ v0 = 1) ∧ (¬ v0 = 2) ∧ (v0 = 3) ∧ (¬ v1 < 0) ∧ (1099511627776 < v1) ∧ r = 0) ∨ ((¬ v0 = 0) ∧ (¬ v0 = 1) ∧ (¬ v0 = 2) ∧ (v0 = 3) ∧ (¬ v1 < 0) ∧ (¬ 1099511627776 < v1) ∧ r = 1) ∨ ((¬ v0 = 0) ∧ (¬ v0 = 1) ∧ (v0 = 2) ∧ (v1 < 0) ∧ r = 0) ∨ ((¬ v0 = 0) ∧ (¬ v0 = 1) ∧ (v0 = 2) ∧ (¬ v1 < 0) ∧ (15 < v1) ∧ r = 0) ∨ ((¬ v0 = 0) ∧ (¬ v0 = 1) ∧ (v0 = 2) ∧ (¬ v1 < 0) ∧ (¬ 15 < v1) ∧ (v2 < 1) ∧ r = 0) ∨ ((¬ v0 = 0) ∧ (¬ v0 = 1) ∧ (v0 = 2) ∧ (¬ v1 < 0) ∧ (¬ 15 < v1) ∧ (¬ v2 < 1) ∧ (31 < v2) ∧ r = 0) ∨ ((¬ v0 = 0) ∧ (¬ v0 = 1) ∧ (v0 = 2) ∧ (¬ v1 < 0) ∧ (¬ 15 < v1) ∧ (¬ v2 < 1) ∧ (¬ 31 < v2) ∧ r = 1) ∨ ((¬ v0 = 0) ∧ (v0 = 1) ∧ (v2 < 1) ∧ r = 0) ∨ ((¬ v0 = 0) ∧ (v0 = 1) ∧ (¬ v2 < 1) ∧ (8 < v2) ∧ r = 0) ∨ ((¬ v0 = 0) ∧ (v0 = 1) ∧ (¬ v2 < 1) ∧ (¬ 8 < v2) ∧ r = 1) ∨ ((v0 = 0) ∧ (v1 < 0) ∧ r = 0) ∨ ((v0 = 0) ∧ (¬ v1 < 0) ∧ (15 < v1) ∧ r = 0) ∨ ((v0 = 0) ∧ (¬ v1 < 0) ∧ (¬ 15 < v1) ∧ r = 1) ∨ False) (fun (_ : Unit) t => va_P (dC, dI) vwCl [] t.heap ∧ va_K (dC, dI) vwCl [] t ∧ va_D (va_A [] sz) []) (va_A [] sz)) 0 0 (va_A [] sz) := by
  refine Met.ofW (cc := cX19_isSaid) (maxL := 4) (ret := (some .boolean)) (by decide) rfl ?_
  intro p e s m args below meth c s₁ B hml hv
  obtain ⟨rfl, hsz, hP, hK, hD0, hN⟩ := hv
  have hx := B.exec
  have hb := B.bytes
  have hr := B.returns
  have hts := atoms_spec (ws := ow_g_X19_isSaid) B.pre
  have hown : s.vm.findClass RX19 = some m.cls := findClass_of_methodNamed B.named
  have hlocks := B.notSynchronized
  subst hsz
  have hD := hD0.self (sz := s.heap.size)
  generalize hAe : va_A [] s.heap.size = A at hD hN ⊢
  have hA : ∀ q : Nat, s.heap.size ≤ q → A q := fun q h => by rw [← hAe]; exact Or.inr h
  have hS : va_S A s.heap s.heap [] := va_S.rf
  have hl := lv_entry ([.int v0, .long v1, .int v2]) (n := 4) (Nat.le_of_ble_eq_true rfl)
  rw [lg_entry_eq]
  generalize (lg_sl ([.int v0, .long v1, .int v2]) ++ List.replicate (4 - (lg_sl ([.int v0, .long v1, .int v2])).length) Slot.unset).toArray = ls at hl ⊢
  have hl : lv_has ls 4 [(0, .int v0), (1, .long v1), (3, .int v2)] := hl
  refine lv_iload_n hx hb dX19_isSaid_0 rfl (lv_at hl 0 rfl) ?_
  refine lv_if_ne (tgt := 15) hx hb dX19_isSaid_1 (by decide) (fun c_1 => ?_) (fun c_1 => ?_)
  · refine lv_iload_n hx hb dX19_isSaid_15 rfl (lv_at hl 0 rfl) ?_
    refine lv_iconst (v := 1) hx hb dX19_isSaid_16 (by decide) ?_
    refine lv_icmp_ne (tgt := 32) hx hb dX19_isSaid_17 (by decide) (fun c_2 => ?_) (fun c_2 => ?_)
    · refine lv_iload_n hx hb dX19_isSaid_32 rfl (lv_at hl 0 rfl) ?_
      refine lv_iconst (v := 2) hx hb dX19_isSaid_33 (by decide) ?_
      refine lv_icmp_ne (tgt := 68) hx hb dX19_isSaid_34 (by decide) (fun c_3 => ?_) (fun c_3 => ?_)
      · refine lv_iload_n hx hb dX19_isSaid_68 rfl (lv_at hl 0 rfl) ?_
        refine lv_iconst (v := 3) hx hb dX19_isSaid_69 (by decide) ?_
        refine lv_icmp_ne (tgt := 84) hx hb dX19_isSaid_70 (by decide) (fun c_4 => ?_) (fun c_4 => ?_)
        · refine lv_iload_n hx hb dX19_isSaid_84 rfl (lv_at hl 0 rfl) ?_
          refine lv_iconst (v := 4) hx hb dX19_isSaid_85 (by decide) ?_
          refine lv_icmp_ne (tgt := 93) hx hb dX19_isSaid_86 (by decide) (fun c_5 => ?_) (fun c_5 => ?_)
          · refine lv_iconst (v := 0) hx hb dX19_isSaid_93 (by decide) ?_
            refine W.widen (k := 0) (n := 0) (by decide +kernel) (by decide +kernel) ?_
            exact W.zret (v := 0) hx hb hr (by first | rfl | decide) (fun t ht hW => ⟨⟨0, (), rfl, Or.inl ⟨c_1, c_2, c_3, c_4, c_5, rfl⟩, by rw [ht]; exact hP, va_K.moved hW.alike hK, hD⟩, hS.F ht⟩) hS.2.2 dX19_isSaid_94
          · refine lv_iconst (v := 1) hx hb dX19_isSaid_89 (by decide) ?_
            refine lv_goto (tgt := 94) hx hb dX19_isSaid_90 (by decide) ?_
            refine W.widen (k := 0) (n := 0) (by decide +kernel) (by decide +kernel) ?_
            exact W.zret (v := 1) hx hb hr (by first | rfl | decide) (fun t ht hW => ⟨⟨1, (), rfl, Or.inr (Or.inl ⟨c_1, c_2, c_3, c_4, c_5, rfl⟩), by rw [ht]; exact hP, va_K.moved hW.alike hK, hD⟩, hS.F ht⟩) hS.2.2 dX19_isSaid_94
        · refine lv_lload_n hx hb dX19_isSaid_73 rfl (lv_at hl 1 rfl) ?_
          refine lv_lconst (v := 0) hx hb dX19_isSaid_74 (by decide) ?_
          refine lv_ldc2 hx hb hown (hts (.constantLong RX19 261 (1099511627776)) (List.mem_of_getElem? (i := 1) rfl)) dX19_isSaid_75 ?_
          have hPc := hP.sub (ws' := []) [] rfl
          have hDc := hD.sub (ws' := []) [] (by decide) rfl
          have hKc := hK.sub (tys' := []) [] rfl
          have hFc := va_free (wc := []) hD hS hA [] rfl
          refine va_calli (va_runS (As := [.long v1, .long 0, .long 1099511627776]) (rest := []) ⟨hx, hb, hml, hown, hts⟩ (k_X19_in l hlt dC dI v1  s.heap.size) (cwS 3 hts gi_g_X19_isSaid_0 rfl rfl rfl (by decide +kernel) ⟨Nat.le_of_ble_eq_true rfl, Nat.le_of_ble_eq_true rfl⟩) ⟨fun a U g mk q => by obtain ⟨q0, q1, qP, qK, qD, qN⟩ := q; exact ⟨q0, q1, qP, va_K.moved (u := U) (U := U.calling g mk a) (Vm.Alike.refl U.vm) qK, qD, nv_same rfl rfl qN⟩, fun U hU hW => ⟨rfl, by rw [hU], by rw [hU]; exact hPc, va_K.moved hW.alike hKc, hDc.weaken (fun _ _ _ _ => trivial), nv_call hS hFc hU hW hN⟩⟩ rfl rfl hl.1 rfl (lv_room (Nat.le_of_ble_eq_true rfl)) dX19_isSaid_78 ⟨by decide +kernel, by decide +kernel⟩) hS (fun q _ h => hFc q h) hFc (fun r1 u t H1 locs ht hvm hw hB hz1 hk1 hS => ?_)
          obtain ⟨hP1, hK1, hD1⟩ := hB
          rw [ht] at hP1
          have hK1 := va_K.moved hvm.symm hK1
          obtain ⟨hP, hD⟩ := va_join (wr := []) (w1 := []) hP hD [] [] rfl rfl (by decide) (by decide) hk1 hFc hP1 hD1
          have hK := (hK.sub (tys' := []) [] rfl).app hK1
          generalize H1 = H at hP hS ⊢
          have hP : va_P (dC, dI) vwCl [] H := hP
          have hD : va_D A [] := hD
          have hK : va_K (dC, dI) vwCl [] s := hK
          refine W.widen (k := 0) (n := 0) (by decide +kernel) (by decide +kernel) ?_
          rcases hw with ⟨c_6_0, h9⟩ | ⟨c_6_0, c_6_1, h9⟩ | ⟨c_6_0, c_6_1, h9⟩ | h9
          · subst h9
            refine lv_goto (tgt := 94) hx hb dX19_isSaid_81 (by decide) ?_
            refine W.widen (k := 0) (n := 0) (by decide +kernel) (by decide +kernel) ?_
            exact W.zret (v := 0) hx hb hr (by first | rfl | decide) (fun t ht hW => ⟨⟨0, (), rfl, Or.inr (Or.inr (Or.inl ⟨c_1, c_2, c_3, c_4, c_6_0, rfl⟩)), by rw [ht]; exact hP, va_K.moved hW.alike hK, hD⟩, hS.F ht⟩) hS.2.2 dX19_isSaid_94
          · subst h9
            refine lv_goto (tgt := 94) hx hb dX19_isSaid_81 (by decide) ?_
            refine W.widen (k := 0) (n := 0) (by decide +kernel) (by decide +kernel) ?_
            exact W.zret (v := 0) hx hb hr (by first | rfl | decide) (fun t ht hW => ⟨⟨0, (), rfl, Or.inr (Or.inr (Or.inr (Or.inl ⟨c_1, c_2, c_3, c_4, c_6_0, c_6_1, rfl⟩))), by rw [ht]; exact hP, va_K.moved hW.alike hK, hD⟩, hS.F ht⟩) hS.2.2 dX19_isSaid_94
          · subst h9
            refine lv_goto (tgt := 94) hx hb dX19_isSaid_81 (by decide) ?_
            refine W.widen (k := 0) (n := 0) (by decide +kernel) (by decide +kernel) ?_
            exact W.zret (v := 1) hx hb hr (by first | rfl | decide) (fun t ht hW => ⟨⟨1, (), rfl, Or.inr (Or.inr (Or.inr (Or.inr (Or.inl ⟨c_1, c_2, c_3, c_4, c_6_0, c_6_1, rfl⟩)))), by rw [ht]; exact hP, va_K.moved hW.alike hK, hD⟩, hS.F ht⟩) hS.2.2 dX19_isSaid_94
          · exact h9.elim
      · refine lv_lload_n hx hb dX19_isSaid_37 rfl (lv_at hl 1 rfl) ?_
        refine lv_lconst (v := 0) hx hb dX19_isSaid_38 (by decide) ?_
        refine lv_ldc2 hx hb hown (hts (.constantLong RX19 255 (15)) (List.mem_of_getElem? (i := 5) rfl)) dX19_isSaid_39 ?_
        have hPc := hP.sub (ws' := []) [] rfl
        have hDc := hD.sub (ws' := []) [] (by decide) rfl
        have hKc := hK.sub (tys' := []) [] rfl
        have hFc := va_free (wc := []) hD hS hA [] rfl
        refine va_calli (va_runS (As := [.long v1, .long 0, .long 15]) (rest := []) ⟨hx, hb, hml, hown, hts⟩ (k_X19_in_v1 l hlt dC dI v1  s.heap.size) (cwS 3 hts gi_g_X19_isSaid_1 rfl rfl rfl (by decide +kernel) ⟨Nat.le_of_ble_eq_true rfl, Nat.le_of_ble_eq_true rfl⟩) ⟨fun a U g mk q => by obtain ⟨q0, q1, qP, qK, qD, qN⟩ := q; exact ⟨q0, q1, qP, va_K.moved (u := U) (U := U.calling g mk a) (Vm.Alike.refl U.vm) qK, qD, nv_same rfl rfl qN⟩, fun U hU hW => ⟨rfl, by rw [hU], by rw [hU]; exact hPc, va_K.moved hW.alike hKc, hDc.weaken (fun _ _ _ _ => trivial), nv_call hS hFc hU hW hN⟩⟩ rfl rfl hl.1 rfl (lv_room (Nat.le_of_ble_eq_true rfl)) dX19_isSaid_42 ⟨by decide +kernel, by decide +kernel⟩) hS (fun q _ h => hFc q h) hFc (fun r2 u t H1 locs ht hvm hw hB hz1 hk1 hS => ?_)
        obtain ⟨hP1, hK1, hD1⟩ := hB
        rw [ht] at hP1
        have hK1 := va_K.moved hvm.symm hK1
        obtain ⟨hP, hD⟩ := va_join (wr := []) (w1 := []) hP hD [] [] rfl rfl (by decide) (by decide) hk1 hFc hP1 hD1
        have hK := (hK.sub (tys' := []) [] rfl).app hK1
        generalize H1 = H at hP hS ⊢
        have hP : va_P (dC, dI) vwCl [] H := hP
        have hD : va_D A [] := hD
        have hK : va_K (dC, dI) vwCl [] s := hK
        refine W.widen (k := 0) (n := 0) (by decide +kernel) (by decide +kernel) ?_
        rcases hw with ⟨c_7_0, h9⟩ | ⟨c_7_0, c_7_1, h9⟩ | ⟨c_7_0, c_7_1, h9⟩ | h9
        · subst h9
          refine lv_if_eq (tgt := 64) hx hb dX19_isSaid_45 (by decide) (fun _ => ?_) (fun h9 => absurd (by decide) h9)
          refine lv_iconst (v := 0) hx hb dX19_isSaid_64 (by decide) ?_
          refine lv_goto (tgt := 94) hx hb dX19_isSaid_65 (by decide) ?_
          refine W.widen (k := 0) (n := 0) (by decide +kernel) (by decide +kernel) ?_
          exact W.zret (v := 0) hx hb hr (by first | rfl | decide) (fun t ht hW => ⟨⟨0, (), rfl, Or.inr (Or.inr (Or.inr (Or.inr (Or.inr (Or.inl ⟨c_1, c_2, c_3, c_7_0, rfl⟩))))), by rw [ht]; exact hP, va_K.moved hW.alike hK, hD⟩, hS.F ht⟩) hS.2.2 dX19_isSaid_94
        · subst h9
          refine lv_if_eq (tgt := 64) hx hb dX19_isSaid_45 (by decide) (fun _ => ?_) (fun h9 => absurd (by decide) h9)
          refine lv_iconst (v := 0) hx hb dX19_isSaid_64 (by decide) ?_
          refine lv_goto (tgt := 94) hx hb dX19_isSaid_65 (by decide) ?_
          refine W.widen (k := 0) (n := 0) (by decide +kernel) (by decide +kernel) ?_
          exact W.zret (v := 0) hx hb hr (by first | rfl | decide) (fun t ht hW => ⟨⟨0, (), rfl, Or.inr (Or.inr (Or.inr (Or.inr (Or.inr (Or.inr (Or.inl ⟨c_1, c_2, c_3, c_7_0, c_7_1, rfl⟩)))))), by rw [ht]; exact hP, va_K.moved hW.alike hK, hD⟩, hS.F ht⟩) hS.2.2 dX19_isSaid_94
        · subst h9
          refine lv_if_eq (tgt := 64) hx hb dX19_isSaid_45 (by decide) (fun h9 => absurd h9 (by decide)) (fun _ => ?_)
          refine lv_iload_n hx hb dX19_isSaid_48 rfl (lv_at hl 2 rfl) ?_
          refine lv_i2l hx hb dX19_isSaid_49 rfl ?_
          refine lv_lconst (v := 1) hx hb dX19_isSaid_50 (by decide) ?_
          refine lv_ldc2 hx hb hown (hts (.constantLong RX19 259 (31)) (List.mem_of_getElem? (i := 6) rfl)) dX19_isSaid_51 ?_
          have hPc := hP.sub (ws' := []) [] rfl
          have hDc := hD.sub (ws' := []) [] (by decide) rfl
          have hKc := hK.sub (tys' := []) [] rfl
          have hFc := va_free (wc := []) hD hS hA [] rfl
          refine va_calli (va_runS (As := [.long (v2.toInt64), .long 1, .long 31]) (rest := []) ⟨hx, hb, hml, hown, hts⟩ (k_X19_in_v2 l hlt dC dI v2  H.size) (cwS 3 hts gi_g_X19_isSaid_2 rfl rfl rfl (by decide +kernel) ⟨Nat.le_of_ble_eq_true rfl, Nat.le_of_ble_eq_true rfl⟩) ⟨fun a U g mk q => by obtain ⟨q0, q1, qP, qK, qD, qN⟩ := q; exact ⟨q0, q1, qP, va_K.moved (u := U) (U := U.calling g mk a) (Vm.Alike.refl U.vm) qK, qD, nv_same rfl rfl qN⟩, fun U hU hW => ⟨rfl, by rw [hU], by rw [hU]; exact hPc, va_K.moved hW.alike hKc, hDc.weaken (fun _ _ _ _ => trivial), nv_call hS hFc hU hW hN⟩⟩ rfl rfl hl.1 rfl (lv_room (Nat.le_of_ble_eq_true rfl)) dX19_isSaid_54 ⟨by decide +kernel, by decide +kernel⟩) hS (fun q _ h => hFc q h) hFc (fun r3 u t H1 locs ht hvm hw hB hz1 hk1 hS => ?_)
          obtain ⟨hP1, hK1, hD1⟩ := hB
          rw [ht] at hP1
          have hK1 := va_K.moved hvm.symm hK1
          obtain ⟨hP, hD⟩ := va_join (wr := []) (w1 := []) hP hD [] [] rfl rfl (by decide) (by decide) hk1 hFc hP1 hD1
          have hK := (hK.sub (tys' := []) [] rfl).app hK1
          generalize H1 = H at hP hS ⊢
          have hP : va_P (dC, dI) vwCl [] H := hP
          have hD : va_D A [] := hD
          have hK : va_K (dC, dI) vwCl [] s := hK
          refine W.widen (k := 0) (n := 0) (by decide +kernel) (by decide +kernel) ?_
          rcases hw with ⟨c_8_0, h9⟩ | ⟨c_8_0, c_8_1, h9⟩ | ⟨c_8_0, c_8_1, h9⟩ | h9
          · subst h9
            refine lv_if_eq (tgt := 64) hx hb dX19_isSaid_57 (by decide) (fun _ => ?_) (fun h9 => absurd (by decide) h9)
            refine lv_iconst (v := 0) hx hb dX19_isSaid_64 (by decide) ?_
            refine lv_goto (tgt := 94) hx hb dX19_isSaid_65 (by decide) ?_
            refine W.widen (k := 0) (n := 0) (by decide +kernel) (by decide +kernel) ?_
            exact W.zret (v := 0) hx hb hr (by first | rfl | decide) (fun t ht hW => ⟨⟨0, (), rfl, Or.inr (Or.inr (Or.inr (Or.inr (Or.inr (Or.inr (Or.inr (Or.inl ⟨c_1, c_2, c_3, c_7_0, c_7_1, c_8_0, rfl⟩))))))), by rw [ht]; exact hP, va_K.moved hW.alike hK, hD⟩, hS.F ht⟩) hS.2.2 dX19_isSaid_94
          · subst h9
            refine lv_if_eq (tgt := 64) hx hb dX19_isSaid_57 (by decide) (fun _ => ?_) (fun h9 => absurd (by decide) h9)
            refine lv_iconst (v := 0) hx hb dX19_isSaid_64 (by decide) ?_
            refine lv_goto (tgt := 94) hx hb dX19_isSaid_65 (by decide) ?_
            refine W.widen (k := 0) (n := 0) (by decide +kernel) (by decide +kernel) ?_
            exact W.zret (v := 0) hx hb hr (by first | rfl | decide) (fun t ht hW => ⟨⟨0, (), rfl, Or.inr (Or.inr (Or.inr (Or.inr (Or.inr (Or.inr (Or.inr (Or.inr (Or.inl ⟨c_1, c_2, c_3, c_7_0, c_7_1, c_8_0, c_8_1, rfl⟩)))))))), by rw [ht]; exact hP, va_K.moved hW.alike hK, hD⟩, hS.F ht⟩) hS.2.2 dX19_isSaid_94
          · subst h9
            refine lv_if_eq (tgt := 64) hx hb dX19_isSaid_57 (by decide) (fun h9 => absurd h9 (by decide)) (fun _ => ?_)
            refine lv_iconst (v := 1) hx hb dX19_isSaid_60 (by decide) ?_
            refine lv_goto (tgt := 94) hx hb dX19_isSaid_61 (by decide) ?_
            refine W.widen (k := 0) (n := 0) (by decide +kernel) (by decide +kernel) ?_
            exact W.zret (v := 1) hx hb hr (by first | rfl | decide) (fun t ht hW => ⟨⟨1, (), rfl, Or.inr (Or.inr (Or.inr (Or.inr (Or.inr (Or.inr (Or.inr (Or.inr (Or.inr (Or.inl ⟨c_1, c_2, c_3, c_7_0, c_7_1, c_8_0, c_8_1, rfl⟩))))))))), by rw [ht]; exact hP, va_K.moved hW.alike hK, hD⟩, hS.F ht⟩) hS.2.2 dX19_isSaid_94
          · exact h9.elim
        · exact h9.elim
    · refine lv_iload_n hx hb dX19_isSaid_20 rfl (lv_at hl 2 rfl) ?_
      refine lv_i2l hx hb dX19_isSaid_21 rfl ?_
      refine lv_lconst (v := 1) hx hb dX19_isSaid_22 (by decide) ?_
      refine lv_ldc2 hx hb hown (hts (.constantLong RX19 257 (8)) (List.mem_of_getElem? (i := 7) rfl)) dX19_isSaid_23 ?_
      have hPc := hP.sub (ws' := []) [] rfl
      have hDc := hD.sub (ws' := []) [] (by decide) rfl
      have hKc := hK.sub (tys' := []) [] rfl
      have hFc := va_free (wc := []) hD hS hA [] rfl
      refine va_calli (va_runS (As := [.long (v2.toInt64), .long 1, .long 8]) (rest := []) ⟨hx, hb, hml, hown, hts⟩ (k_X19_in_v3 l hlt dC dI v2  s.heap.size) (cwS 3 hts gi_g_X19_isSaid_3 rfl rfl rfl (by decide +kernel) ⟨Nat.le_of_ble_eq_true rfl, Nat.le_of_ble_eq_true rfl⟩) ⟨fun a U g mk q => by obtain ⟨q0, q1, qP, qK, qD, qN⟩ := q; exact ⟨q0, q1, qP, va_K.moved (u := U) (U := U.calling g mk a) (Vm.Alike.refl U.vm) qK, qD, nv_same rfl rfl qN⟩, fun U hU hW => ⟨rfl, by rw [hU], by rw [hU]; exact hPc, va_K.moved hW.alike hKc, hDc.weaken (fun _ _ _ _ => trivial), nv_call hS hFc hU hW hN⟩⟩ rfl rfl hl.1 rfl (lv_room (Nat.le_of_ble_eq_true rfl)) dX19_isSaid_26 ⟨by decide +kernel, by decide +kernel⟩) hS (fun q _ h => hFc q h) hFc (fun r4 u t H1 locs ht hvm hw hB hz1 hk1 hS => ?_)
      obtain ⟨hP1, hK1, hD1⟩ := hB
      rw [ht] at hP1
      have hK1 := va_K.moved hvm.symm hK1
      obtain ⟨hP, hD⟩ := va_join (wr := []) (w1 := []) hP hD [] [] rfl rfl (by decide) (by decide) hk1 hFc hP1 hD1
      have hK := (hK.sub (tys' := []) [] rfl).app hK1
      generalize H1 = H at hP hS ⊢
      have hP : va_P (dC, dI) vwCl [] H := hP
      have hD : va_D A [] := hD
      have hK : va_K (dC, dI) vwCl [] s := hK
      refine W.widen (k := 0) (n := 0) (by decide +kernel) (by decide +kernel) ?_
      rcases hw with ⟨c_9_0, h9⟩ | ⟨c_9_0, c_9_1, h9⟩ | ⟨c_9_0, c_9_1, h9⟩ | h9
      · subst h9
        refine lv_goto (tgt := 94) hx hb dX19_isSaid_29 (by decide) ?_
        refine W.widen (k := 0) (n := 0) (by decide +kernel) (by decide +kernel) ?_
        exact W.zret (v := 0) hx hb hr (by first | rfl | decide) (fun t ht hW => ⟨⟨0, (), rfl, Or.inr (Or.inr (Or.inr (Or.inr (Or.inr (Or.inr (Or.inr (Or.inr (Or.inr (Or.inr (Or.inl ⟨c_1, c_2, c_9_0, rfl⟩)))))))))), by rw [ht]; exact hP, va_K.moved hW.alike hK, hD⟩, hS.F ht⟩) hS.2.2 dX19_isSaid_94
      · subst h9
        refine lv_goto (tgt := 94) hx hb dX19_isSaid_29 (by decide) ?_
        refine W.widen (k := 0) (n := 0) (by decide +kernel) (by decide +kernel) ?_
        exact W.zret (v := 0) hx hb hr (by first | rfl | decide) (fun t ht hW => ⟨⟨0, (), rfl, Or.inr (Or.inr (Or.inr (Or.inr (Or.inr (Or.inr (Or.inr (Or.inr (Or.inr (Or.inr (Or.inr (Or.inl ⟨c_1, c_2, c_9_0, c_9_1, rfl⟩))))))))))), by rw [ht]; exact hP, va_K.moved hW.alike hK, hD⟩, hS.F ht⟩) hS.2.2 dX19_isSaid_94
      · subst h9
        refine lv_goto (tgt := 94) hx hb dX19_isSaid_29 (by decide) ?_
        refine W.widen (k := 0) (n := 0) (by decide +kernel) (by decide +kernel) ?_
        exact W.zret (v := 1) hx hb hr (by first | rfl | decide) (fun t ht hW => ⟨⟨1, (), rfl, Or.inr (Or.inr (Or.inr (Or.inr (Or.inr (Or.inr (Or.inr (Or.inr (Or.inr (Or.inr (Or.inr (Or.inr (Or.inl ⟨c_1, c_2, c_9_0, c_9_1, rfl⟩)))))))))))), by rw [ht]; exact hP, va_K.moved hW.alike hK, hD⟩, hS.F ht⟩) hS.2.2 dX19_isSaid_94
      · exact h9.elim
  · refine lv_lload_n hx hb dX19_isSaid_4 rfl (lv_at hl 1 rfl) ?_
    refine lv_lconst (v := 0) hx hb dX19_isSaid_5 (by decide) ?_
    refine lv_ldc2 hx hb hown (hts (.constantLong RX19 255 (15)) (List.mem_of_getElem? (i := 5) rfl)) dX19_isSaid_6 ?_
    have hPc := hP.sub (ws' := []) [] rfl
    have hDc := hD.sub (ws' := []) [] (by decide) rfl
    have hKc := hK.sub (tys' := []) [] rfl
    have hFc := va_free (wc := []) hD hS hA [] rfl
    refine va_calli (va_runS (As := [.long v1, .long 0, .long 15]) (rest := []) ⟨hx, hb, hml, hown, hts⟩ (k_X19_in_v1 l hlt dC dI v1  s.heap.size) (cwS 3 hts gi_g_X19_isSaid_1 rfl rfl rfl (by decide +kernel) ⟨Nat.le_of_ble_eq_true rfl, Nat.le_of_ble_eq_true rfl⟩) ⟨fun a U g mk q => by obtain ⟨q0, q1, qP, qK, qD, qN⟩ := q; exact ⟨q0, q1, qP, va_K.moved (u := U) (U := U.calling g mk a) (Vm.Alike.refl U.vm) qK, qD, nv_same rfl rfl qN⟩, fun U hU hW => ⟨rfl, by rw [hU], by rw [hU]; exact hPc, va_K.moved hW.alike hKc, hDc.weaken (fun _ _ _ _ => trivial), nv_call hS hFc hU hW hN⟩⟩ rfl rfl hl.1 rfl (lv_room (Nat.le_of_ble_eq_true rfl)) dX19_isSaid_9 ⟨by decide +kernel, by decide +kernel⟩) hS (fun q _ h => hFc q h) hFc (fun r5 u t H1 locs ht hvm hw hB hz1 hk1 hS => ?_)
    obtain ⟨hP1, hK1, hD1⟩ := hB
    rw [ht] at hP1
    have hK1 := va_K.moved hvm.symm hK1
    obtain ⟨hP, hD⟩ := va_join (wr := []) (w1 := []) hP hD [] [] rfl rfl (by decide) (by decide) hk1 hFc hP1 hD1
    have hK := (hK.sub (tys' := []) [] rfl).app hK1
    generalize H1 = H at hP hS ⊢
    have hP : va_P (dC, dI) vwCl [] H := hP
    have hD : va_D A [] := hD
    have hK : va_K (dC, dI) vwCl [] s := hK
    refine W.widen (k := 0) (n := 0) (by decide +kernel) (by decide +kernel) ?_
    rcases hw with ⟨c_10_0, h9⟩ | ⟨c_10_0, c_10_1, h9⟩ | ⟨c_10_0, c_10_1, h9⟩ | h9
    · subst h9
      refine lv_goto (tgt := 94) hx hb dX19_isSaid_12 (by decide) ?_
      refine W.widen (k := 0) (n := 0) (by decide +kernel) (by decide +kernel) ?_
      exact W.zret (v := 0) hx hb hr (by first | rfl | decide) (fun t ht hW => ⟨⟨0, (), rfl, Or.inr (Or.inr (Or.inr (Or.inr (Or.inr (Or.inr (Or.inr (Or.inr (Or.inr (Or.inr (Or.inr (Or.inr (Or.inr (Or.inl ⟨c_1, c_10_0, rfl⟩))))))))))))), by rw [ht]; exact hP, va_K.moved hW.alike hK, hD⟩, hS.F ht⟩) hS.2.2 dX19_isSaid_94
    · subst h9
      refine lv_goto (tgt := 94) hx hb dX19_isSaid_12 (by decide) ?_
      refine W.widen (k := 0) (n := 0) (by decide +kernel) (by decide +kernel) ?_
      exact W.zret (v := 0) hx hb hr (by first | rfl | decide) (fun t ht hW => ⟨⟨0, (), rfl, Or.inr (Or.inr (Or.inr (Or.inr (Or.inr (Or.inr (Or.inr (Or.inr (Or.inr (Or.inr (Or.inr (Or.inr (Or.inr (Or.inr (Or.inl ⟨c_1, c_10_0, c_10_1, rfl⟩)))))))))))))), by rw [ht]; exact hP, va_K.moved hW.alike hK, hD⟩, hS.F ht⟩) hS.2.2 dX19_isSaid_94
    · subst h9
      refine lv_goto (tgt := 94) hx hb dX19_isSaid_12 (by decide) ?_
      refine W.widen (k := 0) (n := 0) (by decide +kernel) (by decide +kernel) ?_
      exact W.zret (v := 1) hx hb hr (by first | rfl | decide) (fun t ht hW => ⟨⟨1, (), rfl, Or.inr (Or.inr (Or.inr (Or.inr (Or.inr (Or.inr (Or.inr (Or.inr (Or.inr (Or.inr (Or.inr (Or.inr (Or.inr (Or.inr (Or.inr (Or.inl ⟨c_1, c_10_0, c_10_1, rfl⟩))))))))))))))), by rw [ht]; exact hP, va_K.moved hW.alike hK, hD⟩, hS.F ht⟩) hS.2.2 dX19_isSaid_94
    · exact h9.elim
def ow_g_X19_low : List Cond := .code yX19_low cX19_low 3 (some .long) :: ([] ++ [])
theorem gd_g_X19_low : ∀ w ∈ ow_g_X19_low, (w.onTables && w.keeps) = true ∨ ∃ ty, w = Cond.arrayClass ty := List.forall_mem_cons.mpr ⟨good_of_word rfl, List.forall_mem_append.mpr ⟨fun w h => good_of_word (List.all_eq_true.mp (by decide +kernel) w h), fun _ h => nomatch h⟩⟩
set_option maxHeartbeats 40000000 in
set_option maxRecDepth 100000 in
theorem g_X19_low (l : Launch) (hlt : l.stackTraces = false) (dC : Nat → ClassId) (dI : Nat → Nat → Nat) (v0 : Int64) (v1 : Int32) (sz : Nat) : Met l yX19_low ow_g_X19_low ({ frames := 0, cells := 0, slots := 0, locals := 0 }) (va_Pc [.long v0, .int v1] (fun U => U.heap.size = sz ∧ va_P (dC, dI) vwCl [] U.heap ∧ va_K (dC, dI) vwCl [] U ∧ va_D (fun _ => True) [] ∧ nv_E (va_A [] sz) U)) (va_Ql (fun r _ => ((v1 ≤ 7) ∧ r = ((v0 : Int64) &&& ((((1 : Int64) <<< (((8 * v1) : Int32).toInt64 &&& 63)) : Int64) - 1))) ∨ ((¬ v1 ≤ 7) ∧ r = v0) ∨ False) (fun (_ : Unit) t => va_P (dC, dI) vwCl [] t.heap ∧ va_K (dC, dI) vwCl [] t ∧ va_D (va_A [] sz) []) (va_A [] sz)) 0 0 (va_A [] sz) := by
  refine Met.ofW (cc := cX19_low) (maxL := 3) (ret := (some .long)) (by decide) rfl ?_
  intro p e s m args below meth c s₁ B hml hv
  obtain ⟨rfl, hsz, hP, hK, hD0, hN⟩ := hv
  have hx := B.exec
  have hb := B.bytes
  have hr := B.returns
  have hts := atoms_spec (ws := ow_g_X19_low) B.pre
  have hown : s.vm.findClass RX19 = some m.cls := findClass_of_methodNamed B.named
  have hlocks := B.notSynchronized
  subst hsz
  have hD := hD0.self (sz := s.heap.size)
  generalize hAe : va_A [] s.heap.size = A at hD hN ⊢
  have hA : ∀ q : Nat, s.heap.size ≤ q → A q := fun q h => by rw [← hAe]; exact Or.inr h
  have hS : va_S A s.heap s.heap [] := va_S.rf
  have hl := lv_entry ([.long v0, .int v1]) (n := 3) (Nat.le_of_ble_eq_true rfl)
  rw [lg_entry_eq]
  generalize (lg_sl ([.long v0, .int v1]) ++ List.replicate (3 - (lg_sl ([.long v0, .int v1])).length) Slot.unset).toArray = ls at hl ⊢
  have hl : lv_has ls 3 [(0, .long v0), (2, .int v1)] := hl
  refine lv_iload_n hx hb dX19_low_0 rfl (lv_at hl 1 rfl) ?_
  refine lv_bipush (v := 7) hx hb dX19_low_1 (by decide) ?_
  refine lv_icmp_le (tgt := 10) hx hb dX19_low_3 (by decide) (fun c_1 => ?_) (fun c_1 => ?_)
  · refine lv_lload_n hx hb dX19_low_10 rfl (lv_at hl 0 rfl) ?_
    refine lv_lconst (v := 1) hx hb dX19_low_11 (by decide) ?_
    refine lv_bipush (v := 8) hx hb dX19_low_12 (by decide) ?_
    refine lv_iload_n hx hb dX19_low_14 rfl (lv_at hl 1 rfl) ?_
    refine lv_imul hx hb dX19_low_15 ?_
    refine lv_lshl hx hb dX19_low_16 rfl ?_
    refine lv_lconst (v := 1) hx hb dX19_low_17 (by decide) ?_
    refine lv_lsub hx hb dX19_low_18 ?_
    refine lv_land hx hb dX19_low_19 ?_
    refine W.widen (k := 0) (n := 0) (by decide +kernel) (by decide +kernel) ?_
    exact W.lret (v := ((v0 : Int64) &&& ((((1 : Int64) <<< (((8 * v1) : Int32).toInt64 &&& 63)) : Int64) - 1))) hx hb hr (fun t ht hW => ⟨⟨((v0 : Int64) &&& ((((1 : Int64) <<< (((8 * v1) : Int32).toInt64 &&& 63)) : Int64) - 1)), (), rfl, Or.inl ⟨c_1, rfl⟩, by rw [ht]; exact hP, va_K.moved hW.alike hK, hD⟩, hS.F ht⟩) hS.2.2 dX19_low_20
  · refine lv_lload_n hx hb dX19_low_6 rfl (lv_at hl 0 rfl) ?_
    refine lv_goto (tgt := 20) hx hb dX19_low_7 (by decide) ?_
    refine W.widen (k := 0) (n := 0) (by decide +kernel) (by decide +kernel) ?_
    exact W.lret (v := v0) hx hb hr (fun t ht hW => ⟨⟨v0, (), rfl, Or.inr (Or.inl ⟨c_1, rfl⟩), by rw [ht]; exact hP, va_K.moved hW.alike hK, hD⟩, hS.F ht⟩) hS.2.2 dX19_low_20
def ow_g_X12_end : List Cond := .code yX12_end cX12_end 2 (some .int) :: ([.fieldLink RX12 66 "TimeMachine" "fresh" "Z", .fieldLink RX12 58 "TimeMachine" "taped" "I"] ++ (u_ws RX12 TX12 12 ++ []))
theorem gd_g_X12_end : ∀ w ∈ ow_g_X12_end, (w.onTables && w.keeps) = true ∨ ∃ ty, w = Cond.arrayClass ty := List.forall_mem_cons.mpr ⟨good_of_word rfl, List.forall_mem_append.mpr ⟨fun w h => good_of_word (List.all_eq_true.mp (by decide +kernel) w h), List.forall_mem_append.mpr ⟨gu_X12, fun _ h => nomatch h⟩⟩⟩
theorem hi_g_X12_end_X12 : ∀ w ∈ u_ws RX12 TX12 12, w ∈ ow_g_X12_end := fun w h => List.mem_cons_of_mem _ (List.mem_append_right _ (List.mem_append_left _ h))
set_option maxHeartbeats 40000000 in
set_option maxRecDepth 100000 in
theorem g_X12_end (l : Launch) (hlt : l.stackTraces = false) (dC : Nat → ClassId) (dI : Nat → Nat → Nat) (h0 : Nat) (v0 : Int32) (o_h0_tape : Option Nat) (w_h0_taped : Int32) (w_h0_fresh : Int32) (o_h0_programs : Option Nat) (o_h0_programPool : Option Nat) (o_h0_assembler : Option Nat) (o_h0_timeline : Option Nat) (o_h0_breaks : Option Nat) (o_h0_conditionPool : Option Nat) (o_h0_log : Option Nat) (w_h0_logged : Int32) (o_h0_letters : Option Nat) (sz : Nat) : Met l yX12_end ow_g_X12_end ({ frames := 0, cells := 0, slots := 0, locals := 0 }) (va_Pc [.ref h0, .int v0] (fun U => U.heap.size = sz ∧ va_P (dC, dI) vwCl [(h0, .inr (13, [va_rf (o_h0_tape), .int w_h0_taped, .int w_h0_fresh, va_rf (o_h0_programs), va_rf (o_h0_programPool), va_rf (o_h0_assembler), va_rf (o_h0_timeline), va_rf (o_h0_breaks), va_rf (o_h0_conditionPool), va_rf (o_h0_log), .int w_h0_logged, va_rf (o_h0_letters)]))] U.heap ∧ va_K (dC, dI) vwCl [] U ∧ va_D (fun _ => True) [(h0, .inr (13, [va_rf (o_h0_tape), .int w_h0_taped, .int w_h0_fresh, va_rf (o_h0_programs), va_rf (o_h0_programPool), va_rf (o_h0_assembler), va_rf (o_h0_timeline), va_rf (o_h0_breaks), va_rf (o_h0_conditionPool), va_rf (o_h0_log), .int w_h0_logged, va_rf (o_h0_letters)]))] ∧ nv_E (va_A [(h0, .inr (13, [va_rf (o_h0_tape), .int w_h0_taped, .int w_h0_fresh, va_rf (o_h0_programs), va_rf (o_h0_programPool), va_rf (o_h0_assembler), va_rf (o_h0_timeline), va_rf (o_h0_breaks), va_rf (o_h0_conditionPool), va_rf (o_h0_log), .int w_h0_logged, va_rf (o_h0_letters)]))] sz) U)) (va_Qi (fun r u => ((v0 < 0) ∧ r = (-1) ∧ u = [(h0, .inr (13, [va_rf (o_h0_tape), .int w_h0_taped, .int w_h0_fresh, va_rf (o_h0_programs), va_rf (o_h0_programPool), va_rf (o_h0_assembler), va_rf (o_h0_timeline), va_rf (o_h0_breaks), va_rf (o_h0_conditionPool), va_rf (o_h0_log), .int w_h0_logged, va_rf (o_h0_letters)]))]) ∨ ((¬ v0 < 0) ∧ (20 < v0) ∧ r = (-1) ∧ u = [(h0, .inr (13, [va_rf (o_h0_tape), .int w_h0_taped, .int w_h0_fresh, va_rf (o_h0_programs), va_rf (o_h0_programPool), va_rf (o_h0_assembler), va_rf (o_h0_timeline), va_rf (o_h0_breaks), va_rf (o_h0_conditionPool), va_rf (o_h0_log), .int w_h0_logged, va_rf (o_h0_letters)]))]) ∨ ((¬ v0 < 0) ∧ (¬ 20 < v0) ∧ (¬ w_h0_fresh = 0) ∧ r = (w_h0_taped - (20 - v0)) ∧ u = [(h0, .inr (13, [va_rf (o_h0_tape), .int (w_h0_taped - (20 - v0)), .int 0, va_rf (o_h0_programs), va_rf (o_h0_programPool), va_rf (o_h0_assembler), va_rf (o_h0_timeline), va_rf (o_h0_breaks), va_rf (o_h0_conditionPool), va_rf (o_h0_log), .int w_h0_logged, va_rf (o_h0_letters)]))]) ∨ ((¬ v0 < 0) ∧ (¬ 20 < v0) ∧ (w_h0_fresh = 0) ∧ r = (-1) ∧ u = [(h0, .inr (13, [va_rf (o_h0_tape), .int w_h0_taped, .int w_h0_fresh, va_rf (o_h0_programs), va_rf (o_h0_programPool), va_rf (o_h0_assembler), va_rf (o_h0_timeline), va_rf (o_h0_breaks), va_rf (o_h0_conditionPool), va_rf (o_h0_log), .int w_h0_logged, va_rf (o_h0_letters)]))]) ∨ False) (fun (u : va_W) t => va_P (dC, dI) vwCl u t.heap ∧ va_K (dC, dI) vwCl [] t ∧ va_D (va_A [(h0, .inr (13, [va_rf (o_h0_tape), .int w_h0_taped, .int w_h0_fresh, va_rf (o_h0_programs), va_rf (o_h0_programPool), va_rf (o_h0_assembler), va_rf (o_h0_timeline), va_rf (o_h0_breaks), va_rf (o_h0_conditionPool), va_rf (o_h0_log), .int w_h0_logged, va_rf (o_h0_letters)]))] sz) u) (va_A [(h0, .inr (13, [va_rf (o_h0_tape), .int w_h0_taped, .int w_h0_fresh, va_rf (o_h0_programs), va_rf (o_h0_programPool), va_rf (o_h0_assembler), va_rf (o_h0_timeline), va_rf (o_h0_breaks), va_rf (o_h0_conditionPool), va_rf (o_h0_log), .int w_h0_logged, va_rf (o_h0_letters)]))] sz)) 0 0 (va_A [(h0, .inr (13, [va_rf (o_h0_tape), .int w_h0_taped, .int w_h0_fresh, va_rf (o_h0_programs), va_rf (o_h0_programPool), va_rf (o_h0_assembler), va_rf (o_h0_timeline), va_rf (o_h0_breaks), va_rf (o_h0_conditionPool), va_rf (o_h0_log), .int w_h0_logged, va_rf (o_h0_letters)]))] sz) := by
  refine Met.ofW (cc := cX12_end) (maxL := 2) (ret := (some .int)) (by decide) rfl ?_
  intro p e s m args below meth c s₁ B hml hv
  obtain ⟨rfl, hsz, hP, hK, hD0, hN⟩ := hv
  have hx := B.exec
  have hb := B.bytes
  have hr := B.returns
  have hts := atoms_spec (ws := ow_g_X12_end) B.pre
  have hown : s.vm.findClass RX12 = some m.cls := findClass_of_methodNamed B.named
  have hlocks := B.notSynchronized
  subst hsz
  have hD := hD0.self (sz := s.heap.size)
  generalize hAe : va_A [(h0, .inr (13, [va_rf (o_h0_tape), .int w_h0_taped, .int w_h0_fresh, va_rf (o_h0_programs), va_rf (o_h0_programPool), va_rf (o_h0_assembler), va_rf (o_h0_timeline), va_rf (o_h0_breaks), va_rf (o_h0_conditionPool), va_rf (o_h0_log), .int w_h0_logged, va_rf (o_h0_letters)]))] s.heap.size = A at hD hN ⊢
  have hA : ∀ q : Nat, s.heap.size ≤ q → A q := fun q h => by rw [← hAe]; exact Or.inr h
  have hS : va_S A s.heap s.heap [] := va_S.rf
  have hl := lv_entry ([.ref h0, .int v0]) (n := 2) (Nat.le_of_ble_eq_true rfl)
  rw [lg_entry_eq]
  generalize (lg_sl ([.ref h0, .int v0]) ++ List.replicate (2 - (lg_sl ([.ref h0, .int v0])).length) Slot.unset).toArray = ls at hl ⊢
  have hl : lv_has ls 2 [(0, .ref h0), (1, .int v0)] := hl
  refine lv_iload_n hx hb dX12_end_0 rfl (lv_at hl 1 rfl) ?_
  refine lv_if_lt (tgt := 17) hx hb dX12_end_1 (by decide) (fun c_1 => ?_) (fun c_1 => ?_)
  · refine lv_iconst (v := (-1)) hx hb dX12_end_17 (by decide) ?_
    refine W.widen (k := 0) (n := 0) (by decide +kernel) (by decide +kernel) ?_
    exact W.iret (v := (-1)) hx hb hr (fun t ht hW => ⟨⟨(-1), [(h0, .inr (13, [va_rf (o_h0_tape), .int w_h0_taped, .int w_h0_fresh, va_rf (o_h0_programs), va_rf (o_h0_programPool), va_rf (o_h0_assembler), va_rf (o_h0_timeline), va_rf (o_h0_breaks), va_rf (o_h0_conditionPool), va_rf (o_h0_log), .int w_h0_logged, va_rf (o_h0_letters)]))], rfl, Or.inl ⟨c_1, rfl, rfl⟩, by rw [ht]; exact hP.sub (ws' := [(h0, .inr (13, [va_rf (o_h0_tape), .int w_h0_taped, .int w_h0_fresh, va_rf (o_h0_programs), va_rf (o_h0_programPool), va_rf (o_h0_assembler), va_rf (o_h0_timeline), va_rf (o_h0_breaks), va_rf (o_h0_conditionPool), va_rf (o_h0_log), .int w_h0_logged, va_rf (o_h0_letters)]))]) [0] rfl, va_K.moved hW.alike (hK.sub (tys' := []) [] rfl), hD.sub (ws' := [(h0, .inr (13, [va_rf (o_h0_tape), .int w_h0_taped, .int w_h0_fresh, va_rf (o_h0_programs), va_rf (o_h0_programPool), va_rf (o_h0_assembler), va_rf (o_h0_timeline), va_rf (o_h0_breaks), va_rf (o_h0_conditionPool), va_rf (o_h0_log), .int w_h0_logged, va_rf (o_h0_letters)]))]) [0] (by decide) rfl⟩, hS.F ht⟩) hS.2.2 dX12_end_18
  · refine lv_iload_n hx hb dX12_end_4 rfl (lv_at hl 1 rfl) ?_
    refine lv_bipush (v := 20) hx hb dX12_end_5 (by decide) ?_
    refine lv_icmp_gt (tgt := 17) hx hb dX12_end_7 (by decide) (fun c_2 => ?_) (fun c_2 => ?_)
    · refine lv_iconst (v := (-1)) hx hb dX12_end_17 (by decide) ?_
      refine W.widen (k := 0) (n := 0) (by decide +kernel) (by decide +kernel) ?_
      exact W.iret (v := (-1)) hx hb hr (fun t ht hW => ⟨⟨(-1), [(h0, .inr (13, [va_rf (o_h0_tape), .int w_h0_taped, .int w_h0_fresh, va_rf (o_h0_programs), va_rf (o_h0_programPool), va_rf (o_h0_assembler), va_rf (o_h0_timeline), va_rf (o_h0_breaks), va_rf (o_h0_conditionPool), va_rf (o_h0_log), .int w_h0_logged, va_rf (o_h0_letters)]))], rfl, Or.inr (Or.inl ⟨c_1, c_2, rfl, rfl⟩), by rw [ht]; exact hP.sub (ws' := [(h0, .inr (13, [va_rf (o_h0_tape), .int w_h0_taped, .int w_h0_fresh, va_rf (o_h0_programs), va_rf (o_h0_programPool), va_rf (o_h0_assembler), va_rf (o_h0_timeline), va_rf (o_h0_breaks), va_rf (o_h0_conditionPool), va_rf (o_h0_log), .int w_h0_logged, va_rf (o_h0_letters)]))]) [0] rfl, va_K.moved hW.alike (hK.sub (tys' := []) [] rfl), hD.sub (ws' := [(h0, .inr (13, [va_rf (o_h0_tape), .int w_h0_taped, .int w_h0_fresh, va_rf (o_h0_programs), va_rf (o_h0_programPool), va_rf (o_h0_assembler), va_rf (o_h0_timeline), va_rf (o_h0_breaks), va_rf (o_h0_conditionPool), va_rf (o_h0_log), .int w_h0_logged, va_rf (o_h0_letters)]))]) [0] (by decide) rfl⟩, hS.F ht⟩) hS.2.2 dX12_end_18
    · refine lv_aload_n hx hb dX12_end_10 rfl (lv_at hl 0 rfl) ?_
      refine va_get (D := (dC, dI)) (ci := 13) (v := .int w_h0_fresh) (C := RX12) (T := TX12) (N := 12) hx hb hts hi_g_X12_end_X12 hown hK hP 0 rfl rfl 2 (by decide) (hts (.fieldLink RX12 66 "TimeMachine" "fresh" "Z") (List.mem_of_getElem? (i := 1) rfl)) (fun _ h9 => h9) rfl dX12_end_11 ?_
      refine lv_if_ne (tgt := 19) hx hb dX12_end_14 (by decide) (fun c_3 => ?_) (fun c_3 => ?_)
      · refine lv_aload_n hx hb dX12_end_19 rfl (lv_at hl 0 rfl) ?_
        refine lv_dup hx hb dX12_end_20 rfl ?_
        refine va_get (D := (dC, dI)) (ci := 13) (v := .int w_h0_taped) (C := RX12) (T := TX12) (N := 12) hx hb hts hi_g_X12_end_X12 hown hK hP 0 rfl rfl 1 (by decide) (hts (.fieldLink RX12 58 "TimeMachine" "taped" "I") (List.mem_of_getElem? (i := 2) rfl)) (fun _ h9 => h9) rfl dX12_end_21 ?_
        refine lv_bipush (v := 20) hx hb dX12_end_24 (by decide) ?_
        refine lv_iload_n hx hb dX12_end_26 rfl (lv_at hl 1 rfl) ?_
        refine lv_isub hx hb dX12_end_27 ?_
        refine lv_isub hx hb dX12_end_28 ?_
        refine va_put (D := (dC, dI)) (ci := 13) (v := .int (w_h0_taped - (20 - v0))) (ty := .int) (C := RX12) (T := TX12) (N := 12) hx hb hts hi_g_X12_end_X12 tyX12 tyX12_ok nmX12 hown hK hP hD hS 0 rfl rfl 1 (by decide) (hts (.fieldLink RX12 58 "TimeMachine" "taped" "I") (List.mem_of_getElem? (i := 2) rfl)) (fun _ h9 => h9) rfl (by decide +kernel) rfl rfl (Nat.le_of_ble_eq_true rfl) dX12_end_29 (fun H locs hP hD hS => ?_)
        have hP : va_P (dC, dI) vwCl [(h0, .inr (13, [va_rf (o_h0_tape), .int (w_h0_taped - (20 - v0)), .int w_h0_fresh, va_rf (o_h0_programs), va_rf (o_h0_programPool), va_rf (o_h0_assembler), va_rf (o_h0_timeline), va_rf (o_h0_breaks), va_rf (o_h0_conditionPool), va_rf (o_h0_log), .int w_h0_logged, va_rf (o_h0_letters)]))] H := hP
        have hD : va_D A [(h0, .inr (13, [va_rf (o_h0_tape), .int (w_h0_taped - (20 - v0)), .int w_h0_fresh, va_rf (o_h0_programs), va_rf (o_h0_programPool), va_rf (o_h0_assembler), va_rf (o_h0_timeline), va_rf (o_h0_breaks), va_rf (o_h0_conditionPool), va_rf (o_h0_log), .int w_h0_logged, va_rf (o_h0_letters)]))] := hD
        refine lv_aload_n hx hb dX12_end_32 rfl (lv_at hl 0 rfl) ?_
        refine lv_iconst (v := 0) hx hb dX12_end_33 (by decide) ?_
        refine va_put (D := (dC, dI)) (ci := 13) (v := .int 0) (ty := .boolean) (C := RX12) (T := TX12) (N := 12) hx hb hts hi_g_X12_end_X12 tyX12 tyX12_ok nmX12 hown hK hP hD hS 0 rfl rfl 2 (by decide) (hts (.fieldLink RX12 66 "TimeMachine" "fresh" "Z") (List.mem_of_getElem? (i := 1) rfl)) (fun _ h9 => h9) rfl (by decide +kernel) rfl rfl (Nat.le_of_ble_eq_true rfl) dX12_end_34 (fun H locs hP hD hS => ?_)
        have hP : va_P (dC, dI) vwCl [(h0, .inr (13, [va_rf (o_h0_tape), .int (w_h0_taped - (20 - v0)), .int 0, va_rf (o_h0_programs), va_rf (o_h0_programPool), va_rf (o_h0_assembler), va_rf (o_h0_timeline), va_rf (o_h0_breaks), va_rf (o_h0_conditionPool), va_rf (o_h0_log), .int w_h0_logged, va_rf (o_h0_letters)]))] H := hP
        have hD : va_D A [(h0, .inr (13, [va_rf (o_h0_tape), .int (w_h0_taped - (20 - v0)), .int 0, va_rf (o_h0_programs), va_rf (o_h0_programPool), va_rf (o_h0_assembler), va_rf (o_h0_timeline), va_rf (o_h0_breaks), va_rf (o_h0_conditionPool), va_rf (o_h0_log), .int w_h0_logged, va_rf (o_h0_letters)]))] := hD
        refine lv_aload_n hx hb dX12_end_37 rfl (lv_at hl 0 rfl) ?_
        refine va_get (D := (dC, dI)) (ci := 13) (v := .int (w_h0_taped - (20 - v0))) (C := RX12) (T := TX12) (N := 12) hx hb hts hi_g_X12_end_X12 hown hK hP 0 rfl rfl 1 (by decide) (hts (.fieldLink RX12 58 "TimeMachine" "taped" "I") (List.mem_of_getElem? (i := 2) rfl)) (fun _ h9 => h9) rfl dX12_end_38 ?_
        refine W.widen (k := 0) (n := 0) (by decide +kernel) (by decide +kernel) ?_
        exact W.iret (v := (w_h0_taped - (20 - v0))) hx hb hr (fun t ht hW => ⟨⟨(w_h0_taped - (20 - v0)), [(h0, .inr (13, [va_rf (o_h0_tape), .int (w_h0_taped - (20 - v0)), .int 0, va_rf (o_h0_programs), va_rf (o_h0_programPool), va_rf (o_h0_assembler), va_rf (o_h0_timeline), va_rf (o_h0_breaks), va_rf (o_h0_conditionPool), va_rf (o_h0_log), .int w_h0_logged, va_rf (o_h0_letters)]))], rfl, Or.inr (Or.inr (Or.inl ⟨c_1, c_2, c_3, rfl, rfl⟩)), by rw [ht]; exact hP.sub (ws' := [(h0, .inr (13, [va_rf (o_h0_tape), .int (w_h0_taped - (20 - v0)), .int 0, va_rf (o_h0_programs), va_rf (o_h0_programPool), va_rf (o_h0_assembler), va_rf (o_h0_timeline), va_rf (o_h0_breaks), va_rf (o_h0_conditionPool), va_rf (o_h0_log), .int w_h0_logged, va_rf (o_h0_letters)]))]) [0] rfl, va_K.moved hW.alike (hK.sub (tys' := []) [] rfl), hD.sub (ws' := [(h0, .inr (13, [va_rf (o_h0_tape), .int (w_h0_taped - (20 - v0)), .int 0, va_rf (o_h0_programs), va_rf (o_h0_programPool), va_rf (o_h0_assembler), va_rf (o_h0_timeline), va_rf (o_h0_breaks), va_rf (o_h0_conditionPool), va_rf (o_h0_log), .int w_h0_logged, va_rf (o_h0_letters)]))]) [0] (by decide) rfl⟩, hS.F ht⟩) hS.2.2 dX12_end_41
      · refine lv_iconst (v := (-1)) hx hb dX12_end_17 (by decide) ?_
        refine W.widen (k := 0) (n := 0) (by decide +kernel) (by decide +kernel) ?_
        exact W.iret (v := (-1)) hx hb hr (fun t ht hW => ⟨⟨(-1), [(h0, .inr (13, [va_rf (o_h0_tape), .int w_h0_taped, .int w_h0_fresh, va_rf (o_h0_programs), va_rf (o_h0_programPool), va_rf (o_h0_assembler), va_rf (o_h0_timeline), va_rf (o_h0_breaks), va_rf (o_h0_conditionPool), va_rf (o_h0_log), .int w_h0_logged, va_rf (o_h0_letters)]))], rfl, Or.inr (Or.inr (Or.inr (Or.inl ⟨c_1, c_2, c_3, rfl, rfl⟩))), by rw [ht]; exact hP.sub (ws' := [(h0, .inr (13, [va_rf (o_h0_tape), .int w_h0_taped, .int w_h0_fresh, va_rf (o_h0_programs), va_rf (o_h0_programPool), va_rf (o_h0_assembler), va_rf (o_h0_timeline), va_rf (o_h0_breaks), va_rf (o_h0_conditionPool), va_rf (o_h0_log), .int w_h0_logged, va_rf (o_h0_letters)]))]) [0] rfl, va_K.moved hW.alike (hK.sub (tys' := []) [] rfl), hD.sub (ws' := [(h0, .inr (13, [va_rf (o_h0_tape), .int w_h0_taped, .int w_h0_fresh, va_rf (o_h0_programs), va_rf (o_h0_programPool), va_rf (o_h0_assembler), va_rf (o_h0_timeline), va_rf (o_h0_breaks), va_rf (o_h0_conditionPool), va_rf (o_h0_log), .int w_h0_logged, va_rf (o_h0_letters)]))]) [0] (by decide) rfl⟩, hS.F ht⟩) hS.2.2 dX12_end_18
def ow_k_X19_in_v4 : List Cond := .code yX19_in cX19_in 6 (some .boolean) :: ([] ++ [])
theorem gd_k_X19_in_v4 : ∀ w ∈ ow_k_X19_in_v4, (w.onTables && w.keeps) = true ∨ ∃ ty, w = Cond.arrayClass ty := List.forall_mem_cons.mpr ⟨good_of_word rfl, List.forall_mem_append.mpr ⟨fun w h => good_of_word (List.all_eq_true.mp (by decide +kernel) w h), fun _ h => nomatch h⟩⟩
set_option maxHeartbeats 40000000 in
set_option maxRecDepth 100000 in
theorem k_X19_in_v4 (l : Launch) (hlt : l.stackTraces = false) (dC : Nat → ClassId) (dI : Nat → Nat → Nat) (c0 : Int32) (sz : Nat) : Met l yX19_in ow_k_X19_in_v4 ({ frames := 0, cells := 0, slots := 0, locals := 0 }) (va_Pc [.long (c0.toInt64), .long 0, .long 20] (fun U => U.heap.size = sz ∧ va_P (dC, dI) vwCl [] U.heap ∧ va_K (dC, dI) vwCl [] U ∧ va_D (fun _ => True) [] ∧ nv_E (va_A [] sz) U)) (va_Qi (fun r _ => ((c0 < 0) ∧ r = 0) ∨ ((¬ c0 < 0) ∧ (20 < c0) ∧ r = 0) ∨ ((¬ c0 < 0) ∧ (¬ 20 < c0) ∧ r = 1) ∨ False) (fun (_ : Unit) t => va_P (dC, dI) vwCl [] t.heap ∧ va_K (dC, dI) vwCl [] t ∧ va_D (va_A [] sz) []) (va_A [] sz)) 0 0 (va_A [] sz) := by
  refine Met.ofW (cc := cX19_in) (maxL := 6) (ret := (some .boolean)) (by decide) rfl ?_
  intro p e s m args below meth c s₁ B hml hv
  obtain ⟨rfl, hsz, hP, hK, hD0, hN⟩ := hv
  have hx := B.exec
  have hb := B.bytes
  have hr := B.returns
  have hts := atoms_spec (ws := ow_k_X19_in_v4) B.pre
  have hown : s.vm.findClass RX19 = some m.cls := findClass_of_methodNamed B.named
  have hlocks := B.notSynchronized
  subst hsz
  have hD := hD0.self (sz := s.heap.size)
  generalize hAe : va_A [] s.heap.size = A at hD hN ⊢
  have hA : ∀ q : Nat, s.heap.size ≤ q → A q := fun q h => by rw [← hAe]; exact Or.inr h
  have hS : va_S A s.heap s.heap [] := va_S.rf
  have hl := lv_entry ([.long (c0.toInt64), .long 0, .long 20]) (n := 6) (Nat.le_of_ble_eq_true rfl)
  rw [lg_entry_eq]
  generalize (lg_sl ([.long (c0.toInt64), .long 0, .long 20]) ++ List.replicate (6 - (lg_sl ([.long (c0.toInt64), .long 0, .long 20])).length) Slot.unset).toArray = ls at hl ⊢
  have hl : lv_has ls 6 [(0, .long (c0.toInt64)), (2, .long 0), (4, .long 20)] := hl
  refine lv_lload_n hx hb dX19_in_0 rfl (lv_at hl 0 rfl) ?_
  refine lv_lload_n hx hb dX19_in_1 rfl (lv_at hl 1 rfl) ?_
  refine W.lcmp hx hb dX19_in_2 ?_
  refine lv_if_lt (tgt := 17) hx hb dX19_in_3 (by decide) (fun h9 => (fun (c_1 : c0 < 0) => ?_) ((nv_ci_lt (x := c0) (k := 0) (K := 0) (by decide)).mp h9)) (fun h9 => (fun (c_1 : ¬ c0 < 0) => ?_) (fun h8 => h9 ((nv_ci_lt (x := c0) (k := 0) (K := 0) (by decide)).mpr h8)))
  · refine lv_iconst (v := 0) hx hb dX19_in_17 (by decide) ?_
    refine W.widen (k := 0) (n := 0) (by decide +kernel) (by decide +kernel) ?_
    exact W.zret (v := 0) hx hb hr (by first | rfl | decide) (fun t ht hW => ⟨⟨0, (), rfl, Or.inl ⟨c_1, rfl⟩, by rw [ht]; exact hP, va_K.moved hW.alike hK, hD⟩, hS.F ht⟩) hS.2.2 dX19_in_18
  · refine lv_lload_n hx hb dX19_in_6 rfl (lv_at hl 0 rfl) ?_
    refine lv_lload hx hb dX19_in_7 (lv_at hl 2 rfl) ?_
    refine W.lcmp hx hb dX19_in_9 ?_
    refine lv_if_gt (tgt := 17) hx hb dX19_in_10 (by decide) (fun h9 => (fun (c_2 : 20 < c0) => ?_) ((nv_ci_gt (x := c0) (k := 20) (K := 20) (by decide)).mp h9)) (fun h9 => (fun (c_2 : ¬ 20 < c0) => ?_) (fun h8 => h9 ((nv_ci_gt (x := c0) (k := 20) (K := 20) (by decide)).mpr h8)))
    · refine lv_iconst (v := 0) hx hb dX19_in_17 (by decide) ?_
      refine W.widen (k := 0) (n := 0) (by decide +kernel) (by decide +kernel) ?_
      exact W.zret (v := 0) hx hb hr (by first | rfl | decide) (fun t ht hW => ⟨⟨0, (), rfl, Or.inr (Or.inl ⟨c_1, c_2, rfl⟩), by rw [ht]; exact hP, va_K.moved hW.alike hK, hD⟩, hS.F ht⟩) hS.2.2 dX19_in_18
    · refine lv_iconst (v := 1) hx hb dX19_in_13 (by decide) ?_
      refine lv_goto (tgt := 18) hx hb dX19_in_14 (by decide) ?_
      refine W.widen (k := 0) (n := 0) (by decide +kernel) (by decide +kernel) ?_
      exact W.zret (v := 1) hx hb hr (by first | rfl | decide) (fun t ht hW => ⟨⟨1, (), rfl, Or.inr (Or.inr (Or.inl ⟨c_1, c_2, rfl⟩)), by rw [ht]; exact hP, va_K.moved hW.alike hK, hD⟩, hS.F ht⟩) hS.2.2 dX19_in_18
def ow_g_X19_end : List Cond := .code yX19_end cX19_end 2 (some .int) :: ([.fieldLink RX19 113 "TimeMachineModel" "code" "I", .fieldLink RX19 120 "TimeMachineModel" "fed" "Z", .constantLong RX19 124 (20), .methodLink RX19 126 yX19_in, .static yX19_in, .initialized RX19, .fieldLink RX19 117 "TimeMachineModel" "taped" "I"] ++ (u_ws RX19 TX19 36 ++ (ow_k_X19_in_v4 ++ [])))
theorem gd_g_X19_end : ∀ w ∈ ow_g_X19_end, (w.onTables && w.keeps) = true ∨ ∃ ty, w = Cond.arrayClass ty := List.forall_mem_cons.mpr ⟨good_of_word rfl, List.forall_mem_append.mpr ⟨fun w h => good_of_word (List.all_eq_true.mp (by decide +kernel) w h), List.forall_mem_append.mpr ⟨gu_X19, List.forall_mem_append.mpr ⟨gd_k_X19_in_v4, fun _ h => nomatch h⟩⟩⟩⟩
theorem hi_g_X19_end_X19 : ∀ w ∈ u_ws RX19 TX19 36, w ∈ ow_g_X19_end := fun w h => List.mem_cons_of_mem _ (List.mem_append_right _ (List.mem_append_left _ h))
theorem gi_g_X19_end_0 : GoodIn ow_g_X19_end (wsS RX19 126 yX19_in ow_k_X19_in_v4) := goodIn_app (goodIn_of _ (by decide +kernel)) (fun w h => ⟨List.mem_cons_of_mem _ (List.mem_append_right _ (List.mem_append_right _ (List.mem_append_left _ h))), gd_k_X19_in_v4 w h⟩)
set_option maxHeartbeats 40000000 in
set_option maxRecDepth 100000 in
theorem g_X19_end (l : Launch) (hlt : l.stackTraces = false) (dC : Nat → ClassId) (dI : Nat → Nat → Nat) (h0 : Nat) (v0 : Int32) (w_h0_code : Int32) (o_h0_tape : Option Nat) (w_h0_taped : Int32) (w_h0_fed : Int32) (o_h0_isProgram : Option Nat) (o_h0_text : Option Nat) (o_h0_data : Option Nat) (o_h0_ends : Option Nat) (o_h0_constants : Option Nat) (o_h0_images : Option Nat) (o_h0_labels : Option Nat) (o_h0_booting : Option Nat) (o_h0_assembler : Option Nat) (o_h0_m : Option Nat) (o_h0_conditions : Option Nat) (o_h0_codec : Option Nat) (o_h0_reader : Option Nat) (w_h0_booted : Int32) (w_h0_program : Int32) (w_h0_now : Int32) (w_h0_end : Int32) (w_h0_why : Int32) (w_h0_events : Int32) (w_h0_scheduled : Int32) (w_h0_taken : Int32) (w_h0_refused : Int32) (o_h0_kind : Option Nat) (o_h0_b : Option Nat) (o_h0_when : Option Nat) (o_h0_laterKind : Option Nat) (o_h0_laterB : Option Nat) (o_h0_a : Option Nat) (o_h0_laterA : Option Nat) (o_h0_laterWhen : Option Nat) (o_h0_log : Option Nat) (w_h0_logged : Int32) (sz : Nat) : Met l yX19_end ow_g_X19_end ({ frames := 1, cells := 0, slots := 0, locals := 25 }) (va_Pc [.ref h0, .int v0] (fun U => U.heap.size = sz ∧ va_P (dC, dI) vwCl [(h0, .inr (20, [.int w_h0_code, va_rf (o_h0_tape), .int w_h0_taped, .int w_h0_fed, va_rf (o_h0_isProgram), va_rf (o_h0_text), va_rf (o_h0_data), va_rf (o_h0_ends), va_rf (o_h0_constants), va_rf (o_h0_images), va_rf (o_h0_labels), va_rf (o_h0_booting), va_rf (o_h0_assembler), va_rf (o_h0_m), va_rf (o_h0_conditions), va_rf (o_h0_codec), va_rf (o_h0_reader), .int w_h0_booted, .int w_h0_program, .int w_h0_now, .int w_h0_end, .int w_h0_why, .int w_h0_events, .int w_h0_scheduled, .int w_h0_taken, .int w_h0_refused, va_rf (o_h0_kind), va_rf (o_h0_b), va_rf (o_h0_when), va_rf (o_h0_laterKind), va_rf (o_h0_laterB), va_rf (o_h0_a), va_rf (o_h0_laterA), va_rf (o_h0_laterWhen), va_rf (o_h0_log), .int w_h0_logged]))] U.heap ∧ va_K (dC, dI) vwCl [] U ∧ va_D (fun _ => True) [(h0, .inr (20, [.int w_h0_code, va_rf (o_h0_tape), .int w_h0_taped, .int w_h0_fed, va_rf (o_h0_isProgram), va_rf (o_h0_text), va_rf (o_h0_data), va_rf (o_h0_ends), va_rf (o_h0_constants), va_rf (o_h0_images), va_rf (o_h0_labels), va_rf (o_h0_booting), va_rf (o_h0_assembler), va_rf (o_h0_m), va_rf (o_h0_conditions), va_rf (o_h0_codec), va_rf (o_h0_reader), .int w_h0_booted, .int w_h0_program, .int w_h0_now, .int w_h0_end, .int w_h0_why, .int w_h0_events, .int w_h0_scheduled, .int w_h0_taken, .int w_h0_refused, va_rf (o_h0_kind), va_rf (o_h0_b), va_rf (o_h0_when), va_rf (o_h0_laterKind), va_rf (o_h0_laterB), va_rf (o_h0_a), va_rf (o_h0_laterA), va_rf (o_h0_laterWhen), va_rf (o_h0_log), .int w_h0_logged]))] ∧ nv_E (va_A [(h0, .inr (20, [.int w_h0_code, va_rf (o_h0_tape), .int w_h0_taped, .int w_h0_fed, va_rf (o_h0_isProgram), va_rf (o_h0_text), va_rf (o_h0_data), va_rf (o_h0_ends), va_rf (o_h0_constants), va_rf (o_h0_images), va_rf (o_h0_labels), va_rf (o_h0_booting), va_rf (o_h0_assembler), va_rf (o_h0_m), va_rf (o_h0_conditions), va_rf (o_h0_codec), va_rf (o_h0_reader), .int w_h0_booted, .int w_h0_program, .int w_h0_now, .int w_h0_end, .int w_h0_why, .int w_h0_events, .int w_h0_scheduled, .int w_h0_taken, .int w_h0_refused, va_rf (o_h0_kind), va_rf (o_h0_b), va_rf (o_h0_when), va_rf (o_h0_laterKind), va_rf (o_h0_laterB), va_rf (o_h0_a), va_rf (o_h0_laterA), va_rf (o_h0_laterWhen), va_rf (o_h0_log), .int w_h0_logged]))] sz) U)) (va_Qi (fun r u => ((w_h0_fed = 0) ∧ r = (-1) ∧ u = [(h0, .inr (20, [.int 0, va_rf (o_h0_tape), .int w_h0_taped, .int w_h0_fed, va_rf (o_h0_isProgram), va_rf (o_h0_text), va_rf (o_h0_data), va_rf (o_h0_ends), va_rf (o_h0_constants), va_rf (o_h0_images), va_rf (o_h0_labels), va_rf (o_h0_booting), va_rf (o_h0_assembler), va_rf (o_h0_m), va_rf (o_h0_conditions), va_rf (o_h0_codec), va_rf (o_h0_reader), .int w_h0_booted, .int w_h0_program, .int w_h0_now, .int w_h0_end, .int w_h0_why, .int w_h0_events, .int w_h0_scheduled, .int w_h0_taken, .int w_h0_refused, va_rf (o_h0_kind), va_rf (o_h0_b), va_rf (o_h0_when), va_rf (o_h0_laterKind), va_rf (o_h0_laterB), va_rf (o_h0_a), va_rf (o_h0_laterA), va_rf (o_h0_laterWhen), va_rf (o_h0_log), .int w_h0_logged]))]) ∨ ((¬ w_h0_fed = 0) ∧ (v0 < 0) ∧ r = (-1) ∧ u = [(h0, .inr (20, [.int 0, va_rf (o_h0_tape), .int w_h0_taped, .int w_h0_fed, va_rf (o_h0_isProgram), va_rf (o_h0_text), va_rf (o_h0_data), va_rf (o_h0_ends), va_rf (o_h0_constants), va_rf (o_h0_images), va_rf (o_h0_labels), va_rf (o_h0_booting), va_rf (o_h0_assembler), va_rf (o_h0_m), va_rf (o_h0_conditions), va_rf (o_h0_codec), va_rf (o_h0_reader), .int w_h0_booted, .int w_h0_program, .int w_h0_now, .int w_h0_end, .int w_h0_why, .int w_h0_events, .int w_h0_scheduled, .int w_h0_taken, .int w_h0_refused, va_rf (o_h0_kind), va_rf (o_h0_b), va_rf (o_h0_when), va_rf (o_h0_laterKind), va_rf (o_h0_laterB), va_rf (o_h0_a), va_rf (o_h0_laterA), va_rf (o_h0_laterWhen), va_rf (o_h0_log), .int w_h0_logged]))]) ∨ ((¬ w_h0_fed = 0) ∧ (¬ v0 < 0) ∧ (20 < v0) ∧ r = (-1) ∧ u = [(h0, .inr (20, [.int 0, va_rf (o_h0_tape), .int w_h0_taped, .int w_h0_fed, va_rf (o_h0_isProgram), va_rf (o_h0_text), va_rf (o_h0_data), va_rf (o_h0_ends), va_rf (o_h0_constants), va_rf (o_h0_images), va_rf (o_h0_labels), va_rf (o_h0_booting), va_rf (o_h0_assembler), va_rf (o_h0_m), va_rf (o_h0_conditions), va_rf (o_h0_codec), va_rf (o_h0_reader), .int w_h0_booted, .int w_h0_program, .int w_h0_now, .int w_h0_end, .int w_h0_why, .int w_h0_events, .int w_h0_scheduled, .int w_h0_taken, .int w_h0_refused, va_rf (o_h0_kind), va_rf (o_h0_b), va_rf (o_h0_when), va_rf (o_h0_laterKind), va_rf (o_h0_laterB), va_rf (o_h0_a), va_rf (o_h0_laterA), va_rf (o_h0_laterWhen), va_rf (o_h0_log), .int w_h0_logged]))]) ∨ ((¬ w_h0_fed = 0) ∧ (¬ v0 < 0) ∧ (¬ 20 < v0) ∧ r = (w_h0_taped - (20 - v0)) ∧ u = [(h0, .inr (20, [.int 0, va_rf (o_h0_tape), .int (w_h0_taped - (20 - v0)), .int 0, va_rf (o_h0_isProgram), va_rf (o_h0_text), va_rf (o_h0_data), va_rf (o_h0_ends), va_rf (o_h0_constants), va_rf (o_h0_images), va_rf (o_h0_labels), va_rf (o_h0_booting), va_rf (o_h0_assembler), va_rf (o_h0_m), va_rf (o_h0_conditions), va_rf (o_h0_codec), va_rf (o_h0_reader), .int w_h0_booted, .int w_h0_program, .int w_h0_now, .int w_h0_end, .int w_h0_why, .int w_h0_events, .int w_h0_scheduled, .int w_h0_taken, .int w_h0_refused, va_rf (o_h0_kind), va_rf (o_h0_b), va_rf (o_h0_when), va_rf (o_h0_laterKind), va_rf (o_h0_laterB), va_rf (o_h0_a), va_rf (o_h0_laterA), va_rf (o_h0_laterWhen), va_rf (o_h0_log), .int w_h0_logged]))]) ∨ False) (fun (u : va_W) t => va_P (dC, dI) vwCl u t.heap ∧ va_K (dC, dI) vwCl [] t ∧ va_D (va_A [(h0, .inr (20, [.int w_h0_code, va_rf (o_h0_tape), .int w_h0_taped, .int w_h0_fed, va_rf (o_h0_isProgram), va_rf (o_h0_text), va_rf (o_h0_data), va_rf (o_h0_ends), va_rf (o_h0_constants), va_rf (o_h0_images), va_rf (o_h0_labels), va_rf (o_h0_booting), va_rf (o_h0_assembler), va_rf (o_h0_m), va_rf (o_h0_conditions), va_rf (o_h0_codec), va_rf (o_h0_reader), .int w_h0_booted, .int w_h0_program, .int w_h0_now, .int w_h0_end, .int w_h0_why, .int w_h0_events, .int w_h0_scheduled, .int w_h0_taken, .int w_h0_refused, va_rf (o_h0_kind), va_rf (o_h0_b), va_rf (o_h0_when), va_rf (o_h0_laterKind), va_rf (o_h0_laterB), va_rf (o_h0_a), va_rf (o_h0_laterA), va_rf (o_h0_laterWhen), va_rf (o_h0_log), .int w_h0_logged]))] sz) u) (va_A [(h0, .inr (20, [.int w_h0_code, va_rf (o_h0_tape), .int w_h0_taped, .int w_h0_fed, va_rf (o_h0_isProgram), va_rf (o_h0_text), va_rf (o_h0_data), va_rf (o_h0_ends), va_rf (o_h0_constants), va_rf (o_h0_images), va_rf (o_h0_labels), va_rf (o_h0_booting), va_rf (o_h0_assembler), va_rf (o_h0_m), va_rf (o_h0_conditions), va_rf (o_h0_codec), va_rf (o_h0_reader), .int w_h0_booted, .int w_h0_program, .int w_h0_now, .int w_h0_end, .int w_h0_why, .int w_h0_events, .int w_h0_scheduled, .int w_h0_taken, .int w_h0_refused, va_rf (o_h0_kind), va_rf (o_h0_b), va_rf (o_h0_when), va_rf (o_h0_laterKind), va_rf (o_h0_laterB), va_rf (o_h0_a), va_rf (o_h0_laterA), va_rf (o_h0_laterWhen), va_rf (o_h0_log), .int w_h0_logged]))] sz)) 0 0 (va_A [(h0, .inr (20, [.int w_h0_code, va_rf (o_h0_tape), .int w_h0_taped, .int w_h0_fed, va_rf (o_h0_isProgram), va_rf (o_h0_text), va_rf (o_h0_data), va_rf (o_h0_ends), va_rf (o_h0_constants), va_rf (o_h0_images), va_rf (o_h0_labels), va_rf (o_h0_booting), va_rf (o_h0_assembler), va_rf (o_h0_m), va_rf (o_h0_conditions), va_rf (o_h0_codec), va_rf (o_h0_reader), .int w_h0_booted, .int w_h0_program, .int w_h0_now, .int w_h0_end, .int w_h0_why, .int w_h0_events, .int w_h0_scheduled, .int w_h0_taken, .int w_h0_refused, va_rf (o_h0_kind), va_rf (o_h0_b), va_rf (o_h0_when), va_rf (o_h0_laterKind), va_rf (o_h0_laterB), va_rf (o_h0_a), va_rf (o_h0_laterA), va_rf (o_h0_laterWhen), va_rf (o_h0_log), .int w_h0_logged]))] sz) := by
  refine Met.ofW (cc := cX19_end) (maxL := 2) (ret := (some .int)) (by decide) rfl ?_
  intro p e s m args below meth c s₁ B hml hv
  obtain ⟨rfl, hsz, hP, hK, hD0, hN⟩ := hv
  have hx := B.exec
  have hb := B.bytes
  have hr := B.returns
  have hts := atoms_spec (ws := ow_g_X19_end) B.pre
  have hown : s.vm.findClass RX19 = some m.cls := findClass_of_methodNamed B.named
  have hlocks := B.notSynchronized
  subst hsz
  have hD := hD0.self (sz := s.heap.size)
  generalize hAe : va_A [(h0, .inr (20, [.int w_h0_code, va_rf (o_h0_tape), .int w_h0_taped, .int w_h0_fed, va_rf (o_h0_isProgram), va_rf (o_h0_text), va_rf (o_h0_data), va_rf (o_h0_ends), va_rf (o_h0_constants), va_rf (o_h0_images), va_rf (o_h0_labels), va_rf (o_h0_booting), va_rf (o_h0_assembler), va_rf (o_h0_m), va_rf (o_h0_conditions), va_rf (o_h0_codec), va_rf (o_h0_reader), .int w_h0_booted, .int w_h0_program, .int w_h0_now, .int w_h0_end, .int w_h0_why, .int w_h0_events, .int w_h0_scheduled, .int w_h0_taken, .int w_h0_refused, va_rf (o_h0_kind), va_rf (o_h0_b), va_rf (o_h0_when), va_rf (o_h0_laterKind), va_rf (o_h0_laterB), va_rf (o_h0_a), va_rf (o_h0_laterA), va_rf (o_h0_laterWhen), va_rf (o_h0_log), .int w_h0_logged]))] s.heap.size = A at hD hN ⊢
  have hA : ∀ q : Nat, s.heap.size ≤ q → A q := fun q h => by rw [← hAe]; exact Or.inr h
  have hS : va_S A s.heap s.heap [] := va_S.rf
  have hl := lv_entry ([.ref h0, .int v0]) (n := 2) (Nat.le_of_ble_eq_true rfl)
  rw [lg_entry_eq]
  generalize (lg_sl ([.ref h0, .int v0]) ++ List.replicate (2 - (lg_sl ([.ref h0, .int v0])).length) Slot.unset).toArray = ls at hl ⊢
  have hl : lv_has ls 2 [(0, .ref h0), (1, .int v0)] := hl
  refine lv_aload_n hx hb dX19_end_0 rfl (lv_at hl 0 rfl) ?_
  refine lv_iconst (v := 0) hx hb dX19_end_1 (by decide) ?_
  refine va_put (D := (dC, dI)) (ci := 20) (v := .int 0) (ty := .int) (C := RX19) (T := TX19) (N := 36) hx hb hts hi_g_X19_end_X19 tyX19 tyX19_ok nmX19 hown hK hP hD hS 0 rfl rfl 0 (by decide) (hts (.fieldLink RX19 113 "TimeMachineModel" "code" "I") (List.mem_of_getElem? (i := 1) rfl)) (fun _ h9 => h9) rfl (by decide +kernel) rfl rfl (Nat.le_of_ble_eq_true rfl) dX19_end_2 (fun H locs hP hD hS => ?_)
  have hP : va_P (dC, dI) vwCl [(h0, .inr (20, [.int 0, va_rf (o_h0_tape), .int w_h0_taped, .int w_h0_fed, va_rf (o_h0_isProgram), va_rf (o_h0_text), va_rf (o_h0_data), va_rf (o_h0_ends), va_rf (o_h0_constants), va_rf (o_h0_images), va_rf (o_h0_labels), va_rf (o_h0_booting), va_rf (o_h0_assembler), va_rf (o_h0_m), va_rf (o_h0_conditions), va_rf (o_h0_codec), va_rf (o_h0_reader), .int w_h0_booted, .int w_h0_program, .int w_h0_now, .int w_h0_end, .int w_h0_why, .int w_h0_events, .int w_h0_scheduled, .int w_h0_taken, .int w_h0_refused, va_rf (o_h0_kind), va_rf (o_h0_b), va_rf (o_h0_when), va_rf (o_h0_laterKind), va_rf (o_h0_laterB), va_rf (o_h0_a), va_rf (o_h0_laterA), va_rf (o_h0_laterWhen), va_rf (o_h0_log), .int w_h0_logged]))] H := hP
  have hD : va_D A [(h0, .inr (20, [.int 0, va_rf (o_h0_tape), .int w_h0_taped, .int w_h0_fed, va_rf (o_h0_isProgram), va_rf (o_h0_text), va_rf (o_h0_data), va_rf (o_h0_ends), va_rf (o_h0_constants), va_rf (o_h0_images), va_rf (o_h0_labels), va_rf (o_h0_booting), va_rf (o_h0_assembler), va_rf (o_h0_m), va_rf (o_h0_conditions), va_rf (o_h0_codec), va_rf (o_h0_reader), .int w_h0_booted, .int w_h0_program, .int w_h0_now, .int w_h0_end, .int w_h0_why, .int w_h0_events, .int w_h0_scheduled, .int w_h0_taken, .int w_h0_refused, va_rf (o_h0_kind), va_rf (o_h0_b), va_rf (o_h0_when), va_rf (o_h0_laterKind), va_rf (o_h0_laterB), va_rf (o_h0_a), va_rf (o_h0_laterA), va_rf (o_h0_laterWhen), va_rf (o_h0_log), .int w_h0_logged]))] := hD
  refine lv_aload_n hx hb dX19_end_5 rfl (lv_at hl 0 rfl) ?_
  refine va_get (D := (dC, dI)) (ci := 20) (v := .int w_h0_fed) (C := RX19) (T := TX19) (N := 36) hx hb hts hi_g_X19_end_X19 hown hK hP 0 rfl rfl 3 (by decide) (hts (.fieldLink RX19 120 "TimeMachineModel" "fed" "Z") (List.mem_of_getElem? (i := 2) rfl)) (fun _ h9 => h9) rfl dX19_end_6 ?_
  refine lv_if_eq (tgt := 24) hx hb dX19_end_9 (by decide) (fun c_1 => ?_) (fun c_1 => ?_)
  · refine lv_iconst (v := (-1)) hx hb dX19_end_24 (by decide) ?_
    refine W.widen (k := 0) (n := 0) (by decide +kernel) (by decide +kernel) ?_
    exact W.iret (v := (-1)) hx hb hr (fun t ht hW => ⟨⟨(-1), [(h0, .inr (20, [.int 0, va_rf (o_h0_tape), .int w_h0_taped, .int w_h0_fed, va_rf (o_h0_isProgram), va_rf (o_h0_text), va_rf (o_h0_data), va_rf (o_h0_ends), va_rf (o_h0_constants), va_rf (o_h0_images), va_rf (o_h0_labels), va_rf (o_h0_booting), va_rf (o_h0_assembler), va_rf (o_h0_m), va_rf (o_h0_conditions), va_rf (o_h0_codec), va_rf (o_h0_reader), .int w_h0_booted, .int w_h0_program, .int w_h0_now, .int w_h0_end, .int w_h0_why, .int w_h0_events, .int w_h0_scheduled, .int w_h0_taken, .int w_h0_refused, va_rf (o_h0_kind), va_rf (o_h0_b), va_rf (o_h0_when), va_rf (o_h0_laterKind), va_rf (o_h0_laterB), va_rf (o_h0_a), va_rf (o_h0_laterA), va_rf (o_h0_laterWhen), va_rf (o_h0_log), .int w_h0_logged]))], rfl, Or.inl ⟨c_1, rfl, rfl⟩, by rw [ht]; exact hP.sub (ws' := [(h0, .inr (20, [.int 0, va_rf (o_h0_tape), .int w_h0_taped, .int w_h0_fed, va_rf (o_h0_isProgram), va_rf (o_h0_text), va_rf (o_h0_data), va_rf (o_h0_ends), va_rf (o_h0_constants), va_rf (o_h0_images), va_rf (o_h0_labels), va_rf (o_h0_booting), va_rf (o_h0_assembler), va_rf (o_h0_m), va_rf (o_h0_conditions), va_rf (o_h0_codec), va_rf (o_h0_reader), .int w_h0_booted, .int w_h0_program, .int w_h0_now, .int w_h0_end, .int w_h0_why, .int w_h0_events, .int w_h0_scheduled, .int w_h0_taken, .int w_h0_refused, va_rf (o_h0_kind), va_rf (o_h0_b), va_rf (o_h0_when), va_rf (o_h0_laterKind), va_rf (o_h0_laterB), va_rf (o_h0_a), va_rf (o_h0_laterA), va_rf (o_h0_laterWhen), va_rf (o_h0_log), .int w_h0_logged]))]) [0] rfl, va_K.moved hW.alike (hK.sub (tys' := []) [] rfl), hD.sub (ws' := [(h0, .inr (20, [.int 0, va_rf (o_h0_tape), .int w_h0_taped, .int w_h0_fed, va_rf (o_h0_isProgram), va_rf (o_h0_text), va_rf (o_h0_data), va_rf (o_h0_ends), va_rf (o_h0_constants), va_rf (o_h0_images), va_rf (o_h0_labels), va_rf (o_h0_booting), va_rf (o_h0_assembler), va_rf (o_h0_m), va_rf (o_h0_conditions), va_rf (o_h0_codec), va_rf (o_h0_reader), .int w_h0_booted, .int w_h0_program, .int w_h0_now, .int w_h0_end, .int w_h0_why, .int w_h0_events, .int w_h0_scheduled, .int w_h0_taken, .int w_h0_refused, va_rf (o_h0_kind), va_rf (o_h0_b), va_rf (o_h0_when), va_rf (o_h0_laterKind), va_rf (o_h0_laterB), va_rf (o_h0_a), va_rf (o_h0_laterA), va_rf (o_h0_laterWhen), va_rf (o_h0_log), .int w_h0_logged]))]) [0] (by decide) rfl⟩, hS.F ht⟩) hS.2.2 dX19_end_25
  · refine lv_iload_n hx hb dX19_end_12 rfl (lv_at hl 1 rfl) ?_
    refine lv_i2l hx hb dX19_end_13 rfl ?_
    refine lv_lconst (v := 0) hx hb dX19_end_14 (by decide) ?_
    refine lv_ldc2 hx hb hown (hts (.constantLong RX19 124 (20)) (List.mem_of_getElem? (i := 3) rfl)) dX19_end_15 ?_
    have hPc := hP.sub (ws' := []) [] rfl
    have hDc := hD.sub (ws' := []) [] (by decide) rfl
    have hKc := hK.sub (tys' := []) [] rfl
    have hFc := va_free (wc := []) hD hS hA [] rfl
    refine va_calli (va_runS (As := [.long (v0.toInt64), .long 0, .long 20]) (rest := []) ⟨hx, hb, hml, hown, hts⟩ (k_X19_in_v4 l hlt dC dI v0  H.size) (cwS 3 hts gi_g_X19_end_0 rfl rfl rfl (by decide +kernel) ⟨Nat.le_of_ble_eq_true rfl, Nat.le_of_ble_eq_true rfl⟩) ⟨fun a U g mk q => by obtain ⟨q0, q1, qP, qK, qD, qN⟩ := q; exact ⟨q0, q1, qP, va_K.moved (u := U) (U := U.calling g mk a) (Vm.Alike.refl U.vm) qK, qD, nv_same rfl rfl qN⟩, fun U hU hW => ⟨rfl, by rw [hU], by rw [hU]; exact hPc, va_K.moved hW.alike hKc, hDc.weaken (fun _ _ _ _ => trivial), nv_call hS hFc hU hW hN⟩⟩ rfl rfl hl.1 rfl (lv_room (Nat.le_of_ble_eq_true rfl)) dX19_end_18 ⟨by decide +kernel, by decide +kernel⟩) hS (fun q _ h => hFc q h) hFc (fun r1 u t H1 locs ht hvm hw hB hz1 hk1 hS => ?_)
    obtain ⟨hP1, hK1, hD1⟩ := hB
    rw [ht] at hP1
    have hK1 := va_K.moved hvm.symm hK1
    obtain ⟨hP, hD⟩ := va_join (wr := [(h0, .inr (20, [.int 0, va_rf (o_h0_tape), .int w_h0_taped, .int w_h0_fed, va_rf (o_h0_isProgram), va_rf (o_h0_text), va_rf (o_h0_data), va_rf (o_h0_ends), va_rf (o_h0_constants), va_rf (o_h0_images), va_rf (o_h0_labels), va_rf (o_h0_booting), va_rf (o_h0_assembler), va_rf (o_h0_m), va_rf (o_h0_conditions), va_rf (o_h0_codec), va_rf (o_h0_reader), .int w_h0_booted, .int w_h0_program, .int w_h0_now, .int w_h0_end, .int w_h0_why, .int w_h0_events, .int w_h0_scheduled, .int w_h0_taken, .int w_h0_refused, va_rf (o_h0_kind), va_rf (o_h0_b), va_rf (o_h0_when), va_rf (o_h0_laterKind), va_rf (o_h0_laterB), va_rf (o_h0_a), va_rf (o_h0_laterA), va_rf (o_h0_laterWhen), va_rf (o_h0_log), .int w_h0_logged]))]) (w1 := []) hP hD [] [0] rfl rfl (by decide) (by decide) hk1 hFc hP1 hD1
    have hK := (hK.sub (tys' := []) [] rfl).app hK1
    generalize H1 = H at hP hS ⊢
    have hP : va_P (dC, dI) vwCl [(h0, .inr (20, [.int 0, va_rf (o_h0_tape), .int w_h0_taped, .int w_h0_fed, va_rf (o_h0_isProgram), va_rf (o_h0_text), va_rf (o_h0_data), va_rf (o_h0_ends), va_rf (o_h0_constants), va_rf (o_h0_images), va_rf (o_h0_labels), va_rf (o_h0_booting), va_rf (o_h0_assembler), va_rf (o_h0_m), va_rf (o_h0_conditions), va_rf (o_h0_codec), va_rf (o_h0_reader), .int w_h0_booted, .int w_h0_program, .int w_h0_now, .int w_h0_end, .int w_h0_why, .int w_h0_events, .int w_h0_scheduled, .int w_h0_taken, .int w_h0_refused, va_rf (o_h0_kind), va_rf (o_h0_b), va_rf (o_h0_when), va_rf (o_h0_laterKind), va_rf (o_h0_laterB), va_rf (o_h0_a), va_rf (o_h0_laterA), va_rf (o_h0_laterWhen), va_rf (o_h0_log), .int w_h0_logged]))] H := hP
    have hD : va_D A [(h0, .inr (20, [.int 0, va_rf (o_h0_tape), .int w_h0_taped, .int w_h0_fed, va_rf (o_h0_isProgram), va_rf (o_h0_text), va_rf (o_h0_data), va_rf (o_h0_ends), va_rf (o_h0_constants), va_rf (o_h0_images), va_rf (o_h0_labels), va_rf (o_h0_booting), va_rf (o_h0_assembler), va_rf (o_h0_m), va_rf (o_h0_conditions), va_rf (o_h0_codec), va_rf (o_h0_reader), .int w_h0_booted, .int w_h0_program, .int w_h0_now, .int w_h0_end, .int w_h0_why, .int w_h0_events, .int w_h0_scheduled, .int w_h0_taken, .int w_h0_refused, va_rf (o_h0_kind), va_rf (o_h0_b), va_rf (o_h0_when), va_rf (o_h0_laterKind), va_rf (o_h0_laterB), va_rf (o_h0_a), va_rf (o_h0_laterA), va_rf (o_h0_laterWhen), va_rf (o_h0_log), .int w_h0_logged]))] := hD
    have hK : va_K (dC, dI) vwCl [] s := hK
    refine W.widen (k := 0) (n := 0) (by decide +kernel) (by decide +kernel) ?_
    rcases hw with ⟨c_2_0, h9⟩ | ⟨c_2_0, c_2_1, h9⟩ | ⟨c_2_0, c_2_1, h9⟩ | h9
    · subst h9
      refine lv_if_ne (tgt := 26) hx hb dX19_end_21 (by decide) (fun h9 => absurd h9 (by decide)) (fun _ => ?_)
      refine lv_iconst (v := (-1)) hx hb dX19_end_24 (by decide) ?_
      refine W.widen (k := 0) (n := 0) (by decide +kernel) (by decide +kernel) ?_
      exact W.iret (v := (-1)) hx hb hr (fun t ht hW => ⟨⟨(-1), [(h0, .inr (20, [.int 0, va_rf (o_h0_tape), .int w_h0_taped, .int w_h0_fed, va_rf (o_h0_isProgram), va_rf (o_h0_text), va_rf (o_h0_data), va_rf (o_h0_ends), va_rf (o_h0_constants), va_rf (o_h0_images), va_rf (o_h0_labels), va_rf (o_h0_booting), va_rf (o_h0_assembler), va_rf (o_h0_m), va_rf (o_h0_conditions), va_rf (o_h0_codec), va_rf (o_h0_reader), .int w_h0_booted, .int w_h0_program, .int w_h0_now, .int w_h0_end, .int w_h0_why, .int w_h0_events, .int w_h0_scheduled, .int w_h0_taken, .int w_h0_refused, va_rf (o_h0_kind), va_rf (o_h0_b), va_rf (o_h0_when), va_rf (o_h0_laterKind), va_rf (o_h0_laterB), va_rf (o_h0_a), va_rf (o_h0_laterA), va_rf (o_h0_laterWhen), va_rf (o_h0_log), .int w_h0_logged]))], rfl, Or.inr (Or.inl ⟨c_1, c_2_0, rfl, rfl⟩), by rw [ht]; exact hP.sub (ws' := [(h0, .inr (20, [.int 0, va_rf (o_h0_tape), .int w_h0_taped, .int w_h0_fed, va_rf (o_h0_isProgram), va_rf (o_h0_text), va_rf (o_h0_data), va_rf (o_h0_ends), va_rf (o_h0_constants), va_rf (o_h0_images), va_rf (o_h0_labels), va_rf (o_h0_booting), va_rf (o_h0_assembler), va_rf (o_h0_m), va_rf (o_h0_conditions), va_rf (o_h0_codec), va_rf (o_h0_reader), .int w_h0_booted, .int w_h0_program, .int w_h0_now, .int w_h0_end, .int w_h0_why, .int w_h0_events, .int w_h0_scheduled, .int w_h0_taken, .int w_h0_refused, va_rf (o_h0_kind), va_rf (o_h0_b), va_rf (o_h0_when), va_rf (o_h0_laterKind), va_rf (o_h0_laterB), va_rf (o_h0_a), va_rf (o_h0_laterA), va_rf (o_h0_laterWhen), va_rf (o_h0_log), .int w_h0_logged]))]) [0] rfl, va_K.moved hW.alike (hK.sub (tys' := []) [] rfl), hD.sub (ws' := [(h0, .inr (20, [.int 0, va_rf (o_h0_tape), .int w_h0_taped, .int w_h0_fed, va_rf (o_h0_isProgram), va_rf (o_h0_text), va_rf (o_h0_data), va_rf (o_h0_ends), va_rf (o_h0_constants), va_rf (o_h0_images), va_rf (o_h0_labels), va_rf (o_h0_booting), va_rf (o_h0_assembler), va_rf (o_h0_m), va_rf (o_h0_conditions), va_rf (o_h0_codec), va_rf (o_h0_reader), .int w_h0_booted, .int w_h0_program, .int w_h0_now, .int w_h0_end, .int w_h0_why, .int w_h0_events, .int w_h0_scheduled, .int w_h0_taken, .int w_h0_refused, va_rf (o_h0_kind), va_rf (o_h0_b), va_rf (o_h0_when), va_rf (o_h0_laterKind), va_rf (o_h0_laterB), va_rf (o_h0_a), va_rf (o_h0_laterA), va_rf (o_h0_laterWhen), va_rf (o_h0_log), .int w_h0_logged]))]) [0] (by decide) rfl⟩, hS.F ht⟩) hS.2.2 dX19_end_25
    · subst h9
      refine lv_if_ne (tgt := 26) hx hb dX19_end_21 (by decide) (fun h9 => absurd h9 (by decide)) (fun _ => ?_)
      refine lv_iconst (v := (-1)) hx hb dX19_end_24 (by decide) ?_
      refine W.widen (k := 0) (n := 0) (by decide +kernel) (by decide +kernel) ?_
      exact W.iret (v := (-1)) hx hb hr (fun t ht hW => ⟨⟨(-1), [(h0, .inr (20, [.int 0, va_rf (o_h0_tape), .int w_h0_taped, .int w_h0_fed, va_rf (o_h0_isProgram), va_rf (o_h0_text), va_rf (o_h0_data), va_rf (o_h0_ends), va_rf (o_h0_constants), va_rf (o_h0_images), va_rf (o_h0_labels), va_rf (o_h0_booting), va_rf (o_h0_assembler), va_rf (o_h0_m), va_rf (o_h0_conditions), va_rf (o_h0_codec), va_rf (o_h0_reader), .int w_h0_booted, .int w_h0_program, .int w_h0_now, .int w_h0_end, .int w_h0_why, .int w_h0_events, .int w_h0_scheduled, .int w_h0_taken, .int w_h0_refused, va_rf (o_h0_kind), va_rf (o_h0_b), va_rf (o_h0_when), va_rf (o_h0_laterKind), va_rf (o_h0_laterB), va_rf (o_h0_a), va_rf (o_h0_laterA), va_rf (o_h0_laterWhen), va_rf (o_h0_log), .int w_h0_logged]))], rfl, Or.inr (Or.inr (Or.inl ⟨c_1, c_2_0, c_2_1, rfl, rfl⟩)), by rw [ht]; exact hP.sub (ws' := [(h0, .inr (20, [.int 0, va_rf (o_h0_tape), .int w_h0_taped, .int w_h0_fed, va_rf (o_h0_isProgram), va_rf (o_h0_text), va_rf (o_h0_data), va_rf (o_h0_ends), va_rf (o_h0_constants), va_rf (o_h0_images), va_rf (o_h0_labels), va_rf (o_h0_booting), va_rf (o_h0_assembler), va_rf (o_h0_m), va_rf (o_h0_conditions), va_rf (o_h0_codec), va_rf (o_h0_reader), .int w_h0_booted, .int w_h0_program, .int w_h0_now, .int w_h0_end, .int w_h0_why, .int w_h0_events, .int w_h0_scheduled, .int w_h0_taken, .int w_h0_refused, va_rf (o_h0_kind), va_rf (o_h0_b), va_rf (o_h0_when), va_rf (o_h0_laterKind), va_rf (o_h0_laterB), va_rf (o_h0_a), va_rf (o_h0_laterA), va_rf (o_h0_laterWhen), va_rf (o_h0_log), .int w_h0_logged]))]) [0] rfl, va_K.moved hW.alike (hK.sub (tys' := []) [] rfl), hD.sub (ws' := [(h0, .inr (20, [.int 0, va_rf (o_h0_tape), .int w_h0_taped, .int w_h0_fed, va_rf (o_h0_isProgram), va_rf (o_h0_text), va_rf (o_h0_data), va_rf (o_h0_ends), va_rf (o_h0_constants), va_rf (o_h0_images), va_rf (o_h0_labels), va_rf (o_h0_booting), va_rf (o_h0_assembler), va_rf (o_h0_m), va_rf (o_h0_conditions), va_rf (o_h0_codec), va_rf (o_h0_reader), .int w_h0_booted, .int w_h0_program, .int w_h0_now, .int w_h0_end, .int w_h0_why, .int w_h0_events, .int w_h0_scheduled, .int w_h0_taken, .int w_h0_refused, va_rf (o_h0_kind), va_rf (o_h0_b), va_rf (o_h0_when), va_rf (o_h0_laterKind), va_rf (o_h0_laterB), va_rf (o_h0_a), va_rf (o_h0_laterA), va_rf (o_h0_laterWhen), va_rf (o_h0_log), .int w_h0_logged]))]) [0] (by decide) rfl⟩, hS.F ht⟩) hS.2.2 dX19_end_25
    · subst h9
      refine lv_if_ne (tgt := 26) hx hb dX19_end_21 (by decide) (fun _ => ?_) (fun h9 => absurd h9 (by decide))
      refine lv_aload_n hx hb dX19_end_26 rfl (lv_at hl 0 rfl) ?_
      refine lv_dup hx hb dX19_end_27 rfl ?_
      refine va_get (D := (dC, dI)) (ci := 20) (v := .int w_h0_taped) (C := RX19) (T := TX19) (N := 36) hx hb hts hi_g_X19_end_X19 hown hK hP 0 rfl rfl 2 (by decide) (hts (.fieldLink RX19 117 "TimeMachineModel" "taped" "I") (List.mem_of_getElem? (i := 7) rfl)) (fun _ h9 => h9) rfl dX19_end_28 ?_
      refine lv_bipush (v := 20) hx hb dX19_end_31 (by decide) ?_
      refine lv_iload_n hx hb dX19_end_33 rfl (lv_at hl 1 rfl) ?_
      refine lv_isub hx hb dX19_end_34 ?_
      refine lv_isub hx hb dX19_end_35 ?_
      refine va_put (D := (dC, dI)) (ci := 20) (v := .int (w_h0_taped - (20 - v0))) (ty := .int) (C := RX19) (T := TX19) (N := 36) hx hb hts hi_g_X19_end_X19 tyX19 tyX19_ok nmX19 hown hK hP hD hS 0 rfl rfl 2 (by decide) (hts (.fieldLink RX19 117 "TimeMachineModel" "taped" "I") (List.mem_of_getElem? (i := 7) rfl)) (fun _ h9 => h9) rfl (by decide +kernel) rfl rfl (Nat.le_of_ble_eq_true rfl) dX19_end_36 (fun H locs hP hD hS => ?_)
      have hP : va_P (dC, dI) vwCl [(h0, .inr (20, [.int 0, va_rf (o_h0_tape), .int (w_h0_taped - (20 - v0)), .int w_h0_fed, va_rf (o_h0_isProgram), va_rf (o_h0_text), va_rf (o_h0_data), va_rf (o_h0_ends), va_rf (o_h0_constants), va_rf (o_h0_images), va_rf (o_h0_labels), va_rf (o_h0_booting), va_rf (o_h0_assembler), va_rf (o_h0_m), va_rf (o_h0_conditions), va_rf (o_h0_codec), va_rf (o_h0_reader), .int w_h0_booted, .int w_h0_program, .int w_h0_now, .int w_h0_end, .int w_h0_why, .int w_h0_events, .int w_h0_scheduled, .int w_h0_taken, .int w_h0_refused, va_rf (o_h0_kind), va_rf (o_h0_b), va_rf (o_h0_when), va_rf (o_h0_laterKind), va_rf (o_h0_laterB), va_rf (o_h0_a), va_rf (o_h0_laterA), va_rf (o_h0_laterWhen), va_rf (o_h0_log), .int w_h0_logged]))] H := hP
      have hD : va_D A [(h0, .inr (20, [.int 0, va_rf (o_h0_tape), .int (w_h0_taped - (20 - v0)), .int w_h0_fed, va_rf (o_h0_isProgram), va_rf (o_h0_text), va_rf (o_h0_data), va_rf (o_h0_ends), va_rf (o_h0_constants), va_rf (o_h0_images), va_rf (o_h0_labels), va_rf (o_h0_booting), va_rf (o_h0_assembler), va_rf (o_h0_m), va_rf (o_h0_conditions), va_rf (o_h0_codec), va_rf (o_h0_reader), .int w_h0_booted, .int w_h0_program, .int w_h0_now, .int w_h0_end, .int w_h0_why, .int w_h0_events, .int w_h0_scheduled, .int w_h0_taken, .int w_h0_refused, va_rf (o_h0_kind), va_rf (o_h0_b), va_rf (o_h0_when), va_rf (o_h0_laterKind), va_rf (o_h0_laterB), va_rf (o_h0_a), va_rf (o_h0_laterA), va_rf (o_h0_laterWhen), va_rf (o_h0_log), .int w_h0_logged]))] := hD
      refine lv_aload_n hx hb dX19_end_39 rfl (lv_at hl 0 rfl) ?_
      refine lv_iconst (v := 0) hx hb dX19_end_40 (by decide) ?_
      refine va_put (D := (dC, dI)) (ci := 20) (v := .int 0) (ty := .boolean) (C := RX19) (T := TX19) (N := 36) hx hb hts hi_g_X19_end_X19 tyX19 tyX19_ok nmX19 hown hK hP hD hS 0 rfl rfl 3 (by decide) (hts (.fieldLink RX19 120 "TimeMachineModel" "fed" "Z") (List.mem_of_getElem? (i := 2) rfl)) (fun _ h9 => h9) rfl (by decide +kernel) rfl rfl (Nat.le_of_ble_eq_true rfl) dX19_end_41 (fun H locs hP hD hS => ?_)
      have hP : va_P (dC, dI) vwCl [(h0, .inr (20, [.int 0, va_rf (o_h0_tape), .int (w_h0_taped - (20 - v0)), .int 0, va_rf (o_h0_isProgram), va_rf (o_h0_text), va_rf (o_h0_data), va_rf (o_h0_ends), va_rf (o_h0_constants), va_rf (o_h0_images), va_rf (o_h0_labels), va_rf (o_h0_booting), va_rf (o_h0_assembler), va_rf (o_h0_m), va_rf (o_h0_conditions), va_rf (o_h0_codec), va_rf (o_h0_reader), .int w_h0_booted, .int w_h0_program, .int w_h0_now, .int w_h0_end, .int w_h0_why, .int w_h0_events, .int w_h0_scheduled, .int w_h0_taken, .int w_h0_refused, va_rf (o_h0_kind), va_rf (o_h0_b), va_rf (o_h0_when), va_rf (o_h0_laterKind), va_rf (o_h0_laterB), va_rf (o_h0_a), va_rf (o_h0_laterA), va_rf (o_h0_laterWhen), va_rf (o_h0_log), .int w_h0_logged]))] H := hP
      have hD : va_D A [(h0, .inr (20, [.int 0, va_rf (o_h0_tape), .int (w_h0_taped - (20 - v0)), .int 0, va_rf (o_h0_isProgram), va_rf (o_h0_text), va_rf (o_h0_data), va_rf (o_h0_ends), va_rf (o_h0_constants), va_rf (o_h0_images), va_rf (o_h0_labels), va_rf (o_h0_booting), va_rf (o_h0_assembler), va_rf (o_h0_m), va_rf (o_h0_conditions), va_rf (o_h0_codec), va_rf (o_h0_reader), .int w_h0_booted, .int w_h0_program, .int w_h0_now, .int w_h0_end, .int w_h0_why, .int w_h0_events, .int w_h0_scheduled, .int w_h0_taken, .int w_h0_refused, va_rf (o_h0_kind), va_rf (o_h0_b), va_rf (o_h0_when), va_rf (o_h0_laterKind), va_rf (o_h0_laterB), va_rf (o_h0_a), va_rf (o_h0_laterA), va_rf (o_h0_laterWhen), va_rf (o_h0_log), .int w_h0_logged]))] := hD
      refine lv_aload_n hx hb dX19_end_44 rfl (lv_at hl 0 rfl) ?_
      refine va_get (D := (dC, dI)) (ci := 20) (v := .int (w_h0_taped - (20 - v0))) (C := RX19) (T := TX19) (N := 36) hx hb hts hi_g_X19_end_X19 hown hK hP 0 rfl rfl 2 (by decide) (hts (.fieldLink RX19 117 "TimeMachineModel" "taped" "I") (List.mem_of_getElem? (i := 7) rfl)) (fun _ h9 => h9) rfl dX19_end_45 ?_
      refine W.widen (k := 0) (n := 0) (by decide +kernel) (by decide +kernel) ?_
      exact W.iret (v := (w_h0_taped - (20 - v0))) hx hb hr (fun t ht hW => ⟨⟨(w_h0_taped - (20 - v0)), [(h0, .inr (20, [.int 0, va_rf (o_h0_tape), .int (w_h0_taped - (20 - v0)), .int 0, va_rf (o_h0_isProgram), va_rf (o_h0_text), va_rf (o_h0_data), va_rf (o_h0_ends), va_rf (o_h0_constants), va_rf (o_h0_images), va_rf (o_h0_labels), va_rf (o_h0_booting), va_rf (o_h0_assembler), va_rf (o_h0_m), va_rf (o_h0_conditions), va_rf (o_h0_codec), va_rf (o_h0_reader), .int w_h0_booted, .int w_h0_program, .int w_h0_now, .int w_h0_end, .int w_h0_why, .int w_h0_events, .int w_h0_scheduled, .int w_h0_taken, .int w_h0_refused, va_rf (o_h0_kind), va_rf (o_h0_b), va_rf (o_h0_when), va_rf (o_h0_laterKind), va_rf (o_h0_laterB), va_rf (o_h0_a), va_rf (o_h0_laterA), va_rf (o_h0_laterWhen), va_rf (o_h0_log), .int w_h0_logged]))], rfl, Or.inr (Or.inr (Or.inr (Or.inl ⟨c_1, c_2_0, c_2_1, rfl, rfl⟩))), by rw [ht]; exact hP.sub (ws' := [(h0, .inr (20, [.int 0, va_rf (o_h0_tape), .int (w_h0_taped - (20 - v0)), .int 0, va_rf (o_h0_isProgram), va_rf (o_h0_text), va_rf (o_h0_data), va_rf (o_h0_ends), va_rf (o_h0_constants), va_rf (o_h0_images), va_rf (o_h0_labels), va_rf (o_h0_booting), va_rf (o_h0_assembler), va_rf (o_h0_m), va_rf (o_h0_conditions), va_rf (o_h0_codec), va_rf (o_h0_reader), .int w_h0_booted, .int w_h0_program, .int w_h0_now, .int w_h0_end, .int w_h0_why, .int w_h0_events, .int w_h0_scheduled, .int w_h0_taken, .int w_h0_refused, va_rf (o_h0_kind), va_rf (o_h0_b), va_rf (o_h0_when), va_rf (o_h0_laterKind), va_rf (o_h0_laterB), va_rf (o_h0_a), va_rf (o_h0_laterA), va_rf (o_h0_laterWhen), va_rf (o_h0_log), .int w_h0_logged]))]) [0] rfl, va_K.moved hW.alike (hK.sub (tys' := []) [] rfl), hD.sub (ws' := [(h0, .inr (20, [.int 0, va_rf (o_h0_tape), .int (w_h0_taped - (20 - v0)), .int 0, va_rf (o_h0_isProgram), va_rf (o_h0_text), va_rf (o_h0_data), va_rf (o_h0_ends), va_rf (o_h0_constants), va_rf (o_h0_images), va_rf (o_h0_labels), va_rf (o_h0_booting), va_rf (o_h0_assembler), va_rf (o_h0_m), va_rf (o_h0_conditions), va_rf (o_h0_codec), va_rf (o_h0_reader), .int w_h0_booted, .int w_h0_program, .int w_h0_now, .int w_h0_end, .int w_h0_why, .int w_h0_events, .int w_h0_scheduled, .int w_h0_taken, .int w_h0_refused, va_rf (o_h0_kind), va_rf (o_h0_b), va_rf (o_h0_when), va_rf (o_h0_laterKind), va_rf (o_h0_laterB), va_rf (o_h0_a), va_rf (o_h0_laterA), va_rf (o_h0_laterWhen), va_rf (o_h0_log), .int w_h0_logged]))]) [0] (by decide) rfl⟩, hS.F ht⟩) hS.2.2 dX19_end_48
    · exact h9.elim
def ow_g_X19_reason : List Cond := .code yX19_reason cX19_reason 1 (some .int) :: ([.fieldLink RX19 113 "TimeMachineModel" "code" "I", .fieldLink RX19 285 "TimeMachineModel" "why" "I"] ++ (u_ws RX19 TX19 36 ++ []))
theorem gd_g_X19_reason : ∀ w ∈ ow_g_X19_reason, (w.onTables && w.keeps) = true ∨ ∃ ty, w = Cond.arrayClass ty := List.forall_mem_cons.mpr ⟨good_of_word rfl, List.forall_mem_append.mpr ⟨fun w h => good_of_word (List.all_eq_true.mp (by decide +kernel) w h), List.forall_mem_append.mpr ⟨gu_X19, fun _ h => nomatch h⟩⟩⟩
theorem hi_g_X19_reason_X19 : ∀ w ∈ u_ws RX19 TX19 36, w ∈ ow_g_X19_reason := fun w h => List.mem_cons_of_mem _ (List.mem_append_right _ (List.mem_append_left _ h))
