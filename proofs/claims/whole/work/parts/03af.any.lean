set_option maxHeartbeats 40000000 in
set_option maxRecDepth 100000 in
theorem g_X16_four (l : Launch) (hlt : l.stackTraces = false) (dC : Nat → ClassId) (dI : Nat → Nat → Nat) (v0 : Int32) (v1 : Int32) (sz : Nat) : Met l yX16_four ow_g_X16_four ({ frames := 1, cells := 0, slots := 0, locals := 24 }) (va_Pc [.int v0, .int v1] (fun U => U.heap.size = sz ∧ va_P (dC, dI) vwCl [] U.heap ∧ va_K (dC, dI) vwCl [] U ∧ va_D (fun _ => True) [] ∧ nv_E (va_A [] sz) U)) (va_Qi (fun r _ => ((¬ ((((v0 : Int32).toUInt32 >>> ((10 : Int32).toUInt32 &&& Int32.toUInt32 31)).toInt32) &&& 3) = 2) ∧ (¬ ((((v0 : Int32).toUInt32 >>> ((12 : Int32).toUInt32 &&& Int32.toUInt32 31)).toInt32) &&& 1) = 1) ∧ (2 ≤ ((((v0 : Int32).toUInt32 >>> ((10 : Int32).toUInt32 &&& Int32.toUInt32 31)).toInt32) &&& 3)) ∧ (¬ ((((v0 : Int32).toUInt32 >>> ((5 : Int32).toUInt32 &&& Int32.toUInt32 31)).toInt32) &&& 3) = 0) ∧ (¬ ((((v0 : Int32).toUInt32 >>> ((5 : Int32).toUInt32 &&& Int32.toUInt32 31)).toInt32) &&& 3) = 1) ∧ r = (((((51 ||| (((8 + ((((v0 : Int32).toUInt32 >>> ((7 : Int32).toUInt32 &&& Int32.toUInt32 31)).toInt32) &&& 7)) : Int32) <<< ((7 : Int32) &&& 31))) ||| (((((((v0 : Int32).toUInt32 >>> ((5 : Int32).toUInt32 &&& Int32.toUInt32 31)).toInt32) &&& 3) + 4) : Int32) <<< ((12 : Int32) &&& 31))) ||| (((8 + ((((v0 : Int32).toUInt32 >>> ((7 : Int32).toUInt32 &&& Int32.toUInt32 31)).toInt32) &&& 7)) : Int32) <<< ((15 : Int32) &&& 31))) ||| (((8 + ((((v0 : Int32).toUInt32 >>> ((2 : Int32).toUInt32 &&& Int32.toUInt32 31)).toInt32) &&& 7)) : Int32) <<< ((20 : Int32) &&& 31))) ||| 0)) ∨ ((¬ ((((v0 : Int32).toUInt32 >>> ((10 : Int32).toUInt32 &&& Int32.toUInt32 31)).toInt32) &&& 3) = 2) ∧ (¬ ((((v0 : Int32).toUInt32 >>> ((12 : Int32).toUInt32 &&& Int32.toUInt32 31)).toInt32) &&& 1) = 1) ∧ (2 ≤ ((((v0 : Int32).toUInt32 >>> ((10 : Int32).toUInt32 &&& Int32.toUInt32 31)).toInt32) &&& 3)) ∧ (¬ ((((v0 : Int32).toUInt32 >>> ((5 : Int32).toUInt32 &&& Int32.toUInt32 31)).toInt32) &&& 3) = 0) ∧ (((((v0 : Int32).toUInt32 >>> ((5 : Int32).toUInt32 &&& Int32.toUInt32 31)).toInt32) &&& 3) = 1) ∧ r = (((((51 ||| (((8 + ((((v0 : Int32).toUInt32 >>> ((7 : Int32).toUInt32 &&& Int32.toUInt32 31)).toInt32) &&& 7)) : Int32) <<< ((7 : Int32) &&& 31))) ||| 16384) ||| (((8 + ((((v0 : Int32).toUInt32 >>> ((7 : Int32).toUInt32 &&& Int32.toUInt32 31)).toInt32) &&& 7)) : Int32) <<< ((15 : Int32) &&& 31))) ||| (((8 + ((((v0 : Int32).toUInt32 >>> ((2 : Int32).toUInt32 &&& Int32.toUInt32 31)).toInt32) &&& 7)) : Int32) <<< ((20 : Int32) &&& 31))) ||| 0)) ∨ ((¬ ((((v0 : Int32).toUInt32 >>> ((10 : Int32).toUInt32 &&& Int32.toUInt32 31)).toInt32) &&& 3) = 2) ∧ (¬ ((((v0 : Int32).toUInt32 >>> ((12 : Int32).toUInt32 &&& Int32.toUInt32 31)).toInt32) &&& 1) = 1) ∧ (2 ≤ ((((v0 : Int32).toUInt32 >>> ((10 : Int32).toUInt32 &&& Int32.toUInt32 31)).toInt32) &&& 3)) ∧ (((((v0 : Int32).toUInt32 >>> ((5 : Int32).toUInt32 &&& Int32.toUInt32 31)).toInt32) &&& 3) = 0) ∧ r = (((((51 ||| (((8 + ((((v0 : Int32).toUInt32 >>> ((7 : Int32).toUInt32 &&& Int32.toUInt32 31)).toInt32) &&& 7)) : Int32) <<< ((7 : Int32) &&& 31))) ||| 0) ||| (((8 + ((((v0 : Int32).toUInt32 >>> ((7 : Int32).toUInt32 &&& Int32.toUInt32 31)).toInt32) &&& 7)) : Int32) <<< ((15 : Int32) &&& 31))) ||| (((8 + ((((v0 : Int32).toUInt32 >>> ((2 : Int32).toUInt32 &&& Int32.toUInt32 31)).toInt32) &&& 7)) : Int32) <<< ((20 : Int32) &&& 31))) ||| 1073741824)) ∨ ((¬ ((((v0 : Int32).toUInt32 >>> ((10 : Int32).toUInt32 &&& Int32.toUInt32 31)).toInt32) &&& 3) = 2) ∧ (¬ ((((v0 : Int32).toUInt32 >>> ((12 : Int32).toUInt32 &&& Int32.toUInt32 31)).toInt32) &&& 1) = 1) ∧ (¬ 2 ≤ ((((v0 : Int32).toUInt32 >>> ((10 : Int32).toUInt32 &&& Int32.toUInt32 31)).toInt32) &&& 3)) ∧ r = ((((19 ||| (((8 + ((((v0 : Int32).toUInt32 >>> ((7 : Int32).toUInt32 &&& Int32.toUInt32 31)).toInt32) &&& 7)) : Int32) <<< ((7 : Int32) &&& 31))) ||| 20480) ||| (((8 + ((((v0 : Int32).toUInt32 >>> ((7 : Int32).toUInt32 &&& Int32.toUInt32 31)).toInt32) &&& 7)) : Int32) <<< ((15 : Int32) &&& 31))) ||| (((((((v0 : Int32).toUInt32 >>> ((2 : Int32).toUInt32 &&& Int32.toUInt32 31)).toInt32) &&& 31) ||| ((((((v0 : Int32).toUInt32 >>> ((10 : Int32).toUInt32 &&& Int32.toUInt32 31)).toInt32) &&& 3) : Int32) <<< ((10 : Int32) &&& 31))) : Int32) <<< ((20 : Int32) &&& 31)))) ∨ ((¬ ((((v0 : Int32).toUInt32 >>> ((10 : Int32).toUInt32 &&& Int32.toUInt32 31)).toInt32) &&& 3) = 2) ∧ (((((v0 : Int32).toUInt32 >>> ((12 : Int32).toUInt32 &&& Int32.toUInt32 31)).toInt32) &&& 1) = 1) ∧ r = 0) ∨ ((((((v0 : Int32).toUInt32 >>> ((10 : Int32).toUInt32 &&& Int32.toUInt32 31)).toInt32) &&& 3) = 2) ∧ r = ((((19 ||| (((8 + ((((v0 : Int32).toUInt32 >>> ((7 : Int32).toUInt32 &&& Int32.toUInt32 31)).toInt32) &&& 7)) : Int32) <<< ((7 : Int32) &&& 31))) ||| 28672) ||| (((8 + ((((v0 : Int32).toUInt32 >>> ((7 : Int32).toUInt32 &&& Int32.toUInt32 31)).toInt32) &&& 7)) : Int32) <<< ((15 : Int32) &&& 31))) ||| ((v1 : Int32) <<< ((20 : Int32) &&& 31)))) ∨ False) (fun (_ : Unit) t => va_P (dC, dI) vwCl [] t.heap ∧ va_K (dC, dI) vwCl [] t ∧ va_D (va_A [] sz) []) (va_A [] sz)) 0 0 (va_A [] sz) := by
  refine Met.ofW (cc := cX16_four) (maxL := 6) (ret := (some .int)) (by decide) rfl ?_
  intro p e s m args below meth c s₁ B hml hv
  obtain ⟨rfl, hsz, hP, hK, hD0, hN⟩ := hv
  have hx := B.exec
  have hb := B.bytes
  have hr := B.returns
  have hts := atoms_spec (ws := ow_g_X16_four) B.pre
  have hown : s.vm.findClass RX16 = some m.cls := findClass_of_methodNamed B.named
  have hlocks := B.notSynchronized
  subst hsz
  have hD := hD0.self (sz := s.heap.size)
  generalize hAe : va_A [] s.heap.size = A at hD hN ⊢
  have hA : ∀ q : Nat, s.heap.size ≤ q → A q := fun q h => by rw [← hAe]; exact Or.inr h
  have hS : va_S A s.heap s.heap [] := va_S.rf
  have hl := lv_entry ([.int v0, .int v1]) (n := 6) (Nat.le_of_ble_eq_true rfl)
  rw [lg_entry_eq]
  generalize (lg_sl ([.int v0, .int v1]) ++ List.replicate (6 - (lg_sl ([.int v0, .int v1])).length) Slot.unset).toArray = ls at hl ⊢
  have hl : lv_has ls 6 [(0, .int v0), (1, .int v1)] := hl
  refine lv_bipush (v := 8) hx hb dX16_four_0 (by decide) ?_
  refine lv_iload_n hx hb dX16_four_2 rfl (lv_at hl 0 rfl) ?_
  refine lv_bipush (v := 7) hx hb dX16_four_3 (by decide) ?_
  refine lv_iconst (v := 3) hx hb dX16_four_5 (by decide) ?_
  have hPc := hP.sub (ws' := []) [] rfl
  have hDc := hD.sub (ws' := []) [] (by decide) rfl
  have hKc := hK.sub (tys' := []) [] rfl
  have hFc := va_free (wc := []) hD hS hA [] rfl
  refine va_calli (va_runS (As := [.int v0, .int 7, .int 3]) (rest := [.int 8]) ⟨hx, hb, hml, hown, hts⟩ (k_X16_part_v11 l hlt dC dI v0  s.heap.size) (cwS 3 hts gi_g_X16_four_0 rfl rfl rfl (by decide +kernel) ⟨Nat.le_of_ble_eq_true rfl, Nat.le_of_ble_eq_true rfl⟩) ⟨fun a U g mk q => by obtain ⟨q0, q1, qP, qK, qD, qN⟩ := q; exact ⟨q0, q1, qP, va_K.moved (u := U) (U := U.calling g mk a) (Vm.Alike.refl U.vm) qK, qD, nv_same rfl rfl qN⟩, fun U hU hW => ⟨rfl, by rw [hU], by rw [hU]; exact hPc, va_K.moved hW.alike hKc, hDc.weaken (fun _ _ _ _ => trivial), nv_call hS hFc hU hW hN⟩⟩ rfl rfl hl.1 rfl (lv_room (Nat.le_of_ble_eq_true rfl)) dX16_four_6 ⟨by decide +kernel, by decide +kernel⟩) hS (fun q _ h => hFc q h) hFc (fun r1 u t H1 locs ht hvm hw hB hz1 hk1 hS => ?_)
  obtain ⟨hP1, hK1, hD1⟩ := hB
  rw [ht] at hP1
  have hK1 := va_K.moved hvm.symm hK1
  obtain ⟨hP, hD⟩ := va_join (wr := []) (w1 := []) hP hD [] [] rfl rfl (by decide) (by decide) hk1 hFc hP1 hD1
  have hK := (hK.sub (tys' := []) [] rfl).app hK1
  generalize H1 = H at hP hS ⊢
  have hP : va_P (dC, dI) vwCl [] H := hP
  have hD : va_D A [] := hD
  have hK : va_K (dC, dI) vwCl [] s := hK
  refine W.widen (k := 0) (n := 0) (by decide +kernel) (by decide +kernel) ?_
  rcases hw with h9 | h9
  · subst h9
    refine lv_iadd hx hb dX16_four_9 ?_
    refine lv_istore_n (lv' := [(2, .int (8 + ((((v0 : Int32).toUInt32 >>> ((7 : Int32).toUInt32 &&& Int32.toUInt32 31)).toInt32) &&& 7))), (0, .int v0), (1, .int v1)]) hx hb dX16_four_10 rfl hl (by decide) rfl (fun ls hl => ?_)
    refine lv_bipush (v := 8) hx hb dX16_four_11 (by decide) ?_
    refine lv_iload_n hx hb dX16_four_13 rfl (lv_at hl 1 rfl) ?_
    refine lv_iconst (v := 2) hx hb dX16_four_14 (by decide) ?_
    refine lv_iconst (v := 3) hx hb dX16_four_15 (by decide) ?_
    have hPc := hP.sub (ws' := []) [] rfl
    have hDc := hD.sub (ws' := []) [] (by decide) rfl
    have hKc := hK.sub (tys' := []) [] rfl
    have hFc := va_free (wc := []) hD hS hA [] rfl
    refine va_calli (va_runS (As := [.int v0, .int 2, .int 3]) (rest := [.int 8]) ⟨hx, hb, hml, hown, hts⟩ (k_X16_part_v10 l hlt dC dI v0  H.size) (cwS 3 hts gi_g_X16_four_1 rfl rfl rfl (by decide +kernel) ⟨Nat.le_of_ble_eq_true rfl, Nat.le_of_ble_eq_true rfl⟩) ⟨fun a U g mk q => by obtain ⟨q0, q1, qP, qK, qD, qN⟩ := q; exact ⟨q0, q1, qP, va_K.moved (u := U) (U := U.calling g mk a) (Vm.Alike.refl U.vm) qK, qD, nv_same rfl rfl qN⟩, fun U hU hW => ⟨rfl, by rw [hU], by rw [hU]; exact hPc, va_K.moved hW.alike hKc, hDc.weaken (fun _ _ _ _ => trivial), nv_call hS hFc hU hW hN⟩⟩ rfl rfl hl.1 rfl (lv_room (Nat.le_of_ble_eq_true rfl)) dX16_four_16 ⟨by decide +kernel, by decide +kernel⟩) hS (fun q _ h => hFc q h) hFc (fun r2 u t H1 locs ht hvm hw hB hz1 hk1 hS => ?_)
    obtain ⟨hP1, hK1, hD1⟩ := hB
    rw [ht] at hP1
    have hK1 := va_K.moved hvm.symm hK1
    obtain ⟨hP, hD⟩ := va_join (wr := []) (w1 := []) hP hD [] [] rfl rfl (by decide) (by decide) hk1 hFc hP1 hD1
    have hK := (hK.sub (tys' := []) [] rfl).app hK1
    generalize H1 = H at hP hS ⊢
    have hP : va_P (dC, dI) vwCl [] H := hP
    have hD : va_D A [] := hD
    have hK : va_K (dC, dI) vwCl [] s := hK
    refine W.widen (k := 0) (n := 0) (by decide +kernel) (by decide +kernel) ?_
    rcases hw with h9 | h9
    · subst h9
      refine lv_iadd hx hb dX16_four_19 ?_
      refine lv_istore_n (lv' := [(3, .int (8 + ((((v0 : Int32).toUInt32 >>> ((2 : Int32).toUInt32 &&& Int32.toUInt32 31)).toInt32) &&& 7))), (2, .int (8 + ((((v0 : Int32).toUInt32 >>> ((7 : Int32).toUInt32 &&& Int32.toUInt32 31)).toInt32) &&& 7))), (0, .int v0), (1, .int v1)]) hx hb dX16_four_20 rfl hl (by decide) rfl (fun ls hl => ?_)
      refine lv_iload_n hx hb dX16_four_21 rfl (lv_at hl 2 rfl) ?_
      refine lv_bipush (v := 10) hx hb dX16_four_22 (by decide) ?_
      refine lv_iconst (v := 2) hx hb dX16_four_24 (by decide) ?_
      have hPc := hP.sub (ws' := []) [] rfl
      have hDc := hD.sub (ws' := []) [] (by decide) rfl
      have hKc := hK.sub (tys' := []) [] rfl
      have hFc := va_free (wc := []) hD hS hA [] rfl
      refine va_calli (va_runS (As := [.int v0, .int 10, .int 2]) (rest := []) ⟨hx, hb, hml, hown, hts⟩ (k_X16_part_v17 l hlt dC dI v0  H.size) (cwS 3 hts gi_g_X16_four_2 rfl rfl rfl (by decide +kernel) ⟨Nat.le_of_ble_eq_true rfl, Nat.le_of_ble_eq_true rfl⟩) ⟨fun a U g mk q => by obtain ⟨q0, q1, qP, qK, qD, qN⟩ := q; exact ⟨q0, q1, qP, va_K.moved (u := U) (U := U.calling g mk a) (Vm.Alike.refl U.vm) qK, qD, nv_same rfl rfl qN⟩, fun U hU hW => ⟨rfl, by rw [hU], by rw [hU]; exact hPc, va_K.moved hW.alike hKc, hDc.weaken (fun _ _ _ _ => trivial), nv_call hS hFc hU hW hN⟩⟩ rfl rfl hl.1 rfl (lv_room (Nat.le_of_ble_eq_true rfl)) dX16_four_25 ⟨by decide +kernel, by decide +kernel⟩) hS (fun q _ h => hFc q h) hFc (fun r3 u t H1 locs ht hvm hw hB hz1 hk1 hS => ?_)
      obtain ⟨hP1, hK1, hD1⟩ := hB
      rw [ht] at hP1
      have hK1 := va_K.moved hvm.symm hK1
      obtain ⟨hP, hD⟩ := va_join (wr := []) (w1 := []) hP hD [] [] rfl rfl (by decide) (by decide) hk1 hFc hP1 hD1
      have hK := (hK.sub (tys' := []) [] rfl).app hK1
      generalize H1 = H at hP hS ⊢
      have hP : va_P (dC, dI) vwCl [] H := hP
      have hD : va_D A [] := hD
      have hK : va_K (dC, dI) vwCl [] s := hK
      refine W.widen (k := 0) (n := 0) (by decide +kernel) (by decide +kernel) ?_
      rcases hw with h9 | h9
      · subst h9
        refine lv_istore (lv' := [(4, .int ((((v0 : Int32).toUInt32 >>> ((10 : Int32).toUInt32 &&& Int32.toUInt32 31)).toInt32) &&& 3)), (3, .int (8 + ((((v0 : Int32).toUInt32 >>> ((2 : Int32).toUInt32 &&& Int32.toUInt32 31)).toInt32) &&& 7))), (2, .int (8 + ((((v0 : Int32).toUInt32 >>> ((7 : Int32).toUInt32 &&& Int32.toUInt32 31)).toInt32) &&& 7))), (0, .int v0), (1, .int v1)]) hx hb dX16_four_28 hl (by decide) rfl (fun ls hl => ?_)
        refine lv_iload_n hx hb dX16_four_30 rfl (lv_at hl 3 rfl) ?_
        refine lv_iconst (v := 5) hx hb dX16_four_31 (by decide) ?_
        refine lv_iconst (v := 2) hx hb dX16_four_32 (by decide) ?_
        have hPc := hP.sub (ws' := []) [] rfl
        have hDc := hD.sub (ws' := []) [] (by decide) rfl
        have hKc := hK.sub (tys' := []) [] rfl
        have hFc := va_free (wc := []) hD hS hA [] rfl
        refine va_calli (va_runS (As := [.int v0, .int 5, .int 2]) (rest := []) ⟨hx, hb, hml, hown, hts⟩ (k_X16_part_v18 l hlt dC dI v0  H.size) (cwS 3 hts gi_g_X16_four_3 rfl rfl rfl (by decide +kernel) ⟨Nat.le_of_ble_eq_true rfl, Nat.le_of_ble_eq_true rfl⟩) ⟨fun a U g mk q => by obtain ⟨q0, q1, qP, qK, qD, qN⟩ := q; exact ⟨q0, q1, qP, va_K.moved (u := U) (U := U.calling g mk a) (Vm.Alike.refl U.vm) qK, qD, nv_same rfl rfl qN⟩, fun U hU hW => ⟨rfl, by rw [hU], by rw [hU]; exact hPc, va_K.moved hW.alike hKc, hDc.weaken (fun _ _ _ _ => trivial), nv_call hS hFc hU hW hN⟩⟩ rfl rfl hl.1 rfl (lv_room (Nat.le_of_ble_eq_true rfl)) dX16_four_33 ⟨by decide +kernel, by decide +kernel⟩) hS (fun q _ h => hFc q h) hFc (fun r4 u t H1 locs ht hvm hw hB hz1 hk1 hS => ?_)
        obtain ⟨hP1, hK1, hD1⟩ := hB
        rw [ht] at hP1
        have hK1 := va_K.moved hvm.symm hK1
        obtain ⟨hP, hD⟩ := va_join (wr := []) (w1 := []) hP hD [] [] rfl rfl (by decide) (by decide) hk1 hFc hP1 hD1
        have hK := (hK.sub (tys' := []) [] rfl).app hK1
        generalize H1 = H at hP hS ⊢
        have hP : va_P (dC, dI) vwCl [] H := hP
        have hD : va_D A [] := hD
        have hK : va_K (dC, dI) vwCl [] s := hK
        refine W.widen (k := 0) (n := 0) (by decide +kernel) (by decide +kernel) ?_
        rcases hw with h9 | h9
        · subst h9
          refine lv_istore (lv' := [(5, .int ((((v0 : Int32).toUInt32 >>> ((5 : Int32).toUInt32 &&& Int32.toUInt32 31)).toInt32) &&& 3)), (4, .int ((((v0 : Int32).toUInt32 >>> ((10 : Int32).toUInt32 &&& Int32.toUInt32 31)).toInt32) &&& 3)), (3, .int (8 + ((((v0 : Int32).toUInt32 >>> ((2 : Int32).toUInt32 &&& Int32.toUInt32 31)).toInt32) &&& 7))), (2, .int (8 + ((((v0 : Int32).toUInt32 >>> ((7 : Int32).toUInt32 &&& Int32.toUInt32 31)).toInt32) &&& 7))), (0, .int v0), (1, .int v1)]) hx hb dX16_four_36 hl (by decide) rfl (fun ls hl => ?_)
          refine lv_iload hx hb dX16_four_38 (lv_at hl 1 rfl) ?_
          refine lv_iconst (v := 2) hx hb dX16_four_40 (by decide) ?_
          refine lv_icmp_ne (tgt := 55) hx hb dX16_four_41 (by decide) (fun c_5 => ?_) (fun c_5 => ?_)
          · refine lv_iload_n hx hb dX16_four_55 rfl (lv_at hl 4 rfl) ?_
            refine lv_bipush (v := 12) hx hb dX16_four_56 (by decide) ?_
            refine lv_iconst (v := 1) hx hb dX16_four_58 (by decide) ?_
            have hPc := hP.sub (ws' := []) [] rfl
            have hDc := hD.sub (ws' := []) [] (by decide) rfl
            have hKc := hK.sub (tys' := []) [] rfl
            have hFc := va_free (wc := []) hD hS hA [] rfl
            refine va_calli (va_runS (As := [.int v0, .int 12, .int 1]) (rest := []) ⟨hx, hb, hml, hown, hts⟩ (k_X16_part_v9 l hlt dC dI v0  H.size) (cwS 3 hts gi_g_X16_four_4 rfl rfl rfl (by decide +kernel) ⟨Nat.le_of_ble_eq_true rfl, Nat.le_of_ble_eq_true rfl⟩) ⟨fun a U g mk q => by obtain ⟨q0, q1, qP, qK, qD, qN⟩ := q; exact ⟨q0, q1, qP, va_K.moved (u := U) (U := U.calling g mk a) (Vm.Alike.refl U.vm) qK, qD, nv_same rfl rfl qN⟩, fun U hU hW => ⟨rfl, by rw [hU], by rw [hU]; exact hPc, va_K.moved hW.alike hKc, hDc.weaken (fun _ _ _ _ => trivial), nv_call hS hFc hU hW hN⟩⟩ rfl rfl hl.1 rfl (lv_room (Nat.le_of_ble_eq_true rfl)) dX16_four_59 ⟨by decide +kernel, by decide +kernel⟩) hS (fun q _ h => hFc q h) hFc (fun r5 u t H1 locs ht hvm hw hB hz1 hk1 hS => ?_)
            obtain ⟨hP1, hK1, hD1⟩ := hB
            rw [ht] at hP1
            have hK1 := va_K.moved hvm.symm hK1
            obtain ⟨hP, hD⟩ := va_join (wr := []) (w1 := []) hP hD [] [] rfl rfl (by decide) (by decide) hk1 hFc hP1 hD1
            have hK := (hK.sub (tys' := []) [] rfl).app hK1
            generalize H1 = H at hP hS ⊢
            have hP : va_P (dC, dI) vwCl [] H := hP
            have hD : va_D A [] := hD
            have hK : va_K (dC, dI) vwCl [] s := hK
            refine W.widen (k := 0) (n := 0) (by decide +kernel) (by decide +kernel) ?_
            rcases hw with h9 | h9
            · subst h9
              refine lv_iconst (v := 1) hx hb dX16_four_62 (by decide) ?_
              refine lv_icmp_ne (tgt := 68) hx hb dX16_four_63 (by decide) (fun c_7 => ?_) (fun c_7 => ?_)
              · refine lv_iload hx hb dX16_four_68 (lv_at hl 1 rfl) ?_
                refine lv_iconst (v := 2) hx hb dX16_four_70 (by decide) ?_
                refine lv_icmp_ge (tgt := 95) hx hb dX16_four_71 (by decide) (fun c_8 => ?_) (fun c_8 => ?_)
                · refine lv_iload hx hb dX16_four_95 (lv_at hl 0 rfl) ?_
                  refine lv_if_ne (tgt := 112) hx hb dX16_four_97 (by decide) (fun c_9 => ?_) (fun c_9 => ?_)
                  · refine lv_iload hx hb dX16_four_112 (lv_at hl 0 rfl) ?_
                    refine lv_iconst (v := 1) hx hb dX16_four_114 (by decide) ?_
                    refine lv_icmp_ne (tgt := 122) hx hb dX16_four_115 (by decide) (fun c_10 => ?_) (fun c_10 => ?_)
                    · refine lv_iload hx hb dX16_four_122 (lv_at hl 0 rfl) ?_
                      refine lv_iconst (v := 4) hx hb dX16_four_124 (by decide) ?_
                      refine lv_iadd hx hb dX16_four_125 ?_
                      refine lv_iconst (v := 0) hx hb dX16_four_126 (by decide) ?_
                      refine lv_iload_n hx hb dX16_four_127 rfl (lv_at hl 3 rfl) ?_
                      refine lv_iload_n hx hb dX16_four_128 rfl (lv_at hl 3 rfl) ?_
                      refine lv_iload_n hx hb dX16_four_129 rfl (lv_at hl 2 rfl) ?_
                      have hPc := hP.sub (ws' := []) [] rfl
                      have hDc := hD.sub (ws' := []) [] (by decide) rfl
                      have hKc := hK.sub (tys' := []) [] rfl
                      have hFc := va_free (wc := []) hD hS hA [] rfl
                      refine va_calli (va_runS (As := [.int (((((v0 : Int32).toUInt32 >>> ((5 : Int32).toUInt32 &&& Int32.toUInt32 31)).toInt32) &&& 3) + 4), .int 0, .int (8 + ((((v0 : Int32).toUInt32 >>> ((7 : Int32).toUInt32 &&& Int32.toUInt32 31)).toInt32) &&& 7)), .int (8 + ((((v0 : Int32).toUInt32 >>> ((7 : Int32).toUInt32 &&& Int32.toUInt32 31)).toInt32) &&& 7)), .int (8 + ((((v0 : Int32).toUInt32 >>> ((2 : Int32).toUInt32 &&& Int32.toUInt32 31)).toInt32) &&& 7))]) (rest := []) ⟨hx, hb, hml, hown, hts⟩ (k_X16_threes l hlt dC dI (((((v0 : Int32).toUInt32 >>> ((5 : Int32).toUInt32 &&& Int32.toUInt32 31)).toInt32) &&& 3) + 4) (8 + ((((v0 : Int32).toUInt32 >>> ((7 : Int32).toUInt32 &&& Int32.toUInt32 31)).toInt32) &&& 7)) (8 + ((((v0 : Int32).toUInt32 >>> ((7 : Int32).toUInt32 &&& Int32.toUInt32 31)).toInt32) &&& 7)) (8 + ((((v0 : Int32).toUInt32 >>> ((2 : Int32).toUInt32 &&& Int32.toUInt32 31)).toInt32) &&& 7))  H.size) (cwS 5 hts gi_g_X16_four_5 rfl rfl rfl (by decide +kernel) ⟨Nat.le_of_ble_eq_true rfl, Nat.le_of_ble_eq_true rfl⟩) ⟨fun a U g mk q => by obtain ⟨q0, q1, qP, qK, qD, qN⟩ := q; exact ⟨q0, q1, qP, va_K.moved (u := U) (U := U.calling g mk a) (Vm.Alike.refl U.vm) qK, qD, nv_same rfl rfl qN⟩, fun U hU hW => ⟨rfl, by rw [hU], by rw [hU]; exact hPc, va_K.moved hW.alike hKc, hDc.weaken (fun _ _ _ _ => trivial), nv_call hS hFc hU hW hN⟩⟩ rfl rfl hl.1 rfl (lv_room (Nat.le_of_ble_eq_true rfl)) dX16_four_130 ⟨by decide +kernel, by decide +kernel⟩) hS (fun q _ h => hFc q h) hFc (fun r10 u t H1 locs ht hvm hw hB hz1 hk1 hS => ?_)
                      obtain ⟨hP1, hK1, hD1⟩ := hB
                      rw [ht] at hP1
                      have hK1 := va_K.moved hvm.symm hK1
                      obtain ⟨hP, hD⟩ := va_join (wr := []) (w1 := []) hP hD [] [] rfl rfl (by decide) (by decide) hk1 hFc hP1 hD1
                      have hK := (hK.sub (tys' := []) [] rfl).app hK1
                      generalize H1 = H at hP hS ⊢
                      have hP : va_P (dC, dI) vwCl [] H := hP
                      have hD : va_D A [] := hD
                      have hK : va_K (dC, dI) vwCl [] s := hK
                      refine W.widen (k := 0) (n := 0) (by decide +kernel) (by decide +kernel) ?_
                      rcases hw with h9 | h9
                      · subst h9
                        refine W.widen (k := 0) (n := 0) (by decide +kernel) (by decide +kernel) ?_
                        exact W.iret (v := (((((51 ||| (((8 + ((((v0 : Int32).toUInt32 >>> ((7 : Int32).toUInt32 &&& Int32.toUInt32 31)).toInt32) &&& 7)) : Int32) <<< ((7 : Int32) &&& 31))) ||| (((((((v0 : Int32).toUInt32 >>> ((5 : Int32).toUInt32 &&& Int32.toUInt32 31)).toInt32) &&& 3) + 4) : Int32) <<< ((12 : Int32) &&& 31))) ||| (((8 + ((((v0 : Int32).toUInt32 >>> ((7 : Int32).toUInt32 &&& Int32.toUInt32 31)).toInt32) &&& 7)) : Int32) <<< ((15 : Int32) &&& 31))) ||| (((8 + ((((v0 : Int32).toUInt32 >>> ((2 : Int32).toUInt32 &&& Int32.toUInt32 31)).toInt32) &&& 7)) : Int32) <<< ((20 : Int32) &&& 31))) ||| 0)) hx hb hr (fun t ht hW => ⟨⟨(((((51 ||| (((8 + ((((v0 : Int32).toUInt32 >>> ((7 : Int32).toUInt32 &&& Int32.toUInt32 31)).toInt32) &&& 7)) : Int32) <<< ((7 : Int32) &&& 31))) ||| (((((((v0 : Int32).toUInt32 >>> ((5 : Int32).toUInt32 &&& Int32.toUInt32 31)).toInt32) &&& 3) + 4) : Int32) <<< ((12 : Int32) &&& 31))) ||| (((8 + ((((v0 : Int32).toUInt32 >>> ((7 : Int32).toUInt32 &&& Int32.toUInt32 31)).toInt32) &&& 7)) : Int32) <<< ((15 : Int32) &&& 31))) ||| (((8 + ((((v0 : Int32).toUInt32 >>> ((2 : Int32).toUInt32 &&& Int32.toUInt32 31)).toInt32) &&& 7)) : Int32) <<< ((20 : Int32) &&& 31))) ||| 0), (), rfl, Or.inl ⟨c_5, c_7, c_8, c_9, c_10, rfl⟩, by rw [ht]; exact hP, va_K.moved hW.alike hK, hD⟩, hS.F ht⟩) hS.2.2 dX16_four_133
                      · exact h9.elim
                    · refine lv_iconst (v := 4) hx hb dX16_four_118 (by decide) ?_
                      refine lv_goto (tgt := 126) hx hb dX16_four_119 (by decide) ?_
                      refine lv_iconst (v := 0) hx hb dX16_four_126 (by decide) ?_
                      refine lv_iload_n hx hb dX16_four_127 rfl (lv_at hl 3 rfl) ?_
                      refine lv_iload_n hx hb dX16_four_128 rfl (lv_at hl 3 rfl) ?_
                      refine lv_iload_n hx hb dX16_four_129 rfl (lv_at hl 2 rfl) ?_
                      have hPc := hP.sub (ws' := []) [] rfl
                      have hDc := hD.sub (ws' := []) [] (by decide) rfl
                      have hKc := hK.sub (tys' := []) [] rfl
                      have hFc := va_free (wc := []) hD hS hA [] rfl
                      refine va_calli (va_runS (As := [.int 4, .int 0, .int (8 + ((((v0 : Int32).toUInt32 >>> ((7 : Int32).toUInt32 &&& Int32.toUInt32 31)).toInt32) &&& 7)), .int (8 + ((((v0 : Int32).toUInt32 >>> ((7 : Int32).toUInt32 &&& Int32.toUInt32 31)).toInt32) &&& 7)), .int (8 + ((((v0 : Int32).toUInt32 >>> ((2 : Int32).toUInt32 &&& Int32.toUInt32 31)).toInt32) &&& 7))]) (rest := []) ⟨hx, hb, hml, hown, hts⟩ (k_X16_threes_v1 l hlt dC dI (8 + ((((v0 : Int32).toUInt32 >>> ((7 : Int32).toUInt32 &&& Int32.toUInt32 31)).toInt32) &&& 7)) (8 + ((((v0 : Int32).toUInt32 >>> ((7 : Int32).toUInt32 &&& Int32.toUInt32 31)).toInt32) &&& 7)) (8 + ((((v0 : Int32).toUInt32 >>> ((2 : Int32).toUInt32 &&& Int32.toUInt32 31)).toInt32) &&& 7))  H.size) (cwS 5 hts gi_g_X16_four_6 rfl rfl rfl (by decide +kernel) ⟨Nat.le_of_ble_eq_true rfl, Nat.le_of_ble_eq_true rfl⟩) ⟨fun a U g mk q => by obtain ⟨q0, q1, qP, qK, qD, qN⟩ := q; exact ⟨q0, q1, qP, va_K.moved (u := U) (U := U.calling g mk a) (Vm.Alike.refl U.vm) qK, qD, nv_same rfl rfl qN⟩, fun U hU hW => ⟨rfl, by rw [hU], by rw [hU]; exact hPc, va_K.moved hW.alike hKc, hDc.weaken (fun _ _ _ _ => trivial), nv_call hS hFc hU hW hN⟩⟩ rfl rfl hl.1 rfl (lv_room (Nat.le_of_ble_eq_true rfl)) dX16_four_130 ⟨by decide +kernel, by decide +kernel⟩) hS (fun q _ h => hFc q h) hFc (fun r14 u t H1 locs ht hvm hw hB hz1 hk1 hS => ?_)
                      obtain ⟨hP1, hK1, hD1⟩ := hB
                      rw [ht] at hP1
                      have hK1 := va_K.moved hvm.symm hK1
                      obtain ⟨hP, hD⟩ := va_join (wr := []) (w1 := []) hP hD [] [] rfl rfl (by decide) (by decide) hk1 hFc hP1 hD1
                      have hK := (hK.sub (tys' := []) [] rfl).app hK1
                      generalize H1 = H at hP hS ⊢
                      have hP : va_P (dC, dI) vwCl [] H := hP
                      have hD : va_D A [] := hD
                      have hK : va_K (dC, dI) vwCl [] s := hK
                      refine W.widen (k := 0) (n := 0) (by decide +kernel) (by decide +kernel) ?_
                      rcases hw with h9 | h9
                      · subst h9
                        refine W.widen (k := 0) (n := 0) (by decide +kernel) (by decide +kernel) ?_
                        exact W.iret (v := (((((51 ||| (((8 + ((((v0 : Int32).toUInt32 >>> ((7 : Int32).toUInt32 &&& Int32.toUInt32 31)).toInt32) &&& 7)) : Int32) <<< ((7 : Int32) &&& 31))) ||| 16384) ||| (((8 + ((((v0 : Int32).toUInt32 >>> ((7 : Int32).toUInt32 &&& Int32.toUInt32 31)).toInt32) &&& 7)) : Int32) <<< ((15 : Int32) &&& 31))) ||| (((8 + ((((v0 : Int32).toUInt32 >>> ((2 : Int32).toUInt32 &&& Int32.toUInt32 31)).toInt32) &&& 7)) : Int32) <<< ((20 : Int32) &&& 31))) ||| 0)) hx hb hr (fun t ht hW => ⟨⟨(((((51 ||| (((8 + ((((v0 : Int32).toUInt32 >>> ((7 : Int32).toUInt32 &&& Int32.toUInt32 31)).toInt32) &&& 7)) : Int32) <<< ((7 : Int32) &&& 31))) ||| 16384) ||| (((8 + ((((v0 : Int32).toUInt32 >>> ((7 : Int32).toUInt32 &&& Int32.toUInt32 31)).toInt32) &&& 7)) : Int32) <<< ((15 : Int32) &&& 31))) ||| (((8 + ((((v0 : Int32).toUInt32 >>> ((2 : Int32).toUInt32 &&& Int32.toUInt32 31)).toInt32) &&& 7)) : Int32) <<< ((20 : Int32) &&& 31))) ||| 0), (), rfl, Or.inr (Or.inl ⟨c_5, c_7, c_8, c_9, c_10, rfl⟩), by rw [ht]; exact hP, va_K.moved hW.alike hK, hD⟩, hS.F ht⟩) hS.2.2 dX16_four_133
                      · exact h9.elim
                  · refine lv_iconst (v := 0) hx hb dX16_four_100 (by decide) ?_
                    refine lv_bipush (v := 32) hx hb dX16_four_101 (by decide) ?_
                    refine lv_iload_n hx hb dX16_four_103 rfl (lv_at hl 3 rfl) ?_
                    refine lv_iload_n hx hb dX16_four_104 rfl (lv_at hl 3 rfl) ?_
                    refine lv_iload_n hx hb dX16_four_105 rfl (lv_at hl 2 rfl) ?_
                    have hPc := hP.sub (ws' := []) [] rfl
                    have hDc := hD.sub (ws' := []) [] (by decide) rfl
                    have hKc := hK.sub (tys' := []) [] rfl
                    have hFc := va_free (wc := []) hD hS hA [] rfl
                    refine va_calli (va_runS (As := [.int 0, .int 32, .int (8 + ((((v0 : Int32).toUInt32 >>> ((7 : Int32).toUInt32 &&& Int32.toUInt32 31)).toInt32) &&& 7)), .int (8 + ((((v0 : Int32).toUInt32 >>> ((7 : Int32).toUInt32 &&& Int32.toUInt32 31)).toInt32) &&& 7)), .int (8 + ((((v0 : Int32).toUInt32 >>> ((2 : Int32).toUInt32 &&& Int32.toUInt32 31)).toInt32) &&& 7))]) (rest := []) ⟨hx, hb, hml, hown, hts⟩ (k_X16_threes_v2 l hlt dC dI (8 + ((((v0 : Int32).toUInt32 >>> ((7 : Int32).toUInt32 &&& Int32.toUInt32 31)).toInt32) &&& 7)) (8 + ((((v0 : Int32).toUInt32 >>> ((7 : Int32).toUInt32 &&& Int32.toUInt32 31)).toInt32) &&& 7)) (8 + ((((v0 : Int32).toUInt32 >>> ((2 : Int32).toUInt32 &&& Int32.toUInt32 31)).toInt32) &&& 7))  H.size) (cwS 5 hts gi_g_X16_four_7 rfl rfl rfl (by decide +kernel) ⟨Nat.le_of_ble_eq_true rfl, Nat.le_of_ble_eq_true rfl⟩) ⟨fun a U g mk q => by obtain ⟨q0, q1, qP, qK, qD, qN⟩ := q; exact ⟨q0, q1, qP, va_K.moved (u := U) (U := U.calling g mk a) (Vm.Alike.refl U.vm) qK, qD, nv_same rfl rfl qN⟩, fun U hU hW => ⟨rfl, by rw [hU], by rw [hU]; exact hPc, va_K.moved hW.alike hKc, hDc.weaken (fun _ _ _ _ => trivial), nv_call hS hFc hU hW hN⟩⟩ rfl rfl hl.1 rfl (lv_room (Nat.le_of_ble_eq_true rfl)) dX16_four_106 ⟨by decide +kernel, by decide +kernel⟩) hS (fun q _ h => hFc q h) hFc (fun r18 u t H1 locs ht hvm hw hB hz1 hk1 hS => ?_)
                    obtain ⟨hP1, hK1, hD1⟩ := hB
                    rw [ht] at hP1
                    have hK1 := va_K.moved hvm.symm hK1
                    obtain ⟨hP, hD⟩ := va_join (wr := []) (w1 := []) hP hD [] [] rfl rfl (by decide) (by decide) hk1 hFc hP1 hD1
                    have hK := (hK.sub (tys' := []) [] rfl).app hK1
                    generalize H1 = H at hP hS ⊢
                    have hP : va_P (dC, dI) vwCl [] H := hP
                    have hD : va_D A [] := hD
                    have hK : va_K (dC, dI) vwCl [] s := hK
                    refine W.widen (k := 0) (n := 0) (by decide +kernel) (by decide +kernel) ?_
                    rcases hw with h9 | h9
                    · subst h9
                      refine lv_goto (tgt := 133) hx hb dX16_four_109 (by decide) ?_
                      refine W.widen (k := 0) (n := 0) (by decide +kernel) (by decide +kernel) ?_
                      exact W.iret (v := (((((51 ||| (((8 + ((((v0 : Int32).toUInt32 >>> ((7 : Int32).toUInt32 &&& Int32.toUInt32 31)).toInt32) &&& 7)) : Int32) <<< ((7 : Int32) &&& 31))) ||| 0) ||| (((8 + ((((v0 : Int32).toUInt32 >>> ((7 : Int32).toUInt32 &&& Int32.toUInt32 31)).toInt32) &&& 7)) : Int32) <<< ((15 : Int32) &&& 31))) ||| (((8 + ((((v0 : Int32).toUInt32 >>> ((2 : Int32).toUInt32 &&& Int32.toUInt32 31)).toInt32) &&& 7)) : Int32) <<< ((20 : Int32) &&& 31))) ||| 1073741824)) hx hb hr (fun t ht hW => ⟨⟨(((((51 ||| (((8 + ((((v0 : Int32).toUInt32 >>> ((7 : Int32).toUInt32 &&& Int32.toUInt32 31)).toInt32) &&& 7)) : Int32) <<< ((7 : Int32) &&& 31))) ||| 0) ||| (((8 + ((((v0 : Int32).toUInt32 >>> ((7 : Int32).toUInt32 &&& Int32.toUInt32 31)).toInt32) &&& 7)) : Int32) <<< ((15 : Int32) &&& 31))) ||| (((8 + ((((v0 : Int32).toUInt32 >>> ((2 : Int32).toUInt32 &&& Int32.toUInt32 31)).toInt32) &&& 7)) : Int32) <<< ((20 : Int32) &&& 31))) ||| 1073741824), (), rfl, Or.inr (Or.inr (Or.inl ⟨c_5, c_7, c_8, c_9, rfl⟩)), by rw [ht]; exact hP, va_K.moved hW.alike hK, hD⟩, hS.F ht⟩) hS.2.2 dX16_four_133
                    · exact h9.elim
                · refine lv_bipush (v := 19) hx hb dX16_four_74 (by decide) ?_
                  refine lv_iconst (v := 5) hx hb dX16_four_76 (by decide) ?_
                  refine lv_iload_n hx hb dX16_four_77 rfl (lv_at hl 3 rfl) ?_
                  refine lv_iload_n hx hb dX16_four_78 rfl (lv_at hl 3 rfl) ?_
                  refine lv_iload_n hx hb dX16_four_79 rfl (lv_at hl 4 rfl) ?_
                  refine lv_iconst (v := 2) hx hb dX16_four_80 (by decide) ?_
                  refine lv_iconst (v := 5) hx hb dX16_four_81 (by decide) ?_
                  have hPc := hP.sub (ws' := []) [] rfl
                  have hDc := hD.sub (ws' := []) [] (by decide) rfl
                  have hKc := hK.sub (tys' := []) [] rfl
                  have hFc := va_free (wc := []) hD hS hA [] rfl
                  refine va_calli (va_runS (As := [.int v0, .int 2, .int 5]) (rest := [.int (8 + ((((v0 : Int32).toUInt32 >>> ((7 : Int32).toUInt32 &&& Int32.toUInt32 31)).toInt32) &&& 7)), .int (8 + ((((v0 : Int32).toUInt32 >>> ((7 : Int32).toUInt32 &&& Int32.toUInt32 31)).toInt32) &&& 7)), .int 5, .int 19]) ⟨hx, hb, hml, hown, hts⟩ (k_X16_part_v19 l hlt dC dI v0  H.size) (cwS 3 hts gi_g_X16_four_8 rfl rfl rfl (by decide +kernel) ⟨Nat.le_of_ble_eq_true rfl, Nat.le_of_ble_eq_true rfl⟩) ⟨fun a U g mk q => by obtain ⟨q0, q1, qP, qK, qD, qN⟩ := q; exact ⟨q0, q1, qP, va_K.moved (u := U) (U := U.calling g mk a) (Vm.Alike.refl U.vm) qK, qD, nv_same rfl rfl qN⟩, fun U hU hW => ⟨rfl, by rw [hU], by rw [hU]; exact hPc, va_K.moved hW.alike hKc, hDc.weaken (fun _ _ _ _ => trivial), nv_call hS hFc hU hW hN⟩⟩ rfl rfl hl.1 rfl (lv_room (Nat.le_of_ble_eq_true rfl)) dX16_four_82 ⟨by decide +kernel, by decide +kernel⟩) hS (fun q _ h => hFc q h) hFc (fun r19 u t H1 locs ht hvm hw hB hz1 hk1 hS => ?_)
                  obtain ⟨hP1, hK1, hD1⟩ := hB
                  rw [ht] at hP1
                  have hK1 := va_K.moved hvm.symm hK1
                  obtain ⟨hP, hD⟩ := va_join (wr := []) (w1 := []) hP hD [] [] rfl rfl (by decide) (by decide) hk1 hFc hP1 hD1
                  have hK := (hK.sub (tys' := []) [] rfl).app hK1
                  generalize H1 = H at hP hS ⊢
                  have hP : va_P (dC, dI) vwCl [] H := hP
                  have hD : va_D A [] := hD
                  have hK : va_K (dC, dI) vwCl [] s := hK
                  refine W.widen (k := 0) (n := 0) (by decide +kernel) (by decide +kernel) ?_
                  rcases hw with h9 | h9
                  · subst h9
                    refine lv_iload hx hb dX16_four_85 (lv_at hl 1 rfl) ?_
                    refine lv_bipush (v := 10) hx hb dX16_four_87 (by decide) ?_
                    refine lv_ishl hx hb dX16_four_89 ?_
                    refine lv_ior hx hb dX16_four_90 ?_
                    have hPc := hP.sub (ws' := []) [] rfl
                    have hDc := hD.sub (ws' := []) [] (by decide) rfl
                    have hKc := hK.sub (tys' := []) [] rfl
                    have hFc := va_free (wc := []) hD hS hA [] rfl
                    refine va_calli (va_runS (As := [.int 19, .int 5, .int (8 + ((((v0 : Int32).toUInt32 >>> ((7 : Int32).toUInt32 &&& Int32.toUInt32 31)).toInt32) &&& 7)), .int (8 + ((((v0 : Int32).toUInt32 >>> ((7 : Int32).toUInt32 &&& Int32.toUInt32 31)).toInt32) &&& 7)), .int (((((v0 : Int32).toUInt32 >>> ((2 : Int32).toUInt32 &&& Int32.toUInt32 31)).toInt32) &&& 31) ||| ((((((v0 : Int32).toUInt32 >>> ((10 : Int32).toUInt32 &&& Int32.toUInt32 31)).toInt32) &&& 3) : Int32) <<< ((10 : Int32) &&& 31)))]) (rest := []) ⟨hx, hb, hml, hown, hts⟩ (k_X16_immediate_v2 l hlt dC dI (8 + ((((v0 : Int32).toUInt32 >>> ((7 : Int32).toUInt32 &&& Int32.toUInt32 31)).toInt32) &&& 7)) (8 + ((((v0 : Int32).toUInt32 >>> ((7 : Int32).toUInt32 &&& Int32.toUInt32 31)).toInt32) &&& 7)) (((((v0 : Int32).toUInt32 >>> ((2 : Int32).toUInt32 &&& Int32.toUInt32 31)).toInt32) &&& 31) ||| ((((((v0 : Int32).toUInt32 >>> ((10 : Int32).toUInt32 &&& Int32.toUInt32 31)).toInt32) &&& 3) : Int32) <<< ((10 : Int32) &&& 31)))  H.size) (cwS 5 hts gi_g_X16_four_9 rfl rfl rfl (by decide +kernel) ⟨Nat.le_of_ble_eq_true rfl, Nat.le_of_ble_eq_true rfl⟩) ⟨fun a U g mk q => by obtain ⟨q0, q1, qP, qK, qD, qN⟩ := q; exact ⟨q0, q1, qP, va_K.moved (u := U) (U := U.calling g mk a) (Vm.Alike.refl U.vm) qK, qD, nv_same rfl rfl qN⟩, fun U hU hW => ⟨rfl, by rw [hU], by rw [hU]; exact hPc, va_K.moved hW.alike hKc, hDc.weaken (fun _ _ _ _ => trivial), nv_call hS hFc hU hW hN⟩⟩ rfl rfl hl.1 rfl (lv_room (Nat.le_of_ble_eq_true rfl)) dX16_four_91 ⟨by decide +kernel, by decide +kernel⟩) hS (fun q _ h => hFc q h) hFc (fun r23 u t H1 locs ht hvm hw hB hz1 hk1 hS => ?_)
                    obtain ⟨hP1, hK1, hD1⟩ := hB
                    rw [ht] at hP1
                    have hK1 := va_K.moved hvm.symm hK1
                    obtain ⟨hP, hD⟩ := va_join (wr := []) (w1 := []) hP hD [] [] rfl rfl (by decide) (by decide) hk1 hFc hP1 hD1
                    have hK := (hK.sub (tys' := []) [] rfl).app hK1
                    generalize H1 = H at hP hS ⊢
                    have hP : va_P (dC, dI) vwCl [] H := hP
                    have hD : va_D A [] := hD
                    have hK : va_K (dC, dI) vwCl [] s := hK
                    refine W.widen (k := 0) (n := 0) (by decide +kernel) (by decide +kernel) ?_
                    rcases hw with h9 | h9
                    · subst h9
                      refine W.widen (k := 0) (n := 0) (by decide +kernel) (by decide +kernel) ?_
                      exact W.iret (v := ((((19 ||| (((8 + ((((v0 : Int32).toUInt32 >>> ((7 : Int32).toUInt32 &&& Int32.toUInt32 31)).toInt32) &&& 7)) : Int32) <<< ((7 : Int32) &&& 31))) ||| 20480) ||| (((8 + ((((v0 : Int32).toUInt32 >>> ((7 : Int32).toUInt32 &&& Int32.toUInt32 31)).toInt32) &&& 7)) : Int32) <<< ((15 : Int32) &&& 31))) ||| (((((((v0 : Int32).toUInt32 >>> ((2 : Int32).toUInt32 &&& Int32.toUInt32 31)).toInt32) &&& 31) ||| ((((((v0 : Int32).toUInt32 >>> ((10 : Int32).toUInt32 &&& Int32.toUInt32 31)).toInt32) &&& 3) : Int32) <<< ((10 : Int32) &&& 31))) : Int32) <<< ((20 : Int32) &&& 31)))) hx hb hr (fun t ht hW => ⟨⟨((((19 ||| (((8 + ((((v0 : Int32).toUInt32 >>> ((7 : Int32).toUInt32 &&& Int32.toUInt32 31)).toInt32) &&& 7)) : Int32) <<< ((7 : Int32) &&& 31))) ||| 20480) ||| (((8 + ((((v0 : Int32).toUInt32 >>> ((7 : Int32).toUInt32 &&& Int32.toUInt32 31)).toInt32) &&& 7)) : Int32) <<< ((15 : Int32) &&& 31))) ||| (((((((v0 : Int32).toUInt32 >>> ((2 : Int32).toUInt32 &&& Int32.toUInt32 31)).toInt32) &&& 31) ||| ((((((v0 : Int32).toUInt32 >>> ((10 : Int32).toUInt32 &&& Int32.toUInt32 31)).toInt32) &&& 3) : Int32) <<< ((10 : Int32) &&& 31))) : Int32) <<< ((20 : Int32) &&& 31))), (), rfl, Or.inr (Or.inr (Or.inr (Or.inl ⟨c_5, c_7, c_8, rfl⟩))), by rw [ht]; exact hP, va_K.moved hW.alike hK, hD⟩, hS.F ht⟩) hS.2.2 dX16_four_94
                    · exact h9.elim
                  · exact h9.elim
              · refine lv_iconst (v := 0) hx hb dX16_four_66 (by decide) ?_
                refine W.widen (k := 0) (n := 0) (by decide +kernel) (by decide +kernel) ?_
                exact W.iret (v := 0) hx hb hr (fun t ht hW => ⟨⟨0, (), rfl, Or.inr (Or.inr (Or.inr (Or.inr (Or.inl ⟨c_5, c_7, rfl⟩)))), by rw [ht]; exact hP, va_K.moved hW.alike hK, hD⟩, hS.F ht⟩) hS.2.2 dX16_four_67
            · exact h9.elim
          · refine lv_bipush (v := 19) hx hb dX16_four_44 (by decide) ?_
            refine lv_bipush (v := 7) hx hb dX16_four_46 (by decide) ?_
            refine lv_iload_n hx hb dX16_four_48 rfl (lv_at hl 3 rfl) ?_
            refine lv_iload_n hx hb dX16_four_49 rfl (lv_at hl 3 rfl) ?_
            refine lv_iload_n hx hb dX16_four_50 rfl (lv_at hl 5 rfl) ?_
            have hPc := hP.sub (ws' := []) [] rfl
            have hDc := hD.sub (ws' := []) [] (by decide) rfl
            have hKc := hK.sub (tys' := []) [] rfl
            have hFc := va_free (wc := []) hD hS hA [] rfl
            refine va_calli (va_runS (As := [.int 19, .int 7, .int (8 + ((((v0 : Int32).toUInt32 >>> ((7 : Int32).toUInt32 &&& Int32.toUInt32 31)).toInt32) &&& 7)), .int (8 + ((((v0 : Int32).toUInt32 >>> ((7 : Int32).toUInt32 &&& Int32.toUInt32 31)).toInt32) &&& 7)), .int v1]) (rest := []) ⟨hx, hb, hml, hown, hts⟩ (k_X16_immediate_v3 l hlt dC dI (8 + ((((v0 : Int32).toUInt32 >>> ((7 : Int32).toUInt32 &&& Int32.toUInt32 31)).toInt32) &&& 7)) (8 + ((((v0 : Int32).toUInt32 >>> ((7 : Int32).toUInt32 &&& Int32.toUInt32 31)).toInt32) &&& 7)) v1  H.size) (cwS 5 hts gi_g_X16_four_10 rfl rfl rfl (by decide +kernel) ⟨Nat.le_of_ble_eq_true rfl, Nat.le_of_ble_eq_true rfl⟩) ⟨fun a U g mk q => by obtain ⟨q0, q1, qP, qK, qD, qN⟩ := q; exact ⟨q0, q1, qP, va_K.moved (u := U) (U := U.calling g mk a) (Vm.Alike.refl U.vm) qK, qD, nv_same rfl rfl qN⟩, fun U hU hW => ⟨rfl, by rw [hU], by rw [hU]; exact hPc, va_K.moved hW.alike hKc, hDc.weaken (fun _ _ _ _ => trivial), nv_call hS hFc hU hW hN⟩⟩ rfl rfl hl.1 rfl (lv_room (Nat.le_of_ble_eq_true rfl)) dX16_four_51 ⟨by decide +kernel, by decide +kernel⟩) hS (fun q _ h => hFc q h) hFc (fun r26 u t H1 locs ht hvm hw hB hz1 hk1 hS => ?_)
            obtain ⟨hP1, hK1, hD1⟩ := hB
            rw [ht] at hP1
            have hK1 := va_K.moved hvm.symm hK1
            obtain ⟨hP, hD⟩ := va_join (wr := []) (w1 := []) hP hD [] [] rfl rfl (by decide) (by decide) hk1 hFc hP1 hD1
            have hK := (hK.sub (tys' := []) [] rfl).app hK1
            generalize H1 = H at hP hS ⊢
            have hP : va_P (dC, dI) vwCl [] H := hP
            have hD : va_D A [] := hD
            have hK : va_K (dC, dI) vwCl [] s := hK
            refine W.widen (k := 0) (n := 0) (by decide +kernel) (by decide +kernel) ?_
            rcases hw with h9 | h9
            · subst h9
              refine W.widen (k := 0) (n := 0) (by decide +kernel) (by decide +kernel) ?_
              exact W.iret (v := ((((19 ||| (((8 + ((((v0 : Int32).toUInt32 >>> ((7 : Int32).toUInt32 &&& Int32.toUInt32 31)).toInt32) &&& 7)) : Int32) <<< ((7 : Int32) &&& 31))) ||| 28672) ||| (((8 + ((((v0 : Int32).toUInt32 >>> ((7 : Int32).toUInt32 &&& Int32.toUInt32 31)).toInt32) &&& 7)) : Int32) <<< ((15 : Int32) &&& 31))) ||| ((v1 : Int32) <<< ((20 : Int32) &&& 31)))) hx hb hr (fun t ht hW => ⟨⟨((((19 ||| (((8 + ((((v0 : Int32).toUInt32 >>> ((7 : Int32).toUInt32 &&& Int32.toUInt32 31)).toInt32) &&& 7)) : Int32) <<< ((7 : Int32) &&& 31))) ||| 28672) ||| (((8 + ((((v0 : Int32).toUInt32 >>> ((7 : Int32).toUInt32 &&& Int32.toUInt32 31)).toInt32) &&& 7)) : Int32) <<< ((15 : Int32) &&& 31))) ||| ((v1 : Int32) <<< ((20 : Int32) &&& 31))), (), rfl, Or.inr (Or.inr (Or.inr (Or.inr (Or.inr (Or.inl ⟨c_5, rfl⟩))))), by rw [ht]; exact hP, va_K.moved hW.alike hK, hD⟩, hS.F ht⟩) hS.2.2 dX16_four_54
            · exact h9.elim
        · exact h9.elim
      · exact h9.elim
    · exact h9.elim
  · exact h9.elim
def ow_k_X16_plain : List Cond := .code yX16_plain cX16_plain 1 (some .long) :: ([.constantLong RX16 258 (4294967295)] ++ [])
theorem gd_k_X16_plain : ∀ w ∈ ow_k_X16_plain, (w.onTables && w.keeps) = true ∨ ∃ ty, w = Cond.arrayClass ty := List.forall_mem_cons.mpr ⟨good_of_word rfl, List.forall_mem_append.mpr ⟨fun w h => good_of_word (List.all_eq_true.mp (by decide +kernel) w h), fun _ h => nomatch h⟩⟩
set_option maxHeartbeats 40000000 in
set_option maxRecDepth 100000 in
theorem k_X16_plain (l : Launch) (hlt : l.stackTraces = false) (dC : Nat → ClassId) (dI : Nat → Nat → Nat) (c0 : Int32) (sz : Nat) : Met l yX16_plain ow_k_X16_plain ({ frames := 0, cells := 0, slots := 0, locals := 0 }) (va_Pc [.int c0] (fun U => U.heap.size = sz ∧ va_P (dC, dI) vwCl [] U.heap ∧ va_K (dC, dI) vwCl [] U ∧ va_D (fun _ => True) [] ∧ nv_E (va_A [] sz) U)) (va_Ql (fun r _ => (r = (((c0.toInt64) : Int64) &&& 4294967295)) ∨ False) (fun (_ : Unit) t => va_P (dC, dI) vwCl [] t.heap ∧ va_K (dC, dI) vwCl [] t ∧ va_D (va_A [] sz) []) (va_A [] sz)) 0 0 (va_A [] sz) := by
  refine Met.ofW (cc := cX16_plain) (maxL := 1) (ret := (some .long)) (by decide) rfl ?_
  intro p e s m args below meth c s₁ B hml hv
  obtain ⟨rfl, hsz, hP, hK, hD0, hN⟩ := hv
  have hx := B.exec
  have hb := B.bytes
  have hr := B.returns
  have hts := atoms_spec (ws := ow_k_X16_plain) B.pre
  have hown : s.vm.findClass RX16 = some m.cls := findClass_of_methodNamed B.named
  have hlocks := B.notSynchronized
  subst hsz
  have hD := hD0.self (sz := s.heap.size)
  generalize hAe : va_A [] s.heap.size = A at hD hN ⊢
  have hA : ∀ q : Nat, s.heap.size ≤ q → A q := fun q h => by rw [← hAe]; exact Or.inr h
  have hS : va_S A s.heap s.heap [] := va_S.rf
  have hl := lv_entry ([.int c0]) (n := 1) (Nat.le_of_ble_eq_true rfl)
  rw [lg_entry_eq]
  generalize (lg_sl ([.int c0]) ++ List.replicate (1 - (lg_sl ([.int c0])).length) Slot.unset).toArray = ls at hl ⊢
  have hl : lv_has ls 1 [(0, .int c0)] := hl
  refine lv_iload_n hx hb dX16_plain_0 rfl (lv_at hl 0 rfl) ?_
  refine lv_i2l hx hb dX16_plain_1 rfl ?_
  refine lv_ldc2 hx hb hown (hts (.constantLong RX16 258 (4294967295)) (List.mem_of_getElem? (i := 1) rfl)) dX16_plain_2 ?_
  refine lv_land hx hb dX16_plain_5 ?_
  refine W.widen (k := 0) (n := 0) (by decide +kernel) (by decide +kernel) ?_
  exact W.lret (v := (((c0.toInt64) : Int64) &&& 4294967295)) hx hb hr (fun t ht hW => ⟨⟨(((c0.toInt64) : Int64) &&& 4294967295), (), rfl, Or.inl rfl, by rw [ht]; exact hP, va_K.moved hW.alike hK, hD⟩, hS.F ht⟩) hS.2.2 dX16_plain_6
def ow_g_X16_reckoned : List Cond := .code yX16_reckoned cX16_reckoned 3 (some .int) :: ([.methodLink RX16 390 yX16_plain, .static yX16_plain, .initialized RX16] ++ (ow_k_X16_plain ++ []))
theorem gd_g_X16_reckoned : ∀ w ∈ ow_g_X16_reckoned, (w.onTables && w.keeps) = true ∨ ∃ ty, w = Cond.arrayClass ty := List.forall_mem_cons.mpr ⟨good_of_word rfl, List.forall_mem_append.mpr ⟨fun w h => good_of_word (List.all_eq_true.mp (by decide +kernel) w h), List.forall_mem_append.mpr ⟨gd_k_X16_plain, fun _ h => nomatch h⟩⟩⟩
theorem gi_g_X16_reckoned_0 : GoodIn ow_g_X16_reckoned (wsS RX16 390 yX16_plain ow_k_X16_plain) := goodIn_app (goodIn_of _ (by decide +kernel)) (fun w h => ⟨List.mem_cons_of_mem _ (List.mem_append_right _ (List.mem_append_left _ h)), gd_k_X16_plain w h⟩)
set_option maxHeartbeats 40000000 in
set_option maxRecDepth 100000 in
theorem g_X16_reckoned (l : Launch) (hlt : l.stackTraces = false) (dC : Nat → ClassId) (dI : Nat → Nat → Nat) (v0 : Int32) (v1 : Int32) (v2 : Int32) (sz : Nat) : Met l yX16_reckoned ow_g_X16_reckoned ({ frames := 1, cells := 0, slots := 0, locals := 20 }) (va_Pc [.int v0, .int v1, .int v2] (fun U => U.heap.size = sz ∧ va_P (dC, dI) vwCl [] U.heap ∧ va_K (dC, dI) vwCl [] U ∧ va_D (fun _ => True) [] ∧ nv_E (va_A [] sz) U)) (va_Qi (fun r _ => ((v0 = 0) ∧ r = (v1 + v2)) ∨ ((¬ v0 = 0) ∧ (v0 = 1) ∧ r = (v1 &&& v2)) ∨ ((¬ v0 = 0) ∧ (¬ v0 = 1) ∧ (v0 = 2) ∧ (v2 ≤ v1) ∧ r = 0) ∨ ((¬ v0 = 0) ∧ (¬ v0 = 1) ∧ (v0 = 2) ∧ (¬ v2 ≤ v1) ∧ r = 1) ∨ ((¬ v0 = 0) ∧ (¬ v0 = 1) ∧ (¬ v0 = 2) ∧ (v0 = 3) ∧ (0 ≤ (lg_cmp (((v1.toInt64) : Int64) &&& 4294967295) (((v2.toInt64) : Int64) &&& 4294967295))) ∧ r = 0) ∨ ((¬ v0 = 0) ∧ (¬ v0 = 1) ∧ (¬ v0 = 2) ∧ (v0 = 3) ∧ (¬ 0 ≤ (lg_cmp (((v1.toInt64) : Int64) &&& 4294967295) (((v2.toInt64) : Int64) &&& 4294967295))) ∧ r = 1) ∨ ((¬ v0 = 0) ∧ (¬ v0 = 1) ∧ (¬ v0 = 2) ∧ (¬ v0 = 3) ∧ (v0 = 4) ∧ r = (v1 ^^^ v2)) ∨ ((¬ v0 = 0) ∧ (¬ v0 = 1) ∧ (¬ v0 = 2) ∧ (¬ v0 = 3) ∧ (¬ v0 = 4) ∧ (v0 = 5) ∧ r = (v1 &&& v2)) ∨ ((¬ v0 = 0) ∧ (¬ v0 = 1) ∧ (¬ v0 = 2) ∧ (¬ v0 = 3) ∧ (¬ v0 = 4) ∧ (¬ v0 = 5) ∧ (v0 = 6) ∧ r = (v1 ||| v2)) ∨ ((¬ v0 = 0) ∧ (¬ v0 = 1) ∧ (¬ v0 = 2) ∧ (¬ v0 = 3) ∧ (¬ v0 = 4) ∧ (¬ v0 = 5) ∧ (¬ v0 = 6) ∧ r = (v1 &&& v2)) ∨ False) (fun (_ : Unit) t => va_P (dC, dI) vwCl [] t.heap ∧ va_K (dC, dI) vwCl [] t ∧ va_D (va_A [] sz) []) (va_A [] sz)) 0 0 (va_A [] sz) := by
  refine Met.ofW (cc := cX16_reckoned) (maxL := 3) (ret := (some .int)) (by decide) rfl ?_
  intro p e s m args below meth c s₁ B hml hv
  obtain ⟨rfl, hsz, hP, hK, hD0, hN⟩ := hv
  have hx := B.exec
  have hb := B.bytes
  have hr := B.returns
  have hts := atoms_spec (ws := ow_g_X16_reckoned) B.pre
  have hown : s.vm.findClass RX16 = some m.cls := findClass_of_methodNamed B.named
  have hlocks := B.notSynchronized
  subst hsz
  have hD := hD0.self (sz := s.heap.size)
  generalize hAe : va_A [] s.heap.size = A at hD hN ⊢
  have hA : ∀ q : Nat, s.heap.size ≤ q → A q := fun q h => by rw [← hAe]; exact Or.inr h
  have hS : va_S A s.heap s.heap [] := va_S.rf
  have hl := lv_entry ([.int v0, .int v1, .int v2]) (n := 3) (Nat.le_of_ble_eq_true rfl)
  rw [lg_entry_eq]
  generalize (lg_sl ([.int v0, .int v1, .int v2]) ++ List.replicate (3 - (lg_sl ([.int v0, .int v1, .int v2])).length) Slot.unset).toArray = ls at hl ⊢
  have hl : lv_has ls 3 [(0, .int v0), (1, .int v1), (2, .int v2)] := hl
  refine lv_iload_n hx hb dX16_reckoned_0 rfl (lv_at hl 0 rfl) ?_
  by_cases c_1 : v0 = 0
  · refine lv_tableIn (off := 43) (tgt := 44) hx hb dX16_reckoned_1 (by rw [c_1]; decide) (by rw [c_1]; decide) (by rw [c_1]; decide) (by decide) ?_
    refine lv_iload_n hx hb dX16_reckoned_44 rfl (lv_at hl 1 rfl) ?_
    refine lv_iload_n hx hb dX16_reckoned_45 rfl (lv_at hl 2 rfl) ?_
    refine lv_iadd hx hb dX16_reckoned_46 ?_
    refine W.widen (k := 0) (n := 0) (by decide +kernel) (by decide +kernel) ?_
    exact W.iret (v := (v1 + v2)) hx hb hr (fun t ht hW => ⟨⟨(v1 + v2), (), rfl, Or.inl ⟨c_1, rfl⟩, by rw [ht]; exact hP, va_K.moved hW.alike hK, hD⟩, hS.F ht⟩) hS.2.2 dX16_reckoned_47
  by_cases c_2 : v0 = 1
  · refine lv_tableIn (off := 84) (tgt := 85) hx hb dX16_reckoned_1 (by rw [c_2]; decide) (by rw [c_2]; decide) (by rw [c_2]; decide) (by decide) ?_
    refine lv_iload_n hx hb dX16_reckoned_85 rfl (lv_at hl 1 rfl) ?_
    refine lv_iload_n hx hb dX16_reckoned_86 rfl (lv_at hl 2 rfl) ?_
    refine lv_iand hx hb dX16_reckoned_87 ?_
    refine W.widen (k := 0) (n := 0) (by decide +kernel) (by decide +kernel) ?_
    exact W.iret (v := (v1 &&& v2)) hx hb hr (fun t ht hW => ⟨⟨(v1 &&& v2), (), rfl, Or.inr (Or.inl ⟨c_1, c_2, rfl⟩), by rw [ht]; exact hP, va_K.moved hW.alike hK, hD⟩, hS.F ht⟩) hS.2.2 dX16_reckoned_88
  by_cases c_3 : v0 = 2
  · refine lv_tableIn (off := 47) (tgt := 48) hx hb dX16_reckoned_1 (by rw [c_3]; decide) (by rw [c_3]; decide) (by rw [c_3]; decide) (by decide) ?_
    refine lv_iload_n hx hb dX16_reckoned_48 rfl (lv_at hl 1 rfl) ?_
    refine lv_iload_n hx hb dX16_reckoned_49 rfl (lv_at hl 2 rfl) ?_
    refine lv_icmp_ge (tgt := 57) hx hb dX16_reckoned_50 (by decide) (fun c_4 => ?_) (fun c_4 => ?_)
    · refine lv_iconst (v := 0) hx hb dX16_reckoned_57 (by decide) ?_
      refine W.widen (k := 0) (n := 0) (by decide +kernel) (by decide +kernel) ?_
      exact W.iret (v := 0) hx hb hr (fun t ht hW => ⟨⟨0, (), rfl, Or.inr (Or.inr (Or.inl ⟨c_1, c_2, c_3, c_4, rfl⟩)), by rw [ht]; exact hP, va_K.moved hW.alike hK, hD⟩, hS.F ht⟩) hS.2.2 dX16_reckoned_58
    · refine lv_iconst (v := 1) hx hb dX16_reckoned_53 (by decide) ?_
      refine lv_goto (tgt := 58) hx hb dX16_reckoned_54 (by decide) ?_
      refine W.widen (k := 0) (n := 0) (by decide +kernel) (by decide +kernel) ?_
      exact W.iret (v := 1) hx hb hr (fun t ht hW => ⟨⟨1, (), rfl, Or.inr (Or.inr (Or.inr (Or.inl ⟨c_1, c_2, c_3, c_4, rfl⟩))), by rw [ht]; exact hP, va_K.moved hW.alike hK, hD⟩, hS.F ht⟩) hS.2.2 dX16_reckoned_58
  by_cases c_5 : v0 = 3
  · refine lv_tableIn (off := 58) (tgt := 59) hx hb dX16_reckoned_1 (by rw [c_5]; decide) (by rw [c_5]; decide) (by rw [c_5]; decide) (by decide) ?_
    refine lv_iload_n hx hb dX16_reckoned_59 rfl (lv_at hl 1 rfl) ?_
    have hPc := hP.sub (ws' := []) [] rfl
    have hDc := hD.sub (ws' := []) [] (by decide) rfl
    have hKc := hK.sub (tys' := []) [] rfl
    have hFc := va_free (wc := []) hD hS hA [] rfl
    refine va_calll (va_runS (As := [.int v1]) (rest := []) ⟨hx, hb, hml, hown, hts⟩ (k_X16_plain l hlt dC dI v1  s.heap.size) (cwS 1 hts gi_g_X16_reckoned_0 rfl rfl rfl (by decide +kernel) ⟨Nat.le_of_ble_eq_true rfl, Nat.le_of_ble_eq_true rfl⟩) ⟨fun a U g mk q => by obtain ⟨q0, q1, qP, qK, qD, qN⟩ := q; exact ⟨q0, q1, qP, va_K.moved (u := U) (U := U.calling g mk a) (Vm.Alike.refl U.vm) qK, qD, nv_same rfl rfl qN⟩, fun U hU hW => ⟨rfl, by rw [hU], by rw [hU]; exact hPc, va_K.moved hW.alike hKc, hDc.weaken (fun _ _ _ _ => trivial), nv_call hS hFc hU hW hN⟩⟩ rfl rfl hl.1 rfl (lv_room (Nat.le_of_ble_eq_true rfl)) dX16_reckoned_60 ⟨by decide +kernel, by decide +kernel⟩) hS (fun q _ h => hFc q h) hFc (fun r1 u t H1 locs ht hvm hw hB hz1 hk1 hS => ?_)
    obtain ⟨hP1, hK1, hD1⟩ := hB
    rw [ht] at hP1
    have hK1 := va_K.moved hvm.symm hK1
    obtain ⟨hP, hD⟩ := va_join (wr := []) (w1 := []) hP hD [] [] rfl rfl (by decide) (by decide) hk1 hFc hP1 hD1
    have hK := (hK.sub (tys' := []) [] rfl).app hK1
    generalize H1 = H at hP hS ⊢
    have hP : va_P (dC, dI) vwCl [] H := hP
    have hD : va_D A [] := hD
    have hK : va_K (dC, dI) vwCl [] s := hK
    refine W.widen (k := 0) (n := 0) (by decide +kernel) (by decide +kernel) ?_
    rcases hw with h9 | h9
    · subst h9
      refine lv_iload_n hx hb dX16_reckoned_63 rfl (lv_at hl 2 rfl) ?_
      have hPc := hP.sub (ws' := []) [] rfl
      have hDc := hD.sub (ws' := []) [] (by decide) rfl
      have hKc := hK.sub (tys' := []) [] rfl
      have hFc := va_free (wc := []) hD hS hA [] rfl
      refine va_calll (va_runS (As := [.int v2]) (rest := [.long (((v1.toInt64) : Int64) &&& 4294967295)]) ⟨hx, hb, hml, hown, hts⟩ (k_X16_plain l hlt dC dI v2  H.size) (cwS 1 hts gi_g_X16_reckoned_0 rfl rfl rfl (by decide +kernel) ⟨Nat.le_of_ble_eq_true rfl, Nat.le_of_ble_eq_true rfl⟩) ⟨fun a U g mk q => by obtain ⟨q0, q1, qP, qK, qD, qN⟩ := q; exact ⟨q0, q1, qP, va_K.moved (u := U) (U := U.calling g mk a) (Vm.Alike.refl U.vm) qK, qD, nv_same rfl rfl qN⟩, fun U hU hW => ⟨rfl, by rw [hU], by rw [hU]; exact hPc, va_K.moved hW.alike hKc, hDc.weaken (fun _ _ _ _ => trivial), nv_call hS hFc hU hW hN⟩⟩ rfl rfl hl.1 rfl (lv_room (Nat.le_of_ble_eq_true rfl)) dX16_reckoned_64 ⟨by decide +kernel, by decide +kernel⟩) hS (fun q _ h => hFc q h) hFc (fun r2 u t H1 locs ht hvm hw hB hz1 hk1 hS => ?_)
      obtain ⟨hP1, hK1, hD1⟩ := hB
      rw [ht] at hP1
      have hK1 := va_K.moved hvm.symm hK1
      obtain ⟨hP, hD⟩ := va_join (wr := []) (w1 := []) hP hD [] [] rfl rfl (by decide) (by decide) hk1 hFc hP1 hD1
      have hK := (hK.sub (tys' := []) [] rfl).app hK1
      generalize H1 = H at hP hS ⊢
      have hP : va_P (dC, dI) vwCl [] H := hP
      have hD : va_D A [] := hD
      have hK : va_K (dC, dI) vwCl [] s := hK
      refine W.widen (k := 0) (n := 0) (by decide +kernel) (by decide +kernel) ?_
      rcases hw with h9 | h9
      · subst h9
        refine W.lcmp hx hb dX16_reckoned_67 ?_
        refine lv_if_ge (tgt := 75) hx hb dX16_reckoned_68 (by decide) (fun c_8 => ?_) (fun c_8 => ?_)
        · refine lv_iconst (v := 0) hx hb dX16_reckoned_75 (by decide) ?_
          refine W.widen (k := 0) (n := 0) (by decide +kernel) (by decide +kernel) ?_
          exact W.iret (v := 0) hx hb hr (fun t ht hW => ⟨⟨0, (), rfl, Or.inr (Or.inr (Or.inr (Or.inr (Or.inl ⟨c_1, c_2, c_3, c_5, c_8, rfl⟩)))), by rw [ht]; exact hP, va_K.moved hW.alike hK, hD⟩, hS.F ht⟩) hS.2.2 dX16_reckoned_76
        · refine lv_iconst (v := 1) hx hb dX16_reckoned_71 (by decide) ?_
          refine lv_goto (tgt := 76) hx hb dX16_reckoned_72 (by decide) ?_
          refine W.widen (k := 0) (n := 0) (by decide +kernel) (by decide +kernel) ?_
          exact W.iret (v := 1) hx hb hr (fun t ht hW => ⟨⟨1, (), rfl, Or.inr (Or.inr (Or.inr (Or.inr (Or.inr (Or.inl ⟨c_1, c_2, c_3, c_5, c_8, rfl⟩))))), by rw [ht]; exact hP, va_K.moved hW.alike hK, hD⟩, hS.F ht⟩) hS.2.2 dX16_reckoned_76
      · exact h9.elim
    · exact h9.elim
  by_cases c_9 : v0 = 4
  · refine lv_tableIn (off := 76) (tgt := 77) hx hb dX16_reckoned_1 (by rw [c_9]; decide) (by rw [c_9]; decide) (by rw [c_9]; decide) (by decide) ?_
    refine lv_iload_n hx hb dX16_reckoned_77 rfl (lv_at hl 1 rfl) ?_
    refine lv_iload_n hx hb dX16_reckoned_78 rfl (lv_at hl 2 rfl) ?_
    refine lv_ixor hx hb dX16_reckoned_79 ?_
    refine W.widen (k := 0) (n := 0) (by decide +kernel) (by decide +kernel) ?_
    exact W.iret (v := (v1 ^^^ v2)) hx hb hr (fun t ht hW => ⟨⟨(v1 ^^^ v2), (), rfl, Or.inr (Or.inr (Or.inr (Or.inr (Or.inr (Or.inr (Or.inl ⟨c_1, c_2, c_3, c_5, c_9, rfl⟩)))))), by rw [ht]; exact hP, va_K.moved hW.alike hK, hD⟩, hS.F ht⟩) hS.2.2 dX16_reckoned_80
  by_cases c_10 : v0 = 5
  · refine lv_tableIn (off := 84) (tgt := 85) hx hb dX16_reckoned_1 (by rw [c_10]; decide) (by rw [c_10]; decide) (by rw [c_10]; decide) (by decide) ?_
    refine lv_iload_n hx hb dX16_reckoned_85 rfl (lv_at hl 1 rfl) ?_
    refine lv_iload_n hx hb dX16_reckoned_86 rfl (lv_at hl 2 rfl) ?_
    refine lv_iand hx hb dX16_reckoned_87 ?_
    refine W.widen (k := 0) (n := 0) (by decide +kernel) (by decide +kernel) ?_
    exact W.iret (v := (v1 &&& v2)) hx hb hr (fun t ht hW => ⟨⟨(v1 &&& v2), (), rfl, Or.inr (Or.inr (Or.inr (Or.inr (Or.inr (Or.inr (Or.inr (Or.inl ⟨c_1, c_2, c_3, c_5, c_9, c_10, rfl⟩))))))), by rw [ht]; exact hP, va_K.moved hW.alike hK, hD⟩, hS.F ht⟩) hS.2.2 dX16_reckoned_88
  by_cases c_11 : v0 = 6
  · refine lv_tableIn (off := 80) (tgt := 81) hx hb dX16_reckoned_1 (by rw [c_11]; decide) (by rw [c_11]; decide) (by rw [c_11]; decide) (by decide) ?_
    refine lv_iload_n hx hb dX16_reckoned_81 rfl (lv_at hl 1 rfl) ?_
    refine lv_iload_n hx hb dX16_reckoned_82 rfl (lv_at hl 2 rfl) ?_
    refine lv_ior hx hb dX16_reckoned_83 ?_
    refine W.widen (k := 0) (n := 0) (by decide +kernel) (by decide +kernel) ?_
    exact W.iret (v := (v1 ||| v2)) hx hb hr (fun t ht hW => ⟨⟨(v1 ||| v2), (), rfl, Or.inr (Or.inr (Or.inr (Or.inr (Or.inr (Or.inr (Or.inr (Or.inr (Or.inl ⟨c_1, c_2, c_3, c_5, c_9, c_10, c_11, rfl⟩)))))))), by rw [ht]; exact hP, va_K.moved hW.alike hK, hD⟩, hS.F ht⟩) hS.2.2 dX16_reckoned_84
  refine lv_tableOut (tgt := 85) hx hb dX16_reckoned_1 (by have g0 := nv_nei c_1 (k := 0) (by decide); have g1 := nv_nei c_2 (k := 1) (by decide); have g2 := nv_nei c_3 (k := 2) (by decide); have g3 := nv_nei c_5 (k := 3) (by decide); have g4 := nv_nei c_9 (k := 4) (by decide); have g5 := nv_nei c_10 (k := 5) (by decide); have g6 := nv_nei c_11 (k := 6) (by decide); omega) (by decide) ?_
  refine lv_iload_n hx hb dX16_reckoned_85 rfl (lv_at hl 1 rfl) ?_
  refine lv_iload_n hx hb dX16_reckoned_86 rfl (lv_at hl 2 rfl) ?_
  refine lv_iand hx hb dX16_reckoned_87 ?_
  refine W.widen (k := 0) (n := 0) (by decide +kernel) (by decide +kernel) ?_
  exact W.iret (v := (v1 &&& v2)) hx hb hr (fun t ht hW => ⟨⟨(v1 &&& v2), (), rfl, Or.inr (Or.inr (Or.inr (Or.inr (Or.inr (Or.inr (Or.inr (Or.inr (Or.inr (Or.inl ⟨c_1, c_2, c_3, c_5, c_9, c_10, c_11, rfl⟩))))))))), by rw [ht]; exact hP, va_K.moved hW.alike hK, hD⟩, hS.F ht⟩) hS.2.2 dX16_reckoned_88
def ow_g_X19_in : List Cond := .code yX19_in cX19_in 6 (some .boolean) :: ([] ++ [])
theorem gd_g_X19_in : ∀ w ∈ ow_g_X19_in, (w.onTables && w.keeps) = true ∨ ∃ ty, w = Cond.arrayClass ty := List.forall_mem_cons.mpr ⟨good_of_word rfl, List.forall_mem_append.mpr ⟨fun w h => good_of_word (List.all_eq_true.mp (by decide +kernel) w h), fun _ h => nomatch h⟩⟩
set_option maxHeartbeats 40000000 in
set_option maxRecDepth 100000 in
theorem g_X19_in (l : Launch) (hlt : l.stackTraces = false) (dC : Nat → ClassId) (dI : Nat → Nat → Nat) (v0 : Int64) (v1 : Int64) (v2 : Int64) (sz : Nat) : Met l yX19_in ow_g_X19_in ({ frames := 0, cells := 0, slots := 0, locals := 0 }) (va_Pc [.long v0, .long v1, .long v2] (fun U => U.heap.size = sz ∧ va_P (dC, dI) vwCl [] U.heap ∧ va_K (dC, dI) vwCl [] U ∧ va_D (fun _ => True) [] ∧ nv_E (va_A [] sz) U)) (va_Qi (fun r _ => ((v0 < v1) ∧ r = 0) ∨ ((¬ v0 < v1) ∧ (v2 < v0) ∧ r = 0) ∨ ((¬ v0 < v1) ∧ (¬ v2 < v0) ∧ r = 1) ∨ False) (fun (_ : Unit) t => va_P (dC, dI) vwCl [] t.heap ∧ va_K (dC, dI) vwCl [] t ∧ va_D (va_A [] sz) []) (va_A [] sz)) 0 0 (va_A [] sz) := by
  refine Met.ofW (cc := cX19_in) (maxL := 6) (ret := (some .boolean)) (by decide) rfl ?_
  intro p e s m args below meth c s₁ B hml hv
  obtain ⟨rfl, hsz, hP, hK, hD0, hN⟩ := hv
  have hx := B.exec
  have hb := B.bytes
  have hr := B.returns
  have hts := atoms_spec (ws := ow_g_X19_in) B.pre
  have hown : s.vm.findClass RX19 = some m.cls := findClass_of_methodNamed B.named
  have hlocks := B.notSynchronized
  subst hsz
  have hD := hD0.self (sz := s.heap.size)
  generalize hAe : va_A [] s.heap.size = A at hD hN ⊢
  have hA : ∀ q : Nat, s.heap.size ≤ q → A q := fun q h => by rw [← hAe]; exact Or.inr h
  have hS : va_S A s.heap s.heap [] := va_S.rf
  have hl := lv_entry ([.long v0, .long v1, .long v2]) (n := 6) (Nat.le_of_ble_eq_true rfl)
  rw [lg_entry_eq]
  generalize (lg_sl ([.long v0, .long v1, .long v2]) ++ List.replicate (6 - (lg_sl ([.long v0, .long v1, .long v2])).length) Slot.unset).toArray = ls at hl ⊢
  have hl : lv_has ls 6 [(0, .long v0), (2, .long v1), (4, .long v2)] := hl
  refine lv_lload_n hx hb dX19_in_0 rfl (lv_at hl 0 rfl) ?_
  refine lv_lload_n hx hb dX19_in_1 rfl (lv_at hl 1 rfl) ?_
  refine W.lcmp hx hb dX19_in_2 ?_
  refine lv_if_lt (tgt := 17) hx hb dX19_in_3 (by decide) (fun h9 => (fun (c_1 : v0 < v1) => ?_) ((nv_cl_lt (a := v0) (b := v1)).mp h9)) (fun h9 => (fun (c_1 : ¬ v0 < v1) => ?_) (fun h8 => h9 ((nv_cl_lt (a := v0) (b := v1)).mpr h8)))
  · refine lv_iconst (v := 0) hx hb dX19_in_17 (by decide) ?_
    refine W.widen (k := 0) (n := 0) (by decide +kernel) (by decide +kernel) ?_
    exact W.zret (v := 0) hx hb hr (by first | rfl | decide) (fun t ht hW => ⟨⟨0, (), rfl, Or.inl ⟨c_1, rfl⟩, by rw [ht]; exact hP, va_K.moved hW.alike hK, hD⟩, hS.F ht⟩) hS.2.2 dX19_in_18
  · refine lv_lload_n hx hb dX19_in_6 rfl (lv_at hl 0 rfl) ?_
    refine lv_lload hx hb dX19_in_7 (lv_at hl 2 rfl) ?_
    refine W.lcmp hx hb dX19_in_9 ?_
    refine lv_if_gt (tgt := 17) hx hb dX19_in_10 (by decide) (fun h9 => (fun (c_2 : v2 < v0) => ?_) ((nv_cl_gt (a := v0) (b := v2)).mp h9)) (fun h9 => (fun (c_2 : ¬ v2 < v0) => ?_) (fun h8 => h9 ((nv_cl_gt (a := v0) (b := v2)).mpr h8)))
    · refine lv_iconst (v := 0) hx hb dX19_in_17 (by decide) ?_
      refine W.widen (k := 0) (n := 0) (by decide +kernel) (by decide +kernel) ?_
      exact W.zret (v := 0) hx hb hr (by first | rfl | decide) (fun t ht hW => ⟨⟨0, (), rfl, Or.inr (Or.inl ⟨c_1, c_2, rfl⟩), by rw [ht]; exact hP, va_K.moved hW.alike hK, hD⟩, hS.F ht⟩) hS.2.2 dX19_in_18
    · refine lv_iconst (v := 1) hx hb dX19_in_13 (by decide) ?_
      refine lv_goto (tgt := 18) hx hb dX19_in_14 (by decide) ?_
      refine W.widen (k := 0) (n := 0) (by decide +kernel) (by decide +kernel) ?_
      exact W.zret (v := 1) hx hb hr (by first | rfl | decide) (fun t ht hW => ⟨⟨1, (), rfl, Or.inr (Or.inr (Or.inl ⟨c_1, c_2, rfl⟩)), by rw [ht]; exact hP, va_K.moved hW.alike hK, hD⟩, hS.F ht⟩) hS.2.2 dX19_in_18
def ow_k_X19_in : List Cond := .code yX19_in cX19_in 6 (some .boolean) :: ([] ++ [])
theorem gd_k_X19_in : ∀ w ∈ ow_k_X19_in, (w.onTables && w.keeps) = true ∨ ∃ ty, w = Cond.arrayClass ty := List.forall_mem_cons.mpr ⟨good_of_word rfl, List.forall_mem_append.mpr ⟨fun w h => good_of_word (List.all_eq_true.mp (by decide +kernel) w h), fun _ h => nomatch h⟩⟩
set_option maxHeartbeats 40000000 in
set_option maxRecDepth 100000 in
theorem k_X19_in (l : Launch) (hlt : l.stackTraces = false) (dC : Nat → ClassId) (dI : Nat → Nat → Nat) (c0 : Int64) (sz : Nat) : Met l yX19_in ow_k_X19_in ({ frames := 0, cells := 0, slots := 0, locals := 0 }) (va_Pc [.long c0, .long 0, .long 1099511627776] (fun U => U.heap.size = sz ∧ va_P (dC, dI) vwCl [] U.heap ∧ va_K (dC, dI) vwCl [] U ∧ va_D (fun _ => True) [] ∧ nv_E (va_A [] sz) U)) (va_Qi (fun r _ => ((c0 < 0) ∧ r = 0) ∨ ((¬ c0 < 0) ∧ (1099511627776 < c0) ∧ r = 0) ∨ ((¬ c0 < 0) ∧ (¬ 1099511627776 < c0) ∧ r = 1) ∨ False) (fun (_ : Unit) t => va_P (dC, dI) vwCl [] t.heap ∧ va_K (dC, dI) vwCl [] t ∧ va_D (va_A [] sz) []) (va_A [] sz)) 0 0 (va_A [] sz) := by
  refine Met.ofW (cc := cX19_in) (maxL := 6) (ret := (some .boolean)) (by decide) rfl ?_
  intro p e s m args below meth c s₁ B hml hv
  obtain ⟨rfl, hsz, hP, hK, hD0, hN⟩ := hv
  have hx := B.exec
  have hb := B.bytes
  have hr := B.returns
  have hts := atoms_spec (ws := ow_k_X19_in) B.pre
  have hown : s.vm.findClass RX19 = some m.cls := findClass_of_methodNamed B.named
  have hlocks := B.notSynchronized
  subst hsz
  have hD := hD0.self (sz := s.heap.size)
  generalize hAe : va_A [] s.heap.size = A at hD hN ⊢
  have hA : ∀ q : Nat, s.heap.size ≤ q → A q := fun q h => by rw [← hAe]; exact Or.inr h
  have hS : va_S A s.heap s.heap [] := va_S.rf
  have hl := lv_entry ([.long c0, .long 0, .long 1099511627776]) (n := 6) (Nat.le_of_ble_eq_true rfl)
  rw [lg_entry_eq]
  generalize (lg_sl ([.long c0, .long 0, .long 1099511627776]) ++ List.replicate (6 - (lg_sl ([.long c0, .long 0, .long 1099511627776])).length) Slot.unset).toArray = ls at hl ⊢
  have hl : lv_has ls 6 [(0, .long c0), (2, .long 0), (4, .long 1099511627776)] := hl
  refine lv_lload_n hx hb dX19_in_0 rfl (lv_at hl 0 rfl) ?_
  refine lv_lload_n hx hb dX19_in_1 rfl (lv_at hl 1 rfl) ?_
  refine W.lcmp hx hb dX19_in_2 ?_
  refine lv_if_lt (tgt := 17) hx hb dX19_in_3 (by decide) (fun h9 => (fun (c_1 : c0 < 0) => ?_) ((nv_cl_lt (a := c0) (b := 0)).mp h9)) (fun h9 => (fun (c_1 : ¬ c0 < 0) => ?_) (fun h8 => h9 ((nv_cl_lt (a := c0) (b := 0)).mpr h8)))
  · refine lv_iconst (v := 0) hx hb dX19_in_17 (by decide) ?_
    refine W.widen (k := 0) (n := 0) (by decide +kernel) (by decide +kernel) ?_
    exact W.zret (v := 0) hx hb hr (by first | rfl | decide) (fun t ht hW => ⟨⟨0, (), rfl, Or.inl ⟨c_1, rfl⟩, by rw [ht]; exact hP, va_K.moved hW.alike hK, hD⟩, hS.F ht⟩) hS.2.2 dX19_in_18
  · refine lv_lload_n hx hb dX19_in_6 rfl (lv_at hl 0 rfl) ?_
    refine lv_lload hx hb dX19_in_7 (lv_at hl 2 rfl) ?_
    refine W.lcmp hx hb dX19_in_9 ?_
    refine lv_if_gt (tgt := 17) hx hb dX19_in_10 (by decide) (fun h9 => (fun (c_2 : 1099511627776 < c0) => ?_) ((nv_cl_gt (a := c0) (b := 1099511627776)).mp h9)) (fun h9 => (fun (c_2 : ¬ 1099511627776 < c0) => ?_) (fun h8 => h9 ((nv_cl_gt (a := c0) (b := 1099511627776)).mpr h8)))
    · refine lv_iconst (v := 0) hx hb dX19_in_17 (by decide) ?_
      refine W.widen (k := 0) (n := 0) (by decide +kernel) (by decide +kernel) ?_
      exact W.zret (v := 0) hx hb hr (by first | rfl | decide) (fun t ht hW => ⟨⟨0, (), rfl, Or.inr (Or.inl ⟨c_1, c_2, rfl⟩), by rw [ht]; exact hP, va_K.moved hW.alike hK, hD⟩, hS.F ht⟩) hS.2.2 dX19_in_18
    · refine lv_iconst (v := 1) hx hb dX19_in_13 (by decide) ?_
      refine lv_goto (tgt := 18) hx hb dX19_in_14 (by decide) ?_
      refine W.widen (k := 0) (n := 0) (by decide +kernel) (by decide +kernel) ?_
      exact W.zret (v := 1) hx hb hr (by first | rfl | decide) (fun t ht hW => ⟨⟨1, (), rfl, Or.inr (Or.inr (Or.inl ⟨c_1, c_2, rfl⟩)), by rw [ht]; exact hP, va_K.moved hW.alike hK, hD⟩, hS.F ht⟩) hS.2.2 dX19_in_18
def ow_k_X19_in_v1 : List Cond := .code yX19_in cX19_in 6 (some .boolean) :: ([] ++ [])
theorem gd_k_X19_in_v1 : ∀ w ∈ ow_k_X19_in_v1, (w.onTables && w.keeps) = true ∨ ∃ ty, w = Cond.arrayClass ty := List.forall_mem_cons.mpr ⟨good_of_word rfl, List.forall_mem_append.mpr ⟨fun w h => good_of_word (List.all_eq_true.mp (by decide +kernel) w h), fun _ h => nomatch h⟩⟩
set_option maxHeartbeats 40000000 in
set_option maxRecDepth 100000 in
theorem k_X19_in_v1 (l : Launch) (hlt : l.stackTraces = false) (dC : Nat → ClassId) (dI : Nat → Nat → Nat) (c0 : Int64) (sz : Nat) : Met l yX19_in ow_k_X19_in_v1 ({ frames := 0, cells := 0, slots := 0, locals := 0 }) (va_Pc [.long c0, .long 0, .long 15] (fun U => U.heap.size = sz ∧ va_P (dC, dI) vwCl [] U.heap ∧ va_K (dC, dI) vwCl [] U ∧ va_D (fun _ => True) [] ∧ nv_E (va_A [] sz) U)) (va_Qi (fun r _ => ((c0 < 0) ∧ r = 0) ∨ ((¬ c0 < 0) ∧ (15 < c0) ∧ r = 0) ∨ ((¬ c0 < 0) ∧ (¬ 15 < c0) ∧ r = 1) ∨ False) (fun (_ : Unit) t => va_P (dC, dI) vwCl [] t.heap ∧ va_K (dC, dI) vwCl [] t ∧ va_D (va_A [] sz) []) (va_A [] sz)) 0 0 (va_A [] sz) := by
  refine Met.ofW (cc := cX19_in) (maxL := 6) (ret := (some .boolean)) (by decide) rfl ?_
  intro p e s m args below meth c s₁ B hml hv
  obtain ⟨rfl, hsz, hP, hK, hD0, hN⟩ := hv
  have hx := B.exec
  have hb := B.bytes
  have hr := B.returns
  have hts := atoms_spec (ws := ow_k_X19_in_v1) B.pre
  have hown : s.vm.findClass RX19 = some m.cls := findClass_of_methodNamed B.named
  have hlocks := B.notSynchronized
  subst hsz
  have hD := hD0.self (sz := s.heap.size)
  generalize hAe : va_A [] s.heap.size = A at hD hN ⊢
  have hA : ∀ q : Nat, s.heap.size ≤ q → A q := fun q h => by rw [← hAe]; exact Or.inr h
  have hS : va_S A s.heap s.heap [] := va_S.rf
  have hl := lv_entry ([.long c0, .long 0, .long 15]) (n := 6) (Nat.le_of_ble_eq_true rfl)
  rw [lg_entry_eq]
  generalize (lg_sl ([.long c0, .long 0, .long 15]) ++ List.replicate (6 - (lg_sl ([.long c0, .long 0, .long 15])).length) Slot.unset).toArray = ls at hl ⊢
  have hl : lv_has ls 6 [(0, .long c0), (2, .long 0), (4, .long 15)] := hl
  refine lv_lload_n hx hb dX19_in_0 rfl (lv_at hl 0 rfl) ?_
  refine lv_lload_n hx hb dX19_in_1 rfl (lv_at hl 1 rfl) ?_
  refine W.lcmp hx hb dX19_in_2 ?_
  refine lv_if_lt (tgt := 17) hx hb dX19_in_3 (by decide) (fun h9 => (fun (c_1 : c0 < 0) => ?_) ((nv_cl_lt (a := c0) (b := 0)).mp h9)) (fun h9 => (fun (c_1 : ¬ c0 < 0) => ?_) (fun h8 => h9 ((nv_cl_lt (a := c0) (b := 0)).mpr h8)))
  · refine lv_iconst (v := 0) hx hb dX19_in_17 (by decide) ?_
    refine W.widen (k := 0) (n := 0) (by decide +kernel) (by decide +kernel) ?_
    exact W.zret (v := 0) hx hb hr (by first | rfl | decide) (fun t ht hW => ⟨⟨0, (), rfl, Or.inl ⟨c_1, rfl⟩, by rw [ht]; exact hP, va_K.moved hW.alike hK, hD⟩, hS.F ht⟩) hS.2.2 dX19_in_18
  · refine lv_lload_n hx hb dX19_in_6 rfl (lv_at hl 0 rfl) ?_
    refine lv_lload hx hb dX19_in_7 (lv_at hl 2 rfl) ?_
    refine W.lcmp hx hb dX19_in_9 ?_
    refine lv_if_gt (tgt := 17) hx hb dX19_in_10 (by decide) (fun h9 => (fun (c_2 : 15 < c0) => ?_) ((nv_cl_gt (a := c0) (b := 15)).mp h9)) (fun h9 => (fun (c_2 : ¬ 15 < c0) => ?_) (fun h8 => h9 ((nv_cl_gt (a := c0) (b := 15)).mpr h8)))
    · refine lv_iconst (v := 0) hx hb dX19_in_17 (by decide) ?_
      refine W.widen (k := 0) (n := 0) (by decide +kernel) (by decide +kernel) ?_
      exact W.zret (v := 0) hx hb hr (by first | rfl | decide) (fun t ht hW => ⟨⟨0, (), rfl, Or.inr (Or.inl ⟨c_1, c_2, rfl⟩), by rw [ht]; exact hP, va_K.moved hW.alike hK, hD⟩, hS.F ht⟩) hS.2.2 dX19_in_18
    · refine lv_iconst (v := 1) hx hb dX19_in_13 (by decide) ?_
      refine lv_goto (tgt := 18) hx hb dX19_in_14 (by decide) ?_
      refine W.widen (k := 0) (n := 0) (by decide +kernel) (by decide +kernel) ?_
      exact W.zret (v := 1) hx hb hr (by first | rfl | decide) (fun t ht hW => ⟨⟨1, (), rfl, Or.inr (Or.inr (Or.inl ⟨c_1, c_2, rfl⟩)), by rw [ht]; exact hP, va_K.moved hW.alike hK, hD⟩, hS.F ht⟩) hS.2.2 dX19_in_18
def ow_k_X19_in_v2 : List Cond := .code yX19_in cX19_in 6 (some .boolean) :: ([] ++ [])
theorem gd_k_X19_in_v2 : ∀ w ∈ ow_k_X19_in_v2, (w.onTables && w.keeps) = true ∨ ∃ ty, w = Cond.arrayClass ty := List.forall_mem_cons.mpr ⟨good_of_word rfl, List.forall_mem_append.mpr ⟨fun w h => good_of_word (List.all_eq_true.mp (by decide +kernel) w h), fun _ h => nomatch h⟩⟩
set_option maxHeartbeats 40000000 in
set_option maxRecDepth 100000 in
theorem k_X19_in_v2 (l : Launch) (hlt : l.stackTraces = false) (dC : Nat → ClassId) (dI : Nat → Nat → Nat) (c0 : Int32) (sz : Nat) : Met l yX19_in ow_k_X19_in_v2 ({ frames := 0, cells := 0, slots := 0, locals := 0 }) (va_Pc [.long (c0.toInt64), .long 1, .long 31] (fun U => U.heap.size = sz ∧ va_P (dC, dI) vwCl [] U.heap ∧ va_K (dC, dI) vwCl [] U ∧ va_D (fun _ => True) [] ∧ nv_E (va_A [] sz) U)) (va_Qi (fun r _ => ((c0 < 1) ∧ r = 0) ∨ ((¬ c0 < 1) ∧ (31 < c0) ∧ r = 0) ∨ ((¬ c0 < 1) ∧ (¬ 31 < c0) ∧ r = 1) ∨ False) (fun (_ : Unit) t => va_P (dC, dI) vwCl [] t.heap ∧ va_K (dC, dI) vwCl [] t ∧ va_D (va_A [] sz) []) (va_A [] sz)) 0 0 (va_A [] sz) := by
  refine Met.ofW (cc := cX19_in) (maxL := 6) (ret := (some .boolean)) (by decide) rfl ?_
  intro p e s m args below meth c s₁ B hml hv
  obtain ⟨rfl, hsz, hP, hK, hD0, hN⟩ := hv
  have hx := B.exec
  have hb := B.bytes
  have hr := B.returns
  have hts := atoms_spec (ws := ow_k_X19_in_v2) B.pre
  have hown : s.vm.findClass RX19 = some m.cls := findClass_of_methodNamed B.named
  have hlocks := B.notSynchronized
  subst hsz
  have hD := hD0.self (sz := s.heap.size)
  generalize hAe : va_A [] s.heap.size = A at hD hN ⊢
  have hA : ∀ q : Nat, s.heap.size ≤ q → A q := fun q h => by rw [← hAe]; exact Or.inr h
  have hS : va_S A s.heap s.heap [] := va_S.rf
  have hl := lv_entry ([.long (c0.toInt64), .long 1, .long 31]) (n := 6) (Nat.le_of_ble_eq_true rfl)
  rw [lg_entry_eq]
  generalize (lg_sl ([.long (c0.toInt64), .long 1, .long 31]) ++ List.replicate (6 - (lg_sl ([.long (c0.toInt64), .long 1, .long 31])).length) Slot.unset).toArray = ls at hl ⊢
  have hl : lv_has ls 6 [(0, .long (c0.toInt64)), (2, .long 1), (4, .long 31)] := hl
  refine lv_lload_n hx hb dX19_in_0 rfl (lv_at hl 0 rfl) ?_
  refine lv_lload_n hx hb dX19_in_1 rfl (lv_at hl 1 rfl) ?_
  refine W.lcmp hx hb dX19_in_2 ?_
  refine lv_if_lt (tgt := 17) hx hb dX19_in_3 (by decide) (fun h9 => (fun (c_1 : c0 < 1) => ?_) ((nv_ci_lt (x := c0) (k := 1) (K := 1) (by decide)).mp h9)) (fun h9 => (fun (c_1 : ¬ c0 < 1) => ?_) (fun h8 => h9 ((nv_ci_lt (x := c0) (k := 1) (K := 1) (by decide)).mpr h8)))
  · refine lv_iconst (v := 0) hx hb dX19_in_17 (by decide) ?_
    refine W.widen (k := 0) (n := 0) (by decide +kernel) (by decide +kernel) ?_
    exact W.zret (v := 0) hx hb hr (by first | rfl | decide) (fun t ht hW => ⟨⟨0, (), rfl, Or.inl ⟨c_1, rfl⟩, by rw [ht]; exact hP, va_K.moved hW.alike hK, hD⟩, hS.F ht⟩) hS.2.2 dX19_in_18
  · refine lv_lload_n hx hb dX19_in_6 rfl (lv_at hl 0 rfl) ?_
    refine lv_lload hx hb dX19_in_7 (lv_at hl 2 rfl) ?_
    refine W.lcmp hx hb dX19_in_9 ?_
    refine lv_if_gt (tgt := 17) hx hb dX19_in_10 (by decide) (fun h9 => (fun (c_2 : 31 < c0) => ?_) ((nv_ci_gt (x := c0) (k := 31) (K := 31) (by decide)).mp h9)) (fun h9 => (fun (c_2 : ¬ 31 < c0) => ?_) (fun h8 => h9 ((nv_ci_gt (x := c0) (k := 31) (K := 31) (by decide)).mpr h8)))
    · refine lv_iconst (v := 0) hx hb dX19_in_17 (by decide) ?_
      refine W.widen (k := 0) (n := 0) (by decide +kernel) (by decide +kernel) ?_
      exact W.zret (v := 0) hx hb hr (by first | rfl | decide) (fun t ht hW => ⟨⟨0, (), rfl, Or.inr (Or.inl ⟨c_1, c_2, rfl⟩), by rw [ht]; exact hP, va_K.moved hW.alike hK, hD⟩, hS.F ht⟩) hS.2.2 dX19_in_18
    · refine lv_iconst (v := 1) hx hb dX19_in_13 (by decide) ?_
      refine lv_goto (tgt := 18) hx hb dX19_in_14 (by decide) ?_
      refine W.widen (k := 0) (n := 0) (by decide +kernel) (by decide +kernel) ?_
      exact W.zret (v := 1) hx hb hr (by first | rfl | decide) (fun t ht hW => ⟨⟨1, (), rfl, Or.inr (Or.inr (Or.inl ⟨c_1, c_2, rfl⟩)), by rw [ht]; exact hP, va_K.moved hW.alike hK, hD⟩, hS.F ht⟩) hS.2.2 dX19_in_18
def ow_k_X19_in_v3 : List Cond := .code yX19_in cX19_in 6 (some .boolean) :: ([] ++ [])
theorem gd_k_X19_in_v3 : ∀ w ∈ ow_k_X19_in_v3, (w.onTables && w.keeps) = true ∨ ∃ ty, w = Cond.arrayClass ty := List.forall_mem_cons.mpr ⟨good_of_word rfl, List.forall_mem_append.mpr ⟨fun w h => good_of_word (List.all_eq_true.mp (by decide +kernel) w h), fun _ h => nomatch h⟩⟩
set_option maxHeartbeats 40000000 in
set_option maxRecDepth 100000 in
theorem k_X19_in_v3 (l : Launch) (hlt : l.stackTraces = false) (dC : Nat → ClassId) (dI : Nat → Nat → Nat) (c0 : Int32) (sz : Nat) : Met l yX19_in ow_k_X19_in_v3 ({ frames := 0, cells := 0, slots := 0, locals := 0 }) (va_Pc [.long (c0.toInt64), .long 1, .long 8] (fun U => U.heap.size = sz ∧ va_P (dC, dI) vwCl [] U.heap ∧ va_K (dC, dI) vwCl [] U ∧ va_D (fun _ => True) [] ∧ nv_E (va_A [] sz) U)) (va_Qi (fun r _ => ((c0 < 1) ∧ r = 0) ∨ ((¬ c0 < 1) ∧ (8 < c0) ∧ r = 0) ∨ ((¬ c0 < 1) ∧ (¬ 8 < c0) ∧ r = 1) ∨ False) (fun (_ : Unit) t => va_P (dC, dI) vwCl [] t.heap ∧ va_K (dC, dI) vwCl [] t ∧ va_D (va_A [] sz) []) (va_A [] sz)) 0 0 (va_A [] sz) := by
  refine Met.ofW (cc := cX19_in) (maxL := 6) (ret := (some .boolean)) (by decide) rfl ?_
  intro p e s m args below meth c s₁ B hml hv
  obtain ⟨rfl, hsz, hP, hK, hD0, hN⟩ := hv
  have hx := B.exec
  have hb := B.bytes
  have hr := B.returns
  have hts := atoms_spec (ws := ow_k_X19_in_v3) B.pre
  have hown : s.vm.findClass RX19 = some m.cls := findClass_of_methodNamed B.named
  have hlocks := B.notSynchronized
  subst hsz
  have hD := hD0.self (sz := s.heap.size)
  generalize hAe : va_A [] s.heap.size = A at hD hN ⊢
  have hA : ∀ q : Nat, s.heap.size ≤ q → A q := fun q h => by rw [← hAe]; exact Or.inr h
  have hS : va_S A s.heap s.heap [] := va_S.rf
  have hl := lv_entry ([.long (c0.toInt64), .long 1, .long 8]) (n := 6) (Nat.le_of_ble_eq_true rfl)
  rw [lg_entry_eq]
  generalize (lg_sl ([.long (c0.toInt64), .long 1, .long 8]) ++ List.replicate (6 - (lg_sl ([.long (c0.toInt64), .long 1, .long 8])).length) Slot.unset).toArray = ls at hl ⊢
  have hl : lv_has ls 6 [(0, .long (c0.toInt64)), (2, .long 1), (4, .long 8)] := hl
  refine lv_lload_n hx hb dX19_in_0 rfl (lv_at hl 0 rfl) ?_
  refine lv_lload_n hx hb dX19_in_1 rfl (lv_at hl 1 rfl) ?_
  refine W.lcmp hx hb dX19_in_2 ?_
  refine lv_if_lt (tgt := 17) hx hb dX19_in_3 (by decide) (fun h9 => (fun (c_1 : c0 < 1) => ?_) ((nv_ci_lt (x := c0) (k := 1) (K := 1) (by decide)).mp h9)) (fun h9 => (fun (c_1 : ¬ c0 < 1) => ?_) (fun h8 => h9 ((nv_ci_lt (x := c0) (k := 1) (K := 1) (by decide)).mpr h8)))
  · refine lv_iconst (v := 0) hx hb dX19_in_17 (by decide) ?_
    refine W.widen (k := 0) (n := 0) (by decide +kernel) (by decide +kernel) ?_
    exact W.zret (v := 0) hx hb hr (by first | rfl | decide) (fun t ht hW => ⟨⟨0, (), rfl, Or.inl ⟨c_1, rfl⟩, by rw [ht]; exact hP, va_K.moved hW.alike hK, hD⟩, hS.F ht⟩) hS.2.2 dX19_in_18
  · refine lv_lload_n hx hb dX19_in_6 rfl (lv_at hl 0 rfl) ?_
    refine lv_lload hx hb dX19_in_7 (lv_at hl 2 rfl) ?_
    refine W.lcmp hx hb dX19_in_9 ?_
    refine lv_if_gt (tgt := 17) hx hb dX19_in_10 (by decide) (fun h9 => (fun (c_2 : 8 < c0) => ?_) ((nv_ci_gt (x := c0) (k := 8) (K := 8) (by decide)).mp h9)) (fun h9 => (fun (c_2 : ¬ 8 < c0) => ?_) (fun h8 => h9 ((nv_ci_gt (x := c0) (k := 8) (K := 8) (by decide)).mpr h8)))
    · refine lv_iconst (v := 0) hx hb dX19_in_17 (by decide) ?_
      refine W.widen (k := 0) (n := 0) (by decide +kernel) (by decide +kernel) ?_
      exact W.zret (v := 0) hx hb hr (by first | rfl | decide) (fun t ht hW => ⟨⟨0, (), rfl, Or.inr (Or.inl ⟨c_1, c_2, rfl⟩), by rw [ht]; exact hP, va_K.moved hW.alike hK, hD⟩, hS.F ht⟩) hS.2.2 dX19_in_18
    · refine lv_iconst (v := 1) hx hb dX19_in_13 (by decide) ?_
      refine lv_goto (tgt := 18) hx hb dX19_in_14 (by decide) ?_
      refine W.widen (k := 0) (n := 0) (by decide +kernel) (by decide +kernel) ?_
      exact W.zret (v := 1) hx hb hr (by first | rfl | decide) (fun t ht hW => ⟨⟨1, (), rfl, Or.inr (Or.inr (Or.inl ⟨c_1, c_2, rfl⟩)), by rw [ht]; exact hP, va_K.moved hW.alike hK, hD⟩, hS.F ht⟩) hS.2.2 dX19_in_18
def ow_g_X19_isSaid : List Cond := .code yX19_isSaid cX19_isSaid 4 (some .boolean) :: ([.constantLong RX19 261 (1099511627776), .methodLink RX19 126 yX19_in, .static yX19_in, .initialized RX19, .constantLong RX19 255 (15), .constantLong RX19 259 (31), .constantLong RX19 257 (8)] ++ (ow_k_X19_in ++ (ow_k_X19_in_v1 ++ (ow_k_X19_in_v2 ++ (ow_k_X19_in_v3 ++ [])))))
theorem gd_g_X19_isSaid : ∀ w ∈ ow_g_X19_isSaid, (w.onTables && w.keeps) = true ∨ ∃ ty, w = Cond.arrayClass ty := List.forall_mem_cons.mpr ⟨good_of_word rfl, List.forall_mem_append.mpr ⟨fun w h => good_of_word (List.all_eq_true.mp (by decide +kernel) w h), List.forall_mem_append.mpr ⟨gd_k_X19_in, List.forall_mem_append.mpr ⟨gd_k_X19_in_v1, List.forall_mem_append.mpr ⟨gd_k_X19_in_v2, List.forall_mem_append.mpr ⟨gd_k_X19_in_v3, fun _ h => nomatch h⟩⟩⟩⟩⟩⟩
theorem gi_g_X19_isSaid_0 : GoodIn ow_g_X19_isSaid (wsS RX19 126 yX19_in ow_k_X19_in) := goodIn_app (goodIn_of _ (by decide +kernel)) (fun w h => ⟨List.mem_cons_of_mem _ (List.mem_append_right _ (List.mem_append_left _ h)), gd_k_X19_in w h⟩)
theorem gi_g_X19_isSaid_1 : GoodIn ow_g_X19_isSaid (wsS RX19 126 yX19_in ow_k_X19_in_v1) := goodIn_app (goodIn_of _ (by decide +kernel)) (fun w h => ⟨List.mem_cons_of_mem _ (List.mem_append_right _ (List.mem_append_right _ (List.mem_append_left _ h))), gd_k_X19_in_v1 w h⟩)
theorem gi_g_X19_isSaid_2 : GoodIn ow_g_X19_isSaid (wsS RX19 126 yX19_in ow_k_X19_in_v2) := goodIn_app (goodIn_of _ (by decide +kernel)) (fun w h => ⟨List.mem_cons_of_mem _ (List.mem_append_right _ (List.mem_append_right _ (List.mem_append_right _ (List.mem_append_left _ h)))), gd_k_X19_in_v2 w h⟩)
theorem gi_g_X19_isSaid_3 : GoodIn ow_g_X19_isSaid (wsS RX19 126 yX19_in ow_k_X19_in_v3) := goodIn_app (goodIn_of _ (by decide +kernel)) (fun w h => ⟨List.mem_cons_of_mem _ (List.mem_append_right _ (List.mem_append_right _ (List.mem_append_right _ (List.mem_append_right _ (List.mem_append_left _ h))))), gd_k_X19_in_v3 w h⟩)
set_option maxHeartbeats 40000000 in
set_option maxRecDepth 100000 in
theorem g_X19_isSaid (l : Launch) (hlt : l.stackTraces = false) (dC : Nat → ClassId) (dI : Nat → Nat → Nat) (v0 : Int32) (v1 : Int64) (v2 : Int32) (sz : Nat) : Met l yX19_isSaid ow_g_X19_isSaid ({ frames := 1, cells := 0, slots := 0, locals := 25 }) (va_Pc [.int v0, .long v1, .int v2] (fun U => U.heap.size = sz ∧ va_P (dC, dI) vwCl [] U.heap ∧ va_K (dC, dI) vwCl [] U ∧ va_D (fun _ => True) [] ∧ nv_E (va_A [] sz) U)) (va_Qi (fun r _ => ((¬ v0 = 0) ∧ (¬ v0 = 1) ∧ (¬ v0 = 2) ∧ (¬ v0 = 3) ∧ (¬ v0 = 4) ∧ r = 0) ∨ ((¬ v0 = 0) ∧ (¬ v0 = 1) ∧ (¬ v0 = 2) ∧ (¬ v0 = 3) ∧ (v0 = 4) ∧ r = 1) ∨ ((¬ v0 = 0) ∧ (¬ v0 = 1) ∧ (¬ v0 = 2) ∧ (v0 = 3) ∧ (v1 < 0) ∧ r = 0) ∨ ((¬ v0 = 0) ∧ (¬ v0 = 1) ∧ (¬ v0 = 2) ∧ (v0 = 3) ∧ (¬ v1 < 0) ∧ (1099511627776 < v1) ∧ r = 0) ∨ ((¬ v0 = 0) ∧ (¬ v0 = 1) ∧ (¬ v0 = 2) ∧ (v0 = 3) ∧ (¬ v1 < 0) ∧ (¬ 1099511627776 < v1) ∧ r = 1) ∨ ((¬ v0 = 0) ∧ (¬ v0 = 1) ∧ (v0 = 2) ∧ (v1 < 0) ∧ r = 0) ∨ ((¬ v0 = 0) ∧ (¬ v0 = 1) ∧ (v0 = 2) ∧ (¬ v1 < 0) ∧ (15 < v1) ∧ r = 0) ∨ ((¬ v0 = 0) ∧ (¬ v0 = 1) ∧ (v0 = 2) ∧ (¬ v1 < 0) ∧ (¬ 15 < v1) ∧ (v2 < 1) ∧ r = 0) ∨ ((¬ v0 = 0) ∧ (¬ v0 = 1) ∧ (v0 = 2) ∧ (¬ v1 < 0) ∧ (¬ 15 < v1) ∧ (¬ v2 < 1) ∧ (31 < v2) ∧ r = 0) ∨ ((¬ v0 = 0) ∧ (¬ v0 = 1) ∧ (v0 = 2) ∧ (¬ v1 < 0) ∧ (¬ 15 < v1) ∧ (¬ v2 < 1) ∧ (¬ 31 < v2) ∧ r = 1) ∨ ((¬ v0 = 0) ∧ (v0 = 1) ∧ (v2 < 1) ∧ r = 0) ∨ ((¬ v0 = 0) ∧ (v0 = 1) ∧ (¬ v2 < 1) ∧ (8 < v2) ∧ r = 0) ∨ ((¬ v0 = 0) ∧ (v0 = 1) ∧ (¬ v2 < 1) ∧ (¬ 8 < v2) ∧ r = 1) ∨ ((v0 = 0) ∧ (v1 < 0) ∧ r = 0) ∨ ((v0 = 0) ∧ (¬ v1 < 0) ∧ (15 < v1) ∧ r = 0) ∨ ((v0 = 0) ∧ (¬ v1 < 0) ∧ (¬ 15 < v1) ∧ r = 1) ∨ False) (fun (_ : Unit) t => va_P (dC, dI) vwCl [] t.heap ∧ va_K (dC, dI) vwCl [] t ∧ va_D (va_A [] sz) []) (va_A [] sz)) 0 0 (va_A [] sz) := by
  refine Met.ofW (cc := cX19_isSaid) (maxL := 4) (ret := (some .boolean)) (by decide) rfl ?_
  intro p e s m args below meth c s₁ B hml hv
  obtain ⟨rfl, hsz, hP, hK, hD0, hN⟩ := hv
  have hx := B.exec
  have hb := B.bytes
  have hr := B.returns
  have hts := atoms_spec (ws := ow_g_X19_isSaid) B.pre
  have hown : s.vm.findClass RX19 = some m.cls := findClass_of_methodNamed B.named
  have hlocks := B.notSynchronized
  subst hsz
  have hD := hD0.self (sz := s.heap.size)
  generalize hAe : va_A [] s.heap.size = A at hD hN ⊢
  have hA : ∀ q : Nat, s.heap.size ≤ q → A q := fun q h => by rw [← hAe]; exact Or.inr h
  have hS : va_S A s.heap s.heap [] := va_S.rf
  have hl := lv_entry ([.int v0, .long v1, .int v2]) (n := 4) (Nat.le_of_ble_eq_true rfl)
  rw [lg_entry_eq]
  generalize (lg_sl ([.int v0, .long v1, .int v2]) ++ List.replicate (4 - (lg_sl ([.int v0, .long v1, .int v2])).length) Slot.unset).toArray = ls at hl ⊢
  have hl : lv_has ls 4 [(0, .int v0), (1, .long v1), (3, .int v2)] := hl
  refine lv_iload_n hx hb dX19_isSaid_0 rfl (lv_at hl 0 rfl) ?_
  refine lv_if_ne (tgt := 15) hx hb dX19_isSaid_1 (by decide) (fun c_1 => ?_) (fun c_1 => ?_)
  · refine lv_iload_n hx hb dX19_isSaid_15 rfl (lv_at hl 0 rfl) ?_
    refine lv_iconst (v := 1) hx hb dX19_isSaid_16 (by decide) ?_
    refine lv_icmp_ne (tgt := 32) hx hb dX19_isSaid_17 (by decide) (fun c_2 => ?_) (fun c_2 => ?_)
    · refine lv_iload_n hx hb dX19_isSaid_32 rfl (lv_at hl 0 rfl) ?_
      refine lv_iconst (v := 2) hx hb dX19_isSaid_33 (by decide) ?_
      refine lv_icmp_ne (tgt := 68) hx hb dX19_isSaid_34 (by decide) (fun c_3 => ?_) (fun c_3 => ?_)
      · refine lv_iload_n hx hb dX19_isSaid_68 rfl (lv_at hl 0 rfl) ?_
        refine lv_iconst (v := 3) hx hb dX19_isSaid_69 (by decide) ?_
        refine lv_icmp_ne (tgt := 84) hx hb dX19_isSaid_70 (by decide) (fun c_4 => ?_) (fun c_4 => ?_)
        · refine lv_iload_n hx hb dX19_isSaid_84 rfl (lv_at hl 0 rfl) ?_
          refine lv_iconst (v := 4) hx hb dX19_isSaid_85 (by decide) ?_
          refine lv_icmp_ne (tgt := 93) hx hb dX19_isSaid_86 (by decide) (fun c_5 => ?_) (fun c_5 => ?_)
          · refine lv_iconst (v := 0) hx hb dX19_isSaid_93 (by decide) ?_
            refine W.widen (k := 0) (n := 0) (by decide +kernel) (by decide +kernel) ?_
            exact W.zret (v := 0) hx hb hr (by first | rfl | decide) (fun t ht hW => ⟨⟨0, (), rfl, Or.inl ⟨c_1, c_2, c_3, c_4, c_5, rfl⟩, by rw [ht]; exact hP, va_K.moved hW.alike hK, hD⟩, hS.F ht⟩) hS.2.2 dX19_isSaid_94
          · refine lv_iconst (v := 1) hx hb dX19_isSaid_89 (by decide) ?_
            refine lv_goto (tgt := 94) hx hb dX19_isSaid_90 (by decide) ?_
            refine W.widen (k := 0) (n := 0) (by decide +kernel) (by decide +kernel) ?_
            exact W.zret (v := 1) hx hb hr (by first | rfl | decide) (fun t ht hW => ⟨⟨1, (), rfl, Or.inr (Or.inl ⟨c_1, c_2, c_3, c_4, c_5, rfl⟩), by rw [ht]; exact hP, va_K.moved hW.alike hK, hD⟩, hS.F ht⟩) hS.2.2 dX19_isSaid_94
        · refine lv_lload_n hx hb dX19_isSaid_73 rfl (lv_at hl 1 rfl) ?_
          refine lv_lconst (v := 0) hx hb dX19_isSaid_74 (by decide) ?_
          refine lv_ldc2 hx hb hown (hts (.constantLong RX19 261 (1099511627776)) (List.mem_of_getElem? (i := 1) rfl)) dX19_isSaid_75 ?_
          have hPc := hP.sub (ws' := []) [] rfl
          have hDc := hD.sub (ws' := []) [] (by decide) rfl
          have hKc := hK.sub (tys' := []) [] rfl
          have hFc := va_free (wc := []) hD hS hA [] rfl
          refine va_calli (va_runS (As := [.long v1, .long 0, .long 1099511627776]) (rest := []) ⟨hx, hb, hml, hown, hts⟩ (k_X19_in l hlt dC dI v1  s.heap.size) (cwS 3 hts gi_g_X19_isSaid_0 rfl rfl rfl (by decide +kernel) ⟨Nat.le_of_ble_eq_true rfl, Nat.le_of_ble_eq_true rfl⟩) ⟨fun a U g mk q => by obtain ⟨q0, q1, qP, qK, qD, qN⟩ := q; exact ⟨q0, q1, qP, va_K.moved (u := U) (U := U.calling g mk a) (Vm.Alike.refl U.vm) qK, qD, nv_same rfl rfl qN⟩, fun U hU hW => ⟨rfl, by rw [hU], by rw [hU]; exact hPc, va_K.moved hW.alike hKc, hDc.weaken (fun _ _ _ _ => trivial), nv_call hS hFc hU hW hN⟩⟩ rfl rfl hl.1 rfl (lv_room (Nat.le_of_ble_eq_true rfl)) dX19_isSaid_78 ⟨by decide +kernel, by decide +kernel⟩) hS (fun q _ h => hFc q h) hFc (fun r1 u t H1 locs ht hvm hw hB hz1 hk1 hS => ?_)
          obtain ⟨hP1, hK1, hD1⟩ := hB
          rw [ht] at hP1
          have hK1 := va_K.moved hvm.symm hK1
          obtain ⟨hP, hD⟩ := va_join (wr := []) (w1 := []) hP hD [] [] rfl rfl (by decide) (by decide) hk1 hFc hP1 hD1
          have hK := (hK.sub (tys' := []) [] rfl).app hK1
          generalize H1 = H at hP hS ⊢
          have hP : va_P (dC, dI) vwCl [] H := hP
          have hD : va_D A [] := hD
          have hK : va_K (dC, dI) vwCl [] s := hK
          refine W.widen (k := 0) (n := 0) (by decide +kernel) (by decide +kernel) ?_
          rcases hw with ⟨c_6_0, h9⟩ | ⟨c_6_0, c_6_1, h9⟩ | ⟨c_6_0, c_6_1, h9⟩ | h9
          · subst h9
            refine lv_goto (tgt := 94) hx hb dX19_isSaid_81 (by decide) ?_
            refine W.widen (k := 0) (n := 0) (by decide +kernel) (by decide +kernel) ?_
            exact W.zret (v := 0) hx hb hr (by first | rfl | decide) (fun t ht hW => ⟨⟨0, (), rfl, Or.inr (Or.inr (Or.inl ⟨c_1, c_2, c_3, c_4, c_6_0, rfl⟩)), by rw [ht]; exact hP, va_K.moved hW.alike hK, hD⟩, hS.F ht⟩) hS.2.2 dX19_isSaid_94
          · subst h9
            refine lv_goto (tgt := 94) hx hb dX19_isSaid_81 (by decide) ?_
            refine W.widen (k := 0) (n := 0) (by decide +kernel) (by decide +kernel) ?_
            exact W.zret (v := 0) hx hb hr (by first | rfl | decide) (fun t ht hW => ⟨⟨0, (), rfl, Or.inr (Or.inr (Or.inr (Or.inl ⟨c_1, c_2, c_3, c_4, c_6_0, c_6_1, rfl⟩))), by rw [ht]; exact hP, va_K.moved hW.alike hK, hD⟩, hS.F ht⟩) hS.2.2 dX19_isSaid_94
          · subst h9
            refine lv_goto (tgt := 94) hx hb dX19_isSaid_81 (by decide) ?_
            refine W.widen (k := 0) (n := 0) (by decide +kernel) (by decide +kernel) ?_
            exact W.zret (v := 1) hx hb hr (by first | rfl | decide) (fun t ht hW => ⟨⟨1, (), rfl, Or.inr (Or.inr (Or.inr (Or.inr (Or.inl ⟨c_1, c_2, c_3, c_4, c_6_0, c_6_1, rfl⟩)))), by rw [ht]; exact hP, va_K.moved hW.alike hK, hD⟩, hS.F ht⟩) hS.2.2 dX19_isSaid_94
          · exact h9.elim
      · refine lv_lload_n hx hb dX19_isSaid_37 rfl (lv_at hl 1 rfl) ?_
        refine lv_lconst (v := 0) hx hb dX19_isSaid_38 (by decide) ?_
        refine lv_ldc2 hx hb hown (hts (.constantLong RX19 255 (15)) (List.mem_of_getElem? (i := 5) rfl)) dX19_isSaid_39 ?_
        have hPc := hP.sub (ws' := []) [] rfl
        have hDc := hD.sub (ws' := []) [] (by decide) rfl
        have hKc := hK.sub (tys' := []) [] rfl
        have hFc := va_free (wc := []) hD hS hA [] rfl
        refine va_calli (va_runS (As := [.long v1, .long 0, .long 15]) (rest := []) ⟨hx, hb, hml, hown, hts⟩ (k_X19_in_v1 l hlt dC dI v1  s.heap.size) (cwS 3 hts gi_g_X19_isSaid_1 rfl rfl rfl (by decide +kernel) ⟨Nat.le_of_ble_eq_true rfl, Nat.le_of_ble_eq_true rfl⟩) ⟨fun a U g mk q => by obtain ⟨q0, q1, qP, qK, qD, qN⟩ := q; exact ⟨q0, q1, qP, va_K.moved (u := U) (U := U.calling g mk a) (Vm.Alike.refl U.vm) qK, qD, nv_same rfl rfl qN⟩, fun U hU hW => ⟨rfl, by rw [hU], by rw [hU]; exact hPc, va_K.moved hW.alike hKc, hDc.weaken (fun _ _ _ _ => trivial), nv_call hS hFc hU hW hN⟩⟩ rfl rfl hl.1 rfl (lv_room (Nat.le_of_ble_eq_true rfl)) dX19_isSaid_42 ⟨by decide +kernel, by decide +kernel⟩) hS (fun q _ h => hFc q h) hFc (fun r2 u t H1 locs ht hvm hw hB hz1 hk1 hS => ?_)
        obtain ⟨hP1, hK1, hD1⟩ := hB
        rw [ht] at hP1
        have hK1 := va_K.moved hvm.symm hK1
        obtain ⟨hP, hD⟩ := va_join (wr := []) (w1 := []) hP hD [] [] rfl rfl (by decide) (by decide) hk1 hFc hP1 hD1
        have hK := (hK.sub (tys' := []) [] rfl).app hK1
        generalize H1 = H at hP hS ⊢
        have hP : va_P (dC, dI) vwCl [] H := hP
        have hD : va_D A [] := hD
        have hK : va_K (dC, dI) vwCl [] s := hK
        refine W.widen (k := 0) (n := 0) (by decide +kernel) (by decide +kernel) ?_
        rcases hw with ⟨c_7_0, h9⟩ | ⟨c_7_0, c_7_1, h9⟩ | ⟨c_7_0, c_7_1, h9⟩ | h9
        · subst h9
          refine lv_if_eq (tgt := 64) hx hb dX19_isSaid_45 (by decide) (fun _ => ?_) (fun h9 => absurd (by decide) h9)
          refine lv_iconst (v := 0) hx hb dX19_isSaid_64 (by decide) ?_
          refine lv_goto (tgt := 94) hx hb dX19_isSaid_65 (by decide) ?_
          refine W.widen (k := 0) (n := 0) (by decide +kernel) (by decide +kernel) ?_
          exact W.zret (v := 0) hx hb hr (by first | rfl | decide) (fun t ht hW => ⟨⟨0, (), rfl, Or.inr (Or.inr (Or.inr (Or.inr (Or.inr (Or.inl ⟨c_1, c_2, c_3, c_7_0, rfl⟩))))), by rw [ht]; exact hP, va_K.moved hW.alike hK, hD⟩, hS.F ht⟩) hS.2.2 dX19_isSaid_94
        · subst h9
          refine lv_if_eq (tgt := 64) hx hb dX19_isSaid_45 (by decide) (fun _ => ?_) (fun h9 => absurd (by decide) h9)
          refine lv_iconst (v := 0) hx hb dX19_isSaid_64 (by decide) ?_
          refine lv_goto (tgt := 94) hx hb dX19_isSaid_65 (by decide) ?_
          refine W.widen (k := 0) (n := 0) (by decide +kernel) (by decide +kernel) ?_
          exact W.zret (v := 0) hx hb hr (by first | rfl | decide) (fun t ht hW => ⟨⟨0, (), rfl, Or.inr (Or.inr (Or.inr (Or.inr (Or.inr (Or.inr (Or.inl ⟨c_1, c_2, c_3, c_7_0, c_7_1, rfl⟩)))))), by rw [ht]; exact hP, va_K.moved hW.alike hK, hD⟩, hS.F ht⟩) hS.2.2 dX19_isSaid_94
        · subst h9
          refine lv_if_eq (tgt := 64) hx hb dX19_isSaid_45 (by decide) (fun h9 => absurd h9 (by decide)) (fun _ => ?_)
          refine lv_iload_n hx hb dX19_isSaid_48 rfl (lv_at hl 2 rfl) ?_
          refine lv_i2l hx hb dX19_isSaid_49 rfl ?_
          refine lv_lconst (v := 1) hx hb dX19_isSaid_50 (by decide) ?_
          refine lv_ldc2 hx hb hown (hts (.constantLong RX19 259 (31)) (List.mem_of_getElem? (i := 6) rfl)) dX19_isSaid_51 ?_
          have hPc := hP.sub (ws' := []) [] rfl
          have hDc := hD.sub (ws' := []) [] (by decide) rfl
          have hKc := hK.sub (tys' := []) [] rfl
          have hFc := va_free (wc := []) hD hS hA [] rfl
          refine va_calli (va_runS (As := [.long (v2.toInt64), .long 1, .long 31]) (rest := []) ⟨hx, hb, hml, hown, hts⟩ (k_X19_in_v2 l hlt dC dI v2  H.size) (cwS 3 hts gi_g_X19_isSaid_2 rfl rfl rfl (by decide +kernel) ⟨Nat.le_of_ble_eq_true rfl, Nat.le_of_ble_eq_true rfl⟩) ⟨fun a U g mk q => by obtain ⟨q0, q1, qP, qK, qD, qN⟩ := q; exact ⟨q0, q1, qP, va_K.moved (u := U) (U := U.calling g mk a) (Vm.Alike.refl U.vm) qK, qD, nv_same rfl rfl qN⟩, fun U hU hW => ⟨rfl, by rw [hU], by rw [hU]; exact hPc, va_K.moved hW.alike hKc, hDc.weaken (fun _ _ _ _ => trivial), nv_call hS hFc hU hW hN⟩⟩ rfl rfl hl.1 rfl (lv_room (Nat.le_of_ble_eq_true rfl)) dX19_isSaid_54 ⟨by decide +kernel, by decide +kernel⟩) hS (fun q _ h => hFc q h) hFc (fun r3 u t H1 locs ht hvm hw hB hz1 hk1 hS => ?_)
          obtain ⟨hP1, hK1, hD1⟩ := hB
          rw [ht] at hP1
          have hK1 := va_K.moved hvm.symm hK1
          obtain ⟨hP, hD⟩ := va_join (wr := []) (w1 := []) hP hD [] [] rfl rfl (by decide) (by decide) hk1 hFc hP1 hD1
          have hK := (hK.sub (tys' := []) [] rfl).app hK1
          generalize H1 = H at hP hS ⊢
          have hP : va_P (dC, dI) vwCl [] H := hP
          have hD : va_D A [] := hD
          have hK : va_K (dC, dI) vwCl [] s := hK
          refine W.widen (k := 0) (n := 0) (by decide +kernel) (by decide +kernel) ?_
          rcases hw with ⟨c_8_0, h9⟩ | ⟨c_8_0, c_8_1, h9⟩ | ⟨c_8_0, c_8_1, h9⟩ | h9
          · subst h9
            refine lv_if_eq (tgt := 64) hx hb dX19_isSaid_57 (by decide) (fun _ => ?_) (fun h9 => absurd (by decide) h9)
            refine lv_iconst (v := 0) hx hb dX19_isSaid_64 (by decide) ?_
            refine lv_goto (tgt := 94) hx hb dX19_isSaid_65 (by decide) ?_
            refine W.widen (k := 0) (n := 0) (by decide +kernel) (by decide +kernel) ?_
            exact W.zret (v := 0) hx hb hr (by first | rfl | decide) (fun t ht hW => ⟨⟨0, (), rfl, Or.inr (Or.inr (Or.inr (Or.inr (Or.inr (Or.inr (Or.inr (Or.inl ⟨c_1, c_2, c_3, c_7_0, c_7_1, c_8_0, rfl⟩))))))), by rw [ht]; exact hP, va_K.moved hW.alike hK, hD⟩, hS.F ht⟩) hS.2.2 dX19_isSaid_94
          · subst h9
            refine lv_if_eq (tgt := 64) hx hb dX19_isSaid_57 (by decide) (fun _ => ?_) (fun h9 => absurd (by decide) h9)
            refine lv_iconst (v := 0) hx hb dX19_isSaid_64 (by decide) ?_
            refine lv_goto (tgt := 94) hx hb dX19_isSaid_65 (by decide) ?_
            refine W.widen (k := 0) (n := 0) (by decide +kernel) (by decide +kernel) ?_
            exact W.zret (v := 0) hx hb hr (by first | rfl | decide) (fun t ht hW => ⟨⟨0, (), rfl, Or.inr (Or.inr (Or.inr (Or.inr (Or.inr (Or.inr (Or.inr (Or.inr (Or.inl ⟨c_1, c_2, c_3, c_7_0, c_7_1, c_8_0, c_8_1, rfl⟩)))))))), by rw [ht]; exact hP, va_K.moved hW.alike hK, hD⟩, hS.F ht⟩) hS.2.2 dX19_isSaid_94
          · subst h9
            refine lv_if_eq (tgt := 64) hx hb dX19_isSaid_57 (by decide) (fun h9 => absurd h9 (by decide)) (fun _ => ?_)
            refine lv_iconst (v := 1) hx hb dX19_isSaid_60 (by decide) ?_
            refine lv_goto (tgt := 94) hx hb dX19_isSaid_61 (by decide) ?_
            refine W.widen (k := 0) (n := 0) (by decide +kernel) (by decide +kernel) ?_
            exact W.zret (v := 1) hx hb hr (by first | rfl | decide) (fun t ht hW => ⟨⟨1, (), rfl, Or.inr (Or.inr (Or.inr (Or.inr (Or.inr (Or.inr (Or.inr (Or.inr (Or.inr (Or.inl ⟨c_1, c_2, c_3, c_7_0, c_7_1, c_8_0, c_8_1, rfl⟩))))))))), by rw [ht]; exact hP, va_K.moved hW.alike hK, hD⟩, hS.F ht⟩) hS.2.2 dX19_isSaid_94
          · exact h9.elim
        · exact h9.elim
    · refine lv_iload_n hx hb dX19_isSaid_20 rfl (lv_at hl 2 rfl) ?_
      refine lv_i2l hx hb dX19_isSaid_21 rfl ?_
      refine lv_lconst (v := 1) hx hb dX19_isSaid_22 (by decide) ?_
      refine lv_ldc2 hx hb hown (hts (.constantLong RX19 257 (8)) (List.mem_of_getElem? (i := 7) rfl)) dX19_isSaid_23 ?_
      have hPc := hP.sub (ws' := []) [] rfl
      have hDc := hD.sub (ws' := []) [] (by decide) rfl
      have hKc := hK.sub (tys' := []) [] rfl
      have hFc := va_free (wc := []) hD hS hA [] rfl
      refine va_calli (va_runS (As := [.long (v2.toInt64), .long 1, .long 8]) (rest := []) ⟨hx, hb, hml, hown, hts⟩ (k_X19_in_v3 l hlt dC dI v2  s.heap.size) (cwS 3 hts gi_g_X19_isSaid_3 rfl rfl rfl (by decide +kernel) ⟨Nat.le_of_ble_eq_true rfl, Nat.le_of_ble_eq_true rfl⟩) ⟨fun a U g mk q => by obtain ⟨q0, q1, qP, qK, qD, qN⟩ := q; exact ⟨q0, q1, qP, va_K.moved (u := U) (U := U.calling g mk a) (Vm.Alike.refl U.vm) qK, qD, nv_same rfl rfl qN⟩, fun U hU hW => ⟨rfl, by rw [hU], by rw [hU]; exact hPc, va_K.moved hW.alike hKc, hDc.weaken (fun _ _ _ _ => trivial), nv_call hS hFc hU hW hN⟩⟩ rfl rfl hl.1 rfl (lv_room (Nat.le_of_ble_eq_true rfl)) dX19_isSaid_26 ⟨by decide +kernel, by decide +kernel⟩) hS (fun q _ h => hFc q h) hFc (fun r4 u t H1 locs ht hvm hw hB hz1 hk1 hS => ?_)
      obtain ⟨hP1, hK1, hD1⟩ := hB
      rw [ht] at hP1
      have hK1 := va_K.moved hvm.symm hK1
      obtain ⟨hP, hD⟩ := va_join (wr := []) (w1 := []) hP hD [] [] rfl rfl (by decide) (by decide) hk1 hFc hP1 hD1
      have hK := (hK.sub (tys' := []) [] rfl).app hK1
      generalize H1 = H at hP hS ⊢
      have hP : va_P (dC, dI) vwCl [] H := hP
      have hD : va_D A [] := hD
      have hK : va_K (dC, dI) vwCl [] s := hK
      refine W.widen (k := 0) (n := 0) (by decide +kernel) (by decide +kernel) ?_
      rcases hw with ⟨c_9_0, h9⟩ | ⟨c_9_0, c_9_1, h9⟩ | ⟨c_9_0, c_9_1, h9⟩ | h9
      · subst h9
        refine lv_goto (tgt := 94) hx hb dX19_isSaid_29 (by decide) ?_
        refine W.widen (k := 0) (n := 0) (by decide +kernel) (by decide +kernel) ?_
        exact W.zret (v := 0) hx hb hr (by first | rfl | decide) (fun t ht hW => ⟨⟨0, (), rfl, Or.inr (Or.inr (Or.inr (Or.inr (Or.inr (Or.inr (Or.inr (Or.inr (Or.inr (Or.inr (Or.inl ⟨c_1, c_2, c_9_0, rfl⟩)))))))))), by rw [ht]; exact hP, va_K.moved hW.alike hK, hD⟩, hS.F ht⟩) hS.2.2 dX19_isSaid_94
      · subst h9
        refine lv_goto (tgt := 94) hx hb dX19_isSaid_29 (by decide) ?_
        refine W.widen (k := 0) (n := 0) (by decide +kernel) (by decide +kernel) ?_
        exact W.zret (v := 0) hx hb hr (by first | rfl | decide) (fun t ht hW => ⟨⟨0, (), rfl, Or.inr (Or.inr (Or.inr (Or.inr (Or.inr (Or.inr (Or.inr (Or.inr (Or.inr (Or.inr (Or.inr (Or.inl ⟨c_1, c_2, c_9_0, c_9_1, rfl⟩))))))))))), by rw [ht]; exact hP, va_K.moved hW.alike hK, hD⟩, hS.F ht⟩) hS.2.2 dX19_isSaid_94
      · subst h9
        refine lv_goto (tgt := 94) hx hb dX19_isSaid_29 (by decide) ?_
        refine W.widen (k := 0) (n := 0) (by decide +kernel) (by decide +kernel) ?_
        exact W.zret (v := 1) hx hb hr (by first | rfl | decide) (fun t ht hW => ⟨⟨1, (), rfl, Or.inr (Or.inr (Or.inr (Or.inr (Or.inr (Or.inr (Or.inr (Or.inr (Or.inr (Or.inr (Or.inr (Or.inr (Or.inl ⟨c_1, c_2, c_9_0, c_9_1, rfl⟩)))))))))))), by rw [ht]; exact hP, va_K.moved hW.alike hK, hD⟩, hS.F ht⟩) hS.2.2 dX19_isSaid_94
      · exact h9.elim
  · refine lv_lload_n hx hb dX19_isSaid_4 rfl (lv_at hl 1 rfl) ?_
    refine lv_lconst (v := 0) hx hb dX19_isSaid_5 (by decide) ?_
    refine lv_ldc2 hx hb hown (hts (.constantLong RX19 255 (15)) (List.mem_of_getElem? (i := 5) rfl)) dX19_isSaid_6 ?_
    have hPc := hP.sub (ws' := []) [] rfl
    have hDc := hD.sub (ws' := []) [] (by decide) rfl
    have hKc := hK.sub (tys' := []) [] rfl
    have hFc := va_free (wc := []) hD hS hA [] rfl
    refine va_calli (va_runS (As := [.long v1, .long 0, .long 15]) (rest := []) ⟨hx, hb, hml, hown, hts⟩ (k_X19_in_v1 l hlt dC dI v1  s.heap.size) (cwS 3 hts gi_g_X19_isSaid_1 rfl rfl rfl (by decide +kernel) ⟨Nat.le_of_ble_eq_true rfl, Nat.le_of_ble_eq_true rfl⟩) ⟨fun a U g mk q => by obtain ⟨q0, q1, qP, qK, qD, qN⟩ := q; exact ⟨q0, q1, qP, va_K.moved (u := U) (U := U.calling g mk a) (Vm.Alike.refl U.vm) qK, qD, nv_same rfl rfl qN⟩, fun U hU hW => ⟨rfl, by rw [hU], by rw [hU]; exact hPc, va_K.moved hW.alike hKc, hDc.weaken (fun _ _ _ _ => trivial), nv_call hS hFc hU hW hN⟩⟩ rfl rfl hl.1 rfl (lv_room (Nat.le_of_ble_eq_true rfl)) dX19_isSaid_9 ⟨by decide +kernel, by decide +kernel⟩) hS (fun q _ h => hFc q h) hFc (fun r5 u t H1 locs ht hvm hw hB hz1 hk1 hS => ?_)
    obtain ⟨hP1, hK1, hD1⟩ := hB
    rw [ht] at hP1
    have hK1 := va_K.moved hvm.symm hK1
    obtain ⟨hP, hD⟩ := va_join (wr := []) (w1 := []) hP hD [] [] rfl rfl (by decide) (by decide) hk1 hFc hP1 hD1
    have hK := (hK.sub (tys' := []) [] rfl).app hK1
    generalize H1 = H at hP hS ⊢
    have hP : va_P (dC, dI) vwCl [] H := hP
    have hD : va_D A [] := hD
    have hK : va_K (dC, dI) vwCl [] s := hK
    refine W.widen (k := 0) (n := 0) (by decide +kernel) (by decide +kernel) ?_
    rcases hw with ⟨c_10_0, h9⟩ | ⟨c_10_0, c_10_1, h9⟩ | ⟨c_10_0, c_10_1, h9⟩ | h9
    · subst h9
      refine lv_goto (tgt := 94) hx hb dX19_isSaid_12 (by decide) ?_
      refine W.widen (k := 0) (n := 0) (by decide +kernel) (by decide +kernel) ?_
      exact W.zret (v := 0) hx hb hr (by first | rfl | decide) (fun t ht hW => ⟨⟨0, (), rfl, Or.inr (Or.inr (Or.inr (Or.inr (Or.inr (Or.inr (Or.inr (Or.inr (Or.inr (Or.inr (Or.inr (Or.inr (Or.inr (Or.inl ⟨c_1, c_10_0, rfl⟩))))))))))))), by rw [ht]; exact hP, va_K.moved hW.alike hK, hD⟩, hS.F ht⟩) hS.2.2 dX19_isSaid_94
    · subst h9
      refine lv_goto (tgt := 94) hx hb dX19_isSaid_12 (by decide) ?_
      refine W.widen (k := 0) (n := 0) (by decide +kernel) (by decide +kernel) ?_
      exact W.zret (v := 0) hx hb hr (by first | rfl | decide) (fun t ht hW => ⟨⟨0, (), rfl, Or.inr (Or.inr (Or.inr (Or.inr (Or.inr (Or.inr (Or.inr (Or.inr (Or.inr (Or.inr (Or.inr (Or.inr (Or.inr (Or.inr (Or.inl ⟨c_1, c_10_0, c_10_1, rfl⟩)))))))))))))), by rw [ht]; exact hP, va_K.moved hW.alike hK, hD⟩, hS.F ht⟩) hS.2.2 dX19_isSaid_94
    · subst h9
      refine lv_goto (tgt := 94) hx hb dX19_isSaid_12 (by decide) ?_
      refine W.widen (k := 0) (n := 0) (by decide +kernel) (by decide +kernel) ?_
      exact W.zret (v := 1) hx hb hr (by first | rfl | decide) (fun t ht hW => ⟨⟨1, (), rfl, Or.inr (Or.inr (Or.inr (Or.inr (Or.inr (Or.inr (Or.inr (Or.inr (Or.inr (Or.inr (Or.inr (Or.inr (Or.inr (Or.inr (Or.inr (Or.inl ⟨c_1, c_10_0, c_10_1, rfl⟩))))))))))))))), by rw [ht]; exact hP, va_K.moved hW.alike hK, hD⟩, hS.F ht⟩) hS.2.2 dX19_isSaid_94
    · exact h9.elim
def ow_g_X2_alone : List Cond := .code yX2_alone cX2_alone 1 (some .int) :: ([] ++ [])
theorem gd_g_X2_alone : ∀ w ∈ ow_g_X2_alone, (w.onTables && w.keeps) = true ∨ ∃ ty, w = Cond.arrayClass ty := List.forall_mem_cons.mpr ⟨good_of_word rfl, List.forall_mem_append.mpr ⟨fun w h => good_of_word (List.all_eq_true.mp (by decide +kernel) w h), fun _ h => nomatch h⟩⟩
set_option maxHeartbeats 40000000 in
set_option maxRecDepth 100000 in
theorem g_X2_alone (l : Launch) (hlt : l.stackTraces = false) (dC : Nat → ClassId) (dI : Nat → Nat → Nat) (v0 : Int32) (sz : Nat) : Met l yX2_alone ow_g_X2_alone ({ frames := 0, cells := 0, slots := 0, locals := 0 }) (va_Pc [.int v0] (fun U => U.heap.size = sz ∧ va_P (dC, dI) vwCl [] U.heap ∧ va_K (dC, dI) vwCl [] U ∧ va_D (fun _ => True) [] ∧ nv_E (va_A [] sz) U)) (va_Qi (fun r _ => ((v0 = 33) ∧ r = 19) ∨ ((¬ v0 = 33) ∧ (v0 = 37) ∧ r = 18) ∨ ((¬ v0 = 33) ∧ (¬ v0 = 37) ∧ (v0 = 38) ∧ r = 11) ∨ ((¬ v0 = 33) ∧ (¬ v0 = 37) ∧ (¬ v0 = 38) ∧ (v0 = 40) ∧ r = 22) ∨ ((¬ v0 = 33) ∧ (¬ v0 = 37) ∧ (¬ v0 = 38) ∧ (¬ v0 = 40) ∧ (v0 = 41) ∧ r = 28) ∨ ((¬ v0 = 33) ∧ (¬ v0 = 37) ∧ (¬ v0 = 38) ∧ (¬ v0 = 40) ∧ (¬ v0 = 41) ∧ (v0 = 42) ∧ r = 16) ∨ ((¬ v0 = 33) ∧ (¬ v0 = 37) ∧ (¬ v0 = 38) ∧ (¬ v0 = 40) ∧ (¬ v0 = 41) ∧ (¬ v0 = 42) ∧ (v0 = 43) ∧ r = 14) ∨ ((¬ v0 = 33) ∧ (¬ v0 = 37) ∧ (¬ v0 = 38) ∧ (¬ v0 = 40) ∧ (¬ v0 = 41) ∧ (¬ v0 = 42) ∧ (¬ v0 = 43) ∧ (v0 = 45) ∧ r = 15) ∨ ((¬ v0 = 33) ∧ (¬ v0 = 37) ∧ (¬ v0 = 38) ∧ (¬ v0 = 40) ∧ (¬ v0 = 41) ∧ (¬ v0 = 42) ∧ (¬ v0 = 43) ∧ (¬ v0 = 45) ∧ (v0 = 47) ∧ r = 17) ∨ ((¬ v0 = 33) ∧ (¬ v0 = 37) ∧ (¬ v0 = 38) ∧ (¬ v0 = 40) ∧ (¬ v0 = 41) ∧ (¬ v0 = 42) ∧ (¬ v0 = 43) ∧ (¬ v0 = 45) ∧ (¬ v0 = 47) ∧ (v0 = 60) ∧ r = 5) ∨ ((¬ v0 = 33) ∧ (¬ v0 = 37) ∧ (¬ v0 = 38) ∧ (¬ v0 = 40) ∧ (¬ v0 = 41) ∧ (¬ v0 = 42) ∧ (¬ v0 = 43) ∧ (¬ v0 = 45) ∧ (¬ v0 = 47) ∧ (¬ v0 = 60) ∧ (v0 = 62) ∧ r = 7) ∨ ((¬ v0 = 33) ∧ (¬ v0 = 37) ∧ (¬ v0 = 38) ∧ (¬ v0 = 40) ∧ (¬ v0 = 41) ∧ (¬ v0 = 42) ∧ (¬ v0 = 43) ∧ (¬ v0 = 45) ∧ (¬ v0 = 47) ∧ (¬ v0 = 60) ∧ (¬ v0 = 62) ∧ (v0 = 91) ∧ r = 25) ∨ ((¬ v0 = 33) ∧ (¬ v0 = 37) ∧ (¬ v0 = 38) ∧ (¬ v0 = 40) ∧ (¬ v0 = 41) ∧ (¬ v0 = 42) ∧ (¬ v0 = 43) ∧ (¬ v0 = 45) ∧ (¬ v0 = 47) ∧ (¬ v0 = 60) ∧ (¬ v0 = 62) ∧ (¬ v0 = 91) ∧ (v0 = 93) ∧ r = 29) ∨ ((¬ v0 = 33) ∧ (¬ v0 = 37) ∧ (¬ v0 = 38) ∧ (¬ v0 = 40) ∧ (¬ v0 = 41) ∧ (¬ v0 = 42) ∧ (¬ v0 = 43) ∧ (¬ v0 = 45) ∧ (¬ v0 = 47) ∧ (¬ v0 = 60) ∧ (¬ v0 = 62) ∧ (¬ v0 = 91) ∧ (¬ v0 = 93) ∧ (v0 = 94) ∧ r = 10) ∨ ((¬ v0 = 33) ∧ (¬ v0 = 37) ∧ (¬ v0 = 38) ∧ (¬ v0 = 40) ∧ (¬ v0 = 41) ∧ (¬ v0 = 42) ∧ (¬ v0 = 43) ∧ (¬ v0 = 45) ∧ (¬ v0 = 47) ∧ (¬ v0 = 60) ∧ (¬ v0 = 62) ∧ (¬ v0 = 91) ∧ (¬ v0 = 93) ∧ (¬ v0 = 94) ∧ (v0 = 124) ∧ r = 9) ∨ ((¬ v0 = 33) ∧ (¬ v0 = 37) ∧ (¬ v0 = 38) ∧ (¬ v0 = 40) ∧ (¬ v0 = 41) ∧ (¬ v0 = 42) ∧ (¬ v0 = 43) ∧ (¬ v0 = 45) ∧ (¬ v0 = 47) ∧ (¬ v0 = 60) ∧ (¬ v0 = 62) ∧ (¬ v0 = 91) ∧ (¬ v0 = 93) ∧ (¬ v0 = 94) ∧ (¬ v0 = 124) ∧ (v0 = 126) ∧ r = 21) ∨ ((¬ v0 = 33) ∧ (¬ v0 = 37) ∧ (¬ v0 = 38) ∧ (¬ v0 = 40) ∧ (¬ v0 = 41) ∧ (¬ v0 = 42) ∧ (¬ v0 = 43) ∧ (¬ v0 = 45) ∧ (¬ v0 = 47) ∧ (¬ v0 = 60) ∧ (¬ v0 = 62) ∧ (¬ v0 = 91) ∧ (¬ v0 = 93) ∧ (¬ v0 = 94) ∧ (¬ v0 = 124) ∧ (¬ v0 = 126) ∧ r = 0) ∨ False) (fun (_ : Unit) t => va_P (dC, dI) vwCl [] t.heap ∧ va_K (dC, dI) vwCl [] t ∧ va_D (va_A [] sz) []) (va_A [] sz)) 0 0 (va_A [] sz) := by
  refine Met.ofW (cc := cX2_alone) (maxL := 1) (ret := (some .int)) (by decide) rfl ?_
  intro p e s m args below meth c s₁ B hml hv
  obtain ⟨rfl, hsz, hP, hK, hD0, hN⟩ := hv
  have hx := B.exec
  have hb := B.bytes
  have hr := B.returns
  have hts := atoms_spec (ws := ow_g_X2_alone) B.pre
  have hown : s.vm.findClass RX2 = some m.cls := findClass_of_methodNamed B.named
  have hlocks := B.notSynchronized
  subst hsz
  have hD := hD0.self (sz := s.heap.size)
  generalize hAe : va_A [] s.heap.size = A at hD hN ⊢
  have hA : ∀ q : Nat, s.heap.size ≤ q → A q := fun q h => by rw [← hAe]; exact Or.inr h
  have hS : va_S A s.heap s.heap [] := va_S.rf
  have hl := lv_entry ([.int v0]) (n := 1) (Nat.le_of_ble_eq_true rfl)
  rw [lg_entry_eq]
  generalize (lg_sl ([.int v0]) ++ List.replicate (1 - (lg_sl ([.int v0])).length) Slot.unset).toArray = ls at hl ⊢
  have hl : lv_has ls 1 [(0, .int v0)] := hl
  refine lv_iload_n hx hb dX2_alone_0 rfl (lv_at hl 0 rfl) ?_
  by_cases c_1 : v0 = 33
  · refine lv_lookup (off := 168) (tgt := 169) hx hb dX2_alone_1 (by decide) (by rw [c_1]; decide) (by decide) ?_
    refine lv_bipush (v := 19) hx hb dX2_alone_169 (by decide) ?_
    refine W.widen (k := 0) (n := 0) (by decide +kernel) (by decide +kernel) ?_
    exact W.iret (v := 19) hx hb hr (fun t ht hW => ⟨⟨19, (), rfl, Or.inl ⟨c_1, rfl⟩, by rw [ht]; exact hP, va_K.moved hW.alike hK, hD⟩, hS.F ht⟩) hS.2.2 dX2_alone_171
  by_cases c_2 : v0 = 37
  · refine lv_lookup (off := 165) (tgt := 166) hx hb dX2_alone_1 (by decide) (by rw [c_2]; decide) (by decide) ?_
    refine lv_bipush (v := 18) hx hb dX2_alone_166 (by decide) ?_
    refine W.widen (k := 0) (n := 0) (by decide +kernel) (by decide +kernel) ?_
    exact W.iret (v := 18) hx hb hr (fun t ht hW => ⟨⟨18, (), rfl, Or.inr (Or.inl ⟨c_1, c_2, rfl⟩), by rw [ht]; exact hP, va_K.moved hW.alike hK, hD⟩, hS.F ht⟩) hS.2.2 dX2_alone_168
  by_cases c_3 : v0 = 38
  · refine lv_lookup (off := 150) (tgt := 151) hx hb dX2_alone_1 (by decide) (by rw [c_3]; decide) (by decide) ?_
    refine lv_bipush (v := 11) hx hb dX2_alone_151 (by decide) ?_
    refine W.widen (k := 0) (n := 0) (by decide +kernel) (by decide +kernel) ?_
    exact W.iret (v := 11) hx hb hr (fun t ht hW => ⟨⟨11, (), rfl, Or.inr (Or.inr (Or.inl ⟨c_1, c_2, c_3, rfl⟩)), by rw [ht]; exact hP, va_K.moved hW.alike hK, hD⟩, hS.F ht⟩) hS.2.2 dX2_alone_153
  by_cases c_4 : v0 = 40
  · refine lv_lookup (off := 174) (tgt := 175) hx hb dX2_alone_1 (by decide) (by rw [c_4]; decide) (by decide) ?_
    refine lv_bipush (v := 22) hx hb dX2_alone_175 (by decide) ?_
    refine W.widen (k := 0) (n := 0) (by decide +kernel) (by decide +kernel) ?_
    exact W.iret (v := 22) hx hb hr (fun t ht hW => ⟨⟨22, (), rfl, Or.inr (Or.inr (Or.inr (Or.inl ⟨c_1, c_2, c_3, c_4, rfl⟩))), by rw [ht]; exact hP, va_K.moved hW.alike hK, hD⟩, hS.F ht⟩) hS.2.2 dX2_alone_177
  by_cases c_5 : v0 = 41
  · refine lv_lookup (off := 177) (tgt := 178) hx hb dX2_alone_1 (by decide) (by rw [c_5]; decide) (by decide) ?_
    refine lv_bipush (v := 28) hx hb dX2_alone_178 (by decide) ?_
    refine W.widen (k := 0) (n := 0) (by decide +kernel) (by decide +kernel) ?_
    exact W.iret (v := 28) hx hb hr (fun t ht hW => ⟨⟨28, (), rfl, Or.inr (Or.inr (Or.inr (Or.inr (Or.inl ⟨c_1, c_2, c_3, c_4, c_5, rfl⟩)))), by rw [ht]; exact hP, va_K.moved hW.alike hK, hD⟩, hS.F ht⟩) hS.2.2 dX2_alone_180
  by_cases c_6 : v0 = 42
  · refine lv_lookup (off := 159) (tgt := 160) hx hb dX2_alone_1 (by decide) (by rw [c_6]; decide) (by decide) ?_
    refine lv_bipush (v := 16) hx hb dX2_alone_160 (by decide) ?_
    refine W.widen (k := 0) (n := 0) (by decide +kernel) (by decide +kernel) ?_
    exact W.iret (v := 16) hx hb hr (fun t ht hW => ⟨⟨16, (), rfl, Or.inr (Or.inr (Or.inr (Or.inr (Or.inr (Or.inl ⟨c_1, c_2, c_3, c_4, c_5, c_6, rfl⟩))))), by rw [ht]; exact hP, va_K.moved hW.alike hK, hD⟩, hS.F ht⟩) hS.2.2 dX2_alone_162
  by_cases c_7 : v0 = 43
  · refine lv_lookup (off := 153) (tgt := 154) hx hb dX2_alone_1 (by decide) (by rw [c_7]; decide) (by decide) ?_
    refine lv_bipush (v := 14) hx hb dX2_alone_154 (by decide) ?_
    refine W.widen (k := 0) (n := 0) (by decide +kernel) (by decide +kernel) ?_
    exact W.iret (v := 14) hx hb hr (fun t ht hW => ⟨⟨14, (), rfl, Or.inr (Or.inr (Or.inr (Or.inr (Or.inr (Or.inr (Or.inl ⟨c_1, c_2, c_3, c_4, c_5, c_6, c_7, rfl⟩)))))), by rw [ht]; exact hP, va_K.moved hW.alike hK, hD⟩, hS.F ht⟩) hS.2.2 dX2_alone_156
  by_cases c_8 : v0 = 45
  · refine lv_lookup (off := 156) (tgt := 157) hx hb dX2_alone_1 (by decide) (by rw [c_8]; decide) (by decide) ?_
    refine lv_bipush (v := 15) hx hb dX2_alone_157 (by decide) ?_
    refine W.widen (k := 0) (n := 0) (by decide +kernel) (by decide +kernel) ?_
    exact W.iret (v := 15) hx hb hr (fun t ht hW => ⟨⟨15, (), rfl, Or.inr (Or.inr (Or.inr (Or.inr (Or.inr (Or.inr (Or.inr (Or.inl ⟨c_1, c_2, c_3, c_4, c_5, c_6, c_7, c_8, rfl⟩))))))), by rw [ht]; exact hP, va_K.moved hW.alike hK, hD⟩, hS.F ht⟩) hS.2.2 dX2_alone_159
  by_cases c_9 : v0 = 47
  · refine lv_lookup (off := 162) (tgt := 163) hx hb dX2_alone_1 (by decide) (by rw [c_9]; decide) (by decide) ?_
    refine lv_bipush (v := 17) hx hb dX2_alone_163 (by decide) ?_
    refine W.widen (k := 0) (n := 0) (by decide +kernel) (by decide +kernel) ?_
    exact W.iret (v := 17) hx hb hr (fun t ht hW => ⟨⟨17, (), rfl, Or.inr (Or.inr (Or.inr (Or.inr (Or.inr (Or.inr (Or.inr (Or.inr (Or.inl ⟨c_1, c_2, c_3, c_4, c_5, c_6, c_7, c_8, c_9, rfl⟩)))))))), by rw [ht]; exact hP, va_K.moved hW.alike hK, hD⟩, hS.F ht⟩) hS.2.2 dX2_alone_165
  by_cases c_10 : v0 = 60
  · refine lv_lookup (off := 139) (tgt := 140) hx hb dX2_alone_1 (by decide) (by rw [c_10]; decide) (by decide) ?_
    refine lv_iconst (v := 5) hx hb dX2_alone_140 (by decide) ?_
    refine W.widen (k := 0) (n := 0) (by decide +kernel) (by decide +kernel) ?_
    exact W.iret (v := 5) hx hb hr (fun t ht hW => ⟨⟨5, (), rfl, Or.inr (Or.inr (Or.inr (Or.inr (Or.inr (Or.inr (Or.inr (Or.inr (Or.inr (Or.inl ⟨c_1, c_2, c_3, c_4, c_5, c_6, c_7, c_8, c_9, c_10, rfl⟩))))))))), by rw [ht]; exact hP, va_K.moved hW.alike hK, hD⟩, hS.F ht⟩) hS.2.2 dX2_alone_141
  by_cases c_11 : v0 = 62
  · refine lv_lookup (off := 141) (tgt := 142) hx hb dX2_alone_1 (by decide) (by rw [c_11]; decide) (by decide) ?_
    refine lv_bipush (v := 7) hx hb dX2_alone_142 (by decide) ?_
    refine W.widen (k := 0) (n := 0) (by decide +kernel) (by decide +kernel) ?_
    exact W.iret (v := 7) hx hb hr (fun t ht hW => ⟨⟨7, (), rfl, Or.inr (Or.inr (Or.inr (Or.inr (Or.inr (Or.inr (Or.inr (Or.inr (Or.inr (Or.inr (Or.inl ⟨c_1, c_2, c_3, c_4, c_5, c_6, c_7, c_8, c_9, c_10, c_11, rfl⟩)))))))))), by rw [ht]; exact hP, va_K.moved hW.alike hK, hD⟩, hS.F ht⟩) hS.2.2 dX2_alone_144
  by_cases c_12 : v0 = 91
  · refine lv_lookup (off := 180) (tgt := 181) hx hb dX2_alone_1 (by decide) (by rw [c_12]; decide) (by decide) ?_
    refine lv_bipush (v := 25) hx hb dX2_alone_181 (by decide) ?_
    refine W.widen (k := 0) (n := 0) (by decide +kernel) (by decide +kernel) ?_
    exact W.iret (v := 25) hx hb hr (fun t ht hW => ⟨⟨25, (), rfl, Or.inr (Or.inr (Or.inr (Or.inr (Or.inr (Or.inr (Or.inr (Or.inr (Or.inr (Or.inr (Or.inr (Or.inl ⟨c_1, c_2, c_3, c_4, c_5, c_6, c_7, c_8, c_9, c_10, c_11, c_12, rfl⟩))))))))))), by rw [ht]; exact hP, va_K.moved hW.alike hK, hD⟩, hS.F ht⟩) hS.2.2 dX2_alone_183
  by_cases c_13 : v0 = 93
  · refine lv_lookup (off := 183) (tgt := 184) hx hb dX2_alone_1 (by decide) (by rw [c_13]; decide) (by decide) ?_
    refine lv_bipush (v := 29) hx hb dX2_alone_184 (by decide) ?_
    refine W.widen (k := 0) (n := 0) (by decide +kernel) (by decide +kernel) ?_
    exact W.iret (v := 29) hx hb hr (fun t ht hW => ⟨⟨29, (), rfl, Or.inr (Or.inr (Or.inr (Or.inr (Or.inr (Or.inr (Or.inr (Or.inr (Or.inr (Or.inr (Or.inr (Or.inr (Or.inl ⟨c_1, c_2, c_3, c_4, c_5, c_6, c_7, c_8, c_9, c_10, c_11, c_12, c_13, rfl⟩)))))))))))), by rw [ht]; exact hP, va_K.moved hW.alike hK, hD⟩, hS.F ht⟩) hS.2.2 dX2_alone_186
  by_cases c_14 : v0 = 94
  · refine lv_lookup (off := 147) (tgt := 148) hx hb dX2_alone_1 (by decide) (by rw [c_14]; decide) (by decide) ?_
    refine lv_bipush (v := 10) hx hb dX2_alone_148 (by decide) ?_
    refine W.widen (k := 0) (n := 0) (by decide +kernel) (by decide +kernel) ?_
    exact W.iret (v := 10) hx hb hr (fun t ht hW => ⟨⟨10, (), rfl, Or.inr (Or.inr (Or.inr (Or.inr (Or.inr (Or.inr (Or.inr (Or.inr (Or.inr (Or.inr (Or.inr (Or.inr (Or.inr (Or.inl ⟨c_1, c_2, c_3, c_4, c_5, c_6, c_7, c_8, c_9, c_10, c_11, c_12, c_13, c_14, rfl⟩))))))))))))), by rw [ht]; exact hP, va_K.moved hW.alike hK, hD⟩, hS.F ht⟩) hS.2.2 dX2_alone_150
  by_cases c_15 : v0 = 124
  · refine lv_lookup (off := 144) (tgt := 145) hx hb dX2_alone_1 (by decide) (by rw [c_15]; decide) (by decide) ?_
    refine lv_bipush (v := 9) hx hb dX2_alone_145 (by decide) ?_
    refine W.widen (k := 0) (n := 0) (by decide +kernel) (by decide +kernel) ?_
    exact W.iret (v := 9) hx hb hr (fun t ht hW => ⟨⟨9, (), rfl, Or.inr (Or.inr (Or.inr (Or.inr (Or.inr (Or.inr (Or.inr (Or.inr (Or.inr (Or.inr (Or.inr (Or.inr (Or.inr (Or.inr (Or.inl ⟨c_1, c_2, c_3, c_4, c_5, c_6, c_7, c_8, c_9, c_10, c_11, c_12, c_13, c_14, c_15, rfl⟩)))))))))))))), by rw [ht]; exact hP, va_K.moved hW.alike hK, hD⟩, hS.F ht⟩) hS.2.2 dX2_alone_147
  by_cases c_16 : v0 = 126
  · refine lv_lookup (off := 171) (tgt := 172) hx hb dX2_alone_1 (by decide) (by rw [c_16]; decide) (by decide) ?_
    refine lv_bipush (v := 21) hx hb dX2_alone_172 (by decide) ?_
    refine W.widen (k := 0) (n := 0) (by decide +kernel) (by decide +kernel) ?_
    exact W.iret (v := 21) hx hb hr (fun t ht hW => ⟨⟨21, (), rfl, Or.inr (Or.inr (Or.inr (Or.inr (Or.inr (Or.inr (Or.inr (Or.inr (Or.inr (Or.inr (Or.inr (Or.inr (Or.inr (Or.inr (Or.inr (Or.inl ⟨c_1, c_2, c_3, c_4, c_5, c_6, c_7, c_8, c_9, c_10, c_11, c_12, c_13, c_14, c_15, c_16, rfl⟩))))))))))))))), by rw [ht]; exact hP, va_K.moved hW.alike hK, hD⟩, hS.F ht⟩) hS.2.2 dX2_alone_174
  refine lv_lookup (off := 186) (tgt := 187) hx hb dX2_alone_1 (by decide) (show Op.lookupswitch.offset [(33, 168), (37, 165), (38, 150), (40, 174), (41, 177), (42, 159), (43, 153), (45, 156), (47, 162), (60, 139), (62, 141), (91, 180), (93, 183), (94, 147), (124, 144), (126, 171)] 186 (v0 : Int32).toInt = 186 by rw [lv_osw c_1 (by decide), lv_osw c_2 (by decide), lv_osw c_3 (by decide), lv_osw c_4 (by decide), lv_osw c_5 (by decide), lv_osw c_6 (by decide), lv_osw c_7 (by decide), lv_osw c_8 (by decide), lv_osw c_9 (by decide), lv_osw c_10 (by decide), lv_osw c_11 (by decide), lv_osw c_12 (by decide), lv_osw c_13 (by decide), lv_osw c_14 (by decide), lv_osw c_15 (by decide), lv_osw c_16 (by decide)] <;> rfl) (by decide) ?_
  refine lv_iconst (v := 0) hx hb dX2_alone_187 (by decide) ?_
  refine W.widen (k := 0) (n := 0) (by decide +kernel) (by decide +kernel) ?_
  exact W.iret (v := 0) hx hb hr (fun t ht hW => ⟨⟨0, (), rfl, Or.inr (Or.inr (Or.inr (Or.inr (Or.inr (Or.inr (Or.inr (Or.inr (Or.inr (Or.inr (Or.inr (Or.inr (Or.inr (Or.inr (Or.inr (Or.inr (Or.inl ⟨c_1, c_2, c_3, c_4, c_5, c_6, c_7, c_8, c_9, c_10, c_11, c_12, c_13, c_14, c_15, c_16, rfl⟩)))))))))))))))), by rw [ht]; exact hP, va_K.moved hW.alike hK, hD⟩, hS.F ht⟩) hS.2.2 dX2_alone_188
def ow_g_X3_first : List Cond := .code yX3_first cX3_first 4 (some .long) :: ([.constantLong RX3 33 (4294967295)] ++ [])
theorem gd_g_X3_first : ∀ w ∈ ow_g_X3_first, (w.onTables && w.keeps) = true ∨ ∃ ty, w = Cond.arrayClass ty := List.forall_mem_cons.mpr ⟨good_of_word rfl, List.forall_mem_append.mpr ⟨fun w h => good_of_word (List.all_eq_true.mp (by decide +kernel) w h), fun _ h => nomatch h⟩⟩
set_option maxHeartbeats 40000000 in
set_option maxRecDepth 100000 in
theorem g_X3_first (l : Launch) (hlt : l.stackTraces = false) (dC : Nat → ClassId) (dI : Nat → Nat → Nat) (v0 : Int32) (v1 : Int64) (v2 : Int32) (sz : Nat) : Met l yX3_first ow_g_X3_first ({ frames := 0, cells := 0, slots := 0, locals := 0 }) (va_Pc [.int v0, .long v1, .int v2] (fun U => U.heap.size = sz ∧ va_P (dC, dI) vwCl [] U.heap ∧ va_K (dC, dI) vwCl [] U ∧ va_D (fun _ => True) [] ∧ nv_E (va_A [] sz) U)) (va_Ql (fun r _ => ((¬ v0 = 1) ∧ (¬ v0 = 4) ∧ r = v1) ∨ ((¬ v0 = 1) ∧ (v0 = 4) ∧ r = ((v1 : Int64) &&& 4294967295)) ∨ ((v0 = 1) ∧ (8 ≤ v2) ∧ (¬ v0 = 4) ∧ r = v1) ∨ ((v0 = 1) ∧ (8 ≤ v2) ∧ (v0 = 4) ∧ r = ((v1 : Int64) &&& 4294967295)) ∨ ((v0 = 1) ∧ (¬ 8 ≤ v2) ∧ r = ((v1 : Int64) &&& ((((1 : Int64) <<< (((8 * v2) : Int32).toInt64 &&& 63)) : Int64) - 1))) ∨ False) (fun (_ : Unit) t => va_P (dC, dI) vwCl [] t.heap ∧ va_K (dC, dI) vwCl [] t ∧ va_D (va_A [] sz) []) (va_A [] sz)) 0 0 (va_A [] sz) := by
  refine Met.ofW (cc := cX3_first) (maxL := 4) (ret := (some .long)) (by decide) rfl ?_
  intro p e s m args below meth c s₁ B hml hv
  obtain ⟨rfl, hsz, hP, hK, hD0, hN⟩ := hv
  have hx := B.exec
  have hb := B.bytes
  have hr := B.returns
  have hts := atoms_spec (ws := ow_g_X3_first) B.pre
  have hown : s.vm.findClass RX3 = some m.cls := findClass_of_methodNamed B.named
  have hlocks := B.notSynchronized
  subst hsz
  have hD := hD0.self (sz := s.heap.size)
  generalize hAe : va_A [] s.heap.size = A at hD hN ⊢
  have hA : ∀ q : Nat, s.heap.size ≤ q → A q := fun q h => by rw [← hAe]; exact Or.inr h
  have hS : va_S A s.heap s.heap [] := va_S.rf
  have hl := lv_entry ([.int v0, .long v1, .int v2]) (n := 4) (Nat.le_of_ble_eq_true rfl)
  rw [lg_entry_eq]
  generalize (lg_sl ([.int v0, .long v1, .int v2]) ++ List.replicate (4 - (lg_sl ([.int v0, .long v1, .int v2])).length) Slot.unset).toArray = ls at hl ⊢
  have hl : lv_has ls 4 [(0, .int v0), (1, .long v1), (3, .int v2)] := hl
  refine lv_iload_n hx hb dX3_first_0 rfl (lv_at hl 0 rfl) ?_
  refine lv_iconst (v := 1) hx hb dX3_first_1 (by decide) ?_
  refine lv_icmp_ne (tgt := 22) hx hb dX3_first_2 (by decide) (fun c_1 => ?_) (fun c_1 => ?_)
  · refine lv_iload_n hx hb dX3_first_22 rfl (lv_at hl 0 rfl) ?_
    refine lv_iconst (v := 4) hx hb dX3_first_23 (by decide) ?_
    refine lv_icmp_ne (tgt := 35) hx hb dX3_first_24 (by decide) (fun c_2 => ?_) (fun c_2 => ?_)
    · refine lv_lload_n hx hb dX3_first_35 rfl (lv_at hl 1 rfl) ?_
      refine W.widen (k := 0) (n := 0) (by decide +kernel) (by decide +kernel) ?_
      exact W.lret (v := v1) hx hb hr (fun t ht hW => ⟨⟨v1, (), rfl, Or.inl ⟨c_1, c_2, rfl⟩, by rw [ht]; exact hP, va_K.moved hW.alike hK, hD⟩, hS.F ht⟩) hS.2.2 dX3_first_36
    · refine lv_lload_n hx hb dX3_first_27 rfl (lv_at hl 1 rfl) ?_
      refine lv_ldc2 hx hb hown (hts (.constantLong RX3 33 (4294967295)) (List.mem_of_getElem? (i := 1) rfl)) dX3_first_28 ?_
      refine lv_land hx hb dX3_first_31 ?_
      refine lv_goto (tgt := 36) hx hb dX3_first_32 (by decide) ?_
      refine W.widen (k := 0) (n := 0) (by decide +kernel) (by decide +kernel) ?_
      exact W.lret (v := ((v1 : Int64) &&& 4294967295)) hx hb hr (fun t ht hW => ⟨⟨((v1 : Int64) &&& 4294967295), (), rfl, Or.inr (Or.inl ⟨c_1, c_2, rfl⟩), by rw [ht]; exact hP, va_K.moved hW.alike hK, hD⟩, hS.F ht⟩) hS.2.2 dX3_first_36
  · refine lv_iload_n hx hb dX3_first_5 rfl (lv_at hl 2 rfl) ?_
    refine lv_bipush (v := 8) hx hb dX3_first_6 (by decide) ?_
    refine lv_icmp_ge (tgt := 22) hx hb dX3_first_8 (by decide) (fun c_3 => ?_) (fun c_3 => ?_)
    · refine lv_iload_n hx hb dX3_first_22 rfl (lv_at hl 0 rfl) ?_
      refine lv_iconst (v := 4) hx hb dX3_first_23 (by decide) ?_
      refine lv_icmp_ne (tgt := 35) hx hb dX3_first_24 (by decide) (fun c_4 => ?_) (fun c_4 => ?_)
      · refine lv_lload_n hx hb dX3_first_35 rfl (lv_at hl 1 rfl) ?_
        refine W.widen (k := 0) (n := 0) (by decide +kernel) (by decide +kernel) ?_
        exact W.lret (v := v1) hx hb hr (fun t ht hW => ⟨⟨v1, (), rfl, Or.inr (Or.inr (Or.inl ⟨c_1, c_3, c_4, rfl⟩)), by rw [ht]; exact hP, va_K.moved hW.alike hK, hD⟩, hS.F ht⟩) hS.2.2 dX3_first_36
      · refine lv_lload_n hx hb dX3_first_27 rfl (lv_at hl 1 rfl) ?_
        refine lv_ldc2 hx hb hown (hts (.constantLong RX3 33 (4294967295)) (List.mem_of_getElem? (i := 1) rfl)) dX3_first_28 ?_
        refine lv_land hx hb dX3_first_31 ?_
        refine lv_goto (tgt := 36) hx hb dX3_first_32 (by decide) ?_
        refine W.widen (k := 0) (n := 0) (by decide +kernel) (by decide +kernel) ?_
        exact W.lret (v := ((v1 : Int64) &&& 4294967295)) hx hb hr (fun t ht hW => ⟨⟨((v1 : Int64) &&& 4294967295), (), rfl, Or.inr (Or.inr (Or.inr (Or.inl ⟨c_1, c_3, c_4, rfl⟩))), by rw [ht]; exact hP, va_K.moved hW.alike hK, hD⟩, hS.F ht⟩) hS.2.2 dX3_first_36
    · refine lv_lload_n hx hb dX3_first_11 rfl (lv_at hl 1 rfl) ?_
      refine lv_lconst (v := 1) hx hb dX3_first_12 (by decide) ?_
      refine lv_bipush (v := 8) hx hb dX3_first_13 (by decide) ?_
      refine lv_iload_n hx hb dX3_first_15 rfl (lv_at hl 2 rfl) ?_
      refine lv_imul hx hb dX3_first_16 ?_
      refine lv_lshl hx hb dX3_first_17 rfl ?_
      refine lv_lconst (v := 1) hx hb dX3_first_18 (by decide) ?_
      refine lv_lsub hx hb dX3_first_19 ?_
      refine lv_land hx hb dX3_first_20 ?_
      refine W.widen (k := 0) (n := 0) (by decide +kernel) (by decide +kernel) ?_
      exact W.lret (v := ((v1 : Int64) &&& ((((1 : Int64) <<< (((8 * v2) : Int32).toInt64 &&& 63)) : Int64) - 1))) hx hb hr (fun t ht hW => ⟨⟨((v1 : Int64) &&& ((((1 : Int64) <<< (((8 * v2) : Int32).toInt64 &&& 63)) : Int64) - 1)), (), rfl, Or.inr (Or.inr (Or.inr (Or.inr (Or.inl ⟨c_1, c_3, rfl⟩)))), by rw [ht]; exact hP, va_K.moved hW.alike hK, hD⟩, hS.F ht⟩) hS.2.2 dX3_first_21
def ow_g_X4_changed : List Cond := .code yX4_changed cX4_changed 3 (some .int) :: ([.methodLink RX4 89 yJ6_compareUnsigned_7cf53, .static yJ6_compareUnsigned_7cf53, .initialized RJ6, .methodLink RX4 128 Lib.Math.min.name, .static Lib.Math.min.name, .initialized "java/lang/Math", .code Lib.Math.min.name Lib.Math.min.code 2 (some .int), .methodLink RX4 133 Lib.Math.max.name, .static Lib.Math.max.name, .code Lib.Math.max.name Lib.Math.max.code 2 (some .int)] ++ (ow_k_J6_compareUnsigned_7cf53 ++ []))
theorem gd_g_X4_changed : ∀ w ∈ ow_g_X4_changed, (w.onTables && w.keeps) = true ∨ ∃ ty, w = Cond.arrayClass ty := List.forall_mem_cons.mpr ⟨good_of_word rfl, List.forall_mem_append.mpr ⟨fun w h => good_of_word (List.all_eq_true.mp (by decide +kernel) w h), List.forall_mem_append.mpr ⟨gd_k_J6_compareUnsigned_7cf53, fun _ h => nomatch h⟩⟩⟩
theorem gi_g_X4_changed_0 : GoodIn ow_g_X4_changed (va_wsS RX4 89 yJ6_compareUnsigned_7cf53 ow_k_J6_compareUnsigned_7cf53) := goodIn_app (goodIn_of _ (by decide +kernel)) (fun w h => ⟨List.mem_cons_of_mem _ (List.mem_append_right _ (List.mem_append_left _ h)), gd_k_J6_compareUnsigned_7cf53 w h⟩)
