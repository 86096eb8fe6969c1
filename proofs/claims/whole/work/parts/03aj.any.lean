set_option maxHeartbeats 40000000 in
set_option maxRecDepth 100000 in
theorem g_X13_shortJump (l : Launch) (hlt : l.stackTraces = false) (dC : Nat → ClassId) (dI : Nat → Nat → Nat) (v0 : Int32) (sz : Nat) : Met l yX13_shortJump ow_g_X13_shortJump ({ frames := 1, cells := 0, slots := 0, locals := 23 }) (va_Pc [.int v0] (fun U => U.heap.size = sz ∧ va_P (dC, dI) vwCl [] U.heap ∧ va_K (dC, dI) vwCl [] U ∧ va_D (fun _ => True) [] ∧ nv_E (va_A [] sz) U)) (va_Qi (fun r _ => (r = (((((((((((((v0 : Int32).toUInt32 >>> ((11 : Int32).toUInt32 &&& Int32.toUInt32 31)).toInt32) &&& 1) : Int32) <<< ((12 : Int32) &&& 31)) ||| ((((((v0 : Int32).toUInt32 >>> ((4 : Int32).toUInt32 &&& Int32.toUInt32 31)).toInt32) &&& 1) : Int32) <<< ((11 : Int32) &&& 31))) ||| ((((((v0 : Int32).toUInt32 >>> ((8 : Int32).toUInt32 &&& Int32.toUInt32 31)).toInt32) &&& 3) : Int32) <<< ((9 : Int32) &&& 31))) ||| ((((((v0 : Int32).toUInt32 >>> ((10 : Int32).toUInt32 &&& Int32.toUInt32 31)).toInt32) &&& 1) : Int32) <<< ((8 : Int32) &&& 31))) ||| ((((((v0 : Int32).toUInt32 >>> ((6 : Int32).toUInt32 &&& Int32.toUInt32 31)).toInt32) &&& 1) : Int32) <<< ((7 : Int32) &&& 31))) ||| ((((((v0 : Int32).toUInt32 >>> ((7 : Int32).toUInt32 &&& Int32.toUInt32 31)).toInt32) &&& 1) : Int32) <<< ((6 : Int32) &&& 31))) ||| ((((((v0 : Int32).toUInt32 >>> ((1 : Int32).toUInt32 &&& Int32.toUInt32 31)).toInt32) &&& 7) : Int32) <<< ((3 : Int32) &&& 31))) ||| ((((((v0 : Int32).toUInt32 >>> ((5 : Int32).toUInt32 &&& Int32.toUInt32 31)).toInt32) &&& 1) : Int32) <<< ((2 : Int32) &&& 31)))) ∨ False) (fun (_ : Unit) t => va_P (dC, dI) vwCl [] t.heap ∧ va_K (dC, dI) vwCl [] t ∧ va_D (va_A [] sz) []) (va_A [] sz)) 0 0 (va_A [] sz) := by
  refine Met.ofW (cc := cX13_shortJump) (maxL := 1) (ret := (some .int)) (by decide) rfl ?_
  intro p e s m args below meth c s₁ B hml hv
  obtain ⟨rfl, hsz, hP, hK, hD0, hN⟩ := hv
  have hx := B.exec
  have hb := B.bytes
  have hr := B.returns
  have hts := atoms_spec (ws := ow_g_X13_shortJump) B.pre
  have hown : s.vm.findClass RX13 = some m.cls := findClass_of_methodNamed B.named
  have hlocks := B.notSynchronized
  subst hsz
  have hD := hD0.self (sz := s.heap.size)
  generalize hAe : va_A [] s.heap.size = A at hD hN ⊢
  have hA : ∀ q : Nat, s.heap.size ≤ q → A q := fun q h => by rw [← hAe]; exact Or.inr h
  have hS : va_S A s.heap s.heap [] := va_S.rf
  have hl := lv_entry ([.int v0]) (n := 1) (Nat.le_of_ble_eq_true rfl)
  rw [lg_entry_eq]
  generalize (lg_sl ([.int v0]) ++ List.replicate (1 - (lg_sl ([.int v0])).length) Slot.unset).toArray = ls at hl ⊢
  have hl : lv_has ls 1 [(0, .int v0)] := hl
  refine lv_iload_n hx hb dX13_shortJump_0 rfl (lv_at hl 0 rfl) ?_
  refine lv_bipush (v := 11) hx hb dX13_shortJump_1 (by decide) ?_
  refine lv_bipush (v := 11) hx hb dX13_shortJump_3 (by decide) ?_
  refine lv_bipush (v := 12) hx hb dX13_shortJump_5 (by decide) ?_
  have hPc := hP.sub (ws' := []) [] rfl
  have hDc := hD.sub (ws' := []) [] (by decide) rfl
  have hKc := hK.sub (tys' := []) [] rfl
  have hFc := va_free (wc := []) hD hS hA [] rfl
  refine va_calli (va_runS (As := [.int v0, .int 11, .int 11, .int 12]) (rest := []) ⟨hx, hb, hml, hown, hts⟩ (k_X13_bits_v15 l hlt dC dI v0  s.heap.size) (cwS 4 hts gi_g_X13_shortJump_0 rfl rfl rfl (by decide +kernel) ⟨Nat.le_of_ble_eq_true rfl, Nat.le_of_ble_eq_true rfl⟩) ⟨fun a U g mk q => by obtain ⟨q0, q1, qP, qK, qD, qN⟩ := q; exact ⟨q0, q1, qP, va_K.moved (u := U) (U := U.calling g mk a) (Vm.Alike.refl U.vm) qK, qD, nv_same rfl rfl qN⟩, fun U hU hW => ⟨rfl, by rw [hU], by rw [hU]; exact hPc, va_K.moved hW.alike hKc, hDc.weaken (fun _ _ _ _ => trivial), nv_call hS hFc hU hW hN⟩⟩ rfl rfl hl.1 rfl (lv_room (Nat.le_of_ble_eq_true rfl)) dX13_shortJump_7 ⟨by decide +kernel, by decide +kernel⟩) hS (fun q _ h => hFc q h) hFc (fun r1 u t H1 locs ht hvm hw hB hz1 hk1 hS => ?_)
  obtain ⟨hP1, hK1, hD1⟩ := hB
  rw [ht] at hP1
  have hK1 := va_K.moved hvm.symm hK1
  obtain ⟨hP, hD⟩ := va_join (wr := []) (w1 := []) hP hD [] [] rfl rfl (by decide) (by decide) hk1 hFc hP1 hD1
  have hK := (hK.sub (tys' := []) [] rfl).app hK1
  generalize H1 = H at hP hS ⊢
  have hP : va_P (dC, dI) vwCl [] H := hP
  have hD : va_D A [] := hD
  have hK : va_K (dC, dI) vwCl [] s := hK
  refine W.widen (k := 0) (n := 0) (by decide +kernel) (by decide +kernel) ?_
  rcases hw with h9 | h9
  · subst h9
    refine lv_iload_n hx hb dX13_shortJump_10 rfl (lv_at hl 0 rfl) ?_
    refine lv_iconst (v := 4) hx hb dX13_shortJump_11 (by decide) ?_
    refine lv_iconst (v := 4) hx hb dX13_shortJump_12 (by decide) ?_
    refine lv_bipush (v := 11) hx hb dX13_shortJump_13 (by decide) ?_
    have hPc := hP.sub (ws' := []) [] rfl
    have hDc := hD.sub (ws' := []) [] (by decide) rfl
    have hKc := hK.sub (tys' := []) [] rfl
    have hFc := va_free (wc := []) hD hS hA [] rfl
    refine va_calli (va_runS (As := [.int v0, .int 4, .int 4, .int 11]) (rest := [.int ((((((v0 : Int32).toUInt32 >>> ((11 : Int32).toUInt32 &&& Int32.toUInt32 31)).toInt32) &&& 1) : Int32) <<< ((12 : Int32) &&& 31))]) ⟨hx, hb, hml, hown, hts⟩ (k_X13_bits_v16 l hlt dC dI v0  H.size) (cwS 4 hts gi_g_X13_shortJump_1 rfl rfl rfl (by decide +kernel) ⟨Nat.le_of_ble_eq_true rfl, Nat.le_of_ble_eq_true rfl⟩) ⟨fun a U g mk q => by obtain ⟨q0, q1, qP, qK, qD, qN⟩ := q; exact ⟨q0, q1, qP, va_K.moved (u := U) (U := U.calling g mk a) (Vm.Alike.refl U.vm) qK, qD, nv_same rfl rfl qN⟩, fun U hU hW => ⟨rfl, by rw [hU], by rw [hU]; exact hPc, va_K.moved hW.alike hKc, hDc.weaken (fun _ _ _ _ => trivial), nv_call hS hFc hU hW hN⟩⟩ rfl rfl hl.1 rfl (lv_room (Nat.le_of_ble_eq_true rfl)) dX13_shortJump_15 ⟨by decide +kernel, by decide +kernel⟩) hS (fun q _ h => hFc q h) hFc (fun r2 u t H1 locs ht hvm hw hB hz1 hk1 hS => ?_)
    obtain ⟨hP1, hK1, hD1⟩ := hB
    rw [ht] at hP1
    have hK1 := va_K.moved hvm.symm hK1
    obtain ⟨hP, hD⟩ := va_join (wr := []) (w1 := []) hP hD [] [] rfl rfl (by decide) (by decide) hk1 hFc hP1 hD1
    have hK := (hK.sub (tys' := []) [] rfl).app hK1
    generalize H1 = H at hP hS ⊢
    have hP : va_P (dC, dI) vwCl [] H := hP
    have hD : va_D A [] := hD
    have hK : va_K (dC, dI) vwCl [] s := hK
    refine W.widen (k := 0) (n := 0) (by decide +kernel) (by decide +kernel) ?_
    rcases hw with h9 | h9
    · subst h9
      refine lv_ior hx hb dX13_shortJump_18 ?_
      refine lv_iload_n hx hb dX13_shortJump_19 rfl (lv_at hl 0 rfl) ?_
      refine lv_bipush (v := 9) hx hb dX13_shortJump_20 (by decide) ?_
      refine lv_bipush (v := 8) hx hb dX13_shortJump_22 (by decide) ?_
      refine lv_bipush (v := 9) hx hb dX13_shortJump_24 (by decide) ?_
      have hPc := hP.sub (ws' := []) [] rfl
      have hDc := hD.sub (ws' := []) [] (by decide) rfl
      have hKc := hK.sub (tys' := []) [] rfl
      have hFc := va_free (wc := []) hD hS hA [] rfl
      refine va_calli (va_runS (As := [.int v0, .int 9, .int 8, .int 9]) (rest := [.int (((((((v0 : Int32).toUInt32 >>> ((11 : Int32).toUInt32 &&& Int32.toUInt32 31)).toInt32) &&& 1) : Int32) <<< ((12 : Int32) &&& 31)) ||| ((((((v0 : Int32).toUInt32 >>> ((4 : Int32).toUInt32 &&& Int32.toUInt32 31)).toInt32) &&& 1) : Int32) <<< ((11 : Int32) &&& 31)))]) ⟨hx, hb, hml, hown, hts⟩ (k_X13_bits_v17 l hlt dC dI v0  H.size) (cwS 4 hts gi_g_X13_shortJump_2 rfl rfl rfl (by decide +kernel) ⟨Nat.le_of_ble_eq_true rfl, Nat.le_of_ble_eq_true rfl⟩) ⟨fun a U g mk q => by obtain ⟨q0, q1, qP, qK, qD, qN⟩ := q; exact ⟨q0, q1, qP, va_K.moved (u := U) (U := U.calling g mk a) (Vm.Alike.refl U.vm) qK, qD, nv_same rfl rfl qN⟩, fun U hU hW => ⟨rfl, by rw [hU], by rw [hU]; exact hPc, va_K.moved hW.alike hKc, hDc.weaken (fun _ _ _ _ => trivial), nv_call hS hFc hU hW hN⟩⟩ rfl rfl hl.1 rfl (lv_room (Nat.le_of_ble_eq_true rfl)) dX13_shortJump_26 ⟨by decide +kernel, by decide +kernel⟩) hS (fun q _ h => hFc q h) hFc (fun r3 u t H1 locs ht hvm hw hB hz1 hk1 hS => ?_)
      obtain ⟨hP1, hK1, hD1⟩ := hB
      rw [ht] at hP1
      have hK1 := va_K.moved hvm.symm hK1
      obtain ⟨hP, hD⟩ := va_join (wr := []) (w1 := []) hP hD [] [] rfl rfl (by decide) (by decide) hk1 hFc hP1 hD1
      have hK := (hK.sub (tys' := []) [] rfl).app hK1
      generalize H1 = H at hP hS ⊢
      have hP : va_P (dC, dI) vwCl [] H := hP
      have hD : va_D A [] := hD
      have hK : va_K (dC, dI) vwCl [] s := hK
      refine W.widen (k := 0) (n := 0) (by decide +kernel) (by decide +kernel) ?_
      rcases hw with h9 | h9
      · subst h9
        refine lv_ior hx hb dX13_shortJump_29 ?_
        refine lv_iload_n hx hb dX13_shortJump_30 rfl (lv_at hl 0 rfl) ?_
        refine lv_bipush (v := 10) hx hb dX13_shortJump_31 (by decide) ?_
        refine lv_bipush (v := 10) hx hb dX13_shortJump_33 (by decide) ?_
        refine lv_bipush (v := 8) hx hb dX13_shortJump_35 (by decide) ?_
        have hPc := hP.sub (ws' := []) [] rfl
        have hDc := hD.sub (ws' := []) [] (by decide) rfl
        have hKc := hK.sub (tys' := []) [] rfl
        have hFc := va_free (wc := []) hD hS hA [] rfl
        refine va_calli (va_runS (As := [.int v0, .int 10, .int 10, .int 8]) (rest := [.int ((((((((v0 : Int32).toUInt32 >>> ((11 : Int32).toUInt32 &&& Int32.toUInt32 31)).toInt32) &&& 1) : Int32) <<< ((12 : Int32) &&& 31)) ||| ((((((v0 : Int32).toUInt32 >>> ((4 : Int32).toUInt32 &&& Int32.toUInt32 31)).toInt32) &&& 1) : Int32) <<< ((11 : Int32) &&& 31))) ||| ((((((v0 : Int32).toUInt32 >>> ((8 : Int32).toUInt32 &&& Int32.toUInt32 31)).toInt32) &&& 3) : Int32) <<< ((9 : Int32) &&& 31)))]) ⟨hx, hb, hml, hown, hts⟩ (k_X13_bits_v18 l hlt dC dI v0  H.size) (cwS 4 hts gi_g_X13_shortJump_3 rfl rfl rfl (by decide +kernel) ⟨Nat.le_of_ble_eq_true rfl, Nat.le_of_ble_eq_true rfl⟩) ⟨fun a U g mk q => by obtain ⟨q0, q1, qP, qK, qD, qN⟩ := q; exact ⟨q0, q1, qP, va_K.moved (u := U) (U := U.calling g mk a) (Vm.Alike.refl U.vm) qK, qD, nv_same rfl rfl qN⟩, fun U hU hW => ⟨rfl, by rw [hU], by rw [hU]; exact hPc, va_K.moved hW.alike hKc, hDc.weaken (fun _ _ _ _ => trivial), nv_call hS hFc hU hW hN⟩⟩ rfl rfl hl.1 rfl (lv_room (Nat.le_of_ble_eq_true rfl)) dX13_shortJump_37 ⟨by decide +kernel, by decide +kernel⟩) hS (fun q _ h => hFc q h) hFc (fun r4 u t H1 locs ht hvm hw hB hz1 hk1 hS => ?_)
        obtain ⟨hP1, hK1, hD1⟩ := hB
        rw [ht] at hP1
        have hK1 := va_K.moved hvm.symm hK1
        obtain ⟨hP, hD⟩ := va_join (wr := []) (w1 := []) hP hD [] [] rfl rfl (by decide) (by decide) hk1 hFc hP1 hD1
        have hK := (hK.sub (tys' := []) [] rfl).app hK1
        generalize H1 = H at hP hS ⊢
        have hP : va_P (dC, dI) vwCl [] H := hP
        have hD : va_D A [] := hD
        have hK : va_K (dC, dI) vwCl [] s := hK
        refine W.widen (k := 0) (n := 0) (by decide +kernel) (by decide +kernel) ?_
        rcases hw with h9 | h9
        · subst h9
          refine lv_ior hx hb dX13_shortJump_40 ?_
          refine lv_iload_n hx hb dX13_shortJump_41 rfl (lv_at hl 0 rfl) ?_
          refine lv_bipush (v := 6) hx hb dX13_shortJump_42 (by decide) ?_
          refine lv_bipush (v := 6) hx hb dX13_shortJump_44 (by decide) ?_
          refine lv_bipush (v := 7) hx hb dX13_shortJump_46 (by decide) ?_
          have hPc := hP.sub (ws' := []) [] rfl
          have hDc := hD.sub (ws' := []) [] (by decide) rfl
          have hKc := hK.sub (tys' := []) [] rfl
          have hFc := va_free (wc := []) hD hS hA [] rfl
          refine va_calli (va_runS (As := [.int v0, .int 6, .int 6, .int 7]) (rest := [.int (((((((((v0 : Int32).toUInt32 >>> ((11 : Int32).toUInt32 &&& Int32.toUInt32 31)).toInt32) &&& 1) : Int32) <<< ((12 : Int32) &&& 31)) ||| ((((((v0 : Int32).toUInt32 >>> ((4 : Int32).toUInt32 &&& Int32.toUInt32 31)).toInt32) &&& 1) : Int32) <<< ((11 : Int32) &&& 31))) ||| ((((((v0 : Int32).toUInt32 >>> ((8 : Int32).toUInt32 &&& Int32.toUInt32 31)).toInt32) &&& 3) : Int32) <<< ((9 : Int32) &&& 31))) ||| ((((((v0 : Int32).toUInt32 >>> ((10 : Int32).toUInt32 &&& Int32.toUInt32 31)).toInt32) &&& 1) : Int32) <<< ((8 : Int32) &&& 31)))]) ⟨hx, hb, hml, hown, hts⟩ (k_X13_bits_v19 l hlt dC dI v0  H.size) (cwS 4 hts gi_g_X13_shortJump_4 rfl rfl rfl (by decide +kernel) ⟨Nat.le_of_ble_eq_true rfl, Nat.le_of_ble_eq_true rfl⟩) ⟨fun a U g mk q => by obtain ⟨q0, q1, qP, qK, qD, qN⟩ := q; exact ⟨q0, q1, qP, va_K.moved (u := U) (U := U.calling g mk a) (Vm.Alike.refl U.vm) qK, qD, nv_same rfl rfl qN⟩, fun U hU hW => ⟨rfl, by rw [hU], by rw [hU]; exact hPc, va_K.moved hW.alike hKc, hDc.weaken (fun _ _ _ _ => trivial), nv_call hS hFc hU hW hN⟩⟩ rfl rfl hl.1 rfl (lv_room (Nat.le_of_ble_eq_true rfl)) dX13_shortJump_48 ⟨by decide +kernel, by decide +kernel⟩) hS (fun q _ h => hFc q h) hFc (fun r5 u t H1 locs ht hvm hw hB hz1 hk1 hS => ?_)
          obtain ⟨hP1, hK1, hD1⟩ := hB
          rw [ht] at hP1
          have hK1 := va_K.moved hvm.symm hK1
          obtain ⟨hP, hD⟩ := va_join (wr := []) (w1 := []) hP hD [] [] rfl rfl (by decide) (by decide) hk1 hFc hP1 hD1
          have hK := (hK.sub (tys' := []) [] rfl).app hK1
          generalize H1 = H at hP hS ⊢
          have hP : va_P (dC, dI) vwCl [] H := hP
          have hD : va_D A [] := hD
          have hK : va_K (dC, dI) vwCl [] s := hK
          refine W.widen (k := 0) (n := 0) (by decide +kernel) (by decide +kernel) ?_
          rcases hw with h9 | h9
          · subst h9
            refine lv_ior hx hb dX13_shortJump_51 ?_
            refine lv_iload_n hx hb dX13_shortJump_52 rfl (lv_at hl 0 rfl) ?_
            refine lv_bipush (v := 7) hx hb dX13_shortJump_53 (by decide) ?_
            refine lv_bipush (v := 7) hx hb dX13_shortJump_55 (by decide) ?_
            refine lv_bipush (v := 6) hx hb dX13_shortJump_57 (by decide) ?_
            have hPc := hP.sub (ws' := []) [] rfl
            have hDc := hD.sub (ws' := []) [] (by decide) rfl
            have hKc := hK.sub (tys' := []) [] rfl
            have hFc := va_free (wc := []) hD hS hA [] rfl
            refine va_calli (va_runS (As := [.int v0, .int 7, .int 7, .int 6]) (rest := [.int ((((((((((v0 : Int32).toUInt32 >>> ((11 : Int32).toUInt32 &&& Int32.toUInt32 31)).toInt32) &&& 1) : Int32) <<< ((12 : Int32) &&& 31)) ||| ((((((v0 : Int32).toUInt32 >>> ((4 : Int32).toUInt32 &&& Int32.toUInt32 31)).toInt32) &&& 1) : Int32) <<< ((11 : Int32) &&& 31))) ||| ((((((v0 : Int32).toUInt32 >>> ((8 : Int32).toUInt32 &&& Int32.toUInt32 31)).toInt32) &&& 3) : Int32) <<< ((9 : Int32) &&& 31))) ||| ((((((v0 : Int32).toUInt32 >>> ((10 : Int32).toUInt32 &&& Int32.toUInt32 31)).toInt32) &&& 1) : Int32) <<< ((8 : Int32) &&& 31))) ||| ((((((v0 : Int32).toUInt32 >>> ((6 : Int32).toUInt32 &&& Int32.toUInt32 31)).toInt32) &&& 1) : Int32) <<< ((7 : Int32) &&& 31)))]) ⟨hx, hb, hml, hown, hts⟩ (k_X13_bits_v20 l hlt dC dI v0  H.size) (cwS 4 hts gi_g_X13_shortJump_5 rfl rfl rfl (by decide +kernel) ⟨Nat.le_of_ble_eq_true rfl, Nat.le_of_ble_eq_true rfl⟩) ⟨fun a U g mk q => by obtain ⟨q0, q1, qP, qK, qD, qN⟩ := q; exact ⟨q0, q1, qP, va_K.moved (u := U) (U := U.calling g mk a) (Vm.Alike.refl U.vm) qK, qD, nv_same rfl rfl qN⟩, fun U hU hW => ⟨rfl, by rw [hU], by rw [hU]; exact hPc, va_K.moved hW.alike hKc, hDc.weaken (fun _ _ _ _ => trivial), nv_call hS hFc hU hW hN⟩⟩ rfl rfl hl.1 rfl (lv_room (Nat.le_of_ble_eq_true rfl)) dX13_shortJump_59 ⟨by decide +kernel, by decide +kernel⟩) hS (fun q _ h => hFc q h) hFc (fun r6 u t H1 locs ht hvm hw hB hz1 hk1 hS => ?_)
            obtain ⟨hP1, hK1, hD1⟩ := hB
            rw [ht] at hP1
            have hK1 := va_K.moved hvm.symm hK1
            obtain ⟨hP, hD⟩ := va_join (wr := []) (w1 := []) hP hD [] [] rfl rfl (by decide) (by decide) hk1 hFc hP1 hD1
            have hK := (hK.sub (tys' := []) [] rfl).app hK1
            generalize H1 = H at hP hS ⊢
            have hP : va_P (dC, dI) vwCl [] H := hP
            have hD : va_D A [] := hD
            have hK : va_K (dC, dI) vwCl [] s := hK
            refine W.widen (k := 0) (n := 0) (by decide +kernel) (by decide +kernel) ?_
            rcases hw with h9 | h9
            · subst h9
              refine lv_ior hx hb dX13_shortJump_62 ?_
              refine lv_iload_n hx hb dX13_shortJump_63 rfl (lv_at hl 0 rfl) ?_
              refine lv_iconst (v := 3) hx hb dX13_shortJump_64 (by decide) ?_
              refine lv_iconst (v := 1) hx hb dX13_shortJump_65 (by decide) ?_
              refine lv_iconst (v := 3) hx hb dX13_shortJump_66 (by decide) ?_
              have hPc := hP.sub (ws' := []) [] rfl
              have hDc := hD.sub (ws' := []) [] (by decide) rfl
              have hKc := hK.sub (tys' := []) [] rfl
              have hFc := va_free (wc := []) hD hS hA [] rfl
              refine va_calli (va_runS (As := [.int v0, .int 3, .int 1, .int 3]) (rest := [.int (((((((((((v0 : Int32).toUInt32 >>> ((11 : Int32).toUInt32 &&& Int32.toUInt32 31)).toInt32) &&& 1) : Int32) <<< ((12 : Int32) &&& 31)) ||| ((((((v0 : Int32).toUInt32 >>> ((4 : Int32).toUInt32 &&& Int32.toUInt32 31)).toInt32) &&& 1) : Int32) <<< ((11 : Int32) &&& 31))) ||| ((((((v0 : Int32).toUInt32 >>> ((8 : Int32).toUInt32 &&& Int32.toUInt32 31)).toInt32) &&& 3) : Int32) <<< ((9 : Int32) &&& 31))) ||| ((((((v0 : Int32).toUInt32 >>> ((10 : Int32).toUInt32 &&& Int32.toUInt32 31)).toInt32) &&& 1) : Int32) <<< ((8 : Int32) &&& 31))) ||| ((((((v0 : Int32).toUInt32 >>> ((6 : Int32).toUInt32 &&& Int32.toUInt32 31)).toInt32) &&& 1) : Int32) <<< ((7 : Int32) &&& 31))) ||| ((((((v0 : Int32).toUInt32 >>> ((7 : Int32).toUInt32 &&& Int32.toUInt32 31)).toInt32) &&& 1) : Int32) <<< ((6 : Int32) &&& 31)))]) ⟨hx, hb, hml, hown, hts⟩ (k_X13_bits_v21 l hlt dC dI v0  H.size) (cwS 4 hts gi_g_X13_shortJump_6 rfl rfl rfl (by decide +kernel) ⟨Nat.le_of_ble_eq_true rfl, Nat.le_of_ble_eq_true rfl⟩) ⟨fun a U g mk q => by obtain ⟨q0, q1, qP, qK, qD, qN⟩ := q; exact ⟨q0, q1, qP, va_K.moved (u := U) (U := U.calling g mk a) (Vm.Alike.refl U.vm) qK, qD, nv_same rfl rfl qN⟩, fun U hU hW => ⟨rfl, by rw [hU], by rw [hU]; exact hPc, va_K.moved hW.alike hKc, hDc.weaken (fun _ _ _ _ => trivial), nv_call hS hFc hU hW hN⟩⟩ rfl rfl hl.1 rfl (lv_room (Nat.le_of_ble_eq_true rfl)) dX13_shortJump_67 ⟨by decide +kernel, by decide +kernel⟩) hS (fun q _ h => hFc q h) hFc (fun r7 u t H1 locs ht hvm hw hB hz1 hk1 hS => ?_)
              obtain ⟨hP1, hK1, hD1⟩ := hB
              rw [ht] at hP1
              have hK1 := va_K.moved hvm.symm hK1
              obtain ⟨hP, hD⟩ := va_join (wr := []) (w1 := []) hP hD [] [] rfl rfl (by decide) (by decide) hk1 hFc hP1 hD1
              have hK := (hK.sub (tys' := []) [] rfl).app hK1
              generalize H1 = H at hP hS ⊢
              have hP : va_P (dC, dI) vwCl [] H := hP
              have hD : va_D A [] := hD
              have hK : va_K (dC, dI) vwCl [] s := hK
              refine W.widen (k := 0) (n := 0) (by decide +kernel) (by decide +kernel) ?_
              rcases hw with h9 | h9
              · subst h9
                refine lv_ior hx hb dX13_shortJump_70 ?_
                refine lv_iload_n hx hb dX13_shortJump_71 rfl (lv_at hl 0 rfl) ?_
                refine lv_iconst (v := 5) hx hb dX13_shortJump_72 (by decide) ?_
                refine lv_iconst (v := 5) hx hb dX13_shortJump_73 (by decide) ?_
                refine lv_iconst (v := 2) hx hb dX13_shortJump_74 (by decide) ?_
                have hPc := hP.sub (ws' := []) [] rfl
                have hDc := hD.sub (ws' := []) [] (by decide) rfl
                have hKc := hK.sub (tys' := []) [] rfl
                have hFc := va_free (wc := []) hD hS hA [] rfl
                refine va_calli (va_runS (As := [.int v0, .int 5, .int 5, .int 2]) (rest := [.int ((((((((((((v0 : Int32).toUInt32 >>> ((11 : Int32).toUInt32 &&& Int32.toUInt32 31)).toInt32) &&& 1) : Int32) <<< ((12 : Int32) &&& 31)) ||| ((((((v0 : Int32).toUInt32 >>> ((4 : Int32).toUInt32 &&& Int32.toUInt32 31)).toInt32) &&& 1) : Int32) <<< ((11 : Int32) &&& 31))) ||| ((((((v0 : Int32).toUInt32 >>> ((8 : Int32).toUInt32 &&& Int32.toUInt32 31)).toInt32) &&& 3) : Int32) <<< ((9 : Int32) &&& 31))) ||| ((((((v0 : Int32).toUInt32 >>> ((10 : Int32).toUInt32 &&& Int32.toUInt32 31)).toInt32) &&& 1) : Int32) <<< ((8 : Int32) &&& 31))) ||| ((((((v0 : Int32).toUInt32 >>> ((6 : Int32).toUInt32 &&& Int32.toUInt32 31)).toInt32) &&& 1) : Int32) <<< ((7 : Int32) &&& 31))) ||| ((((((v0 : Int32).toUInt32 >>> ((7 : Int32).toUInt32 &&& Int32.toUInt32 31)).toInt32) &&& 1) : Int32) <<< ((6 : Int32) &&& 31))) ||| ((((((v0 : Int32).toUInt32 >>> ((1 : Int32).toUInt32 &&& Int32.toUInt32 31)).toInt32) &&& 7) : Int32) <<< ((3 : Int32) &&& 31)))]) ⟨hx, hb, hml, hown, hts⟩ (k_X13_bits_v22 l hlt dC dI v0  H.size) (cwS 4 hts gi_g_X13_shortJump_7 rfl rfl rfl (by decide +kernel) ⟨Nat.le_of_ble_eq_true rfl, Nat.le_of_ble_eq_true rfl⟩) ⟨fun a U g mk q => by obtain ⟨q0, q1, qP, qK, qD, qN⟩ := q; exact ⟨q0, q1, qP, va_K.moved (u := U) (U := U.calling g mk a) (Vm.Alike.refl U.vm) qK, qD, nv_same rfl rfl qN⟩, fun U hU hW => ⟨rfl, by rw [hU], by rw [hU]; exact hPc, va_K.moved hW.alike hKc, hDc.weaken (fun _ _ _ _ => trivial), nv_call hS hFc hU hW hN⟩⟩ rfl rfl hl.1 rfl (lv_room (Nat.le_of_ble_eq_true rfl)) dX13_shortJump_75 ⟨by decide +kernel, by decide +kernel⟩) hS (fun q _ h => hFc q h) hFc (fun r8 u t H1 locs ht hvm hw hB hz1 hk1 hS => ?_)
                obtain ⟨hP1, hK1, hD1⟩ := hB
                rw [ht] at hP1
                have hK1 := va_K.moved hvm.symm hK1
                obtain ⟨hP, hD⟩ := va_join (wr := []) (w1 := []) hP hD [] [] rfl rfl (by decide) (by decide) hk1 hFc hP1 hD1
                have hK := (hK.sub (tys' := []) [] rfl).app hK1
                generalize H1 = H at hP hS ⊢
                have hP : va_P (dC, dI) vwCl [] H := hP
                have hD : va_D A [] := hD
                have hK : va_K (dC, dI) vwCl [] s := hK
                refine W.widen (k := 0) (n := 0) (by decide +kernel) (by decide +kernel) ?_
                rcases hw with h9 | h9
                · subst h9
                  refine lv_ior hx hb dX13_shortJump_78 ?_
                  refine W.widen (k := 0) (n := 0) (by decide +kernel) (by decide +kernel) ?_
                  exact W.iret (v := (((((((((((((v0 : Int32).toUInt32 >>> ((11 : Int32).toUInt32 &&& Int32.toUInt32 31)).toInt32) &&& 1) : Int32) <<< ((12 : Int32) &&& 31)) ||| ((((((v0 : Int32).toUInt32 >>> ((4 : Int32).toUInt32 &&& Int32.toUInt32 31)).toInt32) &&& 1) : Int32) <<< ((11 : Int32) &&& 31))) ||| ((((((v0 : Int32).toUInt32 >>> ((8 : Int32).toUInt32 &&& Int32.toUInt32 31)).toInt32) &&& 3) : Int32) <<< ((9 : Int32) &&& 31))) ||| ((((((v0 : Int32).toUInt32 >>> ((10 : Int32).toUInt32 &&& Int32.toUInt32 31)).toInt32) &&& 1) : Int32) <<< ((8 : Int32) &&& 31))) ||| ((((((v0 : Int32).toUInt32 >>> ((6 : Int32).toUInt32 &&& Int32.toUInt32 31)).toInt32) &&& 1) : Int32) <<< ((7 : Int32) &&& 31))) ||| ((((((v0 : Int32).toUInt32 >>> ((7 : Int32).toUInt32 &&& Int32.toUInt32 31)).toInt32) &&& 1) : Int32) <<< ((6 : Int32) &&& 31))) ||| ((((((v0 : Int32).toUInt32 >>> ((1 : Int32).toUInt32 &&& Int32.toUInt32 31)).toInt32) &&& 7) : Int32) <<< ((3 : Int32) &&& 31))) ||| ((((((v0 : Int32).toUInt32 >>> ((5 : Int32).toUInt32 &&& Int32.toUInt32 31)).toInt32) &&& 1) : Int32) <<< ((2 : Int32) &&& 31)))) hx hb hr (fun t ht hW => ⟨⟨(((((((((((((v0 : Int32).toUInt32 >>> ((11 : Int32).toUInt32 &&& Int32.toUInt32 31)).toInt32) &&& 1) : Int32) <<< ((12 : Int32) &&& 31)) ||| ((((((v0 : Int32).toUInt32 >>> ((4 : Int32).toUInt32 &&& Int32.toUInt32 31)).toInt32) &&& 1) : Int32) <<< ((11 : Int32) &&& 31))) ||| ((((((v0 : Int32).toUInt32 >>> ((8 : Int32).toUInt32 &&& Int32.toUInt32 31)).toInt32) &&& 3) : Int32) <<< ((9 : Int32) &&& 31))) ||| ((((((v0 : Int32).toUInt32 >>> ((10 : Int32).toUInt32 &&& Int32.toUInt32 31)).toInt32) &&& 1) : Int32) <<< ((8 : Int32) &&& 31))) ||| ((((((v0 : Int32).toUInt32 >>> ((6 : Int32).toUInt32 &&& Int32.toUInt32 31)).toInt32) &&& 1) : Int32) <<< ((7 : Int32) &&& 31))) ||| ((((((v0 : Int32).toUInt32 >>> ((7 : Int32).toUInt32 &&& Int32.toUInt32 31)).toInt32) &&& 1) : Int32) <<< ((6 : Int32) &&& 31))) ||| ((((((v0 : Int32).toUInt32 >>> ((1 : Int32).toUInt32 &&& Int32.toUInt32 31)).toInt32) &&& 7) : Int32) <<< ((3 : Int32) &&& 31))) ||| ((((((v0 : Int32).toUInt32 >>> ((5 : Int32).toUInt32 &&& Int32.toUInt32 31)).toInt32) &&& 1) : Int32) <<< ((2 : Int32) &&& 31))), (), rfl, Or.inl rfl, by rw [ht]; exact hP, va_K.moved hW.alike hK, hD⟩, hS.F ht⟩) hS.2.2 dX13_shortJump_79
                · exact h9.elim
              · exact h9.elim
            · exact h9.elim
          · exact h9.elim
        · exact h9.elim
      · exact h9.elim
    · exact h9.elim
  · exact h9.elim
def ow_k_X7_part : List Cond := .code yX7_part cX7_part 4 (some .int) :: ([] ++ [])
theorem gd_k_X7_part : ∀ w ∈ ow_k_X7_part, (w.onTables && w.keeps) = true ∨ ∃ ty, w = Cond.arrayClass ty := List.forall_mem_cons.mpr ⟨good_of_word rfl, List.forall_mem_append.mpr ⟨fun w h => good_of_word (List.all_eq_true.mp (by decide +kernel) w h), fun _ h => nomatch h⟩⟩
set_option maxHeartbeats 40000000 in
set_option maxRecDepth 100000 in
theorem k_X7_part (l : Launch) (hlt : l.stackTraces = false) (dC : Nat → ClassId) (dI : Nat → Nat → Nat) (c0 : Int32) (sz : Nat) : Met l yX7_part ow_k_X7_part ({ frames := 0, cells := 0, slots := 0, locals := 0 }) (va_Pc [.int c0, .int 11, .int 1, .int 12] (fun U => U.heap.size = sz ∧ va_P (dC, dI) vwCl [] U.heap ∧ va_K (dC, dI) vwCl [] U ∧ va_D (fun _ => True) [] ∧ nv_E (va_A [] sz) U)) (va_Qi (fun r _ => (r = (((((c0 : Int32) >>> ((11 : Int32) &&& 31)) &&& 1) : Int32) <<< ((12 : Int32) &&& 31))) ∨ False) (fun (_ : Unit) t => va_P (dC, dI) vwCl [] t.heap ∧ va_K (dC, dI) vwCl [] t ∧ va_D (va_A [] sz) []) (va_A [] sz)) 0 0 (va_A [] sz) := by
  refine Met.ofW (cc := cX7_part) (maxL := 4) (ret := (some .int)) (by decide) rfl ?_
  intro p e s m args below meth c s₁ B hml hv
  obtain ⟨rfl, hsz, hP, hK, hD0, hN⟩ := hv
  have hx := B.exec
  have hb := B.bytes
  have hr := B.returns
  have hts := atoms_spec (ws := ow_k_X7_part) B.pre
  have hown : s.vm.findClass RX7 = some m.cls := findClass_of_methodNamed B.named
  have hlocks := B.notSynchronized
  subst hsz
  have hD := hD0.self (sz := s.heap.size)
  generalize hAe : va_A [] s.heap.size = A at hD hN ⊢
  have hA : ∀ q : Nat, s.heap.size ≤ q → A q := fun q h => by rw [← hAe]; exact Or.inr h
  have hS : va_S A s.heap s.heap [] := va_S.rf
  have hl := lv_entry ([.int c0, .int 11, .int 1, .int 12]) (n := 4) (Nat.le_of_ble_eq_true rfl)
  rw [lg_entry_eq]
  generalize (lg_sl ([.int c0, .int 11, .int 1, .int 12]) ++ List.replicate (4 - (lg_sl ([.int c0, .int 11, .int 1, .int 12])).length) Slot.unset).toArray = ls at hl ⊢
  have hl : lv_has ls 4 [(0, .int c0), (1, .int 11), (2, .int 1), (3, .int 12)] := hl
  refine lv_iload_n hx hb dX7_part_0 rfl (lv_at hl 0 rfl) ?_
  refine lv_iload_n hx hb dX7_part_1 rfl (lv_at hl 1 rfl) ?_
  refine lv_ishr hx hb dX7_part_2 ?_
  refine lv_iconst (v := 1) hx hb dX7_part_3 (by decide) ?_
  refine lv_iload_n hx hb dX7_part_4 rfl (lv_at hl 2 rfl) ?_
  refine lv_ishl hx hb dX7_part_5 ?_
  refine lv_topi (fun z1 ez1 => ?_)
  obtain rfl : z1 = 2 := ez1.trans (by decide)
  refine lv_iconst (v := 1) hx hb dX7_part_6 (by decide) ?_
  refine lv_isub hx hb dX7_part_7 ?_
  refine lv_topi (fun z2 ez2 => ?_)
  obtain rfl : z2 = 1 := ez2.trans (by decide)
  refine lv_iand hx hb dX7_part_8 ?_
  refine lv_iload_n hx hb dX7_part_9 rfl (lv_at hl 3 rfl) ?_
  refine lv_ishl hx hb dX7_part_10 ?_
  refine W.widen (k := 0) (n := 0) (by decide +kernel) (by decide +kernel) ?_
  exact W.iret (v := (((((c0 : Int32) >>> ((11 : Int32) &&& 31)) &&& 1) : Int32) <<< ((12 : Int32) &&& 31))) hx hb hr (fun t ht hW => ⟨⟨(((((c0 : Int32) >>> ((11 : Int32) &&& 31)) &&& 1) : Int32) <<< ((12 : Int32) &&& 31)), (), rfl, Or.inl rfl, by rw [ht]; exact hP, va_K.moved hW.alike hK, hD⟩, hS.F ht⟩) hS.2.2 dX7_part_11
def ow_k_X7_part_v1 : List Cond := .code yX7_part cX7_part 4 (some .int) :: ([] ++ [])
theorem gd_k_X7_part_v1 : ∀ w ∈ ow_k_X7_part_v1, (w.onTables && w.keeps) = true ∨ ∃ ty, w = Cond.arrayClass ty := List.forall_mem_cons.mpr ⟨good_of_word rfl, List.forall_mem_append.mpr ⟨fun w h => good_of_word (List.all_eq_true.mp (by decide +kernel) w h), fun _ h => nomatch h⟩⟩
set_option maxHeartbeats 40000000 in
set_option maxRecDepth 100000 in
theorem k_X7_part_v1 (l : Launch) (hlt : l.stackTraces = false) (dC : Nat → ClassId) (dI : Nat → Nat → Nat) (c0 : Int32) (sz : Nat) : Met l yX7_part ow_k_X7_part_v1 ({ frames := 0, cells := 0, slots := 0, locals := 0 }) (va_Pc [.int c0, .int 4, .int 1, .int 11] (fun U => U.heap.size = sz ∧ va_P (dC, dI) vwCl [] U.heap ∧ va_K (dC, dI) vwCl [] U ∧ va_D (fun _ => True) [] ∧ nv_E (va_A [] sz) U)) (va_Qi (fun r _ => (r = (((((c0 : Int32) >>> ((4 : Int32) &&& 31)) &&& 1) : Int32) <<< ((11 : Int32) &&& 31))) ∨ False) (fun (_ : Unit) t => va_P (dC, dI) vwCl [] t.heap ∧ va_K (dC, dI) vwCl [] t ∧ va_D (va_A [] sz) []) (va_A [] sz)) 0 0 (va_A [] sz) := by
  refine Met.ofW (cc := cX7_part) (maxL := 4) (ret := (some .int)) (by decide) rfl ?_
  intro p e s m args below meth c s₁ B hml hv
  obtain ⟨rfl, hsz, hP, hK, hD0, hN⟩ := hv
  have hx := B.exec
  have hb := B.bytes
  have hr := B.returns
  have hts := atoms_spec (ws := ow_k_X7_part_v1) B.pre
  have hown : s.vm.findClass RX7 = some m.cls := findClass_of_methodNamed B.named
  have hlocks := B.notSynchronized
  subst hsz
  have hD := hD0.self (sz := s.heap.size)
  generalize hAe : va_A [] s.heap.size = A at hD hN ⊢
  have hA : ∀ q : Nat, s.heap.size ≤ q → A q := fun q h => by rw [← hAe]; exact Or.inr h
  have hS : va_S A s.heap s.heap [] := va_S.rf
  have hl := lv_entry ([.int c0, .int 4, .int 1, .int 11]) (n := 4) (Nat.le_of_ble_eq_true rfl)
  rw [lg_entry_eq]
  generalize (lg_sl ([.int c0, .int 4, .int 1, .int 11]) ++ List.replicate (4 - (lg_sl ([.int c0, .int 4, .int 1, .int 11])).length) Slot.unset).toArray = ls at hl ⊢
  have hl : lv_has ls 4 [(0, .int c0), (1, .int 4), (2, .int 1), (3, .int 11)] := hl
  refine lv_iload_n hx hb dX7_part_0 rfl (lv_at hl 0 rfl) ?_
  refine lv_iload_n hx hb dX7_part_1 rfl (lv_at hl 1 rfl) ?_
  refine lv_ishr hx hb dX7_part_2 ?_
  refine lv_iconst (v := 1) hx hb dX7_part_3 (by decide) ?_
  refine lv_iload_n hx hb dX7_part_4 rfl (lv_at hl 2 rfl) ?_
  refine lv_ishl hx hb dX7_part_5 ?_
  refine lv_topi (fun z1 ez1 => ?_)
  obtain rfl : z1 = 2 := ez1.trans (by decide)
  refine lv_iconst (v := 1) hx hb dX7_part_6 (by decide) ?_
  refine lv_isub hx hb dX7_part_7 ?_
  refine lv_topi (fun z2 ez2 => ?_)
  obtain rfl : z2 = 1 := ez2.trans (by decide)
  refine lv_iand hx hb dX7_part_8 ?_
  refine lv_iload_n hx hb dX7_part_9 rfl (lv_at hl 3 rfl) ?_
  refine lv_ishl hx hb dX7_part_10 ?_
  refine W.widen (k := 0) (n := 0) (by decide +kernel) (by decide +kernel) ?_
  exact W.iret (v := (((((c0 : Int32) >>> ((4 : Int32) &&& 31)) &&& 1) : Int32) <<< ((11 : Int32) &&& 31))) hx hb hr (fun t ht hW => ⟨⟨(((((c0 : Int32) >>> ((4 : Int32) &&& 31)) &&& 1) : Int32) <<< ((11 : Int32) &&& 31)), (), rfl, Or.inl rfl, by rw [ht]; exact hP, va_K.moved hW.alike hK, hD⟩, hS.F ht⟩) hS.2.2 dX7_part_11
def ow_k_X7_part_v2 : List Cond := .code yX7_part cX7_part 4 (some .int) :: ([] ++ [])
theorem gd_k_X7_part_v2 : ∀ w ∈ ow_k_X7_part_v2, (w.onTables && w.keeps) = true ∨ ∃ ty, w = Cond.arrayClass ty := List.forall_mem_cons.mpr ⟨good_of_word rfl, List.forall_mem_append.mpr ⟨fun w h => good_of_word (List.all_eq_true.mp (by decide +kernel) w h), fun _ h => nomatch h⟩⟩
set_option maxHeartbeats 40000000 in
set_option maxRecDepth 100000 in
theorem k_X7_part_v2 (l : Launch) (hlt : l.stackTraces = false) (dC : Nat → ClassId) (dI : Nat → Nat → Nat) (c0 : Int32) (sz : Nat) : Met l yX7_part ow_k_X7_part_v2 ({ frames := 0, cells := 0, slots := 0, locals := 0 }) (va_Pc [.int c0, .int 8, .int 2, .int 9] (fun U => U.heap.size = sz ∧ va_P (dC, dI) vwCl [] U.heap ∧ va_K (dC, dI) vwCl [] U ∧ va_D (fun _ => True) [] ∧ nv_E (va_A [] sz) U)) (va_Qi (fun r _ => (r = (((((c0 : Int32) >>> ((8 : Int32) &&& 31)) &&& 3) : Int32) <<< ((9 : Int32) &&& 31))) ∨ False) (fun (_ : Unit) t => va_P (dC, dI) vwCl [] t.heap ∧ va_K (dC, dI) vwCl [] t ∧ va_D (va_A [] sz) []) (va_A [] sz)) 0 0 (va_A [] sz) := by
  refine Met.ofW (cc := cX7_part) (maxL := 4) (ret := (some .int)) (by decide) rfl ?_
  intro p e s m args below meth c s₁ B hml hv
  obtain ⟨rfl, hsz, hP, hK, hD0, hN⟩ := hv
  have hx := B.exec
  have hb := B.bytes
  have hr := B.returns
  have hts := atoms_spec (ws := ow_k_X7_part_v2) B.pre
  have hown : s.vm.findClass RX7 = some m.cls := findClass_of_methodNamed B.named
  have hlocks := B.notSynchronized
  subst hsz
  have hD := hD0.self (sz := s.heap.size)
  generalize hAe : va_A [] s.heap.size = A at hD hN ⊢
  have hA : ∀ q : Nat, s.heap.size ≤ q → A q := fun q h => by rw [← hAe]; exact Or.inr h
  have hS : va_S A s.heap s.heap [] := va_S.rf
  have hl := lv_entry ([.int c0, .int 8, .int 2, .int 9]) (n := 4) (Nat.le_of_ble_eq_true rfl)
  rw [lg_entry_eq]
  generalize (lg_sl ([.int c0, .int 8, .int 2, .int 9]) ++ List.replicate (4 - (lg_sl ([.int c0, .int 8, .int 2, .int 9])).length) Slot.unset).toArray = ls at hl ⊢
  have hl : lv_has ls 4 [(0, .int c0), (1, .int 8), (2, .int 2), (3, .int 9)] := hl
  refine lv_iload_n hx hb dX7_part_0 rfl (lv_at hl 0 rfl) ?_
  refine lv_iload_n hx hb dX7_part_1 rfl (lv_at hl 1 rfl) ?_
  refine lv_ishr hx hb dX7_part_2 ?_
  refine lv_iconst (v := 1) hx hb dX7_part_3 (by decide) ?_
  refine lv_iload_n hx hb dX7_part_4 rfl (lv_at hl 2 rfl) ?_
  refine lv_ishl hx hb dX7_part_5 ?_
  refine lv_topi (fun z1 ez1 => ?_)
  obtain rfl : z1 = 4 := ez1.trans (by decide)
  refine lv_iconst (v := 1) hx hb dX7_part_6 (by decide) ?_
  refine lv_isub hx hb dX7_part_7 ?_
  refine lv_topi (fun z2 ez2 => ?_)
  obtain rfl : z2 = 3 := ez2.trans (by decide)
  refine lv_iand hx hb dX7_part_8 ?_
  refine lv_iload_n hx hb dX7_part_9 rfl (lv_at hl 3 rfl) ?_
  refine lv_ishl hx hb dX7_part_10 ?_
  refine W.widen (k := 0) (n := 0) (by decide +kernel) (by decide +kernel) ?_
  exact W.iret (v := (((((c0 : Int32) >>> ((8 : Int32) &&& 31)) &&& 3) : Int32) <<< ((9 : Int32) &&& 31))) hx hb hr (fun t ht hW => ⟨⟨(((((c0 : Int32) >>> ((8 : Int32) &&& 31)) &&& 3) : Int32) <<< ((9 : Int32) &&& 31)), (), rfl, Or.inl rfl, by rw [ht]; exact hP, va_K.moved hW.alike hK, hD⟩, hS.F ht⟩) hS.2.2 dX7_part_11
def ow_k_X7_part_v3 : List Cond := .code yX7_part cX7_part 4 (some .int) :: ([] ++ [])
theorem gd_k_X7_part_v3 : ∀ w ∈ ow_k_X7_part_v3, (w.onTables && w.keeps) = true ∨ ∃ ty, w = Cond.arrayClass ty := List.forall_mem_cons.mpr ⟨good_of_word rfl, List.forall_mem_append.mpr ⟨fun w h => good_of_word (List.all_eq_true.mp (by decide +kernel) w h), fun _ h => nomatch h⟩⟩
set_option maxHeartbeats 40000000 in
set_option maxRecDepth 100000 in
theorem k_X7_part_v3 (l : Launch) (hlt : l.stackTraces = false) (dC : Nat → ClassId) (dI : Nat → Nat → Nat) (c0 : Int32) (sz : Nat) : Met l yX7_part ow_k_X7_part_v3 ({ frames := 0, cells := 0, slots := 0, locals := 0 }) (va_Pc [.int c0, .int 10, .int 1, .int 8] (fun U => U.heap.size = sz ∧ va_P (dC, dI) vwCl [] U.heap ∧ va_K (dC, dI) vwCl [] U ∧ va_D (fun _ => True) [] ∧ nv_E (va_A [] sz) U)) (va_Qi (fun r _ => (r = (((((c0 : Int32) >>> ((10 : Int32) &&& 31)) &&& 1) : Int32) <<< ((8 : Int32) &&& 31))) ∨ False) (fun (_ : Unit) t => va_P (dC, dI) vwCl [] t.heap ∧ va_K (dC, dI) vwCl [] t ∧ va_D (va_A [] sz) []) (va_A [] sz)) 0 0 (va_A [] sz) := by
  refine Met.ofW (cc := cX7_part) (maxL := 4) (ret := (some .int)) (by decide) rfl ?_
  intro p e s m args below meth c s₁ B hml hv
  obtain ⟨rfl, hsz, hP, hK, hD0, hN⟩ := hv
  have hx := B.exec
  have hb := B.bytes
  have hr := B.returns
  have hts := atoms_spec (ws := ow_k_X7_part_v3) B.pre
  have hown : s.vm.findClass RX7 = some m.cls := findClass_of_methodNamed B.named
  have hlocks := B.notSynchronized
  subst hsz
  have hD := hD0.self (sz := s.heap.size)
  generalize hAe : va_A [] s.heap.size = A at hD hN ⊢
  have hA : ∀ q : Nat, s.heap.size ≤ q → A q := fun q h => by rw [← hAe]; exact Or.inr h
  have hS : va_S A s.heap s.heap [] := va_S.rf
  have hl := lv_entry ([.int c0, .int 10, .int 1, .int 8]) (n := 4) (Nat.le_of_ble_eq_true rfl)
  rw [lg_entry_eq]
  generalize (lg_sl ([.int c0, .int 10, .int 1, .int 8]) ++ List.replicate (4 - (lg_sl ([.int c0, .int 10, .int 1, .int 8])).length) Slot.unset).toArray = ls at hl ⊢
  have hl : lv_has ls 4 [(0, .int c0), (1, .int 10), (2, .int 1), (3, .int 8)] := hl
  refine lv_iload_n hx hb dX7_part_0 rfl (lv_at hl 0 rfl) ?_
  refine lv_iload_n hx hb dX7_part_1 rfl (lv_at hl 1 rfl) ?_
  refine lv_ishr hx hb dX7_part_2 ?_
  refine lv_iconst (v := 1) hx hb dX7_part_3 (by decide) ?_
  refine lv_iload_n hx hb dX7_part_4 rfl (lv_at hl 2 rfl) ?_
  refine lv_ishl hx hb dX7_part_5 ?_
  refine lv_topi (fun z1 ez1 => ?_)
  obtain rfl : z1 = 2 := ez1.trans (by decide)
  refine lv_iconst (v := 1) hx hb dX7_part_6 (by decide) ?_
  refine lv_isub hx hb dX7_part_7 ?_
  refine lv_topi (fun z2 ez2 => ?_)
  obtain rfl : z2 = 1 := ez2.trans (by decide)
  refine lv_iand hx hb dX7_part_8 ?_
  refine lv_iload_n hx hb dX7_part_9 rfl (lv_at hl 3 rfl) ?_
  refine lv_ishl hx hb dX7_part_10 ?_
  refine W.widen (k := 0) (n := 0) (by decide +kernel) (by decide +kernel) ?_
  exact W.iret (v := (((((c0 : Int32) >>> ((10 : Int32) &&& 31)) &&& 1) : Int32) <<< ((8 : Int32) &&& 31))) hx hb hr (fun t ht hW => ⟨⟨(((((c0 : Int32) >>> ((10 : Int32) &&& 31)) &&& 1) : Int32) <<< ((8 : Int32) &&& 31)), (), rfl, Or.inl rfl, by rw [ht]; exact hP, va_K.moved hW.alike hK, hD⟩, hS.F ht⟩) hS.2.2 dX7_part_11
def ow_k_X7_part_v4 : List Cond := .code yX7_part cX7_part 4 (some .int) :: ([] ++ [])
theorem gd_k_X7_part_v4 : ∀ w ∈ ow_k_X7_part_v4, (w.onTables && w.keeps) = true ∨ ∃ ty, w = Cond.arrayClass ty := List.forall_mem_cons.mpr ⟨good_of_word rfl, List.forall_mem_append.mpr ⟨fun w h => good_of_word (List.all_eq_true.mp (by decide +kernel) w h), fun _ h => nomatch h⟩⟩
set_option maxHeartbeats 40000000 in
set_option maxRecDepth 100000 in
theorem k_X7_part_v4 (l : Launch) (hlt : l.stackTraces = false) (dC : Nat → ClassId) (dI : Nat → Nat → Nat) (c0 : Int32) (sz : Nat) : Met l yX7_part ow_k_X7_part_v4 ({ frames := 0, cells := 0, slots := 0, locals := 0 }) (va_Pc [.int c0, .int 6, .int 1, .int 7] (fun U => U.heap.size = sz ∧ va_P (dC, dI) vwCl [] U.heap ∧ va_K (dC, dI) vwCl [] U ∧ va_D (fun _ => True) [] ∧ nv_E (va_A [] sz) U)) (va_Qi (fun r _ => (r = (((((c0 : Int32) >>> ((6 : Int32) &&& 31)) &&& 1) : Int32) <<< ((7 : Int32) &&& 31))) ∨ False) (fun (_ : Unit) t => va_P (dC, dI) vwCl [] t.heap ∧ va_K (dC, dI) vwCl [] t ∧ va_D (va_A [] sz) []) (va_A [] sz)) 0 0 (va_A [] sz) := by
  refine Met.ofW (cc := cX7_part) (maxL := 4) (ret := (some .int)) (by decide) rfl ?_
  intro p e s m args below meth c s₁ B hml hv
  obtain ⟨rfl, hsz, hP, hK, hD0, hN⟩ := hv
  have hx := B.exec
  have hb := B.bytes
  have hr := B.returns
  have hts := atoms_spec (ws := ow_k_X7_part_v4) B.pre
  have hown : s.vm.findClass RX7 = some m.cls := findClass_of_methodNamed B.named
  have hlocks := B.notSynchronized
  subst hsz
  have hD := hD0.self (sz := s.heap.size)
  generalize hAe : va_A [] s.heap.size = A at hD hN ⊢
  have hA : ∀ q : Nat, s.heap.size ≤ q → A q := fun q h => by rw [← hAe]; exact Or.inr h
  have hS : va_S A s.heap s.heap [] := va_S.rf
  have hl := lv_entry ([.int c0, .int 6, .int 1, .int 7]) (n := 4) (Nat.le_of_ble_eq_true rfl)
  rw [lg_entry_eq]
  generalize (lg_sl ([.int c0, .int 6, .int 1, .int 7]) ++ List.replicate (4 - (lg_sl ([.int c0, .int 6, .int 1, .int 7])).length) Slot.unset).toArray = ls at hl ⊢
  have hl : lv_has ls 4 [(0, .int c0), (1, .int 6), (2, .int 1), (3, .int 7)] := hl
  refine lv_iload_n hx hb dX7_part_0 rfl (lv_at hl 0 rfl) ?_
  refine lv_iload_n hx hb dX7_part_1 rfl (lv_at hl 1 rfl) ?_
  refine lv_ishr hx hb dX7_part_2 ?_
  refine lv_iconst (v := 1) hx hb dX7_part_3 (by decide) ?_
  refine lv_iload_n hx hb dX7_part_4 rfl (lv_at hl 2 rfl) ?_
  refine lv_ishl hx hb dX7_part_5 ?_
  refine lv_topi (fun z1 ez1 => ?_)
  obtain rfl : z1 = 2 := ez1.trans (by decide)
  refine lv_iconst (v := 1) hx hb dX7_part_6 (by decide) ?_
  refine lv_isub hx hb dX7_part_7 ?_
  refine lv_topi (fun z2 ez2 => ?_)
  obtain rfl : z2 = 1 := ez2.trans (by decide)
  refine lv_iand hx hb dX7_part_8 ?_
  refine lv_iload_n hx hb dX7_part_9 rfl (lv_at hl 3 rfl) ?_
  refine lv_ishl hx hb dX7_part_10 ?_
  refine W.widen (k := 0) (n := 0) (by decide +kernel) (by decide +kernel) ?_
  exact W.iret (v := (((((c0 : Int32) >>> ((6 : Int32) &&& 31)) &&& 1) : Int32) <<< ((7 : Int32) &&& 31))) hx hb hr (fun t ht hW => ⟨⟨(((((c0 : Int32) >>> ((6 : Int32) &&& 31)) &&& 1) : Int32) <<< ((7 : Int32) &&& 31)), (), rfl, Or.inl rfl, by rw [ht]; exact hP, va_K.moved hW.alike hK, hD⟩, hS.F ht⟩) hS.2.2 dX7_part_11
def ow_k_X7_part_v5 : List Cond := .code yX7_part cX7_part 4 (some .int) :: ([] ++ [])
theorem gd_k_X7_part_v5 : ∀ w ∈ ow_k_X7_part_v5, (w.onTables && w.keeps) = true ∨ ∃ ty, w = Cond.arrayClass ty := List.forall_mem_cons.mpr ⟨good_of_word rfl, List.forall_mem_append.mpr ⟨fun w h => good_of_word (List.all_eq_true.mp (by decide +kernel) w h), fun _ h => nomatch h⟩⟩
set_option maxHeartbeats 40000000 in
set_option maxRecDepth 100000 in
theorem k_X7_part_v5 (l : Launch) (hlt : l.stackTraces = false) (dC : Nat → ClassId) (dI : Nat → Nat → Nat) (c0 : Int32) (sz : Nat) : Met l yX7_part ow_k_X7_part_v5 ({ frames := 0, cells := 0, slots := 0, locals := 0 }) (va_Pc [.int c0, .int 7, .int 1, .int 6] (fun U => U.heap.size = sz ∧ va_P (dC, dI) vwCl [] U.heap ∧ va_K (dC, dI) vwCl [] U ∧ va_D (fun _ => True) [] ∧ nv_E (va_A [] sz) U)) (va_Qi (fun r _ => (r = (((((c0 : Int32) >>> ((7 : Int32) &&& 31)) &&& 1) : Int32) <<< ((6 : Int32) &&& 31))) ∨ False) (fun (_ : Unit) t => va_P (dC, dI) vwCl [] t.heap ∧ va_K (dC, dI) vwCl [] t ∧ va_D (va_A [] sz) []) (va_A [] sz)) 0 0 (va_A [] sz) := by
  refine Met.ofW (cc := cX7_part) (maxL := 4) (ret := (some .int)) (by decide) rfl ?_
  intro p e s m args below meth c s₁ B hml hv
  obtain ⟨rfl, hsz, hP, hK, hD0, hN⟩ := hv
  have hx := B.exec
  have hb := B.bytes
  have hr := B.returns
  have hts := atoms_spec (ws := ow_k_X7_part_v5) B.pre
  have hown : s.vm.findClass RX7 = some m.cls := findClass_of_methodNamed B.named
  have hlocks := B.notSynchronized
  subst hsz
  have hD := hD0.self (sz := s.heap.size)
  generalize hAe : va_A [] s.heap.size = A at hD hN ⊢
  have hA : ∀ q : Nat, s.heap.size ≤ q → A q := fun q h => by rw [← hAe]; exact Or.inr h
  have hS : va_S A s.heap s.heap [] := va_S.rf
  have hl := lv_entry ([.int c0, .int 7, .int 1, .int 6]) (n := 4) (Nat.le_of_ble_eq_true rfl)
  rw [lg_entry_eq]
  generalize (lg_sl ([.int c0, .int 7, .int 1, .int 6]) ++ List.replicate (4 - (lg_sl ([.int c0, .int 7, .int 1, .int 6])).length) Slot.unset).toArray = ls at hl ⊢
  have hl : lv_has ls 4 [(0, .int c0), (1, .int 7), (2, .int 1), (3, .int 6)] := hl
  refine lv_iload_n hx hb dX7_part_0 rfl (lv_at hl 0 rfl) ?_
  refine lv_iload_n hx hb dX7_part_1 rfl (lv_at hl 1 rfl) ?_
  refine lv_ishr hx hb dX7_part_2 ?_
  refine lv_iconst (v := 1) hx hb dX7_part_3 (by decide) ?_
  refine lv_iload_n hx hb dX7_part_4 rfl (lv_at hl 2 rfl) ?_
  refine lv_ishl hx hb dX7_part_5 ?_
  refine lv_topi (fun z1 ez1 => ?_)
  obtain rfl : z1 = 2 := ez1.trans (by decide)
  refine lv_iconst (v := 1) hx hb dX7_part_6 (by decide) ?_
  refine lv_isub hx hb dX7_part_7 ?_
  refine lv_topi (fun z2 ez2 => ?_)
  obtain rfl : z2 = 1 := ez2.trans (by decide)
  refine lv_iand hx hb dX7_part_8 ?_
  refine lv_iload_n hx hb dX7_part_9 rfl (lv_at hl 3 rfl) ?_
  refine lv_ishl hx hb dX7_part_10 ?_
  refine W.widen (k := 0) (n := 0) (by decide +kernel) (by decide +kernel) ?_
  exact W.iret (v := (((((c0 : Int32) >>> ((7 : Int32) &&& 31)) &&& 1) : Int32) <<< ((6 : Int32) &&& 31))) hx hb hr (fun t ht hW => ⟨⟨(((((c0 : Int32) >>> ((7 : Int32) &&& 31)) &&& 1) : Int32) <<< ((6 : Int32) &&& 31)), (), rfl, Or.inl rfl, by rw [ht]; exact hP, va_K.moved hW.alike hK, hD⟩, hS.F ht⟩) hS.2.2 dX7_part_11
def ow_k_X7_part_v6 : List Cond := .code yX7_part cX7_part 4 (some .int) :: ([] ++ [])
theorem gd_k_X7_part_v6 : ∀ w ∈ ow_k_X7_part_v6, (w.onTables && w.keeps) = true ∨ ∃ ty, w = Cond.arrayClass ty := List.forall_mem_cons.mpr ⟨good_of_word rfl, List.forall_mem_append.mpr ⟨fun w h => good_of_word (List.all_eq_true.mp (by decide +kernel) w h), fun _ h => nomatch h⟩⟩
set_option maxHeartbeats 40000000 in
set_option maxRecDepth 100000 in
theorem k_X7_part_v6 (l : Launch) (hlt : l.stackTraces = false) (dC : Nat → ClassId) (dI : Nat → Nat → Nat) (c0 : Int32) (sz : Nat) : Met l yX7_part ow_k_X7_part_v6 ({ frames := 0, cells := 0, slots := 0, locals := 0 }) (va_Pc [.int c0, .int 1, .int 3, .int 3] (fun U => U.heap.size = sz ∧ va_P (dC, dI) vwCl [] U.heap ∧ va_K (dC, dI) vwCl [] U ∧ va_D (fun _ => True) [] ∧ nv_E (va_A [] sz) U)) (va_Qi (fun r _ => (r = (((((c0 : Int32) >>> ((1 : Int32) &&& 31)) &&& 7) : Int32) <<< ((3 : Int32) &&& 31))) ∨ False) (fun (_ : Unit) t => va_P (dC, dI) vwCl [] t.heap ∧ va_K (dC, dI) vwCl [] t ∧ va_D (va_A [] sz) []) (va_A [] sz)) 0 0 (va_A [] sz) := by
  refine Met.ofW (cc := cX7_part) (maxL := 4) (ret := (some .int)) (by decide) rfl ?_
  intro p e s m args below meth c s₁ B hml hv
  obtain ⟨rfl, hsz, hP, hK, hD0, hN⟩ := hv
  have hx := B.exec
  have hb := B.bytes
  have hr := B.returns
  have hts := atoms_spec (ws := ow_k_X7_part_v6) B.pre
  have hown : s.vm.findClass RX7 = some m.cls := findClass_of_methodNamed B.named
  have hlocks := B.notSynchronized
  subst hsz
  have hD := hD0.self (sz := s.heap.size)
  generalize hAe : va_A [] s.heap.size = A at hD hN ⊢
  have hA : ∀ q : Nat, s.heap.size ≤ q → A q := fun q h => by rw [← hAe]; exact Or.inr h
  have hS : va_S A s.heap s.heap [] := va_S.rf
  have hl := lv_entry ([.int c0, .int 1, .int 3, .int 3]) (n := 4) (Nat.le_of_ble_eq_true rfl)
  rw [lg_entry_eq]
  generalize (lg_sl ([.int c0, .int 1, .int 3, .int 3]) ++ List.replicate (4 - (lg_sl ([.int c0, .int 1, .int 3, .int 3])).length) Slot.unset).toArray = ls at hl ⊢
  have hl : lv_has ls 4 [(0, .int c0), (1, .int 1), (2, .int 3), (3, .int 3)] := hl
  refine lv_iload_n hx hb dX7_part_0 rfl (lv_at hl 0 rfl) ?_
  refine lv_iload_n hx hb dX7_part_1 rfl (lv_at hl 1 rfl) ?_
  refine lv_ishr hx hb dX7_part_2 ?_
  refine lv_iconst (v := 1) hx hb dX7_part_3 (by decide) ?_
  refine lv_iload_n hx hb dX7_part_4 rfl (lv_at hl 2 rfl) ?_
  refine lv_ishl hx hb dX7_part_5 ?_
  refine lv_topi (fun z1 ez1 => ?_)
  obtain rfl : z1 = 8 := ez1.trans (by decide)
  refine lv_iconst (v := 1) hx hb dX7_part_6 (by decide) ?_
  refine lv_isub hx hb dX7_part_7 ?_
  refine lv_topi (fun z2 ez2 => ?_)
  obtain rfl : z2 = 7 := ez2.trans (by decide)
  refine lv_iand hx hb dX7_part_8 ?_
  refine lv_iload_n hx hb dX7_part_9 rfl (lv_at hl 3 rfl) ?_
  refine lv_ishl hx hb dX7_part_10 ?_
  refine W.widen (k := 0) (n := 0) (by decide +kernel) (by decide +kernel) ?_
  exact W.iret (v := (((((c0 : Int32) >>> ((1 : Int32) &&& 31)) &&& 7) : Int32) <<< ((3 : Int32) &&& 31))) hx hb hr (fun t ht hW => ⟨⟨(((((c0 : Int32) >>> ((1 : Int32) &&& 31)) &&& 7) : Int32) <<< ((3 : Int32) &&& 31)), (), rfl, Or.inl rfl, by rw [ht]; exact hP, va_K.moved hW.alike hK, hD⟩, hS.F ht⟩) hS.2.2 dX7_part_11
def ow_k_X7_part_v7 : List Cond := .code yX7_part cX7_part 4 (some .int) :: ([] ++ [])
theorem gd_k_X7_part_v7 : ∀ w ∈ ow_k_X7_part_v7, (w.onTables && w.keeps) = true ∨ ∃ ty, w = Cond.arrayClass ty := List.forall_mem_cons.mpr ⟨good_of_word rfl, List.forall_mem_append.mpr ⟨fun w h => good_of_word (List.all_eq_true.mp (by decide +kernel) w h), fun _ h => nomatch h⟩⟩
set_option maxHeartbeats 40000000 in
set_option maxRecDepth 100000 in
theorem k_X7_part_v7 (l : Launch) (hlt : l.stackTraces = false) (dC : Nat → ClassId) (dI : Nat → Nat → Nat) (c0 : Int32) (sz : Nat) : Met l yX7_part ow_k_X7_part_v7 ({ frames := 0, cells := 0, slots := 0, locals := 0 }) (va_Pc [.int c0, .int 5, .int 1, .int 2] (fun U => U.heap.size = sz ∧ va_P (dC, dI) vwCl [] U.heap ∧ va_K (dC, dI) vwCl [] U ∧ va_D (fun _ => True) [] ∧ nv_E (va_A [] sz) U)) (va_Qi (fun r _ => (r = (((((c0 : Int32) >>> ((5 : Int32) &&& 31)) &&& 1) : Int32) <<< ((2 : Int32) &&& 31))) ∨ False) (fun (_ : Unit) t => va_P (dC, dI) vwCl [] t.heap ∧ va_K (dC, dI) vwCl [] t ∧ va_D (va_A [] sz) []) (va_A [] sz)) 0 0 (va_A [] sz) := by
  refine Met.ofW (cc := cX7_part) (maxL := 4) (ret := (some .int)) (by decide) rfl ?_
  intro p e s m args below meth c s₁ B hml hv
  obtain ⟨rfl, hsz, hP, hK, hD0, hN⟩ := hv
  have hx := B.exec
  have hb := B.bytes
  have hr := B.returns
  have hts := atoms_spec (ws := ow_k_X7_part_v7) B.pre
  have hown : s.vm.findClass RX7 = some m.cls := findClass_of_methodNamed B.named
  have hlocks := B.notSynchronized
  subst hsz
  have hD := hD0.self (sz := s.heap.size)
  generalize hAe : va_A [] s.heap.size = A at hD hN ⊢
  have hA : ∀ q : Nat, s.heap.size ≤ q → A q := fun q h => by rw [← hAe]; exact Or.inr h
  have hS : va_S A s.heap s.heap [] := va_S.rf
  have hl := lv_entry ([.int c0, .int 5, .int 1, .int 2]) (n := 4) (Nat.le_of_ble_eq_true rfl)
  rw [lg_entry_eq]
  generalize (lg_sl ([.int c0, .int 5, .int 1, .int 2]) ++ List.replicate (4 - (lg_sl ([.int c0, .int 5, .int 1, .int 2])).length) Slot.unset).toArray = ls at hl ⊢
  have hl : lv_has ls 4 [(0, .int c0), (1, .int 5), (2, .int 1), (3, .int 2)] := hl
  refine lv_iload_n hx hb dX7_part_0 rfl (lv_at hl 0 rfl) ?_
  refine lv_iload_n hx hb dX7_part_1 rfl (lv_at hl 1 rfl) ?_
  refine lv_ishr hx hb dX7_part_2 ?_
  refine lv_iconst (v := 1) hx hb dX7_part_3 (by decide) ?_
  refine lv_iload_n hx hb dX7_part_4 rfl (lv_at hl 2 rfl) ?_
  refine lv_ishl hx hb dX7_part_5 ?_
  refine lv_topi (fun z1 ez1 => ?_)
  obtain rfl : z1 = 2 := ez1.trans (by decide)
  refine lv_iconst (v := 1) hx hb dX7_part_6 (by decide) ?_
  refine lv_isub hx hb dX7_part_7 ?_
  refine lv_topi (fun z2 ez2 => ?_)
  obtain rfl : z2 = 1 := ez2.trans (by decide)
  refine lv_iand hx hb dX7_part_8 ?_
  refine lv_iload_n hx hb dX7_part_9 rfl (lv_at hl 3 rfl) ?_
  refine lv_ishl hx hb dX7_part_10 ?_
  refine W.widen (k := 0) (n := 0) (by decide +kernel) (by decide +kernel) ?_
  exact W.iret (v := (((((c0 : Int32) >>> ((5 : Int32) &&& 31)) &&& 1) : Int32) <<< ((2 : Int32) &&& 31))) hx hb hr (fun t ht hW => ⟨⟨(((((c0 : Int32) >>> ((5 : Int32) &&& 31)) &&& 1) : Int32) <<< ((2 : Int32) &&& 31)), (), rfl, Or.inl rfl, by rw [ht]; exact hP, va_K.moved hW.alike hK, hD⟩, hS.F ht⟩) hS.2.2 dX7_part_11
def ow_k_X7_part_v8 : List Cond := .code yX7_part cX7_part 4 (some .int) :: ([] ++ [])
theorem gd_k_X7_part_v8 : ∀ w ∈ ow_k_X7_part_v8, (w.onTables && w.keeps) = true ∨ ∃ ty, w = Cond.arrayClass ty := List.forall_mem_cons.mpr ⟨good_of_word rfl, List.forall_mem_append.mpr ⟨fun w h => good_of_word (List.all_eq_true.mp (by decide +kernel) w h), fun _ h => nomatch h⟩⟩
set_option maxHeartbeats 40000000 in
set_option maxRecDepth 100000 in
theorem k_X7_part_v8 (l : Launch) (hlt : l.stackTraces = false) (dC : Nat → ClassId) (dI : Nat → Nat → Nat) (c0 : Int32) (sz : Nat) : Met l yX7_part ow_k_X7_part_v8 ({ frames := 0, cells := 0, slots := 0, locals := 0 }) (va_Pc [.int c0, .int 8, .int 1, .int 12] (fun U => U.heap.size = sz ∧ va_P (dC, dI) vwCl [] U.heap ∧ va_K (dC, dI) vwCl [] U ∧ va_D (fun _ => True) [] ∧ nv_E (va_A [] sz) U)) (va_Qi (fun r _ => (r = (((((c0 : Int32) >>> ((8 : Int32) &&& 31)) &&& 1) : Int32) <<< ((12 : Int32) &&& 31))) ∨ False) (fun (_ : Unit) t => va_P (dC, dI) vwCl [] t.heap ∧ va_K (dC, dI) vwCl [] t ∧ va_D (va_A [] sz) []) (va_A [] sz)) 0 0 (va_A [] sz) := by
  refine Met.ofW (cc := cX7_part) (maxL := 4) (ret := (some .int)) (by decide) rfl ?_
  intro p e s m args below meth c s₁ B hml hv
  obtain ⟨rfl, hsz, hP, hK, hD0, hN⟩ := hv
  have hx := B.exec
  have hb := B.bytes
  have hr := B.returns
  have hts := atoms_spec (ws := ow_k_X7_part_v8) B.pre
  have hown : s.vm.findClass RX7 = some m.cls := findClass_of_methodNamed B.named
  have hlocks := B.notSynchronized
  subst hsz
  have hD := hD0.self (sz := s.heap.size)
  generalize hAe : va_A [] s.heap.size = A at hD hN ⊢
  have hA : ∀ q : Nat, s.heap.size ≤ q → A q := fun q h => by rw [← hAe]; exact Or.inr h
  have hS : va_S A s.heap s.heap [] := va_S.rf
  have hl := lv_entry ([.int c0, .int 8, .int 1, .int 12]) (n := 4) (Nat.le_of_ble_eq_true rfl)
  rw [lg_entry_eq]
  generalize (lg_sl ([.int c0, .int 8, .int 1, .int 12]) ++ List.replicate (4 - (lg_sl ([.int c0, .int 8, .int 1, .int 12])).length) Slot.unset).toArray = ls at hl ⊢
  have hl : lv_has ls 4 [(0, .int c0), (1, .int 8), (2, .int 1), (3, .int 12)] := hl
  refine lv_iload_n hx hb dX7_part_0 rfl (lv_at hl 0 rfl) ?_
  refine lv_iload_n hx hb dX7_part_1 rfl (lv_at hl 1 rfl) ?_
  refine lv_ishr hx hb dX7_part_2 ?_
  refine lv_iconst (v := 1) hx hb dX7_part_3 (by decide) ?_
  refine lv_iload_n hx hb dX7_part_4 rfl (lv_at hl 2 rfl) ?_
  refine lv_ishl hx hb dX7_part_5 ?_
  refine lv_topi (fun z1 ez1 => ?_)
  obtain rfl : z1 = 2 := ez1.trans (by decide)
  refine lv_iconst (v := 1) hx hb dX7_part_6 (by decide) ?_
  refine lv_isub hx hb dX7_part_7 ?_
  refine lv_topi (fun z2 ez2 => ?_)
  obtain rfl : z2 = 1 := ez2.trans (by decide)
  refine lv_iand hx hb dX7_part_8 ?_
  refine lv_iload_n hx hb dX7_part_9 rfl (lv_at hl 3 rfl) ?_
  refine lv_ishl hx hb dX7_part_10 ?_
  refine W.widen (k := 0) (n := 0) (by decide +kernel) (by decide +kernel) ?_
  exact W.iret (v := (((((c0 : Int32) >>> ((8 : Int32) &&& 31)) &&& 1) : Int32) <<< ((12 : Int32) &&& 31))) hx hb hr (fun t ht hW => ⟨⟨(((((c0 : Int32) >>> ((8 : Int32) &&& 31)) &&& 1) : Int32) <<< ((12 : Int32) &&& 31)), (), rfl, Or.inl rfl, by rw [ht]; exact hP, va_K.moved hW.alike hK, hD⟩, hS.F ht⟩) hS.2.2 dX7_part_11
def ow_k_X7_part_v9 : List Cond := .code yX7_part cX7_part 4 (some .int) :: ([] ++ [])
theorem gd_k_X7_part_v9 : ∀ w ∈ ow_k_X7_part_v9, (w.onTables && w.keeps) = true ∨ ∃ ty, w = Cond.arrayClass ty := List.forall_mem_cons.mpr ⟨good_of_word rfl, List.forall_mem_append.mpr ⟨fun w h => good_of_word (List.all_eq_true.mp (by decide +kernel) w h), fun _ h => nomatch h⟩⟩
set_option maxHeartbeats 40000000 in
set_option maxRecDepth 100000 in
theorem k_X7_part_v9 (l : Launch) (hlt : l.stackTraces = false) (dC : Nat → ClassId) (dI : Nat → Nat → Nat) (c0 : Int32) (sz : Nat) : Met l yX7_part ow_k_X7_part_v9 ({ frames := 0, cells := 0, slots := 0, locals := 0 }) (va_Pc [.int c0, .int 3, .int 2, .int 10] (fun U => U.heap.size = sz ∧ va_P (dC, dI) vwCl [] U.heap ∧ va_K (dC, dI) vwCl [] U ∧ va_D (fun _ => True) [] ∧ nv_E (va_A [] sz) U)) (va_Qi (fun r _ => (r = (((((c0 : Int32) >>> ((3 : Int32) &&& 31)) &&& 3) : Int32) <<< ((10 : Int32) &&& 31))) ∨ False) (fun (_ : Unit) t => va_P (dC, dI) vwCl [] t.heap ∧ va_K (dC, dI) vwCl [] t ∧ va_D (va_A [] sz) []) (va_A [] sz)) 0 0 (va_A [] sz) := by
  refine Met.ofW (cc := cX7_part) (maxL := 4) (ret := (some .int)) (by decide) rfl ?_
  intro p e s m args below meth c s₁ B hml hv
  obtain ⟨rfl, hsz, hP, hK, hD0, hN⟩ := hv
  have hx := B.exec
  have hb := B.bytes
  have hr := B.returns
  have hts := atoms_spec (ws := ow_k_X7_part_v9) B.pre
  have hown : s.vm.findClass RX7 = some m.cls := findClass_of_methodNamed B.named
  have hlocks := B.notSynchronized
  subst hsz
  have hD := hD0.self (sz := s.heap.size)
  generalize hAe : va_A [] s.heap.size = A at hD hN ⊢
  have hA : ∀ q : Nat, s.heap.size ≤ q → A q := fun q h => by rw [← hAe]; exact Or.inr h
  have hS : va_S A s.heap s.heap [] := va_S.rf
  have hl := lv_entry ([.int c0, .int 3, .int 2, .int 10]) (n := 4) (Nat.le_of_ble_eq_true rfl)
  rw [lg_entry_eq]
  generalize (lg_sl ([.int c0, .int 3, .int 2, .int 10]) ++ List.replicate (4 - (lg_sl ([.int c0, .int 3, .int 2, .int 10])).length) Slot.unset).toArray = ls at hl ⊢
  have hl : lv_has ls 4 [(0, .int c0), (1, .int 3), (2, .int 2), (3, .int 10)] := hl
  refine lv_iload_n hx hb dX7_part_0 rfl (lv_at hl 0 rfl) ?_
  refine lv_iload_n hx hb dX7_part_1 rfl (lv_at hl 1 rfl) ?_
  refine lv_ishr hx hb dX7_part_2 ?_
  refine lv_iconst (v := 1) hx hb dX7_part_3 (by decide) ?_
  refine lv_iload_n hx hb dX7_part_4 rfl (lv_at hl 2 rfl) ?_
  refine lv_ishl hx hb dX7_part_5 ?_
  refine lv_topi (fun z1 ez1 => ?_)
  obtain rfl : z1 = 4 := ez1.trans (by decide)
  refine lv_iconst (v := 1) hx hb dX7_part_6 (by decide) ?_
  refine lv_isub hx hb dX7_part_7 ?_
  refine lv_topi (fun z2 ez2 => ?_)
  obtain rfl : z2 = 3 := ez2.trans (by decide)
  refine lv_iand hx hb dX7_part_8 ?_
  refine lv_iload_n hx hb dX7_part_9 rfl (lv_at hl 3 rfl) ?_
  refine lv_ishl hx hb dX7_part_10 ?_
  refine W.widen (k := 0) (n := 0) (by decide +kernel) (by decide +kernel) ?_
  exact W.iret (v := (((((c0 : Int32) >>> ((3 : Int32) &&& 31)) &&& 3) : Int32) <<< ((10 : Int32) &&& 31))) hx hb hr (fun t ht hW => ⟨⟨(((((c0 : Int32) >>> ((3 : Int32) &&& 31)) &&& 3) : Int32) <<< ((10 : Int32) &&& 31)), (), rfl, Or.inl rfl, by rw [ht]; exact hP, va_K.moved hW.alike hK, hD⟩, hS.F ht⟩) hS.2.2 dX7_part_11
def ow_k_X7_part_v10 : List Cond := .code yX7_part cX7_part 4 (some .int) :: ([] ++ [])
theorem gd_k_X7_part_v10 : ∀ w ∈ ow_k_X7_part_v10, (w.onTables && w.keeps) = true ∨ ∃ ty, w = Cond.arrayClass ty := List.forall_mem_cons.mpr ⟨good_of_word rfl, List.forall_mem_append.mpr ⟨fun w h => good_of_word (List.all_eq_true.mp (by decide +kernel) w h), fun _ h => nomatch h⟩⟩
set_option maxHeartbeats 40000000 in
set_option maxRecDepth 100000 in
theorem k_X7_part_v10 (l : Launch) (hlt : l.stackTraces = false) (dC : Nat → ClassId) (dI : Nat → Nat → Nat) (c0 : Int32) (sz : Nat) : Met l yX7_part ow_k_X7_part_v10 ({ frames := 0, cells := 0, slots := 0, locals := 0 }) (va_Pc [.int c0, .int 6, .int 2, .int 5] (fun U => U.heap.size = sz ∧ va_P (dC, dI) vwCl [] U.heap ∧ va_K (dC, dI) vwCl [] U ∧ va_D (fun _ => True) [] ∧ nv_E (va_A [] sz) U)) (va_Qi (fun r _ => (r = (((((c0 : Int32) >>> ((6 : Int32) &&& 31)) &&& 3) : Int32) <<< ((5 : Int32) &&& 31))) ∨ False) (fun (_ : Unit) t => va_P (dC, dI) vwCl [] t.heap ∧ va_K (dC, dI) vwCl [] t ∧ va_D (va_A [] sz) []) (va_A [] sz)) 0 0 (va_A [] sz) := by
  refine Met.ofW (cc := cX7_part) (maxL := 4) (ret := (some .int)) (by decide) rfl ?_
  intro p e s m args below meth c s₁ B hml hv
  obtain ⟨rfl, hsz, hP, hK, hD0, hN⟩ := hv
  have hx := B.exec
  have hb := B.bytes
  have hr := B.returns
  have hts := atoms_spec (ws := ow_k_X7_part_v10) B.pre
  have hown : s.vm.findClass RX7 = some m.cls := findClass_of_methodNamed B.named
  have hlocks := B.notSynchronized
  subst hsz
  have hD := hD0.self (sz := s.heap.size)
  generalize hAe : va_A [] s.heap.size = A at hD hN ⊢
  have hA : ∀ q : Nat, s.heap.size ≤ q → A q := fun q h => by rw [← hAe]; exact Or.inr h
  have hS : va_S A s.heap s.heap [] := va_S.rf
  have hl := lv_entry ([.int c0, .int 6, .int 2, .int 5]) (n := 4) (Nat.le_of_ble_eq_true rfl)
  rw [lg_entry_eq]
  generalize (lg_sl ([.int c0, .int 6, .int 2, .int 5]) ++ List.replicate (4 - (lg_sl ([.int c0, .int 6, .int 2, .int 5])).length) Slot.unset).toArray = ls at hl ⊢
  have hl : lv_has ls 4 [(0, .int c0), (1, .int 6), (2, .int 2), (3, .int 5)] := hl
  refine lv_iload_n hx hb dX7_part_0 rfl (lv_at hl 0 rfl) ?_
  refine lv_iload_n hx hb dX7_part_1 rfl (lv_at hl 1 rfl) ?_
  refine lv_ishr hx hb dX7_part_2 ?_
  refine lv_iconst (v := 1) hx hb dX7_part_3 (by decide) ?_
  refine lv_iload_n hx hb dX7_part_4 rfl (lv_at hl 2 rfl) ?_
  refine lv_ishl hx hb dX7_part_5 ?_
  refine lv_topi (fun z1 ez1 => ?_)
  obtain rfl : z1 = 4 := ez1.trans (by decide)
  refine lv_iconst (v := 1) hx hb dX7_part_6 (by decide) ?_
  refine lv_isub hx hb dX7_part_7 ?_
  refine lv_topi (fun z2 ez2 => ?_)
  obtain rfl : z2 = 3 := ez2.trans (by decide)
  refine lv_iand hx hb dX7_part_8 ?_
  refine lv_iload_n hx hb dX7_part_9 rfl (lv_at hl 3 rfl) ?_
  refine lv_ishl hx hb dX7_part_10 ?_
  refine W.widen (k := 0) (n := 0) (by decide +kernel) (by decide +kernel) ?_
  exact W.iret (v := (((((c0 : Int32) >>> ((6 : Int32) &&& 31)) &&& 3) : Int32) <<< ((5 : Int32) &&& 31))) hx hb hr (fun t ht hW => ⟨⟨(((((c0 : Int32) >>> ((6 : Int32) &&& 31)) &&& 3) : Int32) <<< ((5 : Int32) &&& 31)), (), rfl, Or.inl rfl, by rw [ht]; exact hP, va_K.moved hW.alike hK, hD⟩, hS.F ht⟩) hS.2.2 dX7_part_11
def ow_k_X7_part_v11 : List Cond := .code yX7_part cX7_part 4 (some .int) :: ([] ++ [])
theorem gd_k_X7_part_v11 : ∀ w ∈ ow_k_X7_part_v11, (w.onTables && w.keeps) = true ∨ ∃ ty, w = Cond.arrayClass ty := List.forall_mem_cons.mpr ⟨good_of_word rfl, List.forall_mem_append.mpr ⟨fun w h => good_of_word (List.all_eq_true.mp (by decide +kernel) w h), fun _ h => nomatch h⟩⟩
set_option maxHeartbeats 40000000 in
set_option maxRecDepth 100000 in
theorem k_X7_part_v11 (l : Launch) (hlt : l.stackTraces = false) (dC : Nat → ClassId) (dI : Nat → Nat → Nat) (c0 : Int32) (sz : Nat) : Met l yX7_part ow_k_X7_part_v11 ({ frames := 0, cells := 0, slots := 0, locals := 0 }) (va_Pc [.int c0, .int 1, .int 2, .int 3] (fun U => U.heap.size = sz ∧ va_P (dC, dI) vwCl [] U.heap ∧ va_K (dC, dI) vwCl [] U ∧ va_D (fun _ => True) [] ∧ nv_E (va_A [] sz) U)) (va_Qi (fun r _ => (r = (((((c0 : Int32) >>> ((1 : Int32) &&& 31)) &&& 3) : Int32) <<< ((3 : Int32) &&& 31))) ∨ False) (fun (_ : Unit) t => va_P (dC, dI) vwCl [] t.heap ∧ va_K (dC, dI) vwCl [] t ∧ va_D (va_A [] sz) []) (va_A [] sz)) 0 0 (va_A [] sz) := by
  refine Met.ofW (cc := cX7_part) (maxL := 4) (ret := (some .int)) (by decide) rfl ?_
  intro p e s m args below meth c s₁ B hml hv
  obtain ⟨rfl, hsz, hP, hK, hD0, hN⟩ := hv
  have hx := B.exec
  have hb := B.bytes
  have hr := B.returns
  have hts := atoms_spec (ws := ow_k_X7_part_v11) B.pre
  have hown : s.vm.findClass RX7 = some m.cls := findClass_of_methodNamed B.named
  have hlocks := B.notSynchronized
  subst hsz
  have hD := hD0.self (sz := s.heap.size)
  generalize hAe : va_A [] s.heap.size = A at hD hN ⊢
  have hA : ∀ q : Nat, s.heap.size ≤ q → A q := fun q h => by rw [← hAe]; exact Or.inr h
  have hS : va_S A s.heap s.heap [] := va_S.rf
  have hl := lv_entry ([.int c0, .int 1, .int 2, .int 3]) (n := 4) (Nat.le_of_ble_eq_true rfl)
  rw [lg_entry_eq]
  generalize (lg_sl ([.int c0, .int 1, .int 2, .int 3]) ++ List.replicate (4 - (lg_sl ([.int c0, .int 1, .int 2, .int 3])).length) Slot.unset).toArray = ls at hl ⊢
  have hl : lv_has ls 4 [(0, .int c0), (1, .int 1), (2, .int 2), (3, .int 3)] := hl
  refine lv_iload_n hx hb dX7_part_0 rfl (lv_at hl 0 rfl) ?_
  refine lv_iload_n hx hb dX7_part_1 rfl (lv_at hl 1 rfl) ?_
  refine lv_ishr hx hb dX7_part_2 ?_
  refine lv_iconst (v := 1) hx hb dX7_part_3 (by decide) ?_
  refine lv_iload_n hx hb dX7_part_4 rfl (lv_at hl 2 rfl) ?_
  refine lv_ishl hx hb dX7_part_5 ?_
  refine lv_topi (fun z1 ez1 => ?_)
  obtain rfl : z1 = 4 := ez1.trans (by decide)
  refine lv_iconst (v := 1) hx hb dX7_part_6 (by decide) ?_
  refine lv_isub hx hb dX7_part_7 ?_
  refine lv_topi (fun z2 ez2 => ?_)
  obtain rfl : z2 = 3 := ez2.trans (by decide)
  refine lv_iand hx hb dX7_part_8 ?_
  refine lv_iload_n hx hb dX7_part_9 rfl (lv_at hl 3 rfl) ?_
  refine lv_ishl hx hb dX7_part_10 ?_
  refine W.widen (k := 0) (n := 0) (by decide +kernel) (by decide +kernel) ?_
  exact W.iret (v := (((((c0 : Int32) >>> ((1 : Int32) &&& 31)) &&& 3) : Int32) <<< ((3 : Int32) &&& 31))) hx hb hr (fun t ht hW => ⟨⟨(((((c0 : Int32) >>> ((1 : Int32) &&& 31)) &&& 3) : Int32) <<< ((3 : Int32) &&& 31)), (), rfl, Or.inl rfl, by rw [ht]; exact hP, va_K.moved hW.alike hK, hD⟩, hS.F ht⟩) hS.2.2 dX7_part_11
def ow_k_X7_part_v12 : List Cond := .code yX7_part cX7_part 4 (some .int) :: ([] ++ [])
theorem gd_k_X7_part_v12 : ∀ w ∈ ow_k_X7_part_v12, (w.onTables && w.keeps) = true ∨ ∃ ty, w = Cond.arrayClass ty := List.forall_mem_cons.mpr ⟨good_of_word rfl, List.forall_mem_append.mpr ⟨fun w h => good_of_word (List.all_eq_true.mp (by decide +kernel) w h), fun _ h => nomatch h⟩⟩
set_option maxHeartbeats 40000000 in
set_option maxRecDepth 100000 in
theorem k_X7_part_v12 (l : Launch) (hlt : l.stackTraces = false) (dC : Nat → ClassId) (dI : Nat → Nat → Nat) (c0 : Int32) (sz : Nat) : Met l yX7_part ow_k_X7_part_v12 ({ frames := 0, cells := 0, slots := 0, locals := 0 }) (va_Pc [.int c0, .int 5, .int 1, .int 12] (fun U => U.heap.size = sz ∧ va_P (dC, dI) vwCl [] U.heap ∧ va_K (dC, dI) vwCl [] U ∧ va_D (fun _ => True) [] ∧ nv_E (va_A [] sz) U)) (va_Qi (fun r _ => (r = (((((c0 : Int32) >>> ((5 : Int32) &&& 31)) &&& 1) : Int32) <<< ((12 : Int32) &&& 31))) ∨ False) (fun (_ : Unit) t => va_P (dC, dI) vwCl [] t.heap ∧ va_K (dC, dI) vwCl [] t ∧ va_D (va_A [] sz) []) (va_A [] sz)) 0 0 (va_A [] sz) := by
  refine Met.ofW (cc := cX7_part) (maxL := 4) (ret := (some .int)) (by decide) rfl ?_
  intro p e s m args below meth c s₁ B hml hv
  obtain ⟨rfl, hsz, hP, hK, hD0, hN⟩ := hv
  have hx := B.exec
  have hb := B.bytes
  have hr := B.returns
  have hts := atoms_spec (ws := ow_k_X7_part_v12) B.pre
  have hown : s.vm.findClass RX7 = some m.cls := findClass_of_methodNamed B.named
  have hlocks := B.notSynchronized
  subst hsz
  have hD := hD0.self (sz := s.heap.size)
  generalize hAe : va_A [] s.heap.size = A at hD hN ⊢
  have hA : ∀ q : Nat, s.heap.size ≤ q → A q := fun q h => by rw [← hAe]; exact Or.inr h
  have hS : va_S A s.heap s.heap [] := va_S.rf
  have hl := lv_entry ([.int c0, .int 5, .int 1, .int 12]) (n := 4) (Nat.le_of_ble_eq_true rfl)
  rw [lg_entry_eq]
  generalize (lg_sl ([.int c0, .int 5, .int 1, .int 12]) ++ List.replicate (4 - (lg_sl ([.int c0, .int 5, .int 1, .int 12])).length) Slot.unset).toArray = ls at hl ⊢
  have hl : lv_has ls 4 [(0, .int c0), (1, .int 5), (2, .int 1), (3, .int 12)] := hl
  refine lv_iload_n hx hb dX7_part_0 rfl (lv_at hl 0 rfl) ?_
  refine lv_iload_n hx hb dX7_part_1 rfl (lv_at hl 1 rfl) ?_
  refine lv_ishr hx hb dX7_part_2 ?_
  refine lv_iconst (v := 1) hx hb dX7_part_3 (by decide) ?_
  refine lv_iload_n hx hb dX7_part_4 rfl (lv_at hl 2 rfl) ?_
  refine lv_ishl hx hb dX7_part_5 ?_
  refine lv_topi (fun z1 ez1 => ?_)
  obtain rfl : z1 = 2 := ez1.trans (by decide)
  refine lv_iconst (v := 1) hx hb dX7_part_6 (by decide) ?_
  refine lv_isub hx hb dX7_part_7 ?_
  refine lv_topi (fun z2 ez2 => ?_)
  obtain rfl : z2 = 1 := ez2.trans (by decide)
  refine lv_iand hx hb dX7_part_8 ?_
  refine lv_iload_n hx hb dX7_part_9 rfl (lv_at hl 3 rfl) ?_
  refine lv_ishl hx hb dX7_part_10 ?_
  refine W.widen (k := 0) (n := 0) (by decide +kernel) (by decide +kernel) ?_
  exact W.iret (v := (((((c0 : Int32) >>> ((5 : Int32) &&& 31)) &&& 1) : Int32) <<< ((12 : Int32) &&& 31))) hx hb hr (fun t ht hW => ⟨⟨(((((c0 : Int32) >>> ((5 : Int32) &&& 31)) &&& 1) : Int32) <<< ((12 : Int32) &&& 31)), (), rfl, Or.inl rfl, by rw [ht]; exact hP, va_K.moved hW.alike hK, hD⟩, hS.F ht⟩) hS.2.2 dX7_part_11
def ow_k_X7_part_v13 : List Cond := .code yX7_part cX7_part 4 (some .int) :: ([] ++ [])
theorem gd_k_X7_part_v13 : ∀ w ∈ ow_k_X7_part_v13, (w.onTables && w.keeps) = true ∨ ∃ ty, w = Cond.arrayClass ty := List.forall_mem_cons.mpr ⟨good_of_word rfl, List.forall_mem_append.mpr ⟨fun w h => good_of_word (List.all_eq_true.mp (by decide +kernel) w h), fun _ h => nomatch h⟩⟩
set_option maxHeartbeats 40000000 in
set_option maxRecDepth 100000 in
theorem k_X7_part_v13 (l : Launch) (hlt : l.stackTraces = false) (dC : Nat → ClassId) (dI : Nat → Nat → Nat) (c0 : Int32) (sz : Nat) : Met l yX7_part ow_k_X7_part_v13 ({ frames := 0, cells := 0, slots := 0, locals := 0 }) (va_Pc [.int c0, .int 0, .int 5, .int 2] (fun U => U.heap.size = sz ∧ va_P (dC, dI) vwCl [] U.heap ∧ va_K (dC, dI) vwCl [] U ∧ va_D (fun _ => True) [] ∧ nv_E (va_A [] sz) U)) (va_Qi (fun r _ => (r = (((((c0 : Int32) >>> ((0 : Int32) &&& 31)) &&& 31) : Int32) <<< ((2 : Int32) &&& 31))) ∨ False) (fun (_ : Unit) t => va_P (dC, dI) vwCl [] t.heap ∧ va_K (dC, dI) vwCl [] t ∧ va_D (va_A [] sz) []) (va_A [] sz)) 0 0 (va_A [] sz) := by
  refine Met.ofW (cc := cX7_part) (maxL := 4) (ret := (some .int)) (by decide) rfl ?_
  intro p e s m args below meth c s₁ B hml hv
  obtain ⟨rfl, hsz, hP, hK, hD0, hN⟩ := hv
  have hx := B.exec
  have hb := B.bytes
  have hr := B.returns
  have hts := atoms_spec (ws := ow_k_X7_part_v13) B.pre
  have hown : s.vm.findClass RX7 = some m.cls := findClass_of_methodNamed B.named
  have hlocks := B.notSynchronized
  subst hsz
  have hD := hD0.self (sz := s.heap.size)
  generalize hAe : va_A [] s.heap.size = A at hD hN ⊢
  have hA : ∀ q : Nat, s.heap.size ≤ q → A q := fun q h => by rw [← hAe]; exact Or.inr h
  have hS : va_S A s.heap s.heap [] := va_S.rf
  have hl := lv_entry ([.int c0, .int 0, .int 5, .int 2]) (n := 4) (Nat.le_of_ble_eq_true rfl)
  rw [lg_entry_eq]
  generalize (lg_sl ([.int c0, .int 0, .int 5, .int 2]) ++ List.replicate (4 - (lg_sl ([.int c0, .int 0, .int 5, .int 2])).length) Slot.unset).toArray = ls at hl ⊢
  have hl : lv_has ls 4 [(0, .int c0), (1, .int 0), (2, .int 5), (3, .int 2)] := hl
  refine lv_iload_n hx hb dX7_part_0 rfl (lv_at hl 0 rfl) ?_
  refine lv_iload_n hx hb dX7_part_1 rfl (lv_at hl 1 rfl) ?_
  refine lv_ishr hx hb dX7_part_2 ?_
  refine lv_iconst (v := 1) hx hb dX7_part_3 (by decide) ?_
  refine lv_iload_n hx hb dX7_part_4 rfl (lv_at hl 2 rfl) ?_
  refine lv_ishl hx hb dX7_part_5 ?_
  refine lv_topi (fun z1 ez1 => ?_)
  obtain rfl : z1 = 32 := ez1.trans (by decide)
  refine lv_iconst (v := 1) hx hb dX7_part_6 (by decide) ?_
  refine lv_isub hx hb dX7_part_7 ?_
  refine lv_topi (fun z2 ez2 => ?_)
  obtain rfl : z2 = 31 := ez2.trans (by decide)
  refine lv_iand hx hb dX7_part_8 ?_
  refine lv_iload_n hx hb dX7_part_9 rfl (lv_at hl 3 rfl) ?_
  refine lv_ishl hx hb dX7_part_10 ?_
  refine W.widen (k := 0) (n := 0) (by decide +kernel) (by decide +kernel) ?_
  exact W.iret (v := (((((c0 : Int32) >>> ((0 : Int32) &&& 31)) &&& 31) : Int32) <<< ((2 : Int32) &&& 31))) hx hb hr (fun t ht hW => ⟨⟨(((((c0 : Int32) >>> ((0 : Int32) &&& 31)) &&& 31) : Int32) <<< ((2 : Int32) &&& 31)), (), rfl, Or.inl rfl, by rw [ht]; exact hP, va_K.moved hW.alike hK, hD⟩, hS.F ht⟩) hS.2.2 dX7_part_11
def ow_k_X7_part_v14 : List Cond := .code yX7_part cX7_part 4 (some .int) :: ([] ++ [])
theorem gd_k_X7_part_v14 : ∀ w ∈ ow_k_X7_part_v14, (w.onTables && w.keeps) = true ∨ ∃ ty, w = Cond.arrayClass ty := List.forall_mem_cons.mpr ⟨good_of_word rfl, List.forall_mem_append.mpr ⟨fun w h => good_of_word (List.all_eq_true.mp (by decide +kernel) w h), fun _ h => nomatch h⟩⟩
set_option maxHeartbeats 40000000 in
set_option maxRecDepth 100000 in
theorem k_X7_part_v14 (l : Launch) (hlt : l.stackTraces = false) (dC : Nat → ClassId) (dI : Nat → Nat → Nat) (c0 : Int32) (sz : Nat) : Met l yX7_part ow_k_X7_part_v14 ({ frames := 0, cells := 0, slots := 0, locals := 0 }) (va_Pc [.int c0, .int 2, .int 3, .int 4] (fun U => U.heap.size = sz ∧ va_P (dC, dI) vwCl [] U.heap ∧ va_K (dC, dI) vwCl [] U ∧ va_D (fun _ => True) [] ∧ nv_E (va_A [] sz) U)) (va_Qi (fun r _ => (r = (((((c0 : Int32) >>> ((2 : Int32) &&& 31)) &&& 7) : Int32) <<< ((4 : Int32) &&& 31))) ∨ False) (fun (_ : Unit) t => va_P (dC, dI) vwCl [] t.heap ∧ va_K (dC, dI) vwCl [] t ∧ va_D (va_A [] sz) []) (va_A [] sz)) 0 0 (va_A [] sz) := by
  refine Met.ofW (cc := cX7_part) (maxL := 4) (ret := (some .int)) (by decide) rfl ?_
  intro p e s m args below meth c s₁ B hml hv
  obtain ⟨rfl, hsz, hP, hK, hD0, hN⟩ := hv
  have hx := B.exec
  have hb := B.bytes
  have hr := B.returns
  have hts := atoms_spec (ws := ow_k_X7_part_v14) B.pre
  have hown : s.vm.findClass RX7 = some m.cls := findClass_of_methodNamed B.named
  have hlocks := B.notSynchronized
  subst hsz
  have hD := hD0.self (sz := s.heap.size)
  generalize hAe : va_A [] s.heap.size = A at hD hN ⊢
  have hA : ∀ q : Nat, s.heap.size ≤ q → A q := fun q h => by rw [← hAe]; exact Or.inr h
  have hS : va_S A s.heap s.heap [] := va_S.rf
  have hl := lv_entry ([.int c0, .int 2, .int 3, .int 4]) (n := 4) (Nat.le_of_ble_eq_true rfl)
  rw [lg_entry_eq]
  generalize (lg_sl ([.int c0, .int 2, .int 3, .int 4]) ++ List.replicate (4 - (lg_sl ([.int c0, .int 2, .int 3, .int 4])).length) Slot.unset).toArray = ls at hl ⊢
  have hl : lv_has ls 4 [(0, .int c0), (1, .int 2), (2, .int 3), (3, .int 4)] := hl
  refine lv_iload_n hx hb dX7_part_0 rfl (lv_at hl 0 rfl) ?_
  refine lv_iload_n hx hb dX7_part_1 rfl (lv_at hl 1 rfl) ?_
  refine lv_ishr hx hb dX7_part_2 ?_
  refine lv_iconst (v := 1) hx hb dX7_part_3 (by decide) ?_
  refine lv_iload_n hx hb dX7_part_4 rfl (lv_at hl 2 rfl) ?_
  refine lv_ishl hx hb dX7_part_5 ?_
  refine lv_topi (fun z1 ez1 => ?_)
  obtain rfl : z1 = 8 := ez1.trans (by decide)
  refine lv_iconst (v := 1) hx hb dX7_part_6 (by decide) ?_
  refine lv_isub hx hb dX7_part_7 ?_
  refine lv_topi (fun z2 ez2 => ?_)
  obtain rfl : z2 = 7 := ez2.trans (by decide)
  refine lv_iand hx hb dX7_part_8 ?_
  refine lv_iload_n hx hb dX7_part_9 rfl (lv_at hl 3 rfl) ?_
  refine lv_ishl hx hb dX7_part_10 ?_
  refine W.widen (k := 0) (n := 0) (by decide +kernel) (by decide +kernel) ?_
  exact W.iret (v := (((((c0 : Int32) >>> ((2 : Int32) &&& 31)) &&& 7) : Int32) <<< ((4 : Int32) &&& 31))) hx hb hr (fun t ht hW => ⟨⟨(((((c0 : Int32) >>> ((2 : Int32) &&& 31)) &&& 7) : Int32) <<< ((4 : Int32) &&& 31)), (), rfl, Or.inl rfl, by rw [ht]; exact hP, va_K.moved hW.alike hK, hD⟩, hS.F ht⟩) hS.2.2 dX7_part_11
def ow_k_X7_part_v15 : List Cond := .code yX7_part cX7_part 4 (some .int) :: ([] ++ [])
theorem gd_k_X7_part_v15 : ∀ w ∈ ow_k_X7_part_v15, (w.onTables && w.keeps) = true ∨ ∃ ty, w = Cond.arrayClass ty := List.forall_mem_cons.mpr ⟨good_of_word rfl, List.forall_mem_append.mpr ⟨fun w h => good_of_word (List.all_eq_true.mp (by decide +kernel) w h), fun _ h => nomatch h⟩⟩
set_option maxHeartbeats 40000000 in
set_option maxRecDepth 100000 in
theorem k_X7_part_v15 (l : Launch) (hlt : l.stackTraces = false) (dC : Nat → ClassId) (dI : Nat → Nat → Nat) (c0 : Int32) (sz : Nat) : Met l yX7_part ow_k_X7_part_v15 ({ frames := 0, cells := 0, slots := 0, locals := 0 }) (va_Pc [.int c0, .int 6, .int 2, .int 2] (fun U => U.heap.size = sz ∧ va_P (dC, dI) vwCl [] U.heap ∧ va_K (dC, dI) vwCl [] U ∧ va_D (fun _ => True) [] ∧ nv_E (va_A [] sz) U)) (va_Qi (fun r _ => (r = (((((c0 : Int32) >>> ((6 : Int32) &&& 31)) &&& 3) : Int32) <<< ((2 : Int32) &&& 31))) ∨ False) (fun (_ : Unit) t => va_P (dC, dI) vwCl [] t.heap ∧ va_K (dC, dI) vwCl [] t ∧ va_D (va_A [] sz) []) (va_A [] sz)) 0 0 (va_A [] sz) := by
  refine Met.ofW (cc := cX7_part) (maxL := 4) (ret := (some .int)) (by decide) rfl ?_
  intro p e s m args below meth c s₁ B hml hv
  obtain ⟨rfl, hsz, hP, hK, hD0, hN⟩ := hv
  have hx := B.exec
  have hb := B.bytes
  have hr := B.returns
  have hts := atoms_spec (ws := ow_k_X7_part_v15) B.pre
  have hown : s.vm.findClass RX7 = some m.cls := findClass_of_methodNamed B.named
  have hlocks := B.notSynchronized
  subst hsz
  have hD := hD0.self (sz := s.heap.size)
  generalize hAe : va_A [] s.heap.size = A at hD hN ⊢
  have hA : ∀ q : Nat, s.heap.size ≤ q → A q := fun q h => by rw [← hAe]; exact Or.inr h
  have hS : va_S A s.heap s.heap [] := va_S.rf
  have hl := lv_entry ([.int c0, .int 6, .int 2, .int 2]) (n := 4) (Nat.le_of_ble_eq_true rfl)
  rw [lg_entry_eq]
  generalize (lg_sl ([.int c0, .int 6, .int 2, .int 2]) ++ List.replicate (4 - (lg_sl ([.int c0, .int 6, .int 2, .int 2])).length) Slot.unset).toArray = ls at hl ⊢
  have hl : lv_has ls 4 [(0, .int c0), (1, .int 6), (2, .int 2), (3, .int 2)] := hl
  refine lv_iload_n hx hb dX7_part_0 rfl (lv_at hl 0 rfl) ?_
  refine lv_iload_n hx hb dX7_part_1 rfl (lv_at hl 1 rfl) ?_
  refine lv_ishr hx hb dX7_part_2 ?_
  refine lv_iconst (v := 1) hx hb dX7_part_3 (by decide) ?_
  refine lv_iload_n hx hb dX7_part_4 rfl (lv_at hl 2 rfl) ?_
  refine lv_ishl hx hb dX7_part_5 ?_
  refine lv_topi (fun z1 ez1 => ?_)
  obtain rfl : z1 = 4 := ez1.trans (by decide)
  refine lv_iconst (v := 1) hx hb dX7_part_6 (by decide) ?_
  refine lv_isub hx hb dX7_part_7 ?_
  refine lv_topi (fun z2 ez2 => ?_)
  obtain rfl : z2 = 3 := ez2.trans (by decide)
  refine lv_iand hx hb dX7_part_8 ?_
  refine lv_iload_n hx hb dX7_part_9 rfl (lv_at hl 3 rfl) ?_
  refine lv_ishl hx hb dX7_part_10 ?_
  refine W.widen (k := 0) (n := 0) (by decide +kernel) (by decide +kernel) ?_
  exact W.iret (v := (((((c0 : Int32) >>> ((6 : Int32) &&& 31)) &&& 3) : Int32) <<< ((2 : Int32) &&& 31))) hx hb hr (fun t ht hW => ⟨⟨(((((c0 : Int32) >>> ((6 : Int32) &&& 31)) &&& 3) : Int32) <<< ((2 : Int32) &&& 31)), (), rfl, Or.inl rfl, by rw [ht]; exact hP, va_K.moved hW.alike hK, hD⟩, hS.F ht⟩) hS.2.2 dX7_part_11
def ow_k_X7_part_v16 : List Cond := .code yX7_part cX7_part 4 (some .int) :: ([] ++ [])
theorem gd_k_X7_part_v16 : ∀ w ∈ ow_k_X7_part_v16, (w.onTables && w.keeps) = true ∨ ∃ ty, w = Cond.arrayClass ty := List.forall_mem_cons.mpr ⟨good_of_word rfl, List.forall_mem_append.mpr ⟨fun w h => good_of_word (List.all_eq_true.mp (by decide +kernel) w h), fun _ h => nomatch h⟩⟩
set_option maxHeartbeats 40000000 in
set_option maxRecDepth 100000 in
theorem k_X7_part_v16 (l : Launch) (hlt : l.stackTraces = false) (dC : Nat → ClassId) (dI : Nat → Nat → Nat) (c0 : Int32) (sz : Nat) : Met l yX7_part ow_k_X7_part_v16 ({ frames := 0, cells := 0, slots := 0, locals := 0 }) (va_Pc [.int c0, .int 2, .int 4, .int 9] (fun U => U.heap.size = sz ∧ va_P (dC, dI) vwCl [] U.heap ∧ va_K (dC, dI) vwCl [] U ∧ va_D (fun _ => True) [] ∧ nv_E (va_A [] sz) U)) (va_Qi (fun r _ => (r = (((((c0 : Int32) >>> ((2 : Int32) &&& 31)) &&& 15) : Int32) <<< ((9 : Int32) &&& 31))) ∨ False) (fun (_ : Unit) t => va_P (dC, dI) vwCl [] t.heap ∧ va_K (dC, dI) vwCl [] t ∧ va_D (va_A [] sz) []) (va_A [] sz)) 0 0 (va_A [] sz) := by
  refine Met.ofW (cc := cX7_part) (maxL := 4) (ret := (some .int)) (by decide) rfl ?_
  intro p e s m args below meth c s₁ B hml hv
  obtain ⟨rfl, hsz, hP, hK, hD0, hN⟩ := hv
  have hx := B.exec
  have hb := B.bytes
  have hr := B.returns
  have hts := atoms_spec (ws := ow_k_X7_part_v16) B.pre
  have hown : s.vm.findClass RX7 = some m.cls := findClass_of_methodNamed B.named
  have hlocks := B.notSynchronized
  subst hsz
  have hD := hD0.self (sz := s.heap.size)
  generalize hAe : va_A [] s.heap.size = A at hD hN ⊢
  have hA : ∀ q : Nat, s.heap.size ≤ q → A q := fun q h => by rw [← hAe]; exact Or.inr h
  have hS : va_S A s.heap s.heap [] := va_S.rf
  have hl := lv_entry ([.int c0, .int 2, .int 4, .int 9]) (n := 4) (Nat.le_of_ble_eq_true rfl)
  rw [lg_entry_eq]
  generalize (lg_sl ([.int c0, .int 2, .int 4, .int 9]) ++ List.replicate (4 - (lg_sl ([.int c0, .int 2, .int 4, .int 9])).length) Slot.unset).toArray = ls at hl ⊢
  have hl : lv_has ls 4 [(0, .int c0), (1, .int 2), (2, .int 4), (3, .int 9)] := hl
  refine lv_iload_n hx hb dX7_part_0 rfl (lv_at hl 0 rfl) ?_
  refine lv_iload_n hx hb dX7_part_1 rfl (lv_at hl 1 rfl) ?_
  refine lv_ishr hx hb dX7_part_2 ?_
  refine lv_iconst (v := 1) hx hb dX7_part_3 (by decide) ?_
  refine lv_iload_n hx hb dX7_part_4 rfl (lv_at hl 2 rfl) ?_
  refine lv_ishl hx hb dX7_part_5 ?_
  refine lv_topi (fun z1 ez1 => ?_)
  obtain rfl : z1 = 16 := ez1.trans (by decide)
  refine lv_iconst (v := 1) hx hb dX7_part_6 (by decide) ?_
  refine lv_isub hx hb dX7_part_7 ?_
  refine lv_topi (fun z2 ez2 => ?_)
  obtain rfl : z2 = 15 := ez2.trans (by decide)
  refine lv_iand hx hb dX7_part_8 ?_
  refine lv_iload_n hx hb dX7_part_9 rfl (lv_at hl 3 rfl) ?_
  refine lv_ishl hx hb dX7_part_10 ?_
  refine W.widen (k := 0) (n := 0) (by decide +kernel) (by decide +kernel) ?_
  exact W.iret (v := (((((c0 : Int32) >>> ((2 : Int32) &&& 31)) &&& 15) : Int32) <<< ((9 : Int32) &&& 31))) hx hb hr (fun t ht hW => ⟨⟨(((((c0 : Int32) >>> ((2 : Int32) &&& 31)) &&& 15) : Int32) <<< ((9 : Int32) &&& 31)), (), rfl, Or.inl rfl, by rw [ht]; exact hP, va_K.moved hW.alike hK, hD⟩, hS.F ht⟩) hS.2.2 dX7_part_11
def ow_k_X7_part_v17 : List Cond := .code yX7_part cX7_part 4 (some .int) :: ([] ++ [])
theorem gd_k_X7_part_v17 : ∀ w ∈ ow_k_X7_part_v17, (w.onTables && w.keeps) = true ∨ ∃ ty, w = Cond.arrayClass ty := List.forall_mem_cons.mpr ⟨good_of_word rfl, List.forall_mem_append.mpr ⟨fun w h => good_of_word (List.all_eq_true.mp (by decide +kernel) w h), fun _ h => nomatch h⟩⟩
set_option maxHeartbeats 40000000 in
set_option maxRecDepth 100000 in
theorem k_X7_part_v17 (l : Launch) (hlt : l.stackTraces = false) (dC : Nat → ClassId) (dI : Nat → Nat → Nat) (c0 : Int32) (sz : Nat) : Met l yX7_part ow_k_X7_part_v17 ({ frames := 0, cells := 0, slots := 0, locals := 0 }) (va_Pc [.int c0, .int 6, .int 2, .int 7] (fun U => U.heap.size = sz ∧ va_P (dC, dI) vwCl [] U.heap ∧ va_K (dC, dI) vwCl [] U ∧ va_D (fun _ => True) [] ∧ nv_E (va_A [] sz) U)) (va_Qi (fun r _ => (r = (((((c0 : Int32) >>> ((6 : Int32) &&& 31)) &&& 3) : Int32) <<< ((7 : Int32) &&& 31))) ∨ False) (fun (_ : Unit) t => va_P (dC, dI) vwCl [] t.heap ∧ va_K (dC, dI) vwCl [] t ∧ va_D (va_A [] sz) []) (va_A [] sz)) 0 0 (va_A [] sz) := by
  refine Met.ofW (cc := cX7_part) (maxL := 4) (ret := (some .int)) (by decide) rfl ?_
  intro p e s m args below meth c s₁ B hml hv
  obtain ⟨rfl, hsz, hP, hK, hD0, hN⟩ := hv
  have hx := B.exec
  have hb := B.bytes
  have hr := B.returns
  have hts := atoms_spec (ws := ow_k_X7_part_v17) B.pre
  have hown : s.vm.findClass RX7 = some m.cls := findClass_of_methodNamed B.named
  have hlocks := B.notSynchronized
  subst hsz
  have hD := hD0.self (sz := s.heap.size)
  generalize hAe : va_A [] s.heap.size = A at hD hN ⊢
  have hA : ∀ q : Nat, s.heap.size ≤ q → A q := fun q h => by rw [← hAe]; exact Or.inr h
  have hS : va_S A s.heap s.heap [] := va_S.rf
  have hl := lv_entry ([.int c0, .int 6, .int 2, .int 7]) (n := 4) (Nat.le_of_ble_eq_true rfl)
  rw [lg_entry_eq]
  generalize (lg_sl ([.int c0, .int 6, .int 2, .int 7]) ++ List.replicate (4 - (lg_sl ([.int c0, .int 6, .int 2, .int 7])).length) Slot.unset).toArray = ls at hl ⊢
  have hl : lv_has ls 4 [(0, .int c0), (1, .int 6), (2, .int 2), (3, .int 7)] := hl
  refine lv_iload_n hx hb dX7_part_0 rfl (lv_at hl 0 rfl) ?_
  refine lv_iload_n hx hb dX7_part_1 rfl (lv_at hl 1 rfl) ?_
  refine lv_ishr hx hb dX7_part_2 ?_
  refine lv_iconst (v := 1) hx hb dX7_part_3 (by decide) ?_
  refine lv_iload_n hx hb dX7_part_4 rfl (lv_at hl 2 rfl) ?_
  refine lv_ishl hx hb dX7_part_5 ?_
  refine lv_topi (fun z1 ez1 => ?_)
  obtain rfl : z1 = 4 := ez1.trans (by decide)
  refine lv_iconst (v := 1) hx hb dX7_part_6 (by decide) ?_
  refine lv_isub hx hb dX7_part_7 ?_
  refine lv_topi (fun z2 ez2 => ?_)
  obtain rfl : z2 = 3 := ez2.trans (by decide)
  refine lv_iand hx hb dX7_part_8 ?_
  refine lv_iload_n hx hb dX7_part_9 rfl (lv_at hl 3 rfl) ?_
  refine lv_ishl hx hb dX7_part_10 ?_
  refine W.widen (k := 0) (n := 0) (by decide +kernel) (by decide +kernel) ?_
  exact W.iret (v := (((((c0 : Int32) >>> ((6 : Int32) &&& 31)) &&& 3) : Int32) <<< ((7 : Int32) &&& 31))) hx hb hr (fun t ht hW => ⟨⟨(((((c0 : Int32) >>> ((6 : Int32) &&& 31)) &&& 3) : Int32) <<< ((7 : Int32) &&& 31)), (), rfl, Or.inl rfl, by rw [ht]; exact hP, va_K.moved hW.alike hK, hD⟩, hS.F ht⟩) hS.2.2 dX7_part_11
def ow_k_X7_part_v18 : List Cond := .code yX7_part cX7_part 4 (some .int) :: ([] ++ [])
theorem gd_k_X7_part_v18 : ∀ w ∈ ow_k_X7_part_v18, (w.onTables && w.keeps) = true ∨ ∃ ty, w = Cond.arrayClass ty := List.forall_mem_cons.mpr ⟨good_of_word rfl, List.forall_mem_append.mpr ⟨fun w h => good_of_word (List.all_eq_true.mp (by decide +kernel) w h), fun _ h => nomatch h⟩⟩
set_option maxHeartbeats 40000000 in
set_option maxRecDepth 100000 in
theorem k_X7_part_v18 (l : Launch) (hlt : l.stackTraces = false) (dC : Nat → ClassId) (dI : Nat → Nat → Nat) (c0 : Int32) (sz : Nat) : Met l yX7_part ow_k_X7_part_v18 ({ frames := 0, cells := 0, slots := 0, locals := 0 }) (va_Pc [.int c0, .int 3, .int 3, .int 10] (fun U => U.heap.size = sz ∧ va_P (dC, dI) vwCl [] U.heap ∧ va_K (dC, dI) vwCl [] U ∧ va_D (fun _ => True) [] ∧ nv_E (va_A [] sz) U)) (va_Qi (fun r _ => (r = (((((c0 : Int32) >>> ((3 : Int32) &&& 31)) &&& 7) : Int32) <<< ((10 : Int32) &&& 31))) ∨ False) (fun (_ : Unit) t => va_P (dC, dI) vwCl [] t.heap ∧ va_K (dC, dI) vwCl [] t ∧ va_D (va_A [] sz) []) (va_A [] sz)) 0 0 (va_A [] sz) := by
  refine Met.ofW (cc := cX7_part) (maxL := 4) (ret := (some .int)) (by decide) rfl ?_
  intro p e s m args below meth c s₁ B hml hv
  obtain ⟨rfl, hsz, hP, hK, hD0, hN⟩ := hv
  have hx := B.exec
  have hb := B.bytes
  have hr := B.returns
  have hts := atoms_spec (ws := ow_k_X7_part_v18) B.pre
  have hown : s.vm.findClass RX7 = some m.cls := findClass_of_methodNamed B.named
  have hlocks := B.notSynchronized
  subst hsz
  have hD := hD0.self (sz := s.heap.size)
  generalize hAe : va_A [] s.heap.size = A at hD hN ⊢
  have hA : ∀ q : Nat, s.heap.size ≤ q → A q := fun q h => by rw [← hAe]; exact Or.inr h
  have hS : va_S A s.heap s.heap [] := va_S.rf
  have hl := lv_entry ([.int c0, .int 3, .int 3, .int 10]) (n := 4) (Nat.le_of_ble_eq_true rfl)
  rw [lg_entry_eq]
  generalize (lg_sl ([.int c0, .int 3, .int 3, .int 10]) ++ List.replicate (4 - (lg_sl ([.int c0, .int 3, .int 3, .int 10])).length) Slot.unset).toArray = ls at hl ⊢
  have hl : lv_has ls 4 [(0, .int c0), (1, .int 3), (2, .int 3), (3, .int 10)] := hl
  refine lv_iload_n hx hb dX7_part_0 rfl (lv_at hl 0 rfl) ?_
  refine lv_iload_n hx hb dX7_part_1 rfl (lv_at hl 1 rfl) ?_
  refine lv_ishr hx hb dX7_part_2 ?_
  refine lv_iconst (v := 1) hx hb dX7_part_3 (by decide) ?_
  refine lv_iload_n hx hb dX7_part_4 rfl (lv_at hl 2 rfl) ?_
  refine lv_ishl hx hb dX7_part_5 ?_
  refine lv_topi (fun z1 ez1 => ?_)
  obtain rfl : z1 = 8 := ez1.trans (by decide)
  refine lv_iconst (v := 1) hx hb dX7_part_6 (by decide) ?_
  refine lv_isub hx hb dX7_part_7 ?_
  refine lv_topi (fun z2 ez2 => ?_)
  obtain rfl : z2 = 7 := ez2.trans (by decide)
  refine lv_iand hx hb dX7_part_8 ?_
  refine lv_iload_n hx hb dX7_part_9 rfl (lv_at hl 3 rfl) ?_
  refine lv_ishl hx hb dX7_part_10 ?_
  refine W.widen (k := 0) (n := 0) (by decide +kernel) (by decide +kernel) ?_
  exact W.iret (v := (((((c0 : Int32) >>> ((3 : Int32) &&& 31)) &&& 7) : Int32) <<< ((10 : Int32) &&& 31))) hx hb hr (fun t ht hW => ⟨⟨(((((c0 : Int32) >>> ((3 : Int32) &&& 31)) &&& 7) : Int32) <<< ((10 : Int32) &&& 31)), (), rfl, Or.inl rfl, by rw [ht]; exact hP, va_K.moved hW.alike hK, hD⟩, hS.F ht⟩) hS.2.2 dX7_part_11
def ow_k_X7_part_v19 : List Cond := .code yX7_part cX7_part 4 (some .int) :: ([] ++ [])
theorem gd_k_X7_part_v19 : ∀ w ∈ ow_k_X7_part_v19, (w.onTables && w.keeps) = true ∨ ∃ ty, w = Cond.arrayClass ty := List.forall_mem_cons.mpr ⟨good_of_word rfl, List.forall_mem_append.mpr ⟨fun w h => good_of_word (List.all_eq_true.mp (by decide +kernel) w h), fun _ h => nomatch h⟩⟩
set_option maxHeartbeats 40000000 in
set_option maxRecDepth 100000 in
theorem k_X7_part_v19 (l : Launch) (hlt : l.stackTraces = false) (dC : Nat → ClassId) (dI : Nat → Nat → Nat) (c0 : Int32) (sz : Nat) : Met l yX7_part ow_k_X7_part_v19 ({ frames := 0, cells := 0, slots := 0, locals := 0 }) (va_Pc [.int c0, .int 2, .int 1, .int 6] (fun U => U.heap.size = sz ∧ va_P (dC, dI) vwCl [] U.heap ∧ va_K (dC, dI) vwCl [] U ∧ va_D (fun _ => True) [] ∧ nv_E (va_A [] sz) U)) (va_Qi (fun r _ => (r = (((((c0 : Int32) >>> ((2 : Int32) &&& 31)) &&& 1) : Int32) <<< ((6 : Int32) &&& 31))) ∨ False) (fun (_ : Unit) t => va_P (dC, dI) vwCl [] t.heap ∧ va_K (dC, dI) vwCl [] t ∧ va_D (va_A [] sz) []) (va_A [] sz)) 0 0 (va_A [] sz) := by
  refine Met.ofW (cc := cX7_part) (maxL := 4) (ret := (some .int)) (by decide) rfl ?_
  intro p e s m args below meth c s₁ B hml hv
  obtain ⟨rfl, hsz, hP, hK, hD0, hN⟩ := hv
  have hx := B.exec
  have hb := B.bytes
  have hr := B.returns
  have hts := atoms_spec (ws := ow_k_X7_part_v19) B.pre
  have hown : s.vm.findClass RX7 = some m.cls := findClass_of_methodNamed B.named
  have hlocks := B.notSynchronized
  subst hsz
  have hD := hD0.self (sz := s.heap.size)
  generalize hAe : va_A [] s.heap.size = A at hD hN ⊢
  have hA : ∀ q : Nat, s.heap.size ≤ q → A q := fun q h => by rw [← hAe]; exact Or.inr h
  have hS : va_S A s.heap s.heap [] := va_S.rf
  have hl := lv_entry ([.int c0, .int 2, .int 1, .int 6]) (n := 4) (Nat.le_of_ble_eq_true rfl)
  rw [lg_entry_eq]
  generalize (lg_sl ([.int c0, .int 2, .int 1, .int 6]) ++ List.replicate (4 - (lg_sl ([.int c0, .int 2, .int 1, .int 6])).length) Slot.unset).toArray = ls at hl ⊢
  have hl : lv_has ls 4 [(0, .int c0), (1, .int 2), (2, .int 1), (3, .int 6)] := hl
  refine lv_iload_n hx hb dX7_part_0 rfl (lv_at hl 0 rfl) ?_
  refine lv_iload_n hx hb dX7_part_1 rfl (lv_at hl 1 rfl) ?_
  refine lv_ishr hx hb dX7_part_2 ?_
  refine lv_iconst (v := 1) hx hb dX7_part_3 (by decide) ?_
  refine lv_iload_n hx hb dX7_part_4 rfl (lv_at hl 2 rfl) ?_
  refine lv_ishl hx hb dX7_part_5 ?_
  refine lv_topi (fun z1 ez1 => ?_)
  obtain rfl : z1 = 2 := ez1.trans (by decide)
  refine lv_iconst (v := 1) hx hb dX7_part_6 (by decide) ?_
  refine lv_isub hx hb dX7_part_7 ?_
  refine lv_topi (fun z2 ez2 => ?_)
  obtain rfl : z2 = 1 := ez2.trans (by decide)
  refine lv_iand hx hb dX7_part_8 ?_
  refine lv_iload_n hx hb dX7_part_9 rfl (lv_at hl 3 rfl) ?_
  refine lv_ishl hx hb dX7_part_10 ?_
  refine W.widen (k := 0) (n := 0) (by decide +kernel) (by decide +kernel) ?_
  exact W.iret (v := (((((c0 : Int32) >>> ((2 : Int32) &&& 31)) &&& 1) : Int32) <<< ((6 : Int32) &&& 31))) hx hb hr (fun t ht hW => ⟨⟨(((((c0 : Int32) >>> ((2 : Int32) &&& 31)) &&& 1) : Int32) <<< ((6 : Int32) &&& 31)), (), rfl, Or.inl rfl, by rw [ht]; exact hP, va_K.moved hW.alike hK, hD⟩, hS.F ht⟩) hS.2.2 dX7_part_11
def ow_k_X7_part_v20 : List Cond := .code yX7_part cX7_part 4 (some .int) :: ([] ++ [])
theorem gd_k_X7_part_v20 : ∀ w ∈ ow_k_X7_part_v20, (w.onTables && w.keeps) = true ∨ ∃ ty, w = Cond.arrayClass ty := List.forall_mem_cons.mpr ⟨good_of_word rfl, List.forall_mem_append.mpr ⟨fun w h => good_of_word (List.all_eq_true.mp (by decide +kernel) w h), fun _ h => nomatch h⟩⟩
set_option maxHeartbeats 40000000 in
set_option maxRecDepth 100000 in
theorem k_X7_part_v20 (l : Launch) (hlt : l.stackTraces = false) (dC : Nat → ClassId) (dI : Nat → Nat → Nat) (c0 : Int32) (sz : Nat) : Met l yX7_part ow_k_X7_part_v20 ({ frames := 0, cells := 0, slots := 0, locals := 0 }) (va_Pc [.int c0, .int 6, .int 1, .int 5] (fun U => U.heap.size = sz ∧ va_P (dC, dI) vwCl [] U.heap ∧ va_K (dC, dI) vwCl [] U ∧ va_D (fun _ => True) [] ∧ nv_E (va_A [] sz) U)) (va_Qi (fun r _ => (r = (((((c0 : Int32) >>> ((6 : Int32) &&& 31)) &&& 1) : Int32) <<< ((5 : Int32) &&& 31))) ∨ False) (fun (_ : Unit) t => va_P (dC, dI) vwCl [] t.heap ∧ va_K (dC, dI) vwCl [] t ∧ va_D (va_A [] sz) []) (va_A [] sz)) 0 0 (va_A [] sz) := by
  refine Met.ofW (cc := cX7_part) (maxL := 4) (ret := (some .int)) (by decide) rfl ?_
  intro p e s m args below meth c s₁ B hml hv
  obtain ⟨rfl, hsz, hP, hK, hD0, hN⟩ := hv
  have hx := B.exec
  have hb := B.bytes
  have hr := B.returns
  have hts := atoms_spec (ws := ow_k_X7_part_v20) B.pre
  have hown : s.vm.findClass RX7 = some m.cls := findClass_of_methodNamed B.named
  have hlocks := B.notSynchronized
  subst hsz
  have hD := hD0.self (sz := s.heap.size)
  generalize hAe : va_A [] s.heap.size = A at hD hN ⊢
  have hA : ∀ q : Nat, s.heap.size ≤ q → A q := fun q h => by rw [← hAe]; exact Or.inr h
  have hS : va_S A s.heap s.heap [] := va_S.rf
  have hl := lv_entry ([.int c0, .int 6, .int 1, .int 5]) (n := 4) (Nat.le_of_ble_eq_true rfl)
  rw [lg_entry_eq]
  generalize (lg_sl ([.int c0, .int 6, .int 1, .int 5]) ++ List.replicate (4 - (lg_sl ([.int c0, .int 6, .int 1, .int 5])).length) Slot.unset).toArray = ls at hl ⊢
  have hl : lv_has ls 4 [(0, .int c0), (1, .int 6), (2, .int 1), (3, .int 5)] := hl
  refine lv_iload_n hx hb dX7_part_0 rfl (lv_at hl 0 rfl) ?_
  refine lv_iload_n hx hb dX7_part_1 rfl (lv_at hl 1 rfl) ?_
  refine lv_ishr hx hb dX7_part_2 ?_
  refine lv_iconst (v := 1) hx hb dX7_part_3 (by decide) ?_
  refine lv_iload_n hx hb dX7_part_4 rfl (lv_at hl 2 rfl) ?_
  refine lv_ishl hx hb dX7_part_5 ?_
  refine lv_topi (fun z1 ez1 => ?_)
  obtain rfl : z1 = 2 := ez1.trans (by decide)
  refine lv_iconst (v := 1) hx hb dX7_part_6 (by decide) ?_
  refine lv_isub hx hb dX7_part_7 ?_
  refine lv_topi (fun z2 ez2 => ?_)
  obtain rfl : z2 = 1 := ez2.trans (by decide)
  refine lv_iand hx hb dX7_part_8 ?_
  refine lv_iload_n hx hb dX7_part_9 rfl (lv_at hl 3 rfl) ?_
  refine lv_ishl hx hb dX7_part_10 ?_
  refine W.widen (k := 0) (n := 0) (by decide +kernel) (by decide +kernel) ?_
  exact W.iret (v := (((((c0 : Int32) >>> ((6 : Int32) &&& 31)) &&& 1) : Int32) <<< ((5 : Int32) &&& 31))) hx hb hr (fun t ht hW => ⟨⟨(((((c0 : Int32) >>> ((6 : Int32) &&& 31)) &&& 1) : Int32) <<< ((5 : Int32) &&& 31)), (), rfl, Or.inl rfl, by rw [ht]; exact hP, va_K.moved hW.alike hK, hD⟩, hS.F ht⟩) hS.2.2 dX7_part_11
def ow_k_X7_part_v21 : List Cond := .code yX7_part cX7_part 4 (some .int) :: ([] ++ [])
theorem gd_k_X7_part_v21 : ∀ w ∈ ow_k_X7_part_v21, (w.onTables && w.keeps) = true ∨ ∃ ty, w = Cond.arrayClass ty := List.forall_mem_cons.mpr ⟨good_of_word rfl, List.forall_mem_append.mpr ⟨fun w h => good_of_word (List.all_eq_true.mp (by decide +kernel) w h), fun _ h => nomatch h⟩⟩
set_option maxHeartbeats 40000000 in
set_option maxRecDepth 100000 in
theorem k_X7_part_v21 (l : Launch) (hlt : l.stackTraces = false) (dC : Nat → ClassId) (dI : Nat → Nat → Nat) (c0 : Int32) (sz : Nat) : Met l yX7_part ow_k_X7_part_v21 ({ frames := 0, cells := 0, slots := 0, locals := 0 }) (va_Pc [.int c0, .int 4, .int 2, .int 11] (fun U => U.heap.size = sz ∧ va_P (dC, dI) vwCl [] U.heap ∧ va_K (dC, dI) vwCl [] U ∧ va_D (fun _ => True) [] ∧ nv_E (va_A [] sz) U)) (va_Qi (fun r _ => (r = (((((c0 : Int32) >>> ((4 : Int32) &&& 31)) &&& 3) : Int32) <<< ((11 : Int32) &&& 31))) ∨ False) (fun (_ : Unit) t => va_P (dC, dI) vwCl [] t.heap ∧ va_K (dC, dI) vwCl [] t ∧ va_D (va_A [] sz) []) (va_A [] sz)) 0 0 (va_A [] sz) := by
  refine Met.ofW (cc := cX7_part) (maxL := 4) (ret := (some .int)) (by decide) rfl ?_
  intro p e s m args below meth c s₁ B hml hv
  obtain ⟨rfl, hsz, hP, hK, hD0, hN⟩ := hv
  have hx := B.exec
  have hb := B.bytes
  have hr := B.returns
  have hts := atoms_spec (ws := ow_k_X7_part_v21) B.pre
  have hown : s.vm.findClass RX7 = some m.cls := findClass_of_methodNamed B.named
  have hlocks := B.notSynchronized
  subst hsz
  have hD := hD0.self (sz := s.heap.size)
  generalize hAe : va_A [] s.heap.size = A at hD hN ⊢
  have hA : ∀ q : Nat, s.heap.size ≤ q → A q := fun q h => by rw [← hAe]; exact Or.inr h
  have hS : va_S A s.heap s.heap [] := va_S.rf
  have hl := lv_entry ([.int c0, .int 4, .int 2, .int 11]) (n := 4) (Nat.le_of_ble_eq_true rfl)
  rw [lg_entry_eq]
  generalize (lg_sl ([.int c0, .int 4, .int 2, .int 11]) ++ List.replicate (4 - (lg_sl ([.int c0, .int 4, .int 2, .int 11])).length) Slot.unset).toArray = ls at hl ⊢
  have hl : lv_has ls 4 [(0, .int c0), (1, .int 4), (2, .int 2), (3, .int 11)] := hl
  refine lv_iload_n hx hb dX7_part_0 rfl (lv_at hl 0 rfl) ?_
  refine lv_iload_n hx hb dX7_part_1 rfl (lv_at hl 1 rfl) ?_
  refine lv_ishr hx hb dX7_part_2 ?_
  refine lv_iconst (v := 1) hx hb dX7_part_3 (by decide) ?_
  refine lv_iload_n hx hb dX7_part_4 rfl (lv_at hl 2 rfl) ?_
  refine lv_ishl hx hb dX7_part_5 ?_
  refine lv_topi (fun z1 ez1 => ?_)
  obtain rfl : z1 = 4 := ez1.trans (by decide)
  refine lv_iconst (v := 1) hx hb dX7_part_6 (by decide) ?_
  refine lv_isub hx hb dX7_part_7 ?_
  refine lv_topi (fun z2 ez2 => ?_)
  obtain rfl : z2 = 3 := ez2.trans (by decide)
  refine lv_iand hx hb dX7_part_8 ?_
  refine lv_iload_n hx hb dX7_part_9 rfl (lv_at hl 3 rfl) ?_
  refine lv_ishl hx hb dX7_part_10 ?_
  refine W.widen (k := 0) (n := 0) (by decide +kernel) (by decide +kernel) ?_
  exact W.iret (v := (((((c0 : Int32) >>> ((4 : Int32) &&& 31)) &&& 3) : Int32) <<< ((11 : Int32) &&& 31))) hx hb hr (fun t ht hW => ⟨⟨(((((c0 : Int32) >>> ((4 : Int32) &&& 31)) &&& 3) : Int32) <<< ((11 : Int32) &&& 31)), (), rfl, Or.inl rfl, by rw [ht]; exact hP, va_K.moved hW.alike hK, hD⟩, hS.F ht⟩) hS.2.2 dX7_part_11
def ow_k_X7_part_v22 : List Cond := .code yX7_part cX7_part 4 (some .int) :: ([] ++ [])
theorem gd_k_X7_part_v22 : ∀ w ∈ ow_k_X7_part_v22, (w.onTables && w.keeps) = true ∨ ∃ ty, w = Cond.arrayClass ty := List.forall_mem_cons.mpr ⟨good_of_word rfl, List.forall_mem_append.mpr ⟨fun w h => good_of_word (List.all_eq_true.mp (by decide +kernel) w h), fun _ h => nomatch h⟩⟩
set_option maxHeartbeats 40000000 in
set_option maxRecDepth 100000 in
theorem k_X7_part_v22 (l : Launch) (hlt : l.stackTraces = false) (dC : Nat → ClassId) (dI : Nat → Nat → Nat) (c0 : Int32) (sz : Nat) : Met l yX7_part ow_k_X7_part_v22 ({ frames := 0, cells := 0, slots := 0, locals := 0 }) (va_Pc [.int c0, .int 6, .int 4, .int 7] (fun U => U.heap.size = sz ∧ va_P (dC, dI) vwCl [] U.heap ∧ va_K (dC, dI) vwCl [] U ∧ va_D (fun _ => True) [] ∧ nv_E (va_A [] sz) U)) (va_Qi (fun r _ => (r = (((((c0 : Int32) >>> ((6 : Int32) &&& 31)) &&& 15) : Int32) <<< ((7 : Int32) &&& 31))) ∨ False) (fun (_ : Unit) t => va_P (dC, dI) vwCl [] t.heap ∧ va_K (dC, dI) vwCl [] t ∧ va_D (va_A [] sz) []) (va_A [] sz)) 0 0 (va_A [] sz) := by
  refine Met.ofW (cc := cX7_part) (maxL := 4) (ret := (some .int)) (by decide) rfl ?_
  intro p e s m args below meth c s₁ B hml hv
  obtain ⟨rfl, hsz, hP, hK, hD0, hN⟩ := hv
  have hx := B.exec
  have hb := B.bytes
  have hr := B.returns
  have hts := atoms_spec (ws := ow_k_X7_part_v22) B.pre
  have hown : s.vm.findClass RX7 = some m.cls := findClass_of_methodNamed B.named
  have hlocks := B.notSynchronized
  subst hsz
  have hD := hD0.self (sz := s.heap.size)
  generalize hAe : va_A [] s.heap.size = A at hD hN ⊢
  have hA : ∀ q : Nat, s.heap.size ≤ q → A q := fun q h => by rw [← hAe]; exact Or.inr h
  have hS : va_S A s.heap s.heap [] := va_S.rf
  have hl := lv_entry ([.int c0, .int 6, .int 4, .int 7]) (n := 4) (Nat.le_of_ble_eq_true rfl)
  rw [lg_entry_eq]
  generalize (lg_sl ([.int c0, .int 6, .int 4, .int 7]) ++ List.replicate (4 - (lg_sl ([.int c0, .int 6, .int 4, .int 7])).length) Slot.unset).toArray = ls at hl ⊢
  have hl : lv_has ls 4 [(0, .int c0), (1, .int 6), (2, .int 4), (3, .int 7)] := hl
  refine lv_iload_n hx hb dX7_part_0 rfl (lv_at hl 0 rfl) ?_
  refine lv_iload_n hx hb dX7_part_1 rfl (lv_at hl 1 rfl) ?_
  refine lv_ishr hx hb dX7_part_2 ?_
  refine lv_iconst (v := 1) hx hb dX7_part_3 (by decide) ?_
  refine lv_iload_n hx hb dX7_part_4 rfl (lv_at hl 2 rfl) ?_
  refine lv_ishl hx hb dX7_part_5 ?_
  refine lv_topi (fun z1 ez1 => ?_)
  obtain rfl : z1 = 16 := ez1.trans (by decide)
  refine lv_iconst (v := 1) hx hb dX7_part_6 (by decide) ?_
  refine lv_isub hx hb dX7_part_7 ?_
  refine lv_topi (fun z2 ez2 => ?_)
  obtain rfl : z2 = 15 := ez2.trans (by decide)
  refine lv_iand hx hb dX7_part_8 ?_
  refine lv_iload_n hx hb dX7_part_9 rfl (lv_at hl 3 rfl) ?_
  refine lv_ishl hx hb dX7_part_10 ?_
  refine W.widen (k := 0) (n := 0) (by decide +kernel) (by decide +kernel) ?_
  exact W.iret (v := (((((c0 : Int32) >>> ((6 : Int32) &&& 31)) &&& 15) : Int32) <<< ((7 : Int32) &&& 31))) hx hb hr (fun t ht hW => ⟨⟨(((((c0 : Int32) >>> ((6 : Int32) &&& 31)) &&& 15) : Int32) <<< ((7 : Int32) &&& 31)), (), rfl, Or.inl rfl, by rw [ht]; exact hP, va_K.moved hW.alike hK, hD⟩, hS.F ht⟩) hS.2.2 dX7_part_11
def ow_k_X7_part_v23 : List Cond := .code yX7_part cX7_part 4 (some .int) :: ([] ++ [])
theorem gd_k_X7_part_v23 : ∀ w ∈ ow_k_X7_part_v23, (w.onTables && w.keeps) = true ∨ ∃ ty, w = Cond.arrayClass ty := List.forall_mem_cons.mpr ⟨good_of_word rfl, List.forall_mem_append.mpr ⟨fun w h => good_of_word (List.all_eq_true.mp (by decide +kernel) w h), fun _ h => nomatch h⟩⟩
set_option maxHeartbeats 40000000 in
set_option maxRecDepth 100000 in
theorem k_X7_part_v23 (l : Launch) (hlt : l.stackTraces = false) (dC : Nat → ClassId) (dI : Nat → Nat → Nat) (c0 : Int32) (sz : Nat) : Met l yX7_part ow_k_X7_part_v23 ({ frames := 0, cells := 0, slots := 0, locals := 0 }) (va_Pc [.int c0, .int 3, .int 1, .int 5] (fun U => U.heap.size = sz ∧ va_P (dC, dI) vwCl [] U.heap ∧ va_K (dC, dI) vwCl [] U ∧ va_D (fun _ => True) [] ∧ nv_E (va_A [] sz) U)) (va_Qi (fun r _ => (r = (((((c0 : Int32) >>> ((3 : Int32) &&& 31)) &&& 1) : Int32) <<< ((5 : Int32) &&& 31))) ∨ False) (fun (_ : Unit) t => va_P (dC, dI) vwCl [] t.heap ∧ va_K (dC, dI) vwCl [] t ∧ va_D (va_A [] sz) []) (va_A [] sz)) 0 0 (va_A [] sz) := by
  refine Met.ofW (cc := cX7_part) (maxL := 4) (ret := (some .int)) (by decide) rfl ?_
  intro p e s m args below meth c s₁ B hml hv
  obtain ⟨rfl, hsz, hP, hK, hD0, hN⟩ := hv
  have hx := B.exec
  have hb := B.bytes
  have hr := B.returns
  have hts := atoms_spec (ws := ow_k_X7_part_v23) B.pre
  have hown : s.vm.findClass RX7 = some m.cls := findClass_of_methodNamed B.named
  have hlocks := B.notSynchronized
  subst hsz
  have hD := hD0.self (sz := s.heap.size)
  generalize hAe : va_A [] s.heap.size = A at hD hN ⊢
  have hA : ∀ q : Nat, s.heap.size ≤ q → A q := fun q h => by rw [← hAe]; exact Or.inr h
  have hS : va_S A s.heap s.heap [] := va_S.rf
  have hl := lv_entry ([.int c0, .int 3, .int 1, .int 5]) (n := 4) (Nat.le_of_ble_eq_true rfl)
  rw [lg_entry_eq]
  generalize (lg_sl ([.int c0, .int 3, .int 1, .int 5]) ++ List.replicate (4 - (lg_sl ([.int c0, .int 3, .int 1, .int 5])).length) Slot.unset).toArray = ls at hl ⊢
  have hl : lv_has ls 4 [(0, .int c0), (1, .int 3), (2, .int 1), (3, .int 5)] := hl
  refine lv_iload_n hx hb dX7_part_0 rfl (lv_at hl 0 rfl) ?_
  refine lv_iload_n hx hb dX7_part_1 rfl (lv_at hl 1 rfl) ?_
  refine lv_ishr hx hb dX7_part_2 ?_
  refine lv_iconst (v := 1) hx hb dX7_part_3 (by decide) ?_
  refine lv_iload_n hx hb dX7_part_4 rfl (lv_at hl 2 rfl) ?_
  refine lv_ishl hx hb dX7_part_5 ?_
  refine lv_topi (fun z1 ez1 => ?_)
  obtain rfl : z1 = 2 := ez1.trans (by decide)
  refine lv_iconst (v := 1) hx hb dX7_part_6 (by decide) ?_
  refine lv_isub hx hb dX7_part_7 ?_
  refine lv_topi (fun z2 ez2 => ?_)
  obtain rfl : z2 = 1 := ez2.trans (by decide)
  refine lv_iand hx hb dX7_part_8 ?_
  refine lv_iload_n hx hb dX7_part_9 rfl (lv_at hl 3 rfl) ?_
  refine lv_ishl hx hb dX7_part_10 ?_
  refine W.widen (k := 0) (n := 0) (by decide +kernel) (by decide +kernel) ?_
  exact W.iret (v := (((((c0 : Int32) >>> ((3 : Int32) &&& 31)) &&& 1) : Int32) <<< ((5 : Int32) &&& 31))) hx hb hr (fun t ht hW => ⟨⟨(((((c0 : Int32) >>> ((3 : Int32) &&& 31)) &&& 1) : Int32) <<< ((5 : Int32) &&& 31)), (), rfl, Or.inl rfl, by rw [ht]; exact hP, va_K.moved hW.alike hK, hD⟩, hS.F ht⟩) hS.2.2 dX7_part_11
def ow_k_X7_part_v24 : List Cond := .code yX7_part cX7_part 4 (some .int) :: ([] ++ [])
theorem gd_k_X7_part_v24 : ∀ w ∈ ow_k_X7_part_v24, (w.onTables && w.keeps) = true ∨ ∃ ty, w = Cond.arrayClass ty := List.forall_mem_cons.mpr ⟨good_of_word rfl, List.forall_mem_append.mpr ⟨fun w h => good_of_word (List.all_eq_true.mp (by decide +kernel) w h), fun _ h => nomatch h⟩⟩
set_option maxHeartbeats 40000000 in
set_option maxRecDepth 100000 in
theorem k_X7_part_v24 (l : Launch) (hlt : l.stackTraces = false) (dC : Nat → ClassId) (dI : Nat → Nat → Nat) (c0 : Int32) (sz : Nat) : Met l yX7_part ow_k_X7_part_v24 ({ frames := 0, cells := 0, slots := 0, locals := 0 }) (va_Pc [.int c0, .int 9, .int 1, .int 12] (fun U => U.heap.size = sz ∧ va_P (dC, dI) vwCl [] U.heap ∧ va_K (dC, dI) vwCl [] U ∧ va_D (fun _ => True) [] ∧ nv_E (va_A [] sz) U)) (va_Qi (fun r _ => (r = (((((c0 : Int32) >>> ((9 : Int32) &&& 31)) &&& 1) : Int32) <<< ((12 : Int32) &&& 31))) ∨ False) (fun (_ : Unit) t => va_P (dC, dI) vwCl [] t.heap ∧ va_K (dC, dI) vwCl [] t ∧ va_D (va_A [] sz) []) (va_A [] sz)) 0 0 (va_A [] sz) := by
  refine Met.ofW (cc := cX7_part) (maxL := 4) (ret := (some .int)) (by decide) rfl ?_
  intro p e s m args below meth c s₁ B hml hv
  obtain ⟨rfl, hsz, hP, hK, hD0, hN⟩ := hv
  have hx := B.exec
  have hb := B.bytes
  have hr := B.returns
  have hts := atoms_spec (ws := ow_k_X7_part_v24) B.pre
  have hown : s.vm.findClass RX7 = some m.cls := findClass_of_methodNamed B.named
  have hlocks := B.notSynchronized
  subst hsz
  have hD := hD0.self (sz := s.heap.size)
  generalize hAe : va_A [] s.heap.size = A at hD hN ⊢
  have hA : ∀ q : Nat, s.heap.size ≤ q → A q := fun q h => by rw [← hAe]; exact Or.inr h
  have hS : va_S A s.heap s.heap [] := va_S.rf
  have hl := lv_entry ([.int c0, .int 9, .int 1, .int 12]) (n := 4) (Nat.le_of_ble_eq_true rfl)
  rw [lg_entry_eq]
  generalize (lg_sl ([.int c0, .int 9, .int 1, .int 12]) ++ List.replicate (4 - (lg_sl ([.int c0, .int 9, .int 1, .int 12])).length) Slot.unset).toArray = ls at hl ⊢
  have hl : lv_has ls 4 [(0, .int c0), (1, .int 9), (2, .int 1), (3, .int 12)] := hl
  refine lv_iload_n hx hb dX7_part_0 rfl (lv_at hl 0 rfl) ?_
  refine lv_iload_n hx hb dX7_part_1 rfl (lv_at hl 1 rfl) ?_
  refine lv_ishr hx hb dX7_part_2 ?_
  refine lv_iconst (v := 1) hx hb dX7_part_3 (by decide) ?_
  refine lv_iload_n hx hb dX7_part_4 rfl (lv_at hl 2 rfl) ?_
  refine lv_ishl hx hb dX7_part_5 ?_
  refine lv_topi (fun z1 ez1 => ?_)
  obtain rfl : z1 = 2 := ez1.trans (by decide)
  refine lv_iconst (v := 1) hx hb dX7_part_6 (by decide) ?_
  refine lv_isub hx hb dX7_part_7 ?_
  refine lv_topi (fun z2 ez2 => ?_)
  obtain rfl : z2 = 1 := ez2.trans (by decide)
  refine lv_iand hx hb dX7_part_8 ?_
  refine lv_iload_n hx hb dX7_part_9 rfl (lv_at hl 3 rfl) ?_
  refine lv_ishl hx hb dX7_part_10 ?_
  refine W.widen (k := 0) (n := 0) (by decide +kernel) (by decide +kernel) ?_
  exact W.iret (v := (((((c0 : Int32) >>> ((9 : Int32) &&& 31)) &&& 1) : Int32) <<< ((12 : Int32) &&& 31))) hx hb hr (fun t ht hW => ⟨⟨(((((c0 : Int32) >>> ((9 : Int32) &&& 31)) &&& 1) : Int32) <<< ((12 : Int32) &&& 31)), (), rfl, Or.inl rfl, by rw [ht]; exact hP, va_K.moved hW.alike hK, hD⟩, hS.F ht⟩) hS.2.2 dX7_part_11
def ow_k_X7_part_v25 : List Cond := .code yX7_part cX7_part 4 (some .int) :: ([] ++ [])
theorem gd_k_X7_part_v25 : ∀ w ∈ ow_k_X7_part_v25, (w.onTables && w.keeps) = true ∨ ∃ ty, w = Cond.arrayClass ty := List.forall_mem_cons.mpr ⟨good_of_word rfl, List.forall_mem_append.mpr ⟨fun w h => good_of_word (List.all_eq_true.mp (by decide +kernel) w h), fun _ h => nomatch h⟩⟩
set_option maxHeartbeats 40000000 in
set_option maxRecDepth 100000 in
theorem k_X7_part_v25 (l : Launch) (hlt : l.stackTraces = false) (dC : Nat → ClassId) (dI : Nat → Nat → Nat) (c0 : Int32) (sz : Nat) : Met l yX7_part ow_k_X7_part_v25 ({ frames := 0, cells := 0, slots := 0, locals := 0 }) (va_Pc [.int c0, .int 4, .int 1, .int 6] (fun U => U.heap.size = sz ∧ va_P (dC, dI) vwCl [] U.heap ∧ va_K (dC, dI) vwCl [] U ∧ va_D (fun _ => True) [] ∧ nv_E (va_A [] sz) U)) (va_Qi (fun r _ => (r = (((((c0 : Int32) >>> ((4 : Int32) &&& 31)) &&& 1) : Int32) <<< ((6 : Int32) &&& 31))) ∨ False) (fun (_ : Unit) t => va_P (dC, dI) vwCl [] t.heap ∧ va_K (dC, dI) vwCl [] t ∧ va_D (va_A [] sz) []) (va_A [] sz)) 0 0 (va_A [] sz) := by
  refine Met.ofW (cc := cX7_part) (maxL := 4) (ret := (some .int)) (by decide) rfl ?_
  intro p e s m args below meth c s₁ B hml hv
  obtain ⟨rfl, hsz, hP, hK, hD0, hN⟩ := hv
  have hx := B.exec
  have hb := B.bytes
  have hr := B.returns
  have hts := atoms_spec (ws := ow_k_X7_part_v25) B.pre
  have hown : s.vm.findClass RX7 = some m.cls := findClass_of_methodNamed B.named
  have hlocks := B.notSynchronized
  subst hsz
  have hD := hD0.self (sz := s.heap.size)
  generalize hAe : va_A [] s.heap.size = A at hD hN ⊢
  have hA : ∀ q : Nat, s.heap.size ≤ q → A q := fun q h => by rw [← hAe]; exact Or.inr h
  have hS : va_S A s.heap s.heap [] := va_S.rf
  have hl := lv_entry ([.int c0, .int 4, .int 1, .int 6]) (n := 4) (Nat.le_of_ble_eq_true rfl)
  rw [lg_entry_eq]
  generalize (lg_sl ([.int c0, .int 4, .int 1, .int 6]) ++ List.replicate (4 - (lg_sl ([.int c0, .int 4, .int 1, .int 6])).length) Slot.unset).toArray = ls at hl ⊢
  have hl : lv_has ls 4 [(0, .int c0), (1, .int 4), (2, .int 1), (3, .int 6)] := hl
  refine lv_iload_n hx hb dX7_part_0 rfl (lv_at hl 0 rfl) ?_
  refine lv_iload_n hx hb dX7_part_1 rfl (lv_at hl 1 rfl) ?_
  refine lv_ishr hx hb dX7_part_2 ?_
  refine lv_iconst (v := 1) hx hb dX7_part_3 (by decide) ?_
  refine lv_iload_n hx hb dX7_part_4 rfl (lv_at hl 2 rfl) ?_
  refine lv_ishl hx hb dX7_part_5 ?_
  refine lv_topi (fun z1 ez1 => ?_)
  obtain rfl : z1 = 2 := ez1.trans (by decide)
  refine lv_iconst (v := 1) hx hb dX7_part_6 (by decide) ?_
  refine lv_isub hx hb dX7_part_7 ?_
  refine lv_topi (fun z2 ez2 => ?_)
  obtain rfl : z2 = 1 := ez2.trans (by decide)
  refine lv_iand hx hb dX7_part_8 ?_
  refine lv_iload_n hx hb dX7_part_9 rfl (lv_at hl 3 rfl) ?_
  refine lv_ishl hx hb dX7_part_10 ?_
  refine W.widen (k := 0) (n := 0) (by decide +kernel) (by decide +kernel) ?_
  exact W.iret (v := (((((c0 : Int32) >>> ((4 : Int32) &&& 31)) &&& 1) : Int32) <<< ((6 : Int32) &&& 31))) hx hb hr (fun t ht hW => ⟨⟨(((((c0 : Int32) >>> ((4 : Int32) &&& 31)) &&& 1) : Int32) <<< ((6 : Int32) &&& 31)), (), rfl, Or.inl rfl, by rw [ht]; exact hP, va_K.moved hW.alike hK, hD⟩, hS.F ht⟩) hS.2.2 dX7_part_11
def ow_k_X7_part_v26 : List Cond := .code yX7_part cX7_part 4 (some .int) :: ([] ++ [])
theorem gd_k_X7_part_v26 : ∀ w ∈ ow_k_X7_part_v26, (w.onTables && w.keeps) = true ∨ ∃ ty, w = Cond.arrayClass ty := List.forall_mem_cons.mpr ⟨good_of_word rfl, List.forall_mem_append.mpr ⟨fun w h => good_of_word (List.all_eq_true.mp (by decide +kernel) w h), fun _ h => nomatch h⟩⟩
set_option maxHeartbeats 40000000 in
set_option maxRecDepth 100000 in
theorem k_X7_part_v26 (l : Launch) (hlt : l.stackTraces = false) (dC : Nat → ClassId) (dI : Nat → Nat → Nat) (c0 : Int32) (sz : Nat) : Met l yX7_part ow_k_X7_part_v26 ({ frames := 0, cells := 0, slots := 0, locals := 0 }) (va_Pc [.int c0, .int 7, .int 2, .int 3] (fun U => U.heap.size = sz ∧ va_P (dC, dI) vwCl [] U.heap ∧ va_K (dC, dI) vwCl [] U ∧ va_D (fun _ => True) [] ∧ nv_E (va_A [] sz) U)) (va_Qi (fun r _ => (r = (((((c0 : Int32) >>> ((7 : Int32) &&& 31)) &&& 3) : Int32) <<< ((3 : Int32) &&& 31))) ∨ False) (fun (_ : Unit) t => va_P (dC, dI) vwCl [] t.heap ∧ va_K (dC, dI) vwCl [] t ∧ va_D (va_A [] sz) []) (va_A [] sz)) 0 0 (va_A [] sz) := by
  refine Met.ofW (cc := cX7_part) (maxL := 4) (ret := (some .int)) (by decide) rfl ?_
  intro p e s m args below meth c s₁ B hml hv
  obtain ⟨rfl, hsz, hP, hK, hD0, hN⟩ := hv
  have hx := B.exec
  have hb := B.bytes
  have hr := B.returns
  have hts := atoms_spec (ws := ow_k_X7_part_v26) B.pre
  have hown : s.vm.findClass RX7 = some m.cls := findClass_of_methodNamed B.named
  have hlocks := B.notSynchronized
  subst hsz
  have hD := hD0.self (sz := s.heap.size)
  generalize hAe : va_A [] s.heap.size = A at hD hN ⊢
  have hA : ∀ q : Nat, s.heap.size ≤ q → A q := fun q h => by rw [← hAe]; exact Or.inr h
  have hS : va_S A s.heap s.heap [] := va_S.rf
  have hl := lv_entry ([.int c0, .int 7, .int 2, .int 3]) (n := 4) (Nat.le_of_ble_eq_true rfl)
  rw [lg_entry_eq]
  generalize (lg_sl ([.int c0, .int 7, .int 2, .int 3]) ++ List.replicate (4 - (lg_sl ([.int c0, .int 7, .int 2, .int 3])).length) Slot.unset).toArray = ls at hl ⊢
  have hl : lv_has ls 4 [(0, .int c0), (1, .int 7), (2, .int 2), (3, .int 3)] := hl
  refine lv_iload_n hx hb dX7_part_0 rfl (lv_at hl 0 rfl) ?_
  refine lv_iload_n hx hb dX7_part_1 rfl (lv_at hl 1 rfl) ?_
  refine lv_ishr hx hb dX7_part_2 ?_
  refine lv_iconst (v := 1) hx hb dX7_part_3 (by decide) ?_
  refine lv_iload_n hx hb dX7_part_4 rfl (lv_at hl 2 rfl) ?_
  refine lv_ishl hx hb dX7_part_5 ?_
  refine lv_topi (fun z1 ez1 => ?_)
  obtain rfl : z1 = 4 := ez1.trans (by decide)
  refine lv_iconst (v := 1) hx hb dX7_part_6 (by decide) ?_
  refine lv_isub hx hb dX7_part_7 ?_
  refine lv_topi (fun z2 ez2 => ?_)
  obtain rfl : z2 = 3 := ez2.trans (by decide)
  refine lv_iand hx hb dX7_part_8 ?_
  refine lv_iload_n hx hb dX7_part_9 rfl (lv_at hl 3 rfl) ?_
  refine lv_ishl hx hb dX7_part_10 ?_
  refine W.widen (k := 0) (n := 0) (by decide +kernel) (by decide +kernel) ?_
  exact W.iret (v := (((((c0 : Int32) >>> ((7 : Int32) &&& 31)) &&& 3) : Int32) <<< ((3 : Int32) &&& 31))) hx hb hr (fun t ht hW => ⟨⟨(((((c0 : Int32) >>> ((7 : Int32) &&& 31)) &&& 3) : Int32) <<< ((3 : Int32) &&& 31)), (), rfl, Or.inl rfl, by rw [ht]; exact hP, va_K.moved hW.alike hK, hD⟩, hS.F ht⟩) hS.2.2 dX7_part_11
def ow_g_X7_placedShort : List Cond := .code yX7_placedShort cX7_placedShort 2 (some .int) :: ([.methodLink RX7 466 yX7_part, .static yX7_part, .initialized RX7] ++ (ow_k_X7_part ++ (ow_k_X7_part_v1 ++ (ow_k_X7_part_v2 ++ (ow_k_X7_part_v3 ++ (ow_k_X7_part_v4 ++ (ow_k_X7_part_v5 ++ (ow_k_X7_part_v6 ++ (ow_k_X7_part_v7 ++ (ow_k_X7_part_v8 ++ (ow_k_X7_part_v9 ++ (ow_k_X7_part_v10 ++ (ow_k_X7_part_v11 ++ (ow_k_X7_part_v12 ++ (ow_k_X7_part_v13 ++ (ow_k_X7_part_v14 ++ (ow_k_X7_part_v15 ++ (ow_k_X7_part_v16 ++ (ow_k_X7_part_v17 ++ (ow_k_X7_part_v18 ++ (ow_k_X7_part_v19 ++ (ow_k_X7_part_v20 ++ (ow_k_X7_part_v21 ++ (ow_k_X7_part_v22 ++ (ow_k_X7_part_v23 ++ (ow_k_X7_part_v24 ++ (ow_k_X7_part_v25 ++ (ow_k_X7_part_v26 ++ []))))))))))))))))))))))))))))
theorem gd_g_X7_placedShort : ∀ w ∈ ow_g_X7_placedShort, (w.onTables && w.keeps) = true ∨ ∃ ty, w = Cond.arrayClass ty := List.forall_mem_cons.mpr ⟨good_of_word rfl, List.forall_mem_append.mpr ⟨fun w h => good_of_word (List.all_eq_true.mp (by decide +kernel) w h), List.forall_mem_append.mpr ⟨gd_k_X7_part, List.forall_mem_append.mpr ⟨gd_k_X7_part_v1, List.forall_mem_append.mpr ⟨gd_k_X7_part_v2, List.forall_mem_append.mpr ⟨gd_k_X7_part_v3, List.forall_mem_append.mpr ⟨gd_k_X7_part_v4, List.forall_mem_append.mpr ⟨gd_k_X7_part_v5, List.forall_mem_append.mpr ⟨gd_k_X7_part_v6, List.forall_mem_append.mpr ⟨gd_k_X7_part_v7, List.forall_mem_append.mpr ⟨gd_k_X7_part_v8, List.forall_mem_append.mpr ⟨gd_k_X7_part_v9, List.forall_mem_append.mpr ⟨gd_k_X7_part_v10, List.forall_mem_append.mpr ⟨gd_k_X7_part_v11, List.forall_mem_append.mpr ⟨gd_k_X7_part_v12, List.forall_mem_append.mpr ⟨gd_k_X7_part_v13, List.forall_mem_append.mpr ⟨gd_k_X7_part_v14, List.forall_mem_append.mpr ⟨gd_k_X7_part_v15, List.forall_mem_append.mpr ⟨gd_k_X7_part_v16, List.forall_mem_append.mpr ⟨gd_k_X7_part_v17, List.forall_mem_append.mpr ⟨gd_k_X7_part_v18, List.forall_mem_append.mpr ⟨gd_k_X7_part_v19, List.forall_mem_append.mpr ⟨gd_k_X7_part_v20, List.forall_mem_append.mpr ⟨gd_k_X7_part_v21, List.forall_mem_append.mpr ⟨gd_k_X7_part_v22, List.forall_mem_append.mpr ⟨gd_k_X7_part_v23, List.forall_mem_append.mpr ⟨gd_k_X7_part_v24, List.forall_mem_append.mpr ⟨gd_k_X7_part_v25, List.forall_mem_append.mpr ⟨gd_k_X7_part_v26, fun _ h => nomatch h⟩⟩⟩⟩⟩⟩⟩⟩⟩⟩⟩⟩⟩⟩⟩⟩⟩⟩⟩⟩⟩⟩⟩⟩⟩⟩⟩⟩⟩
theorem gi_g_X7_placedShort_0 : GoodIn ow_g_X7_placedShort (wsS RX7 466 yX7_part ow_k_X7_part) := goodIn_app (goodIn_of _ (by decide +kernel)) (fun w h => ⟨List.mem_cons_of_mem _ (List.mem_append_right _ (List.mem_append_left _ h)), gd_k_X7_part w h⟩)
theorem gi_g_X7_placedShort_1 : GoodIn ow_g_X7_placedShort (wsS RX7 466 yX7_part ow_k_X7_part_v1) := goodIn_app (goodIn_of _ (by decide +kernel)) (fun w h => ⟨List.mem_cons_of_mem _ (List.mem_append_right _ (List.mem_append_right _ (List.mem_append_left _ h))), gd_k_X7_part_v1 w h⟩)
theorem gi_g_X7_placedShort_2 : GoodIn ow_g_X7_placedShort (wsS RX7 466 yX7_part ow_k_X7_part_v2) := goodIn_app (goodIn_of _ (by decide +kernel)) (fun w h => ⟨List.mem_cons_of_mem _ (List.mem_append_right _ (List.mem_append_right _ (List.mem_append_right _ (List.mem_append_left _ h)))), gd_k_X7_part_v2 w h⟩)
theorem gi_g_X7_placedShort_3 : GoodIn ow_g_X7_placedShort (wsS RX7 466 yX7_part ow_k_X7_part_v3) := goodIn_app (goodIn_of _ (by decide +kernel)) (fun w h => ⟨List.mem_cons_of_mem _ (List.mem_append_right _ (List.mem_append_right _ (List.mem_append_right _ (List.mem_append_right _ (List.mem_append_left _ h))))), gd_k_X7_part_v3 w h⟩)
theorem gi_g_X7_placedShort_4 : GoodIn ow_g_X7_placedShort (wsS RX7 466 yX7_part ow_k_X7_part_v4) := goodIn_app (goodIn_of _ (by decide +kernel)) (fun w h => ⟨List.mem_cons_of_mem _ (List.mem_append_right _ (List.mem_append_right _ (List.mem_append_right _ (List.mem_append_right _ (List.mem_append_right _ (List.mem_append_left _ h)))))), gd_k_X7_part_v4 w h⟩)
theorem gi_g_X7_placedShort_5 : GoodIn ow_g_X7_placedShort (wsS RX7 466 yX7_part ow_k_X7_part_v5) := goodIn_app (goodIn_of _ (by decide +kernel)) (fun w h => ⟨List.mem_cons_of_mem _ (List.mem_append_right _ (List.mem_append_right _ (List.mem_append_right _ (List.mem_append_right _ (List.mem_append_right _ (List.mem_append_right _ (List.mem_append_left _ h))))))), gd_k_X7_part_v5 w h⟩)
theorem gi_g_X7_placedShort_6 : GoodIn ow_g_X7_placedShort (wsS RX7 466 yX7_part ow_k_X7_part_v6) := goodIn_app (goodIn_of _ (by decide +kernel)) (fun w h => ⟨List.mem_cons_of_mem _ (List.mem_append_right _ (List.mem_append_right _ (List.mem_append_right _ (List.mem_append_right _ (List.mem_append_right _ (List.mem_append_right _ (List.mem_append_right _ (List.mem_append_left _ h)))))))), gd_k_X7_part_v6 w h⟩)
theorem gi_g_X7_placedShort_7 : GoodIn ow_g_X7_placedShort (wsS RX7 466 yX7_part ow_k_X7_part_v7) := goodIn_app (goodIn_of _ (by decide +kernel)) (fun w h => ⟨List.mem_cons_of_mem _ (List.mem_append_right _ (List.mem_append_right _ (List.mem_append_right _ (List.mem_append_right _ (List.mem_append_right _ (List.mem_append_right _ (List.mem_append_right _ (List.mem_append_right _ (List.mem_append_left _ h))))))))), gd_k_X7_part_v7 w h⟩)
theorem gi_g_X7_placedShort_8 : GoodIn ow_g_X7_placedShort (wsS RX7 466 yX7_part ow_k_X7_part_v8) := goodIn_app (goodIn_of _ (by decide +kernel)) (fun w h => ⟨List.mem_cons_of_mem _ (List.mem_append_right _ (List.mem_append_right _ (List.mem_append_right _ (List.mem_append_right _ (List.mem_append_right _ (List.mem_append_right _ (List.mem_append_right _ (List.mem_append_right _ (List.mem_append_right _ (List.mem_append_left _ h)))))))))), gd_k_X7_part_v8 w h⟩)
theorem gi_g_X7_placedShort_9 : GoodIn ow_g_X7_placedShort (wsS RX7 466 yX7_part ow_k_X7_part_v9) := goodIn_app (goodIn_of _ (by decide +kernel)) (fun w h => ⟨List.mem_cons_of_mem _ (List.mem_append_right _ (List.mem_append_right _ (List.mem_append_right _ (List.mem_append_right _ (List.mem_append_right _ (List.mem_append_right _ (List.mem_append_right _ (List.mem_append_right _ (List.mem_append_right _ (List.mem_append_right _ (List.mem_append_left _ h))))))))))), gd_k_X7_part_v9 w h⟩)
theorem gi_g_X7_placedShort_10 : GoodIn ow_g_X7_placedShort (wsS RX7 466 yX7_part ow_k_X7_part_v10) := goodIn_app (goodIn_of _ (by decide +kernel)) (fun w h => ⟨List.mem_cons_of_mem _ (List.mem_append_right _ (List.mem_append_right _ (List.mem_append_right _ (List.mem_append_right _ (List.mem_append_right _ (List.mem_append_right _ (List.mem_append_right _ (List.mem_append_right _ (List.mem_append_right _ (List.mem_append_right _ (List.mem_append_right _ (List.mem_append_left _ h)))))))))))), gd_k_X7_part_v10 w h⟩)
theorem gi_g_X7_placedShort_11 : GoodIn ow_g_X7_placedShort (wsS RX7 466 yX7_part ow_k_X7_part_v11) := goodIn_app (goodIn_of _ (by decide +kernel)) (fun w h => ⟨List.mem_cons_of_mem _ (List.mem_append_right _ (List.mem_append_right _ (List.mem_append_right _ (List.mem_append_right _ (List.mem_append_right _ (List.mem_append_right _ (List.mem_append_right _ (List.mem_append_right _ (List.mem_append_right _ (List.mem_append_right _ (List.mem_append_right _ (List.mem_append_right _ (List.mem_append_left _ h))))))))))))), gd_k_X7_part_v11 w h⟩)
theorem gi_g_X7_placedShort_12 : GoodIn ow_g_X7_placedShort (wsS RX7 466 yX7_part ow_k_X7_part_v12) := goodIn_app (goodIn_of _ (by decide +kernel)) (fun w h => ⟨List.mem_cons_of_mem _ (List.mem_append_right _ (List.mem_append_right _ (List.mem_append_right _ (List.mem_append_right _ (List.mem_append_right _ (List.mem_append_right _ (List.mem_append_right _ (List.mem_append_right _ (List.mem_append_right _ (List.mem_append_right _ (List.mem_append_right _ (List.mem_append_right _ (List.mem_append_right _ (List.mem_append_left _ h)))))))))))))), gd_k_X7_part_v12 w h⟩)
theorem gi_g_X7_placedShort_13 : GoodIn ow_g_X7_placedShort (wsS RX7 466 yX7_part ow_k_X7_part_v13) := goodIn_app (goodIn_of _ (by decide +kernel)) (fun w h => ⟨List.mem_cons_of_mem _ (List.mem_append_right _ (List.mem_append_right _ (List.mem_append_right _ (List.mem_append_right _ (List.mem_append_right _ (List.mem_append_right _ (List.mem_append_right _ (List.mem_append_right _ (List.mem_append_right _ (List.mem_append_right _ (List.mem_append_right _ (List.mem_append_right _ (List.mem_append_right _ (List.mem_append_right _ (List.mem_append_left _ h))))))))))))))), gd_k_X7_part_v13 w h⟩)
theorem gi_g_X7_placedShort_14 : GoodIn ow_g_X7_placedShort (wsS RX7 466 yX7_part ow_k_X7_part_v14) := goodIn_app (goodIn_of _ (by decide +kernel)) (fun w h => ⟨List.mem_cons_of_mem _ (List.mem_append_right _ (List.mem_append_right _ (List.mem_append_right _ (List.mem_append_right _ (List.mem_append_right _ (List.mem_append_right _ (List.mem_append_right _ (List.mem_append_right _ (List.mem_append_right _ (List.mem_append_right _ (List.mem_append_right _ (List.mem_append_right _ (List.mem_append_right _ (List.mem_append_right _ (List.mem_append_right _ (List.mem_append_left _ h)))))))))))))))), gd_k_X7_part_v14 w h⟩)
theorem gi_g_X7_placedShort_15 : GoodIn ow_g_X7_placedShort (wsS RX7 466 yX7_part ow_k_X7_part_v15) := goodIn_app (goodIn_of _ (by decide +kernel)) (fun w h => ⟨List.mem_cons_of_mem _ (List.mem_append_right _ (List.mem_append_right _ (List.mem_append_right _ (List.mem_append_right _ (List.mem_append_right _ (List.mem_append_right _ (List.mem_append_right _ (List.mem_append_right _ (List.mem_append_right _ (List.mem_append_right _ (List.mem_append_right _ (List.mem_append_right _ (List.mem_append_right _ (List.mem_append_right _ (List.mem_append_right _ (List.mem_append_right _ (List.mem_append_left _ h))))))))))))))))), gd_k_X7_part_v15 w h⟩)
theorem gi_g_X7_placedShort_16 : GoodIn ow_g_X7_placedShort (wsS RX7 466 yX7_part ow_k_X7_part_v16) := goodIn_app (goodIn_of _ (by decide +kernel)) (fun w h => ⟨List.mem_cons_of_mem _ (List.mem_append_right _ (List.mem_append_right _ (List.mem_append_right _ (List.mem_append_right _ (List.mem_append_right _ (List.mem_append_right _ (List.mem_append_right _ (List.mem_append_right _ (List.mem_append_right _ (List.mem_append_right _ (List.mem_append_right _ (List.mem_append_right _ (List.mem_append_right _ (List.mem_append_right _ (List.mem_append_right _ (List.mem_append_right _ (List.mem_append_right _ (List.mem_append_left _ h)))))))))))))))))), gd_k_X7_part_v16 w h⟩)
theorem gi_g_X7_placedShort_17 : GoodIn ow_g_X7_placedShort (wsS RX7 466 yX7_part ow_k_X7_part_v17) := goodIn_app (goodIn_of _ (by decide +kernel)) (fun w h => ⟨List.mem_cons_of_mem _ (List.mem_append_right _ (List.mem_append_right _ (List.mem_append_right _ (List.mem_append_right _ (List.mem_append_right _ (List.mem_append_right _ (List.mem_append_right _ (List.mem_append_right _ (List.mem_append_right _ (List.mem_append_right _ (List.mem_append_right _ (List.mem_append_right _ (List.mem_append_right _ (List.mem_append_right _ (List.mem_append_right _ (List.mem_append_right _ (List.mem_append_right _ (List.mem_append_right _ (List.mem_append_left _ h))))))))))))))))))), gd_k_X7_part_v17 w h⟩)
theorem gi_g_X7_placedShort_18 : GoodIn ow_g_X7_placedShort (wsS RX7 466 yX7_part ow_k_X7_part_v18) := goodIn_app (goodIn_of _ (by decide +kernel)) (fun w h => ⟨List.mem_cons_of_mem _ (List.mem_append_right _ (List.mem_append_right _ (List.mem_append_right _ (List.mem_append_right _ (List.mem_append_right _ (List.mem_append_right _ (List.mem_append_right _ (List.mem_append_right _ (List.mem_append_right _ (List.mem_append_right _ (List.mem_append_right _ (List.mem_append_right _ (List.mem_append_right _ (List.mem_append_right _ (List.mem_append_right _ (List.mem_append_right _ (List.mem_append_right _ (List.mem_append_right _ (List.mem_append_right _ (List.mem_append_left _ h)))))))))))))))))))), gd_k_X7_part_v18 w h⟩)
theorem gi_g_X7_placedShort_19 : GoodIn ow_g_X7_placedShort (wsS RX7 466 yX7_part ow_k_X7_part_v19) := goodIn_app (goodIn_of _ (by decide +kernel)) (fun w h => ⟨List.mem_cons_of_mem _ (List.mem_append_right _ (List.mem_append_right _ (List.mem_append_right _ (List.mem_append_right _ (List.mem_append_right _ (List.mem_append_right _ (List.mem_append_right _ (List.mem_append_right _ (List.mem_append_right _ (List.mem_append_right _ (List.mem_append_right _ (List.mem_append_right _ (List.mem_append_right _ (List.mem_append_right _ (List.mem_append_right _ (List.mem_append_right _ (List.mem_append_right _ (List.mem_append_right _ (List.mem_append_right _ (List.mem_append_right _ (List.mem_append_left _ h))))))))))))))))))))), gd_k_X7_part_v19 w h⟩)
theorem gi_g_X7_placedShort_20 : GoodIn ow_g_X7_placedShort (wsS RX7 466 yX7_part ow_k_X7_part_v20) := goodIn_app (goodIn_of _ (by decide +kernel)) (fun w h => ⟨List.mem_cons_of_mem _ (List.mem_append_right _ (List.mem_append_right _ (List.mem_append_right _ (List.mem_append_right _ (List.mem_append_right _ (List.mem_append_right _ (List.mem_append_right _ (List.mem_append_right _ (List.mem_append_right _ (List.mem_append_right _ (List.mem_append_right _ (List.mem_append_right _ (List.mem_append_right _ (List.mem_append_right _ (List.mem_append_right _ (List.mem_append_right _ (List.mem_append_right _ (List.mem_append_right _ (List.mem_append_right _ (List.mem_append_right _ (List.mem_append_right _ (List.mem_append_left _ h)))))))))))))))))))))), gd_k_X7_part_v20 w h⟩)
theorem gi_g_X7_placedShort_21 : GoodIn ow_g_X7_placedShort (wsS RX7 466 yX7_part ow_k_X7_part_v21) := goodIn_app (goodIn_of _ (by decide +kernel)) (fun w h => ⟨List.mem_cons_of_mem _ (List.mem_append_right _ (List.mem_append_right _ (List.mem_append_right _ (List.mem_append_right _ (List.mem_append_right _ (List.mem_append_right _ (List.mem_append_right _ (List.mem_append_right _ (List.mem_append_right _ (List.mem_append_right _ (List.mem_append_right _ (List.mem_append_right _ (List.mem_append_right _ (List.mem_append_right _ (List.mem_append_right _ (List.mem_append_right _ (List.mem_append_right _ (List.mem_append_right _ (List.mem_append_right _ (List.mem_append_right _ (List.mem_append_right _ (List.mem_append_right _ (List.mem_append_left _ h))))))))))))))))))))))), gd_k_X7_part_v21 w h⟩)
theorem gi_g_X7_placedShort_22 : GoodIn ow_g_X7_placedShort (wsS RX7 466 yX7_part ow_k_X7_part_v22) := goodIn_app (goodIn_of _ (by decide +kernel)) (fun w h => ⟨List.mem_cons_of_mem _ (List.mem_append_right _ (List.mem_append_right _ (List.mem_append_right _ (List.mem_append_right _ (List.mem_append_right _ (List.mem_append_right _ (List.mem_append_right _ (List.mem_append_right _ (List.mem_append_right _ (List.mem_append_right _ (List.mem_append_right _ (List.mem_append_right _ (List.mem_append_right _ (List.mem_append_right _ (List.mem_append_right _ (List.mem_append_right _ (List.mem_append_right _ (List.mem_append_right _ (List.mem_append_right _ (List.mem_append_right _ (List.mem_append_right _ (List.mem_append_right _ (List.mem_append_right _ (List.mem_append_left _ h)))))))))))))))))))))))), gd_k_X7_part_v22 w h⟩)
theorem gi_g_X7_placedShort_23 : GoodIn ow_g_X7_placedShort (wsS RX7 466 yX7_part ow_k_X7_part_v23) := goodIn_app (goodIn_of _ (by decide +kernel)) (fun w h => ⟨List.mem_cons_of_mem _ (List.mem_append_right _ (List.mem_append_right _ (List.mem_append_right _ (List.mem_append_right _ (List.mem_append_right _ (List.mem_append_right _ (List.mem_append_right _ (List.mem_append_right _ (List.mem_append_right _ (List.mem_append_right _ (List.mem_append_right _ (List.mem_append_right _ (List.mem_append_right _ (List.mem_append_right _ (List.mem_append_right _ (List.mem_append_right _ (List.mem_append_right _ (List.mem_append_right _ (List.mem_append_right _ (List.mem_append_right _ (List.mem_append_right _ (List.mem_append_right _ (List.mem_append_right _ (List.mem_append_right _ (List.mem_append_left _ h))))))))))))))))))))))))), gd_k_X7_part_v23 w h⟩)
theorem gi_g_X7_placedShort_24 : GoodIn ow_g_X7_placedShort (wsS RX7 466 yX7_part ow_k_X7_part_v24) := goodIn_app (goodIn_of _ (by decide +kernel)) (fun w h => ⟨List.mem_cons_of_mem _ (List.mem_append_right _ (List.mem_append_right _ (List.mem_append_right _ (List.mem_append_right _ (List.mem_append_right _ (List.mem_append_right _ (List.mem_append_right _ (List.mem_append_right _ (List.mem_append_right _ (List.mem_append_right _ (List.mem_append_right _ (List.mem_append_right _ (List.mem_append_right _ (List.mem_append_right _ (List.mem_append_right _ (List.mem_append_right _ (List.mem_append_right _ (List.mem_append_right _ (List.mem_append_right _ (List.mem_append_right _ (List.mem_append_right _ (List.mem_append_right _ (List.mem_append_right _ (List.mem_append_right _ (List.mem_append_right _ (List.mem_append_left _ h)))))))))))))))))))))))))), gd_k_X7_part_v24 w h⟩)
theorem gi_g_X7_placedShort_25 : GoodIn ow_g_X7_placedShort (wsS RX7 466 yX7_part ow_k_X7_part_v25) := goodIn_app (goodIn_of _ (by decide +kernel)) (fun w h => ⟨List.mem_cons_of_mem _ (List.mem_append_right _ (List.mem_append_right _ (List.mem_append_right _ (List.mem_append_right _ (List.mem_append_right _ (List.mem_append_right _ (List.mem_append_right _ (List.mem_append_right _ (List.mem_append_right _ (List.mem_append_right _ (List.mem_append_right _ (List.mem_append_right _ (List.mem_append_right _ (List.mem_append_right _ (List.mem_append_right _ (List.mem_append_right _ (List.mem_append_right _ (List.mem_append_right _ (List.mem_append_right _ (List.mem_append_right _ (List.mem_append_right _ (List.mem_append_right _ (List.mem_append_right _ (List.mem_append_right _ (List.mem_append_right _ (List.mem_append_right _ (List.mem_append_left _ h))))))))))))))))))))))))))), gd_k_X7_part_v25 w h⟩)
theorem gi_g_X7_placedShort_26 : GoodIn ow_g_X7_placedShort (wsS RX7 466 yX7_part ow_k_X7_part_v26) := goodIn_app (goodIn_of _ (by decide +kernel)) (fun w h => ⟨List.mem_cons_of_mem _ (List.mem_append_right _ (List.mem_append_right _ (List.mem_append_right _ (List.mem_append_right _ (List.mem_append_right _ (List.mem_append_right _ (List.mem_append_right _ (List.mem_append_right _ (List.mem_append_right _ (List.mem_append_right _ (List.mem_append_right _ (List.mem_append_right _ (List.mem_append_right _ (List.mem_append_right _ (List.mem_append_right _ (List.mem_append_right _ (List.mem_append_right _ (List.mem_append_right _ (List.mem_append_right _ (List.mem_append_right _ (List.mem_append_right _ (List.mem_append_right _ (List.mem_append_right _ (List.mem_append_right _ (List.mem_append_right _ (List.mem_append_right _ (List.mem_append_right _ (List.mem_append_left _ h)))))))))))))))))))))))))))), gd_k_X7_part_v26 w h⟩)
