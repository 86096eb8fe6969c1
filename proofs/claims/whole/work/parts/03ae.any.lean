set_option maxHeartbeats 40000000 in
set_option maxRecDepth 100000 in
theorem g_X16_branch (l : Launch) (hlt : l.stackTraces = false) (dC : Nat → ClassId) (dI : Nat → Nat → Nat) (v0 : Int32) (v1 : Int32) (v2 : Int32) (sz : Nat) : Met l yX16_branch ow_g_X16_branch ({ frames := 2, cells := 0, slots := 0, locals := 45 }) (va_Pc [.int v0, .int v1, .int v2] (fun U => U.heap.size = sz ∧ va_P (dC, dI) vwCl [] U.heap ∧ va_K (dC, dI) vwCl [] U ∧ va_D (fun _ => True) [] ∧ nv_E (va_A [] sz) U)) (va_Qi (fun r _ => (r = ((((((99 ||| ((((((v2 : Int32).toUInt32 >>> ((11 : Int32).toUInt32 &&& Int32.toUInt32 31)).toInt32) &&& 1) : Int32) <<< ((7 : Int32) &&& 31))) ||| ((((((v2 : Int32).toUInt32 >>> ((1 : Int32).toUInt32 &&& Int32.toUInt32 31)).toInt32) &&& 15) : Int32) <<< ((8 : Int32) &&& 31))) ||| ((v0 : Int32) <<< ((12 : Int32) &&& 31))) ||| ((v1 : Int32) <<< ((15 : Int32) &&& 31))) ||| ((((((v2 : Int32).toUInt32 >>> ((5 : Int32).toUInt32 &&& Int32.toUInt32 31)).toInt32) &&& 63) : Int32) <<< ((25 : Int32) &&& 31))) ||| ((((((v2 : Int32).toUInt32 >>> ((12 : Int32).toUInt32 &&& Int32.toUInt32 31)).toInt32) &&& 1) : Int32) <<< ((31 : Int32) &&& 31)))) ∨ False) (fun (_ : Unit) t => va_P (dC, dI) vwCl [] t.heap ∧ va_K (dC, dI) vwCl [] t ∧ va_D (va_A [] sz) []) (va_A [] sz)) 0 0 (va_A [] sz) := by
  refine Met.ofW (cc := cX16_branch) (maxL := 3) (ret := (some .int)) (by decide) rfl ?_
  intro p e s m args below meth c s₁ B hml hv
  obtain ⟨rfl, hsz, hP, hK, hD0, hN⟩ := hv
  have hx := B.exec
  have hb := B.bytes
  have hr := B.returns
  have hts := atoms_spec (ws := ow_g_X16_branch) B.pre
  have hown : s.vm.findClass RX16 = some m.cls := findClass_of_methodNamed B.named
  have hlocks := B.notSynchronized
  subst hsz
  have hD := hD0.self (sz := s.heap.size)
  generalize hAe : va_A [] s.heap.size = A at hD hN ⊢
  have hA : ∀ q : Nat, s.heap.size ≤ q → A q := fun q h => by rw [← hAe]; exact Or.inr h
  have hS : va_S A s.heap s.heap [] := va_S.rf
  have hl := lv_entry ([.int v0, .int v1, .int v2]) (n := 3) (Nat.le_of_ble_eq_true rfl)
  rw [lg_entry_eq]
  generalize (lg_sl ([.int v0, .int v1, .int v2]) ++ List.replicate (3 - (lg_sl ([.int v0, .int v1, .int v2])).length) Slot.unset).toArray = ls at hl ⊢
  have hl : lv_has ls 3 [(0, .int v0), (1, .int v1), (2, .int v2)] := hl
  refine lv_bipush (v := 99) hx hb dX16_branch_0 (by decide) ?_
  refine lv_iload_n hx hb dX16_branch_2 rfl (lv_at hl 2 rfl) ?_
  refine lv_bipush (v := 11) hx hb dX16_branch_3 (by decide) ?_
  refine lv_iconst (v := 1) hx hb dX16_branch_5 (by decide) ?_
  refine lv_bipush (v := 7) hx hb dX16_branch_6 (by decide) ?_
  have hPc := hP.sub (ws' := []) [] rfl
  have hDc := hD.sub (ws' := []) [] (by decide) rfl
  have hKc := hK.sub (tys' := []) [] rfl
  have hFc := va_free (wc := []) hD hS hA [] rfl
  refine va_calli (va_runS (As := [.int v2, .int 11, .int 1, .int 7]) (rest := [.int 99]) ⟨hx, hb, hml, hown, hts⟩ (k_X16_bit_v6 l hlt dC dI v2  s.heap.size) (cwS 4 hts gi_g_X16_branch_0 rfl rfl rfl (by decide +kernel) ⟨Nat.le_of_ble_eq_true rfl, Nat.le_of_ble_eq_true rfl⟩) ⟨fun a U g mk q => by obtain ⟨q0, q1, qP, qK, qD, qN⟩ := q; exact ⟨q0, q1, qP, va_K.moved (u := U) (U := U.calling g mk a) (Vm.Alike.refl U.vm) qK, qD, nv_same rfl rfl qN⟩, fun U hU hW => ⟨rfl, by rw [hU], by rw [hU]; exact hPc, va_K.moved hW.alike hKc, hDc.weaken (fun _ _ _ _ => trivial), nv_call hS hFc hU hW hN⟩⟩ rfl rfl hl.1 rfl (lv_room (Nat.le_of_ble_eq_true rfl)) dX16_branch_8 ⟨by decide +kernel, by decide +kernel⟩) hS (fun q _ h => hFc q h) hFc (fun r1 u t H1 locs ht hvm hw hB hz1 hk1 hS => ?_)
  obtain ⟨hP1, hK1, hD1⟩ := hB
  rw [ht] at hP1
  have hK1 := va_K.moved hvm.symm hK1
  obtain ⟨hP, hD⟩ := va_join (wr := []) (w1 := []) hP hD [] [] rfl rfl (by decide) (by decide) hk1 hFc hP1 hD1
  have hK := (hK.sub (tys' := []) [] rfl).app hK1
  generalize H1 = H at hP hS ⊢
  have hP : va_P (dC, dI) vwCl [] H := hP
  have hD : va_D A [] := hD
  have hK : va_K (dC, dI) vwCl [] s := hK
  refine W.widen (k := 0) (n := 0) (by decide +kernel) (by decide +kernel) ?_
  rcases hw with h9 | h9
  · subst h9
    refine lv_ior hx hb dX16_branch_11 ?_
    refine lv_iload_n hx hb dX16_branch_12 rfl (lv_at hl 2 rfl) ?_
    refine lv_iconst (v := 1) hx hb dX16_branch_13 (by decide) ?_
    refine lv_iconst (v := 4) hx hb dX16_branch_14 (by decide) ?_
    refine lv_bipush (v := 8) hx hb dX16_branch_15 (by decide) ?_
    have hPc := hP.sub (ws' := []) [] rfl
    have hDc := hD.sub (ws' := []) [] (by decide) rfl
    have hKc := hK.sub (tys' := []) [] rfl
    have hFc := va_free (wc := []) hD hS hA [] rfl
    refine va_calli (va_runS (As := [.int v2, .int 1, .int 4, .int 8]) (rest := [.int (99 ||| ((((((v2 : Int32).toUInt32 >>> ((11 : Int32).toUInt32 &&& Int32.toUInt32 31)).toInt32) &&& 1) : Int32) <<< ((7 : Int32) &&& 31)))]) ⟨hx, hb, hml, hown, hts⟩ (k_X16_bit_v7 l hlt dC dI v2  H.size) (cwS 4 hts gi_g_X16_branch_1 rfl rfl rfl (by decide +kernel) ⟨Nat.le_of_ble_eq_true rfl, Nat.le_of_ble_eq_true rfl⟩) ⟨fun a U g mk q => by obtain ⟨q0, q1, qP, qK, qD, qN⟩ := q; exact ⟨q0, q1, qP, va_K.moved (u := U) (U := U.calling g mk a) (Vm.Alike.refl U.vm) qK, qD, nv_same rfl rfl qN⟩, fun U hU hW => ⟨rfl, by rw [hU], by rw [hU]; exact hPc, va_K.moved hW.alike hKc, hDc.weaken (fun _ _ _ _ => trivial), nv_call hS hFc hU hW hN⟩⟩ rfl rfl hl.1 rfl (lv_room (Nat.le_of_ble_eq_true rfl)) dX16_branch_17 ⟨by decide +kernel, by decide +kernel⟩) hS (fun q _ h => hFc q h) hFc (fun r2 u t H1 locs ht hvm hw hB hz1 hk1 hS => ?_)
    obtain ⟨hP1, hK1, hD1⟩ := hB
    rw [ht] at hP1
    have hK1 := va_K.moved hvm.symm hK1
    obtain ⟨hP, hD⟩ := va_join (wr := []) (w1 := []) hP hD [] [] rfl rfl (by decide) (by decide) hk1 hFc hP1 hD1
    have hK := (hK.sub (tys' := []) [] rfl).app hK1
    generalize H1 = H at hP hS ⊢
    have hP : va_P (dC, dI) vwCl [] H := hP
    have hD : va_D A [] := hD
    have hK : va_K (dC, dI) vwCl [] s := hK
    refine W.widen (k := 0) (n := 0) (by decide +kernel) (by decide +kernel) ?_
    rcases hw with h9 | h9
    · subst h9
      refine lv_ior hx hb dX16_branch_20 ?_
      refine lv_iload_n hx hb dX16_branch_21 rfl (lv_at hl 0 rfl) ?_
      refine lv_bipush (v := 12) hx hb dX16_branch_22 (by decide) ?_
      refine lv_ishl hx hb dX16_branch_24 ?_
      refine lv_ior hx hb dX16_branch_25 ?_
      refine lv_iload_n hx hb dX16_branch_26 rfl (lv_at hl 1 rfl) ?_
      refine lv_bipush (v := 15) hx hb dX16_branch_27 (by decide) ?_
      refine lv_ishl hx hb dX16_branch_29 ?_
      refine lv_ior hx hb dX16_branch_30 ?_
      refine lv_iload_n hx hb dX16_branch_31 rfl (lv_at hl 2 rfl) ?_
      refine lv_iconst (v := 5) hx hb dX16_branch_32 (by decide) ?_
      refine lv_bipush (v := 6) hx hb dX16_branch_33 (by decide) ?_
      refine lv_bipush (v := 25) hx hb dX16_branch_35 (by decide) ?_
      have hPc := hP.sub (ws' := []) [] rfl
      have hDc := hD.sub (ws' := []) [] (by decide) rfl
      have hKc := hK.sub (tys' := []) [] rfl
      have hFc := va_free (wc := []) hD hS hA [] rfl
      refine va_calli (va_runS (As := [.int v2, .int 5, .int 6, .int 25]) (rest := [.int ((((99 ||| ((((((v2 : Int32).toUInt32 >>> ((11 : Int32).toUInt32 &&& Int32.toUInt32 31)).toInt32) &&& 1) : Int32) <<< ((7 : Int32) &&& 31))) ||| ((((((v2 : Int32).toUInt32 >>> ((1 : Int32).toUInt32 &&& Int32.toUInt32 31)).toInt32) &&& 15) : Int32) <<< ((8 : Int32) &&& 31))) ||| ((v0 : Int32) <<< ((12 : Int32) &&& 31))) ||| ((v1 : Int32) <<< ((15 : Int32) &&& 31)))]) ⟨hx, hb, hml, hown, hts⟩ (k_X16_bit_v8 l hlt dC dI v2  H.size) (cwS 4 hts gi_g_X16_branch_2 rfl rfl rfl (by decide +kernel) ⟨Nat.le_of_ble_eq_true rfl, Nat.le_of_ble_eq_true rfl⟩) ⟨fun a U g mk q => by obtain ⟨q0, q1, qP, qK, qD, qN⟩ := q; exact ⟨q0, q1, qP, va_K.moved (u := U) (U := U.calling g mk a) (Vm.Alike.refl U.vm) qK, qD, nv_same rfl rfl qN⟩, fun U hU hW => ⟨rfl, by rw [hU], by rw [hU]; exact hPc, va_K.moved hW.alike hKc, hDc.weaken (fun _ _ _ _ => trivial), nv_call hS hFc hU hW hN⟩⟩ rfl rfl hl.1 rfl (lv_room (Nat.le_of_ble_eq_true rfl)) dX16_branch_37 ⟨by decide +kernel, by decide +kernel⟩) hS (fun q _ h => hFc q h) hFc (fun r3 u t H1 locs ht hvm hw hB hz1 hk1 hS => ?_)
      obtain ⟨hP1, hK1, hD1⟩ := hB
      rw [ht] at hP1
      have hK1 := va_K.moved hvm.symm hK1
      obtain ⟨hP, hD⟩ := va_join (wr := []) (w1 := []) hP hD [] [] rfl rfl (by decide) (by decide) hk1 hFc hP1 hD1
      have hK := (hK.sub (tys' := []) [] rfl).app hK1
      generalize H1 = H at hP hS ⊢
      have hP : va_P (dC, dI) vwCl [] H := hP
      have hD : va_D A [] := hD
      have hK : va_K (dC, dI) vwCl [] s := hK
      refine W.widen (k := 0) (n := 0) (by decide +kernel) (by decide +kernel) ?_
      rcases hw with h9 | h9
      · subst h9
        refine lv_ior hx hb dX16_branch_40 ?_
        refine lv_iload_n hx hb dX16_branch_41 rfl (lv_at hl 2 rfl) ?_
        refine lv_bipush (v := 12) hx hb dX16_branch_42 (by decide) ?_
        refine lv_iconst (v := 1) hx hb dX16_branch_44 (by decide) ?_
        refine lv_bipush (v := 31) hx hb dX16_branch_45 (by decide) ?_
        have hPc := hP.sub (ws' := []) [] rfl
        have hDc := hD.sub (ws' := []) [] (by decide) rfl
        have hKc := hK.sub (tys' := []) [] rfl
        have hFc := va_free (wc := []) hD hS hA [] rfl
        refine va_calli (va_runS (As := [.int v2, .int 12, .int 1, .int 31]) (rest := [.int (((((99 ||| ((((((v2 : Int32).toUInt32 >>> ((11 : Int32).toUInt32 &&& Int32.toUInt32 31)).toInt32) &&& 1) : Int32) <<< ((7 : Int32) &&& 31))) ||| ((((((v2 : Int32).toUInt32 >>> ((1 : Int32).toUInt32 &&& Int32.toUInt32 31)).toInt32) &&& 15) : Int32) <<< ((8 : Int32) &&& 31))) ||| ((v0 : Int32) <<< ((12 : Int32) &&& 31))) ||| ((v1 : Int32) <<< ((15 : Int32) &&& 31))) ||| ((((((v2 : Int32).toUInt32 >>> ((5 : Int32).toUInt32 &&& Int32.toUInt32 31)).toInt32) &&& 63) : Int32) <<< ((25 : Int32) &&& 31)))]) ⟨hx, hb, hml, hown, hts⟩ (k_X16_bit_v9 l hlt dC dI v2  H.size) (cwS 4 hts gi_g_X16_branch_3 rfl rfl rfl (by decide +kernel) ⟨Nat.le_of_ble_eq_true rfl, Nat.le_of_ble_eq_true rfl⟩) ⟨fun a U g mk q => by obtain ⟨q0, q1, qP, qK, qD, qN⟩ := q; exact ⟨q0, q1, qP, va_K.moved (u := U) (U := U.calling g mk a) (Vm.Alike.refl U.vm) qK, qD, nv_same rfl rfl qN⟩, fun U hU hW => ⟨rfl, by rw [hU], by rw [hU]; exact hPc, va_K.moved hW.alike hKc, hDc.weaken (fun _ _ _ _ => trivial), nv_call hS hFc hU hW hN⟩⟩ rfl rfl hl.1 rfl (lv_room (Nat.le_of_ble_eq_true rfl)) dX16_branch_47 ⟨by decide +kernel, by decide +kernel⟩) hS (fun q _ h => hFc q h) hFc (fun r4 u t H1 locs ht hvm hw hB hz1 hk1 hS => ?_)
        obtain ⟨hP1, hK1, hD1⟩ := hB
        rw [ht] at hP1
        have hK1 := va_K.moved hvm.symm hK1
        obtain ⟨hP, hD⟩ := va_join (wr := []) (w1 := []) hP hD [] [] rfl rfl (by decide) (by decide) hk1 hFc hP1 hD1
        have hK := (hK.sub (tys' := []) [] rfl).app hK1
        generalize H1 = H at hP hS ⊢
        have hP : va_P (dC, dI) vwCl [] H := hP
        have hD : va_D A [] := hD
        have hK : va_K (dC, dI) vwCl [] s := hK
        refine W.widen (k := 0) (n := 0) (by decide +kernel) (by decide +kernel) ?_
        rcases hw with h9 | h9
        · subst h9
          refine lv_ior hx hb dX16_branch_50 ?_
          refine W.widen (k := 0) (n := 0) (by decide +kernel) (by decide +kernel) ?_
          exact W.iret (v := ((((((99 ||| ((((((v2 : Int32).toUInt32 >>> ((11 : Int32).toUInt32 &&& Int32.toUInt32 31)).toInt32) &&& 1) : Int32) <<< ((7 : Int32) &&& 31))) ||| ((((((v2 : Int32).toUInt32 >>> ((1 : Int32).toUInt32 &&& Int32.toUInt32 31)).toInt32) &&& 15) : Int32) <<< ((8 : Int32) &&& 31))) ||| ((v0 : Int32) <<< ((12 : Int32) &&& 31))) ||| ((v1 : Int32) <<< ((15 : Int32) &&& 31))) ||| ((((((v2 : Int32).toUInt32 >>> ((5 : Int32).toUInt32 &&& Int32.toUInt32 31)).toInt32) &&& 63) : Int32) <<< ((25 : Int32) &&& 31))) ||| ((((((v2 : Int32).toUInt32 >>> ((12 : Int32).toUInt32 &&& Int32.toUInt32 31)).toInt32) &&& 1) : Int32) <<< ((31 : Int32) &&& 31)))) hx hb hr (fun t ht hW => ⟨⟨((((((99 ||| ((((((v2 : Int32).toUInt32 >>> ((11 : Int32).toUInt32 &&& Int32.toUInt32 31)).toInt32) &&& 1) : Int32) <<< ((7 : Int32) &&& 31))) ||| ((((((v2 : Int32).toUInt32 >>> ((1 : Int32).toUInt32 &&& Int32.toUInt32 31)).toInt32) &&& 15) : Int32) <<< ((8 : Int32) &&& 31))) ||| ((v0 : Int32) <<< ((12 : Int32) &&& 31))) ||| ((v1 : Int32) <<< ((15 : Int32) &&& 31))) ||| ((((((v2 : Int32).toUInt32 >>> ((5 : Int32).toUInt32 &&& Int32.toUInt32 31)).toInt32) &&& 63) : Int32) <<< ((25 : Int32) &&& 31))) ||| ((((((v2 : Int32).toUInt32 >>> ((12 : Int32).toUInt32 &&& Int32.toUInt32 31)).toInt32) &&& 1) : Int32) <<< ((31 : Int32) &&& 31))), (), rfl, Or.inl rfl, by rw [ht]; exact hP, va_K.moved hW.alike hK, hD⟩, hS.F ht⟩) hS.2.2 dX16_branch_51
        · exact h9.elim
      · exact h9.elim
    · exact h9.elim
  · exact h9.elim
def ow_k_X16_part_v10 : List Cond := .code yX16_part cX16_part 3 (some .int) :: ([] ++ [])
theorem gd_k_X16_part_v10 : ∀ w ∈ ow_k_X16_part_v10, (w.onTables && w.keeps) = true ∨ ∃ ty, w = Cond.arrayClass ty := List.forall_mem_cons.mpr ⟨good_of_word rfl, List.forall_mem_append.mpr ⟨fun w h => good_of_word (List.all_eq_true.mp (by decide +kernel) w h), fun _ h => nomatch h⟩⟩
set_option maxHeartbeats 40000000 in
set_option maxRecDepth 100000 in
theorem k_X16_part_v10 (l : Launch) (hlt : l.stackTraces = false) (dC : Nat → ClassId) (dI : Nat → Nat → Nat) (c0 : Int32) (sz : Nat) : Met l yX16_part ow_k_X16_part_v10 ({ frames := 0, cells := 0, slots := 0, locals := 0 }) (va_Pc [.int c0, .int 2, .int 3] (fun U => U.heap.size = sz ∧ va_P (dC, dI) vwCl [] U.heap ∧ va_K (dC, dI) vwCl [] U ∧ va_D (fun _ => True) [] ∧ nv_E (va_A [] sz) U)) (va_Qi (fun r _ => (r = ((((c0 : Int32).toUInt32 >>> ((2 : Int32).toUInt32 &&& Int32.toUInt32 31)).toInt32) &&& 7)) ∨ False) (fun (_ : Unit) t => va_P (dC, dI) vwCl [] t.heap ∧ va_K (dC, dI) vwCl [] t ∧ va_D (va_A [] sz) []) (va_A [] sz)) 0 0 (va_A [] sz) := by
  refine Met.ofW (cc := cX16_part) (maxL := 3) (ret := (some .int)) (by decide) rfl ?_
  intro p e s m args below meth c s₁ B hml hv
  obtain ⟨rfl, hsz, hP, hK, hD0, hN⟩ := hv
  have hx := B.exec
  have hb := B.bytes
  have hr := B.returns
  have hts := atoms_spec (ws := ow_k_X16_part_v10) B.pre
  have hown : s.vm.findClass RX16 = some m.cls := findClass_of_methodNamed B.named
  have hlocks := B.notSynchronized
  subst hsz
  have hD := hD0.self (sz := s.heap.size)
  generalize hAe : va_A [] s.heap.size = A at hD hN ⊢
  have hA : ∀ q : Nat, s.heap.size ≤ q → A q := fun q h => by rw [← hAe]; exact Or.inr h
  have hS : va_S A s.heap s.heap [] := va_S.rf
  have hl := lv_entry ([.int c0, .int 2, .int 3]) (n := 3) (Nat.le_of_ble_eq_true rfl)
  rw [lg_entry_eq]
  generalize (lg_sl ([.int c0, .int 2, .int 3]) ++ List.replicate (3 - (lg_sl ([.int c0, .int 2, .int 3])).length) Slot.unset).toArray = ls at hl ⊢
  have hl : lv_has ls 3 [(0, .int c0), (1, .int 2), (2, .int 3)] := hl
  refine lv_iload_n hx hb dX16_part_0 rfl (lv_at hl 0 rfl) ?_
  refine lv_iload_n hx hb dX16_part_1 rfl (lv_at hl 1 rfl) ?_
  refine lv_iushr hx hb dX16_part_2 rfl ?_
  refine lv_iconst (v := 1) hx hb dX16_part_3 (by decide) ?_
  refine lv_iload_n hx hb dX16_part_4 rfl (lv_at hl 2 rfl) ?_
  refine lv_ishl hx hb dX16_part_5 ?_
  refine lv_topi (fun z1 ez1 => ?_)
  obtain rfl : z1 = 8 := ez1.trans (by decide)
  refine lv_iconst (v := 1) hx hb dX16_part_6 (by decide) ?_
  refine lv_isub hx hb dX16_part_7 ?_
  refine lv_topi (fun z2 ez2 => ?_)
  obtain rfl : z2 = 7 := ez2.trans (by decide)
  refine lv_iand hx hb dX16_part_8 ?_
  refine W.widen (k := 0) (n := 0) (by decide +kernel) (by decide +kernel) ?_
  exact W.iret (v := ((((c0 : Int32).toUInt32 >>> ((2 : Int32).toUInt32 &&& Int32.toUInt32 31)).toInt32) &&& 7)) hx hb hr (fun t ht hW => ⟨⟨((((c0 : Int32).toUInt32 >>> ((2 : Int32).toUInt32 &&& Int32.toUInt32 31)).toInt32) &&& 7), (), rfl, Or.inl rfl, by rw [ht]; exact hP, va_K.moved hW.alike hK, hD⟩, hS.F ht⟩) hS.2.2 dX16_part_9
def ow_k_X16_part_v11 : List Cond := .code yX16_part cX16_part 3 (some .int) :: ([] ++ [])
theorem gd_k_X16_part_v11 : ∀ w ∈ ow_k_X16_part_v11, (w.onTables && w.keeps) = true ∨ ∃ ty, w = Cond.arrayClass ty := List.forall_mem_cons.mpr ⟨good_of_word rfl, List.forall_mem_append.mpr ⟨fun w h => good_of_word (List.all_eq_true.mp (by decide +kernel) w h), fun _ h => nomatch h⟩⟩
set_option maxHeartbeats 40000000 in
set_option maxRecDepth 100000 in
theorem k_X16_part_v11 (l : Launch) (hlt : l.stackTraces = false) (dC : Nat → ClassId) (dI : Nat → Nat → Nat) (c0 : Int32) (sz : Nat) : Met l yX16_part ow_k_X16_part_v11 ({ frames := 0, cells := 0, slots := 0, locals := 0 }) (va_Pc [.int c0, .int 7, .int 3] (fun U => U.heap.size = sz ∧ va_P (dC, dI) vwCl [] U.heap ∧ va_K (dC, dI) vwCl [] U ∧ va_D (fun _ => True) [] ∧ nv_E (va_A [] sz) U)) (va_Qi (fun r _ => (r = ((((c0 : Int32).toUInt32 >>> ((7 : Int32).toUInt32 &&& Int32.toUInt32 31)).toInt32) &&& 7)) ∨ False) (fun (_ : Unit) t => va_P (dC, dI) vwCl [] t.heap ∧ va_K (dC, dI) vwCl [] t ∧ va_D (va_A [] sz) []) (va_A [] sz)) 0 0 (va_A [] sz) := by
  refine Met.ofW (cc := cX16_part) (maxL := 3) (ret := (some .int)) (by decide) rfl ?_
  intro p e s m args below meth c s₁ B hml hv
  obtain ⟨rfl, hsz, hP, hK, hD0, hN⟩ := hv
  have hx := B.exec
  have hb := B.bytes
  have hr := B.returns
  have hts := atoms_spec (ws := ow_k_X16_part_v11) B.pre
  have hown : s.vm.findClass RX16 = some m.cls := findClass_of_methodNamed B.named
  have hlocks := B.notSynchronized
  subst hsz
  have hD := hD0.self (sz := s.heap.size)
  generalize hAe : va_A [] s.heap.size = A at hD hN ⊢
  have hA : ∀ q : Nat, s.heap.size ≤ q → A q := fun q h => by rw [← hAe]; exact Or.inr h
  have hS : va_S A s.heap s.heap [] := va_S.rf
  have hl := lv_entry ([.int c0, .int 7, .int 3]) (n := 3) (Nat.le_of_ble_eq_true rfl)
  rw [lg_entry_eq]
  generalize (lg_sl ([.int c0, .int 7, .int 3]) ++ List.replicate (3 - (lg_sl ([.int c0, .int 7, .int 3])).length) Slot.unset).toArray = ls at hl ⊢
  have hl : lv_has ls 3 [(0, .int c0), (1, .int 7), (2, .int 3)] := hl
  refine lv_iload_n hx hb dX16_part_0 rfl (lv_at hl 0 rfl) ?_
  refine lv_iload_n hx hb dX16_part_1 rfl (lv_at hl 1 rfl) ?_
  refine lv_iushr hx hb dX16_part_2 rfl ?_
  refine lv_iconst (v := 1) hx hb dX16_part_3 (by decide) ?_
  refine lv_iload_n hx hb dX16_part_4 rfl (lv_at hl 2 rfl) ?_
  refine lv_ishl hx hb dX16_part_5 ?_
  refine lv_topi (fun z1 ez1 => ?_)
  obtain rfl : z1 = 8 := ez1.trans (by decide)
  refine lv_iconst (v := 1) hx hb dX16_part_6 (by decide) ?_
  refine lv_isub hx hb dX16_part_7 ?_
  refine lv_topi (fun z2 ez2 => ?_)
  obtain rfl : z2 = 7 := ez2.trans (by decide)
  refine lv_iand hx hb dX16_part_8 ?_
  refine W.widen (k := 0) (n := 0) (by decide +kernel) (by decide +kernel) ?_
  exact W.iret (v := ((((c0 : Int32).toUInt32 >>> ((7 : Int32).toUInt32 &&& Int32.toUInt32 31)).toInt32) &&& 7)) hx hb hr (fun t ht hW => ⟨⟨((((c0 : Int32).toUInt32 >>> ((7 : Int32).toUInt32 &&& Int32.toUInt32 31)).toInt32) &&& 7), (), rfl, Or.inl rfl, by rw [ht]; exact hP, va_K.moved hW.alike hK, hD⟩, hS.F ht⟩) hS.2.2 dX16_part_9
def ow_k_X16_part_v12 : List Cond := .code yX16_part cX16_part 3 (some .int) :: ([] ++ [])
theorem gd_k_X16_part_v12 : ∀ w ∈ ow_k_X16_part_v12, (w.onTables && w.keeps) = true ∨ ∃ ty, w = Cond.arrayClass ty := List.forall_mem_cons.mpr ⟨good_of_word rfl, List.forall_mem_append.mpr ⟨fun w h => good_of_word (List.all_eq_true.mp (by decide +kernel) w h), fun _ h => nomatch h⟩⟩
set_option maxHeartbeats 40000000 in
set_option maxRecDepth 100000 in
theorem k_X16_part_v12 (l : Launch) (hlt : l.stackTraces = false) (dC : Nat → ClassId) (dI : Nat → Nat → Nat) (c0 : Int32) (sz : Nat) : Met l yX16_part ow_k_X16_part_v12 ({ frames := 0, cells := 0, slots := 0, locals := 0 }) (va_Pc [.int c0, .int 10, .int 3] (fun U => U.heap.size = sz ∧ va_P (dC, dI) vwCl [] U.heap ∧ va_K (dC, dI) vwCl [] U ∧ va_D (fun _ => True) [] ∧ nv_E (va_A [] sz) U)) (va_Qi (fun r _ => (r = ((((c0 : Int32).toUInt32 >>> ((10 : Int32).toUInt32 &&& Int32.toUInt32 31)).toInt32) &&& 7)) ∨ False) (fun (_ : Unit) t => va_P (dC, dI) vwCl [] t.heap ∧ va_K (dC, dI) vwCl [] t ∧ va_D (va_A [] sz) []) (va_A [] sz)) 0 0 (va_A [] sz) := by
  refine Met.ofW (cc := cX16_part) (maxL := 3) (ret := (some .int)) (by decide) rfl ?_
  intro p e s m args below meth c s₁ B hml hv
  obtain ⟨rfl, hsz, hP, hK, hD0, hN⟩ := hv
  have hx := B.exec
  have hb := B.bytes
  have hr := B.returns
  have hts := atoms_spec (ws := ow_k_X16_part_v12) B.pre
  have hown : s.vm.findClass RX16 = some m.cls := findClass_of_methodNamed B.named
  have hlocks := B.notSynchronized
  subst hsz
  have hD := hD0.self (sz := s.heap.size)
  generalize hAe : va_A [] s.heap.size = A at hD hN ⊢
  have hA : ∀ q : Nat, s.heap.size ≤ q → A q := fun q h => by rw [← hAe]; exact Or.inr h
  have hS : va_S A s.heap s.heap [] := va_S.rf
  have hl := lv_entry ([.int c0, .int 10, .int 3]) (n := 3) (Nat.le_of_ble_eq_true rfl)
  rw [lg_entry_eq]
  generalize (lg_sl ([.int c0, .int 10, .int 3]) ++ List.replicate (3 - (lg_sl ([.int c0, .int 10, .int 3])).length) Slot.unset).toArray = ls at hl ⊢
  have hl : lv_has ls 3 [(0, .int c0), (1, .int 10), (2, .int 3)] := hl
  refine lv_iload_n hx hb dX16_part_0 rfl (lv_at hl 0 rfl) ?_
  refine lv_iload_n hx hb dX16_part_1 rfl (lv_at hl 1 rfl) ?_
  refine lv_iushr hx hb dX16_part_2 rfl ?_
  refine lv_iconst (v := 1) hx hb dX16_part_3 (by decide) ?_
  refine lv_iload_n hx hb dX16_part_4 rfl (lv_at hl 2 rfl) ?_
  refine lv_ishl hx hb dX16_part_5 ?_
  refine lv_topi (fun z1 ez1 => ?_)
  obtain rfl : z1 = 8 := ez1.trans (by decide)
  refine lv_iconst (v := 1) hx hb dX16_part_6 (by decide) ?_
  refine lv_isub hx hb dX16_part_7 ?_
  refine lv_topi (fun z2 ez2 => ?_)
  obtain rfl : z2 = 7 := ez2.trans (by decide)
  refine lv_iand hx hb dX16_part_8 ?_
  refine W.widen (k := 0) (n := 0) (by decide +kernel) (by decide +kernel) ?_
  exact W.iret (v := ((((c0 : Int32).toUInt32 >>> ((10 : Int32).toUInt32 &&& Int32.toUInt32 31)).toInt32) &&& 7)) hx hb hr (fun t ht hW => ⟨⟨((((c0 : Int32).toUInt32 >>> ((10 : Int32).toUInt32 &&& Int32.toUInt32 31)).toInt32) &&& 7), (), rfl, Or.inl rfl, by rw [ht]; exact hP, va_K.moved hW.alike hK, hD⟩, hS.F ht⟩) hS.2.2 dX16_part_9
def ow_k_X16_bit_v10 : List Cond := .code yX16_bit cX16_bit 4 (some .int) :: ([.methodLink RX16 297 yX16_part, .static yX16_part, .initialized RX16] ++ (ow_k_X16_part_v12 ++ []))
theorem gd_k_X16_bit_v10 : ∀ w ∈ ow_k_X16_bit_v10, (w.onTables && w.keeps) = true ∨ ∃ ty, w = Cond.arrayClass ty := List.forall_mem_cons.mpr ⟨good_of_word rfl, List.forall_mem_append.mpr ⟨fun w h => good_of_word (List.all_eq_true.mp (by decide +kernel) w h), List.forall_mem_append.mpr ⟨gd_k_X16_part_v12, fun _ h => nomatch h⟩⟩⟩
theorem gi_k_X16_bit_v10_0 : GoodIn ow_k_X16_bit_v10 (wsS RX16 297 yX16_part ow_k_X16_part_v12) := goodIn_app (goodIn_of _ (by decide +kernel)) (fun w h => ⟨List.mem_cons_of_mem _ (List.mem_append_right _ (List.mem_append_left _ h)), gd_k_X16_part_v12 w h⟩)
set_option maxHeartbeats 40000000 in
set_option maxRecDepth 100000 in
theorem k_X16_bit_v10 (l : Launch) (hlt : l.stackTraces = false) (dC : Nat → ClassId) (dI : Nat → Nat → Nat) (c0 : Int32) (sz : Nat) : Met l yX16_bit ow_k_X16_bit_v10 ({ frames := 1, cells := 0, slots := 0, locals := 22 }) (va_Pc [.int c0, .int 10, .int 3, .int 3] (fun U => U.heap.size = sz ∧ va_P (dC, dI) vwCl [] U.heap ∧ va_K (dC, dI) vwCl [] U ∧ va_D (fun _ => True) [] ∧ nv_E (va_A [] sz) U)) (va_Qi (fun r _ => (r = ((((((c0 : Int32).toUInt32 >>> ((10 : Int32).toUInt32 &&& Int32.toUInt32 31)).toInt32) &&& 7) : Int32) <<< ((3 : Int32) &&& 31))) ∨ False) (fun (_ : Unit) t => va_P (dC, dI) vwCl [] t.heap ∧ va_K (dC, dI) vwCl [] t ∧ va_D (va_A [] sz) []) (va_A [] sz)) 0 0 (va_A [] sz) := by
  refine Met.ofW (cc := cX16_bit) (maxL := 4) (ret := (some .int)) (by decide) rfl ?_
  intro p e s m args below meth c s₁ B hml hv
  obtain ⟨rfl, hsz, hP, hK, hD0, hN⟩ := hv
  have hx := B.exec
  have hb := B.bytes
  have hr := B.returns
  have hts := atoms_spec (ws := ow_k_X16_bit_v10) B.pre
  have hown : s.vm.findClass RX16 = some m.cls := findClass_of_methodNamed B.named
  have hlocks := B.notSynchronized
  subst hsz
  have hD := hD0.self (sz := s.heap.size)
  generalize hAe : va_A [] s.heap.size = A at hD hN ⊢
  have hA : ∀ q : Nat, s.heap.size ≤ q → A q := fun q h => by rw [← hAe]; exact Or.inr h
  have hS : va_S A s.heap s.heap [] := va_S.rf
  have hl := lv_entry ([.int c0, .int 10, .int 3, .int 3]) (n := 4) (Nat.le_of_ble_eq_true rfl)
  rw [lg_entry_eq]
  generalize (lg_sl ([.int c0, .int 10, .int 3, .int 3]) ++ List.replicate (4 - (lg_sl ([.int c0, .int 10, .int 3, .int 3])).length) Slot.unset).toArray = ls at hl ⊢
  have hl : lv_has ls 4 [(0, .int c0), (1, .int 10), (2, .int 3), (3, .int 3)] := hl
  refine lv_iload_n hx hb dX16_bit_0 rfl (lv_at hl 0 rfl) ?_
  refine lv_iload_n hx hb dX16_bit_1 rfl (lv_at hl 1 rfl) ?_
  refine lv_iload_n hx hb dX16_bit_2 rfl (lv_at hl 2 rfl) ?_
  have hPc := hP.sub (ws' := []) [] rfl
  have hDc := hD.sub (ws' := []) [] (by decide) rfl
  have hKc := hK.sub (tys' := []) [] rfl
  have hFc := va_free (wc := []) hD hS hA [] rfl
  refine va_calli (va_runS (As := [.int c0, .int 10, .int 3]) (rest := []) ⟨hx, hb, hml, hown, hts⟩ (k_X16_part_v12 l hlt dC dI c0  s.heap.size) (cwS 3 hts gi_k_X16_bit_v10_0 rfl rfl rfl (by decide +kernel) ⟨Nat.le_of_ble_eq_true rfl, Nat.le_of_ble_eq_true rfl⟩) ⟨fun a U g mk q => by obtain ⟨q0, q1, qP, qK, qD, qN⟩ := q; exact ⟨q0, q1, qP, va_K.moved (u := U) (U := U.calling g mk a) (Vm.Alike.refl U.vm) qK, qD, nv_same rfl rfl qN⟩, fun U hU hW => ⟨rfl, by rw [hU], by rw [hU]; exact hPc, va_K.moved hW.alike hKc, hDc.weaken (fun _ _ _ _ => trivial), nv_call hS hFc hU hW hN⟩⟩ rfl rfl hl.1 rfl (lv_room (Nat.le_of_ble_eq_true rfl)) dX16_bit_3 ⟨by decide +kernel, by decide +kernel⟩) hS (fun q _ h => hFc q h) hFc (fun r1 u t H1 locs ht hvm hw hB hz1 hk1 hS => ?_)
  obtain ⟨hP1, hK1, hD1⟩ := hB
  rw [ht] at hP1
  have hK1 := va_K.moved hvm.symm hK1
  obtain ⟨hP, hD⟩ := va_join (wr := []) (w1 := []) hP hD [] [] rfl rfl (by decide) (by decide) hk1 hFc hP1 hD1
  have hK := (hK.sub (tys' := []) [] rfl).app hK1
  generalize H1 = H at hP hS ⊢
  have hP : va_P (dC, dI) vwCl [] H := hP
  have hD : va_D A [] := hD
  have hK : va_K (dC, dI) vwCl [] s := hK
  refine W.widen (k := 0) (n := 0) (by decide +kernel) (by decide +kernel) ?_
  rcases hw with h9 | h9
  · subst h9
    refine lv_iload_n hx hb dX16_bit_6 rfl (lv_at hl 3 rfl) ?_
    refine lv_ishl hx hb dX16_bit_7 ?_
    refine W.widen (k := 0) (n := 0) (by decide +kernel) (by decide +kernel) ?_
    exact W.iret (v := ((((((c0 : Int32).toUInt32 >>> ((10 : Int32).toUInt32 &&& Int32.toUInt32 31)).toInt32) &&& 7) : Int32) <<< ((3 : Int32) &&& 31))) hx hb hr (fun t ht hW => ⟨⟨((((((c0 : Int32).toUInt32 >>> ((10 : Int32).toUInt32 &&& Int32.toUInt32 31)).toInt32) &&& 7) : Int32) <<< ((3 : Int32) &&& 31)), (), rfl, Or.inl rfl, by rw [ht]; exact hP, va_K.moved hW.alike hK, hD⟩, hS.F ht⟩) hS.2.2 dX16_bit_8
  · exact h9.elim
def ow_k_X16_part_v13 : List Cond := .code yX16_part cX16_part 3 (some .int) :: ([] ++ [])
theorem gd_k_X16_part_v13 : ∀ w ∈ ow_k_X16_part_v13, (w.onTables && w.keeps) = true ∨ ∃ ty, w = Cond.arrayClass ty := List.forall_mem_cons.mpr ⟨good_of_word rfl, List.forall_mem_append.mpr ⟨fun w h => good_of_word (List.all_eq_true.mp (by decide +kernel) w h), fun _ h => nomatch h⟩⟩
set_option maxHeartbeats 40000000 in
set_option maxRecDepth 100000 in
theorem k_X16_part_v13 (l : Launch) (hlt : l.stackTraces = false) (dC : Nat → ClassId) (dI : Nat → Nat → Nat) (c0 : Int32) (sz : Nat) : Met l yX16_part ow_k_X16_part_v13 ({ frames := 0, cells := 0, slots := 0, locals := 0 }) (va_Pc [.int c0, .int 6, .int 1] (fun U => U.heap.size = sz ∧ va_P (dC, dI) vwCl [] U.heap ∧ va_K (dC, dI) vwCl [] U ∧ va_D (fun _ => True) [] ∧ nv_E (va_A [] sz) U)) (va_Qi (fun r _ => (r = ((((c0 : Int32).toUInt32 >>> ((6 : Int32).toUInt32 &&& Int32.toUInt32 31)).toInt32) &&& 1)) ∨ False) (fun (_ : Unit) t => va_P (dC, dI) vwCl [] t.heap ∧ va_K (dC, dI) vwCl [] t ∧ va_D (va_A [] sz) []) (va_A [] sz)) 0 0 (va_A [] sz) := by
  refine Met.ofW (cc := cX16_part) (maxL := 3) (ret := (some .int)) (by decide) rfl ?_
  intro p e s m args below meth c s₁ B hml hv
  obtain ⟨rfl, hsz, hP, hK, hD0, hN⟩ := hv
  have hx := B.exec
  have hb := B.bytes
  have hr := B.returns
  have hts := atoms_spec (ws := ow_k_X16_part_v13) B.pre
  have hown : s.vm.findClass RX16 = some m.cls := findClass_of_methodNamed B.named
  have hlocks := B.notSynchronized
  subst hsz
  have hD := hD0.self (sz := s.heap.size)
  generalize hAe : va_A [] s.heap.size = A at hD hN ⊢
  have hA : ∀ q : Nat, s.heap.size ≤ q → A q := fun q h => by rw [← hAe]; exact Or.inr h
  have hS : va_S A s.heap s.heap [] := va_S.rf
  have hl := lv_entry ([.int c0, .int 6, .int 1]) (n := 3) (Nat.le_of_ble_eq_true rfl)
  rw [lg_entry_eq]
  generalize (lg_sl ([.int c0, .int 6, .int 1]) ++ List.replicate (3 - (lg_sl ([.int c0, .int 6, .int 1])).length) Slot.unset).toArray = ls at hl ⊢
  have hl : lv_has ls 3 [(0, .int c0), (1, .int 6), (2, .int 1)] := hl
  refine lv_iload_n hx hb dX16_part_0 rfl (lv_at hl 0 rfl) ?_
  refine lv_iload_n hx hb dX16_part_1 rfl (lv_at hl 1 rfl) ?_
  refine lv_iushr hx hb dX16_part_2 rfl ?_
  refine lv_iconst (v := 1) hx hb dX16_part_3 (by decide) ?_
  refine lv_iload_n hx hb dX16_part_4 rfl (lv_at hl 2 rfl) ?_
  refine lv_ishl hx hb dX16_part_5 ?_
  refine lv_topi (fun z1 ez1 => ?_)
  obtain rfl : z1 = 2 := ez1.trans (by decide)
  refine lv_iconst (v := 1) hx hb dX16_part_6 (by decide) ?_
  refine lv_isub hx hb dX16_part_7 ?_
  refine lv_topi (fun z2 ez2 => ?_)
  obtain rfl : z2 = 1 := ez2.trans (by decide)
  refine lv_iand hx hb dX16_part_8 ?_
  refine W.widen (k := 0) (n := 0) (by decide +kernel) (by decide +kernel) ?_
  exact W.iret (v := ((((c0 : Int32).toUInt32 >>> ((6 : Int32).toUInt32 &&& Int32.toUInt32 31)).toInt32) &&& 1)) hx hb hr (fun t ht hW => ⟨⟨((((c0 : Int32).toUInt32 >>> ((6 : Int32).toUInt32 &&& Int32.toUInt32 31)).toInt32) &&& 1), (), rfl, Or.inl rfl, by rw [ht]; exact hP, va_K.moved hW.alike hK, hD⟩, hS.F ht⟩) hS.2.2 dX16_part_9
def ow_k_X16_bit_v11 : List Cond := .code yX16_bit cX16_bit 4 (some .int) :: ([.methodLink RX16 297 yX16_part, .static yX16_part, .initialized RX16] ++ (ow_k_X16_part_v13 ++ []))
theorem gd_k_X16_bit_v11 : ∀ w ∈ ow_k_X16_bit_v11, (w.onTables && w.keeps) = true ∨ ∃ ty, w = Cond.arrayClass ty := List.forall_mem_cons.mpr ⟨good_of_word rfl, List.forall_mem_append.mpr ⟨fun w h => good_of_word (List.all_eq_true.mp (by decide +kernel) w h), List.forall_mem_append.mpr ⟨gd_k_X16_part_v13, fun _ h => nomatch h⟩⟩⟩
theorem gi_k_X16_bit_v11_0 : GoodIn ow_k_X16_bit_v11 (wsS RX16 297 yX16_part ow_k_X16_part_v13) := goodIn_app (goodIn_of _ (by decide +kernel)) (fun w h => ⟨List.mem_cons_of_mem _ (List.mem_append_right _ (List.mem_append_left _ h)), gd_k_X16_part_v13 w h⟩)
set_option maxHeartbeats 40000000 in
set_option maxRecDepth 100000 in
theorem k_X16_bit_v11 (l : Launch) (hlt : l.stackTraces = false) (dC : Nat → ClassId) (dI : Nat → Nat → Nat) (c0 : Int32) (sz : Nat) : Met l yX16_bit ow_k_X16_bit_v11 ({ frames := 1, cells := 0, slots := 0, locals := 22 }) (va_Pc [.int c0, .int 6, .int 1, .int 2] (fun U => U.heap.size = sz ∧ va_P (dC, dI) vwCl [] U.heap ∧ va_K (dC, dI) vwCl [] U ∧ va_D (fun _ => True) [] ∧ nv_E (va_A [] sz) U)) (va_Qi (fun r _ => (r = ((((((c0 : Int32).toUInt32 >>> ((6 : Int32).toUInt32 &&& Int32.toUInt32 31)).toInt32) &&& 1) : Int32) <<< ((2 : Int32) &&& 31))) ∨ False) (fun (_ : Unit) t => va_P (dC, dI) vwCl [] t.heap ∧ va_K (dC, dI) vwCl [] t ∧ va_D (va_A [] sz) []) (va_A [] sz)) 0 0 (va_A [] sz) := by
  refine Met.ofW (cc := cX16_bit) (maxL := 4) (ret := (some .int)) (by decide) rfl ?_
  intro p e s m args below meth c s₁ B hml hv
  obtain ⟨rfl, hsz, hP, hK, hD0, hN⟩ := hv
  have hx := B.exec
  have hb := B.bytes
  have hr := B.returns
  have hts := atoms_spec (ws := ow_k_X16_bit_v11) B.pre
  have hown : s.vm.findClass RX16 = some m.cls := findClass_of_methodNamed B.named
  have hlocks := B.notSynchronized
  subst hsz
  have hD := hD0.self (sz := s.heap.size)
  generalize hAe : va_A [] s.heap.size = A at hD hN ⊢
  have hA : ∀ q : Nat, s.heap.size ≤ q → A q := fun q h => by rw [← hAe]; exact Or.inr h
  have hS : va_S A s.heap s.heap [] := va_S.rf
  have hl := lv_entry ([.int c0, .int 6, .int 1, .int 2]) (n := 4) (Nat.le_of_ble_eq_true rfl)
  rw [lg_entry_eq]
  generalize (lg_sl ([.int c0, .int 6, .int 1, .int 2]) ++ List.replicate (4 - (lg_sl ([.int c0, .int 6, .int 1, .int 2])).length) Slot.unset).toArray = ls at hl ⊢
  have hl : lv_has ls 4 [(0, .int c0), (1, .int 6), (2, .int 1), (3, .int 2)] := hl
  refine lv_iload_n hx hb dX16_bit_0 rfl (lv_at hl 0 rfl) ?_
  refine lv_iload_n hx hb dX16_bit_1 rfl (lv_at hl 1 rfl) ?_
  refine lv_iload_n hx hb dX16_bit_2 rfl (lv_at hl 2 rfl) ?_
  have hPc := hP.sub (ws' := []) [] rfl
  have hDc := hD.sub (ws' := []) [] (by decide) rfl
  have hKc := hK.sub (tys' := []) [] rfl
  have hFc := va_free (wc := []) hD hS hA [] rfl
  refine va_calli (va_runS (As := [.int c0, .int 6, .int 1]) (rest := []) ⟨hx, hb, hml, hown, hts⟩ (k_X16_part_v13 l hlt dC dI c0  s.heap.size) (cwS 3 hts gi_k_X16_bit_v11_0 rfl rfl rfl (by decide +kernel) ⟨Nat.le_of_ble_eq_true rfl, Nat.le_of_ble_eq_true rfl⟩) ⟨fun a U g mk q => by obtain ⟨q0, q1, qP, qK, qD, qN⟩ := q; exact ⟨q0, q1, qP, va_K.moved (u := U) (U := U.calling g mk a) (Vm.Alike.refl U.vm) qK, qD, nv_same rfl rfl qN⟩, fun U hU hW => ⟨rfl, by rw [hU], by rw [hU]; exact hPc, va_K.moved hW.alike hKc, hDc.weaken (fun _ _ _ _ => trivial), nv_call hS hFc hU hW hN⟩⟩ rfl rfl hl.1 rfl (lv_room (Nat.le_of_ble_eq_true rfl)) dX16_bit_3 ⟨by decide +kernel, by decide +kernel⟩) hS (fun q _ h => hFc q h) hFc (fun r1 u t H1 locs ht hvm hw hB hz1 hk1 hS => ?_)
  obtain ⟨hP1, hK1, hD1⟩ := hB
  rw [ht] at hP1
  have hK1 := va_K.moved hvm.symm hK1
  obtain ⟨hP, hD⟩ := va_join (wr := []) (w1 := []) hP hD [] [] rfl rfl (by decide) (by decide) hk1 hFc hP1 hD1
  have hK := (hK.sub (tys' := []) [] rfl).app hK1
  generalize H1 = H at hP hS ⊢
  have hP : va_P (dC, dI) vwCl [] H := hP
  have hD : va_D A [] := hD
  have hK : va_K (dC, dI) vwCl [] s := hK
  refine W.widen (k := 0) (n := 0) (by decide +kernel) (by decide +kernel) ?_
  rcases hw with h9 | h9
  · subst h9
    refine lv_iload_n hx hb dX16_bit_6 rfl (lv_at hl 3 rfl) ?_
    refine lv_ishl hx hb dX16_bit_7 ?_
    refine W.widen (k := 0) (n := 0) (by decide +kernel) (by decide +kernel) ?_
    exact W.iret (v := ((((((c0 : Int32).toUInt32 >>> ((6 : Int32).toUInt32 &&& Int32.toUInt32 31)).toInt32) &&& 1) : Int32) <<< ((2 : Int32) &&& 31))) hx hb hr (fun t ht hW => ⟨⟨((((((c0 : Int32).toUInt32 >>> ((6 : Int32).toUInt32 &&& Int32.toUInt32 31)).toInt32) &&& 1) : Int32) <<< ((2 : Int32) &&& 31)), (), rfl, Or.inl rfl, by rw [ht]; exact hP, va_K.moved hW.alike hK, hD⟩, hS.F ht⟩) hS.2.2 dX16_bit_8
  · exact h9.elim
def ow_k_X16_part_v14 : List Cond := .code yX16_part cX16_part 3 (some .int) :: ([] ++ [])
theorem gd_k_X16_part_v14 : ∀ w ∈ ow_k_X16_part_v14, (w.onTables && w.keeps) = true ∨ ∃ ty, w = Cond.arrayClass ty := List.forall_mem_cons.mpr ⟨good_of_word rfl, List.forall_mem_append.mpr ⟨fun w h => good_of_word (List.all_eq_true.mp (by decide +kernel) w h), fun _ h => nomatch h⟩⟩
set_option maxHeartbeats 40000000 in
set_option maxRecDepth 100000 in
theorem k_X16_part_v14 (l : Launch) (hlt : l.stackTraces = false) (dC : Nat → ClassId) (dI : Nat → Nat → Nat) (c0 : Int32) (sz : Nat) : Met l yX16_part ow_k_X16_part_v14 ({ frames := 0, cells := 0, slots := 0, locals := 0 }) (va_Pc [.int c0, .int 5, .int 1] (fun U => U.heap.size = sz ∧ va_P (dC, dI) vwCl [] U.heap ∧ va_K (dC, dI) vwCl [] U ∧ va_D (fun _ => True) [] ∧ nv_E (va_A [] sz) U)) (va_Qi (fun r _ => (r = ((((c0 : Int32).toUInt32 >>> ((5 : Int32).toUInt32 &&& Int32.toUInt32 31)).toInt32) &&& 1)) ∨ False) (fun (_ : Unit) t => va_P (dC, dI) vwCl [] t.heap ∧ va_K (dC, dI) vwCl [] t ∧ va_D (va_A [] sz) []) (va_A [] sz)) 0 0 (va_A [] sz) := by
  refine Met.ofW (cc := cX16_part) (maxL := 3) (ret := (some .int)) (by decide) rfl ?_
  intro p e s m args below meth c s₁ B hml hv
  obtain ⟨rfl, hsz, hP, hK, hD0, hN⟩ := hv
  have hx := B.exec
  have hb := B.bytes
  have hr := B.returns
  have hts := atoms_spec (ws := ow_k_X16_part_v14) B.pre
  have hown : s.vm.findClass RX16 = some m.cls := findClass_of_methodNamed B.named
  have hlocks := B.notSynchronized
  subst hsz
  have hD := hD0.self (sz := s.heap.size)
  generalize hAe : va_A [] s.heap.size = A at hD hN ⊢
  have hA : ∀ q : Nat, s.heap.size ≤ q → A q := fun q h => by rw [← hAe]; exact Or.inr h
  have hS : va_S A s.heap s.heap [] := va_S.rf
  have hl := lv_entry ([.int c0, .int 5, .int 1]) (n := 3) (Nat.le_of_ble_eq_true rfl)
  rw [lg_entry_eq]
  generalize (lg_sl ([.int c0, .int 5, .int 1]) ++ List.replicate (3 - (lg_sl ([.int c0, .int 5, .int 1])).length) Slot.unset).toArray = ls at hl ⊢
  have hl : lv_has ls 3 [(0, .int c0), (1, .int 5), (2, .int 1)] := hl
  refine lv_iload_n hx hb dX16_part_0 rfl (lv_at hl 0 rfl) ?_
  refine lv_iload_n hx hb dX16_part_1 rfl (lv_at hl 1 rfl) ?_
  refine lv_iushr hx hb dX16_part_2 rfl ?_
  refine lv_iconst (v := 1) hx hb dX16_part_3 (by decide) ?_
  refine lv_iload_n hx hb dX16_part_4 rfl (lv_at hl 2 rfl) ?_
  refine lv_ishl hx hb dX16_part_5 ?_
  refine lv_topi (fun z1 ez1 => ?_)
  obtain rfl : z1 = 2 := ez1.trans (by decide)
  refine lv_iconst (v := 1) hx hb dX16_part_6 (by decide) ?_
  refine lv_isub hx hb dX16_part_7 ?_
  refine lv_topi (fun z2 ez2 => ?_)
  obtain rfl : z2 = 1 := ez2.trans (by decide)
  refine lv_iand hx hb dX16_part_8 ?_
  refine W.widen (k := 0) (n := 0) (by decide +kernel) (by decide +kernel) ?_
  exact W.iret (v := ((((c0 : Int32).toUInt32 >>> ((5 : Int32).toUInt32 &&& Int32.toUInt32 31)).toInt32) &&& 1)) hx hb hr (fun t ht hW => ⟨⟨((((c0 : Int32).toUInt32 >>> ((5 : Int32).toUInt32 &&& Int32.toUInt32 31)).toInt32) &&& 1), (), rfl, Or.inl rfl, by rw [ht]; exact hP, va_K.moved hW.alike hK, hD⟩, hS.F ht⟩) hS.2.2 dX16_part_9
def ow_k_X16_bit_v12 : List Cond := .code yX16_bit cX16_bit 4 (some .int) :: ([.methodLink RX16 297 yX16_part, .static yX16_part, .initialized RX16] ++ (ow_k_X16_part_v14 ++ []))
theorem gd_k_X16_bit_v12 : ∀ w ∈ ow_k_X16_bit_v12, (w.onTables && w.keeps) = true ∨ ∃ ty, w = Cond.arrayClass ty := List.forall_mem_cons.mpr ⟨good_of_word rfl, List.forall_mem_append.mpr ⟨fun w h => good_of_word (List.all_eq_true.mp (by decide +kernel) w h), List.forall_mem_append.mpr ⟨gd_k_X16_part_v14, fun _ h => nomatch h⟩⟩⟩
theorem gi_k_X16_bit_v12_0 : GoodIn ow_k_X16_bit_v12 (wsS RX16 297 yX16_part ow_k_X16_part_v14) := goodIn_app (goodIn_of _ (by decide +kernel)) (fun w h => ⟨List.mem_cons_of_mem _ (List.mem_append_right _ (List.mem_append_left _ h)), gd_k_X16_part_v14 w h⟩)
set_option maxHeartbeats 40000000 in
set_option maxRecDepth 100000 in
theorem k_X16_bit_v12 (l : Launch) (hlt : l.stackTraces = false) (dC : Nat → ClassId) (dI : Nat → Nat → Nat) (c0 : Int32) (sz : Nat) : Met l yX16_bit ow_k_X16_bit_v12 ({ frames := 1, cells := 0, slots := 0, locals := 22 }) (va_Pc [.int c0, .int 5, .int 1, .int 6] (fun U => U.heap.size = sz ∧ va_P (dC, dI) vwCl [] U.heap ∧ va_K (dC, dI) vwCl [] U ∧ va_D (fun _ => True) [] ∧ nv_E (va_A [] sz) U)) (va_Qi (fun r _ => (r = ((((((c0 : Int32).toUInt32 >>> ((5 : Int32).toUInt32 &&& Int32.toUInt32 31)).toInt32) &&& 1) : Int32) <<< ((6 : Int32) &&& 31))) ∨ False) (fun (_ : Unit) t => va_P (dC, dI) vwCl [] t.heap ∧ va_K (dC, dI) vwCl [] t ∧ va_D (va_A [] sz) []) (va_A [] sz)) 0 0 (va_A [] sz) := by
  refine Met.ofW (cc := cX16_bit) (maxL := 4) (ret := (some .int)) (by decide) rfl ?_
  intro p e s m args below meth c s₁ B hml hv
  obtain ⟨rfl, hsz, hP, hK, hD0, hN⟩ := hv
  have hx := B.exec
  have hb := B.bytes
  have hr := B.returns
  have hts := atoms_spec (ws := ow_k_X16_bit_v12) B.pre
  have hown : s.vm.findClass RX16 = some m.cls := findClass_of_methodNamed B.named
  have hlocks := B.notSynchronized
  subst hsz
  have hD := hD0.self (sz := s.heap.size)
  generalize hAe : va_A [] s.heap.size = A at hD hN ⊢
  have hA : ∀ q : Nat, s.heap.size ≤ q → A q := fun q h => by rw [← hAe]; exact Or.inr h
  have hS : va_S A s.heap s.heap [] := va_S.rf
  have hl := lv_entry ([.int c0, .int 5, .int 1, .int 6]) (n := 4) (Nat.le_of_ble_eq_true rfl)
  rw [lg_entry_eq]
  generalize (lg_sl ([.int c0, .int 5, .int 1, .int 6]) ++ List.replicate (4 - (lg_sl ([.int c0, .int 5, .int 1, .int 6])).length) Slot.unset).toArray = ls at hl ⊢
  have hl : lv_has ls 4 [(0, .int c0), (1, .int 5), (2, .int 1), (3, .int 6)] := hl
  refine lv_iload_n hx hb dX16_bit_0 rfl (lv_at hl 0 rfl) ?_
  refine lv_iload_n hx hb dX16_bit_1 rfl (lv_at hl 1 rfl) ?_
  refine lv_iload_n hx hb dX16_bit_2 rfl (lv_at hl 2 rfl) ?_
  have hPc := hP.sub (ws' := []) [] rfl
  have hDc := hD.sub (ws' := []) [] (by decide) rfl
  have hKc := hK.sub (tys' := []) [] rfl
  have hFc := va_free (wc := []) hD hS hA [] rfl
  refine va_calli (va_runS (As := [.int c0, .int 5, .int 1]) (rest := []) ⟨hx, hb, hml, hown, hts⟩ (k_X16_part_v14 l hlt dC dI c0  s.heap.size) (cwS 3 hts gi_k_X16_bit_v12_0 rfl rfl rfl (by decide +kernel) ⟨Nat.le_of_ble_eq_true rfl, Nat.le_of_ble_eq_true rfl⟩) ⟨fun a U g mk q => by obtain ⟨q0, q1, qP, qK, qD, qN⟩ := q; exact ⟨q0, q1, qP, va_K.moved (u := U) (U := U.calling g mk a) (Vm.Alike.refl U.vm) qK, qD, nv_same rfl rfl qN⟩, fun U hU hW => ⟨rfl, by rw [hU], by rw [hU]; exact hPc, va_K.moved hW.alike hKc, hDc.weaken (fun _ _ _ _ => trivial), nv_call hS hFc hU hW hN⟩⟩ rfl rfl hl.1 rfl (lv_room (Nat.le_of_ble_eq_true rfl)) dX16_bit_3 ⟨by decide +kernel, by decide +kernel⟩) hS (fun q _ h => hFc q h) hFc (fun r1 u t H1 locs ht hvm hw hB hz1 hk1 hS => ?_)
  obtain ⟨hP1, hK1, hD1⟩ := hB
  rw [ht] at hP1
  have hK1 := va_K.moved hvm.symm hK1
  obtain ⟨hP, hD⟩ := va_join (wr := []) (w1 := []) hP hD [] [] rfl rfl (by decide) (by decide) hk1 hFc hP1 hD1
  have hK := (hK.sub (tys' := []) [] rfl).app hK1
  generalize H1 = H at hP hS ⊢
  have hP : va_P (dC, dI) vwCl [] H := hP
  have hD : va_D A [] := hD
  have hK : va_K (dC, dI) vwCl [] s := hK
  refine W.widen (k := 0) (n := 0) (by decide +kernel) (by decide +kernel) ?_
  rcases hw with h9 | h9
  · subst h9
    refine lv_iload_n hx hb dX16_bit_6 rfl (lv_at hl 3 rfl) ?_
    refine lv_ishl hx hb dX16_bit_7 ?_
    refine W.widen (k := 0) (n := 0) (by decide +kernel) (by decide +kernel) ?_
    exact W.iret (v := ((((((c0 : Int32).toUInt32 >>> ((5 : Int32).toUInt32 &&& Int32.toUInt32 31)).toInt32) &&& 1) : Int32) <<< ((6 : Int32) &&& 31))) hx hb hr (fun t ht hW => ⟨⟨((((((c0 : Int32).toUInt32 >>> ((5 : Int32).toUInt32 &&& Int32.toUInt32 31)).toInt32) &&& 1) : Int32) <<< ((6 : Int32) &&& 31)), (), rfl, Or.inl rfl, by rw [ht]; exact hP, va_K.moved hW.alike hK, hD⟩, hS.F ht⟩) hS.2.2 dX16_bit_8
  · exact h9.elim
def ow_k_X16_part_v15 : List Cond := .code yX16_part cX16_part 3 (some .int) :: ([] ++ [])
theorem gd_k_X16_part_v15 : ∀ w ∈ ow_k_X16_part_v15, (w.onTables && w.keeps) = true ∨ ∃ ty, w = Cond.arrayClass ty := List.forall_mem_cons.mpr ⟨good_of_word rfl, List.forall_mem_append.mpr ⟨fun w h => good_of_word (List.all_eq_true.mp (by decide +kernel) w h), fun _ h => nomatch h⟩⟩
set_option maxHeartbeats 40000000 in
set_option maxRecDepth 100000 in
theorem k_X16_part_v15 (l : Launch) (hlt : l.stackTraces = false) (dC : Nat → ClassId) (dI : Nat → Nat → Nat) (c0 : Int32) (sz : Nat) : Met l yX16_part ow_k_X16_part_v15 ({ frames := 0, cells := 0, slots := 0, locals := 0 }) (va_Pc [.int c0, .int 11, .int 2] (fun U => U.heap.size = sz ∧ va_P (dC, dI) vwCl [] U.heap ∧ va_K (dC, dI) vwCl [] U ∧ va_D (fun _ => True) [] ∧ nv_E (va_A [] sz) U)) (va_Qi (fun r _ => (r = ((((c0 : Int32).toUInt32 >>> ((11 : Int32).toUInt32 &&& Int32.toUInt32 31)).toInt32) &&& 3)) ∨ False) (fun (_ : Unit) t => va_P (dC, dI) vwCl [] t.heap ∧ va_K (dC, dI) vwCl [] t ∧ va_D (va_A [] sz) []) (va_A [] sz)) 0 0 (va_A [] sz) := by
  refine Met.ofW (cc := cX16_part) (maxL := 3) (ret := (some .int)) (by decide) rfl ?_
  intro p e s m args below meth c s₁ B hml hv
  obtain ⟨rfl, hsz, hP, hK, hD0, hN⟩ := hv
  have hx := B.exec
  have hb := B.bytes
  have hr := B.returns
  have hts := atoms_spec (ws := ow_k_X16_part_v15) B.pre
  have hown : s.vm.findClass RX16 = some m.cls := findClass_of_methodNamed B.named
  have hlocks := B.notSynchronized
  subst hsz
  have hD := hD0.self (sz := s.heap.size)
  generalize hAe : va_A [] s.heap.size = A at hD hN ⊢
  have hA : ∀ q : Nat, s.heap.size ≤ q → A q := fun q h => by rw [← hAe]; exact Or.inr h
  have hS : va_S A s.heap s.heap [] := va_S.rf
  have hl := lv_entry ([.int c0, .int 11, .int 2]) (n := 3) (Nat.le_of_ble_eq_true rfl)
  rw [lg_entry_eq]
  generalize (lg_sl ([.int c0, .int 11, .int 2]) ++ List.replicate (3 - (lg_sl ([.int c0, .int 11, .int 2])).length) Slot.unset).toArray = ls at hl ⊢
  have hl : lv_has ls 3 [(0, .int c0), (1, .int 11), (2, .int 2)] := hl
  refine lv_iload_n hx hb dX16_part_0 rfl (lv_at hl 0 rfl) ?_
  refine lv_iload_n hx hb dX16_part_1 rfl (lv_at hl 1 rfl) ?_
  refine lv_iushr hx hb dX16_part_2 rfl ?_
  refine lv_iconst (v := 1) hx hb dX16_part_3 (by decide) ?_
  refine lv_iload_n hx hb dX16_part_4 rfl (lv_at hl 2 rfl) ?_
  refine lv_ishl hx hb dX16_part_5 ?_
  refine lv_topi (fun z1 ez1 => ?_)
  obtain rfl : z1 = 4 := ez1.trans (by decide)
  refine lv_iconst (v := 1) hx hb dX16_part_6 (by decide) ?_
  refine lv_isub hx hb dX16_part_7 ?_
  refine lv_topi (fun z2 ez2 => ?_)
  obtain rfl : z2 = 3 := ez2.trans (by decide)
  refine lv_iand hx hb dX16_part_8 ?_
  refine W.widen (k := 0) (n := 0) (by decide +kernel) (by decide +kernel) ?_
  exact W.iret (v := ((((c0 : Int32).toUInt32 >>> ((11 : Int32).toUInt32 &&& Int32.toUInt32 31)).toInt32) &&& 3)) hx hb hr (fun t ht hW => ⟨⟨((((c0 : Int32).toUInt32 >>> ((11 : Int32).toUInt32 &&& Int32.toUInt32 31)).toInt32) &&& 3), (), rfl, Or.inl rfl, by rw [ht]; exact hP, va_K.moved hW.alike hK, hD⟩, hS.F ht⟩) hS.2.2 dX16_part_9
def ow_k_X16_bit_v13 : List Cond := .code yX16_bit cX16_bit 4 (some .int) :: ([.methodLink RX16 297 yX16_part, .static yX16_part, .initialized RX16] ++ (ow_k_X16_part_v15 ++ []))
theorem gd_k_X16_bit_v13 : ∀ w ∈ ow_k_X16_bit_v13, (w.onTables && w.keeps) = true ∨ ∃ ty, w = Cond.arrayClass ty := List.forall_mem_cons.mpr ⟨good_of_word rfl, List.forall_mem_append.mpr ⟨fun w h => good_of_word (List.all_eq_true.mp (by decide +kernel) w h), List.forall_mem_append.mpr ⟨gd_k_X16_part_v15, fun _ h => nomatch h⟩⟩⟩
theorem gi_k_X16_bit_v13_0 : GoodIn ow_k_X16_bit_v13 (wsS RX16 297 yX16_part ow_k_X16_part_v15) := goodIn_app (goodIn_of _ (by decide +kernel)) (fun w h => ⟨List.mem_cons_of_mem _ (List.mem_append_right _ (List.mem_append_left _ h)), gd_k_X16_part_v15 w h⟩)
set_option maxHeartbeats 40000000 in
set_option maxRecDepth 100000 in
theorem k_X16_bit_v13 (l : Launch) (hlt : l.stackTraces = false) (dC : Nat → ClassId) (dI : Nat → Nat → Nat) (c0 : Int32) (sz : Nat) : Met l yX16_bit ow_k_X16_bit_v13 ({ frames := 1, cells := 0, slots := 0, locals := 22 }) (va_Pc [.int c0, .int 11, .int 2, .int 4] (fun U => U.heap.size = sz ∧ va_P (dC, dI) vwCl [] U.heap ∧ va_K (dC, dI) vwCl [] U ∧ va_D (fun _ => True) [] ∧ nv_E (va_A [] sz) U)) (va_Qi (fun r _ => (r = ((((((c0 : Int32).toUInt32 >>> ((11 : Int32).toUInt32 &&& Int32.toUInt32 31)).toInt32) &&& 3) : Int32) <<< ((4 : Int32) &&& 31))) ∨ False) (fun (_ : Unit) t => va_P (dC, dI) vwCl [] t.heap ∧ va_K (dC, dI) vwCl [] t ∧ va_D (va_A [] sz) []) (va_A [] sz)) 0 0 (va_A [] sz) := by
  refine Met.ofW (cc := cX16_bit) (maxL := 4) (ret := (some .int)) (by decide) rfl ?_
  intro p e s m args below meth c s₁ B hml hv
  obtain ⟨rfl, hsz, hP, hK, hD0, hN⟩ := hv
  have hx := B.exec
  have hb := B.bytes
  have hr := B.returns
  have hts := atoms_spec (ws := ow_k_X16_bit_v13) B.pre
  have hown : s.vm.findClass RX16 = some m.cls := findClass_of_methodNamed B.named
  have hlocks := B.notSynchronized
  subst hsz
  have hD := hD0.self (sz := s.heap.size)
  generalize hAe : va_A [] s.heap.size = A at hD hN ⊢
  have hA : ∀ q : Nat, s.heap.size ≤ q → A q := fun q h => by rw [← hAe]; exact Or.inr h
  have hS : va_S A s.heap s.heap [] := va_S.rf
  have hl := lv_entry ([.int c0, .int 11, .int 2, .int 4]) (n := 4) (Nat.le_of_ble_eq_true rfl)
  rw [lg_entry_eq]
  generalize (lg_sl ([.int c0, .int 11, .int 2, .int 4]) ++ List.replicate (4 - (lg_sl ([.int c0, .int 11, .int 2, .int 4])).length) Slot.unset).toArray = ls at hl ⊢
  have hl : lv_has ls 4 [(0, .int c0), (1, .int 11), (2, .int 2), (3, .int 4)] := hl
  refine lv_iload_n hx hb dX16_bit_0 rfl (lv_at hl 0 rfl) ?_
  refine lv_iload_n hx hb dX16_bit_1 rfl (lv_at hl 1 rfl) ?_
  refine lv_iload_n hx hb dX16_bit_2 rfl (lv_at hl 2 rfl) ?_
  have hPc := hP.sub (ws' := []) [] rfl
  have hDc := hD.sub (ws' := []) [] (by decide) rfl
  have hKc := hK.sub (tys' := []) [] rfl
  have hFc := va_free (wc := []) hD hS hA [] rfl
  refine va_calli (va_runS (As := [.int c0, .int 11, .int 2]) (rest := []) ⟨hx, hb, hml, hown, hts⟩ (k_X16_part_v15 l hlt dC dI c0  s.heap.size) (cwS 3 hts gi_k_X16_bit_v13_0 rfl rfl rfl (by decide +kernel) ⟨Nat.le_of_ble_eq_true rfl, Nat.le_of_ble_eq_true rfl⟩) ⟨fun a U g mk q => by obtain ⟨q0, q1, qP, qK, qD, qN⟩ := q; exact ⟨q0, q1, qP, va_K.moved (u := U) (U := U.calling g mk a) (Vm.Alike.refl U.vm) qK, qD, nv_same rfl rfl qN⟩, fun U hU hW => ⟨rfl, by rw [hU], by rw [hU]; exact hPc, va_K.moved hW.alike hKc, hDc.weaken (fun _ _ _ _ => trivial), nv_call hS hFc hU hW hN⟩⟩ rfl rfl hl.1 rfl (lv_room (Nat.le_of_ble_eq_true rfl)) dX16_bit_3 ⟨by decide +kernel, by decide +kernel⟩) hS (fun q _ h => hFc q h) hFc (fun r1 u t H1 locs ht hvm hw hB hz1 hk1 hS => ?_)
  obtain ⟨hP1, hK1, hD1⟩ := hB
  rw [ht] at hP1
  have hK1 := va_K.moved hvm.symm hK1
  obtain ⟨hP, hD⟩ := va_join (wr := []) (w1 := []) hP hD [] [] rfl rfl (by decide) (by decide) hk1 hFc hP1 hD1
  have hK := (hK.sub (tys' := []) [] rfl).app hK1
  generalize H1 = H at hP hS ⊢
  have hP : va_P (dC, dI) vwCl [] H := hP
  have hD : va_D A [] := hD
  have hK : va_K (dC, dI) vwCl [] s := hK
  refine W.widen (k := 0) (n := 0) (by decide +kernel) (by decide +kernel) ?_
  rcases hw with h9 | h9
  · subst h9
    refine lv_iload_n hx hb dX16_bit_6 rfl (lv_at hl 3 rfl) ?_
    refine lv_ishl hx hb dX16_bit_7 ?_
    refine W.widen (k := 0) (n := 0) (by decide +kernel) (by decide +kernel) ?_
    exact W.iret (v := ((((((c0 : Int32).toUInt32 >>> ((11 : Int32).toUInt32 &&& Int32.toUInt32 31)).toInt32) &&& 3) : Int32) <<< ((4 : Int32) &&& 31))) hx hb hr (fun t ht hW => ⟨⟨((((((c0 : Int32).toUInt32 >>> ((11 : Int32).toUInt32 &&& Int32.toUInt32 31)).toInt32) &&& 3) : Int32) <<< ((4 : Int32) &&& 31)), (), rfl, Or.inl rfl, by rw [ht]; exact hP, va_K.moved hW.alike hK, hD⟩, hS.F ht⟩) hS.2.2 dX16_bit_8
  · exact h9.elim
def ow_k_X16_part_v16 : List Cond := .code yX16_part cX16_part 3 (some .int) :: ([] ++ [])
theorem gd_k_X16_part_v16 : ∀ w ∈ ow_k_X16_part_v16, (w.onTables && w.keeps) = true ∨ ∃ ty, w = Cond.arrayClass ty := List.forall_mem_cons.mpr ⟨good_of_word rfl, List.forall_mem_append.mpr ⟨fun w h => good_of_word (List.all_eq_true.mp (by decide +kernel) w h), fun _ h => nomatch h⟩⟩
set_option maxHeartbeats 40000000 in
set_option maxRecDepth 100000 in
theorem k_X16_part_v16 (l : Launch) (hlt : l.stackTraces = false) (dC : Nat → ClassId) (dI : Nat → Nat → Nat) (c0 : Int32) (sz : Nat) : Met l yX16_part ow_k_X16_part_v16 ({ frames := 0, cells := 0, slots := 0, locals := 0 }) (va_Pc [.int c0, .int 7, .int 4] (fun U => U.heap.size = sz ∧ va_P (dC, dI) vwCl [] U.heap ∧ va_K (dC, dI) vwCl [] U ∧ va_D (fun _ => True) [] ∧ nv_E (va_A [] sz) U)) (va_Qi (fun r _ => (r = ((((c0 : Int32).toUInt32 >>> ((7 : Int32).toUInt32 &&& Int32.toUInt32 31)).toInt32) &&& 15)) ∨ False) (fun (_ : Unit) t => va_P (dC, dI) vwCl [] t.heap ∧ va_K (dC, dI) vwCl [] t ∧ va_D (va_A [] sz) []) (va_A [] sz)) 0 0 (va_A [] sz) := by
  refine Met.ofW (cc := cX16_part) (maxL := 3) (ret := (some .int)) (by decide) rfl ?_
  intro p e s m args below meth c s₁ B hml hv
  obtain ⟨rfl, hsz, hP, hK, hD0, hN⟩ := hv
  have hx := B.exec
  have hb := B.bytes
  have hr := B.returns
  have hts := atoms_spec (ws := ow_k_X16_part_v16) B.pre
  have hown : s.vm.findClass RX16 = some m.cls := findClass_of_methodNamed B.named
  have hlocks := B.notSynchronized
  subst hsz
  have hD := hD0.self (sz := s.heap.size)
  generalize hAe : va_A [] s.heap.size = A at hD hN ⊢
  have hA : ∀ q : Nat, s.heap.size ≤ q → A q := fun q h => by rw [← hAe]; exact Or.inr h
  have hS : va_S A s.heap s.heap [] := va_S.rf
  have hl := lv_entry ([.int c0, .int 7, .int 4]) (n := 3) (Nat.le_of_ble_eq_true rfl)
  rw [lg_entry_eq]
  generalize (lg_sl ([.int c0, .int 7, .int 4]) ++ List.replicate (3 - (lg_sl ([.int c0, .int 7, .int 4])).length) Slot.unset).toArray = ls at hl ⊢
  have hl : lv_has ls 3 [(0, .int c0), (1, .int 7), (2, .int 4)] := hl
  refine lv_iload_n hx hb dX16_part_0 rfl (lv_at hl 0 rfl) ?_
  refine lv_iload_n hx hb dX16_part_1 rfl (lv_at hl 1 rfl) ?_
  refine lv_iushr hx hb dX16_part_2 rfl ?_
  refine lv_iconst (v := 1) hx hb dX16_part_3 (by decide) ?_
  refine lv_iload_n hx hb dX16_part_4 rfl (lv_at hl 2 rfl) ?_
  refine lv_ishl hx hb dX16_part_5 ?_
  refine lv_topi (fun z1 ez1 => ?_)
  obtain rfl : z1 = 16 := ez1.trans (by decide)
  refine lv_iconst (v := 1) hx hb dX16_part_6 (by decide) ?_
  refine lv_isub hx hb dX16_part_7 ?_
  refine lv_topi (fun z2 ez2 => ?_)
  obtain rfl : z2 = 15 := ez2.trans (by decide)
  refine lv_iand hx hb dX16_part_8 ?_
  refine W.widen (k := 0) (n := 0) (by decide +kernel) (by decide +kernel) ?_
  exact W.iret (v := ((((c0 : Int32).toUInt32 >>> ((7 : Int32).toUInt32 &&& Int32.toUInt32 31)).toInt32) &&& 15)) hx hb hr (fun t ht hW => ⟨⟨((((c0 : Int32).toUInt32 >>> ((7 : Int32).toUInt32 &&& Int32.toUInt32 31)).toInt32) &&& 15), (), rfl, Or.inl rfl, by rw [ht]; exact hP, va_K.moved hW.alike hK, hD⟩, hS.F ht⟩) hS.2.2 dX16_part_9
def ow_k_X16_bit_v14 : List Cond := .code yX16_bit cX16_bit 4 (some .int) :: ([.methodLink RX16 297 yX16_part, .static yX16_part, .initialized RX16] ++ (ow_k_X16_part_v16 ++ []))
theorem gd_k_X16_bit_v14 : ∀ w ∈ ow_k_X16_bit_v14, (w.onTables && w.keeps) = true ∨ ∃ ty, w = Cond.arrayClass ty := List.forall_mem_cons.mpr ⟨good_of_word rfl, List.forall_mem_append.mpr ⟨fun w h => good_of_word (List.all_eq_true.mp (by decide +kernel) w h), List.forall_mem_append.mpr ⟨gd_k_X16_part_v16, fun _ h => nomatch h⟩⟩⟩
theorem gi_k_X16_bit_v14_0 : GoodIn ow_k_X16_bit_v14 (wsS RX16 297 yX16_part ow_k_X16_part_v16) := goodIn_app (goodIn_of _ (by decide +kernel)) (fun w h => ⟨List.mem_cons_of_mem _ (List.mem_append_right _ (List.mem_append_left _ h)), gd_k_X16_part_v16 w h⟩)
set_option maxHeartbeats 40000000 in
set_option maxRecDepth 100000 in
theorem k_X16_bit_v14 (l : Launch) (hlt : l.stackTraces = false) (dC : Nat → ClassId) (dI : Nat → Nat → Nat) (c0 : Int32) (sz : Nat) : Met l yX16_bit ow_k_X16_bit_v14 ({ frames := 1, cells := 0, slots := 0, locals := 22 }) (va_Pc [.int c0, .int 7, .int 4, .int 6] (fun U => U.heap.size = sz ∧ va_P (dC, dI) vwCl [] U.heap ∧ va_K (dC, dI) vwCl [] U ∧ va_D (fun _ => True) [] ∧ nv_E (va_A [] sz) U)) (va_Qi (fun r _ => (r = ((((((c0 : Int32).toUInt32 >>> ((7 : Int32).toUInt32 &&& Int32.toUInt32 31)).toInt32) &&& 15) : Int32) <<< ((6 : Int32) &&& 31))) ∨ False) (fun (_ : Unit) t => va_P (dC, dI) vwCl [] t.heap ∧ va_K (dC, dI) vwCl [] t ∧ va_D (va_A [] sz) []) (va_A [] sz)) 0 0 (va_A [] sz) := by
  refine Met.ofW (cc := cX16_bit) (maxL := 4) (ret := (some .int)) (by decide) rfl ?_
  intro p e s m args below meth c s₁ B hml hv
  obtain ⟨rfl, hsz, hP, hK, hD0, hN⟩ := hv
  have hx := B.exec
  have hb := B.bytes
  have hr := B.returns
  have hts := atoms_spec (ws := ow_k_X16_bit_v14) B.pre
  have hown : s.vm.findClass RX16 = some m.cls := findClass_of_methodNamed B.named
  have hlocks := B.notSynchronized
  subst hsz
  have hD := hD0.self (sz := s.heap.size)
  generalize hAe : va_A [] s.heap.size = A at hD hN ⊢
  have hA : ∀ q : Nat, s.heap.size ≤ q → A q := fun q h => by rw [← hAe]; exact Or.inr h
  have hS : va_S A s.heap s.heap [] := va_S.rf
  have hl := lv_entry ([.int c0, .int 7, .int 4, .int 6]) (n := 4) (Nat.le_of_ble_eq_true rfl)
  rw [lg_entry_eq]
  generalize (lg_sl ([.int c0, .int 7, .int 4, .int 6]) ++ List.replicate (4 - (lg_sl ([.int c0, .int 7, .int 4, .int 6])).length) Slot.unset).toArray = ls at hl ⊢
  have hl : lv_has ls 4 [(0, .int c0), (1, .int 7), (2, .int 4), (3, .int 6)] := hl
  refine lv_iload_n hx hb dX16_bit_0 rfl (lv_at hl 0 rfl) ?_
  refine lv_iload_n hx hb dX16_bit_1 rfl (lv_at hl 1 rfl) ?_
  refine lv_iload_n hx hb dX16_bit_2 rfl (lv_at hl 2 rfl) ?_
  have hPc := hP.sub (ws' := []) [] rfl
  have hDc := hD.sub (ws' := []) [] (by decide) rfl
  have hKc := hK.sub (tys' := []) [] rfl
  have hFc := va_free (wc := []) hD hS hA [] rfl
  refine va_calli (va_runS (As := [.int c0, .int 7, .int 4]) (rest := []) ⟨hx, hb, hml, hown, hts⟩ (k_X16_part_v16 l hlt dC dI c0  s.heap.size) (cwS 3 hts gi_k_X16_bit_v14_0 rfl rfl rfl (by decide +kernel) ⟨Nat.le_of_ble_eq_true rfl, Nat.le_of_ble_eq_true rfl⟩) ⟨fun a U g mk q => by obtain ⟨q0, q1, qP, qK, qD, qN⟩ := q; exact ⟨q0, q1, qP, va_K.moved (u := U) (U := U.calling g mk a) (Vm.Alike.refl U.vm) qK, qD, nv_same rfl rfl qN⟩, fun U hU hW => ⟨rfl, by rw [hU], by rw [hU]; exact hPc, va_K.moved hW.alike hKc, hDc.weaken (fun _ _ _ _ => trivial), nv_call hS hFc hU hW hN⟩⟩ rfl rfl hl.1 rfl (lv_room (Nat.le_of_ble_eq_true rfl)) dX16_bit_3 ⟨by decide +kernel, by decide +kernel⟩) hS (fun q _ h => hFc q h) hFc (fun r1 u t H1 locs ht hvm hw hB hz1 hk1 hS => ?_)
  obtain ⟨hP1, hK1, hD1⟩ := hB
  rw [ht] at hP1
  have hK1 := va_K.moved hvm.symm hK1
  obtain ⟨hP, hD⟩ := va_join (wr := []) (w1 := []) hP hD [] [] rfl rfl (by decide) (by decide) hk1 hFc hP1 hD1
  have hK := (hK.sub (tys' := []) [] rfl).app hK1
  generalize H1 = H at hP hS ⊢
  have hP : va_P (dC, dI) vwCl [] H := hP
  have hD : va_D A [] := hD
  have hK : va_K (dC, dI) vwCl [] s := hK
  refine W.widen (k := 0) (n := 0) (by decide +kernel) (by decide +kernel) ?_
  rcases hw with h9 | h9
  · subst h9
    refine lv_iload_n hx hb dX16_bit_6 rfl (lv_at hl 3 rfl) ?_
    refine lv_ishl hx hb dX16_bit_7 ?_
    refine W.widen (k := 0) (n := 0) (by decide +kernel) (by decide +kernel) ?_
    exact W.iret (v := ((((((c0 : Int32).toUInt32 >>> ((7 : Int32).toUInt32 &&& Int32.toUInt32 31)).toInt32) &&& 15) : Int32) <<< ((6 : Int32) &&& 31))) hx hb hr (fun t ht hW => ⟨⟨((((((c0 : Int32).toUInt32 >>> ((7 : Int32).toUInt32 &&& Int32.toUInt32 31)).toInt32) &&& 15) : Int32) <<< ((6 : Int32) &&& 31)), (), rfl, Or.inl rfl, by rw [ht]; exact hP, va_K.moved hW.alike hK, hD⟩, hS.F ht⟩) hS.2.2 dX16_bit_8
  · exact h9.elim
def ow_k_X16_bit_v15 : List Cond := .code yX16_bit cX16_bit 4 (some .int) :: ([.methodLink RX16 297 yX16_part, .static yX16_part, .initialized RX16] ++ (ow_k_X16_part_v14 ++ []))
theorem gd_k_X16_bit_v15 : ∀ w ∈ ow_k_X16_bit_v15, (w.onTables && w.keeps) = true ∨ ∃ ty, w = Cond.arrayClass ty := List.forall_mem_cons.mpr ⟨good_of_word rfl, List.forall_mem_append.mpr ⟨fun w h => good_of_word (List.all_eq_true.mp (by decide +kernel) w h), List.forall_mem_append.mpr ⟨gd_k_X16_part_v14, fun _ h => nomatch h⟩⟩⟩
theorem gi_k_X16_bit_v15_0 : GoodIn ow_k_X16_bit_v15 (wsS RX16 297 yX16_part ow_k_X16_part_v14) := goodIn_app (goodIn_of _ (by decide +kernel)) (fun w h => ⟨List.mem_cons_of_mem _ (List.mem_append_right _ (List.mem_append_left _ h)), gd_k_X16_part_v14 w h⟩)
set_option maxHeartbeats 40000000 in
set_option maxRecDepth 100000 in
theorem k_X16_bit_v15 (l : Launch) (hlt : l.stackTraces = false) (dC : Nat → ClassId) (dI : Nat → Nat → Nat) (c0 : Int32) (sz : Nat) : Met l yX16_bit ow_k_X16_bit_v15 ({ frames := 1, cells := 0, slots := 0, locals := 22 }) (va_Pc [.int c0, .int 5, .int 1, .int 3] (fun U => U.heap.size = sz ∧ va_P (dC, dI) vwCl [] U.heap ∧ va_K (dC, dI) vwCl [] U ∧ va_D (fun _ => True) [] ∧ nv_E (va_A [] sz) U)) (va_Qi (fun r _ => (r = ((((((c0 : Int32).toUInt32 >>> ((5 : Int32).toUInt32 &&& Int32.toUInt32 31)).toInt32) &&& 1) : Int32) <<< ((3 : Int32) &&& 31))) ∨ False) (fun (_ : Unit) t => va_P (dC, dI) vwCl [] t.heap ∧ va_K (dC, dI) vwCl [] t ∧ va_D (va_A [] sz) []) (va_A [] sz)) 0 0 (va_A [] sz) := by
  refine Met.ofW (cc := cX16_bit) (maxL := 4) (ret := (some .int)) (by decide) rfl ?_
  intro p e s m args below meth c s₁ B hml hv
  obtain ⟨rfl, hsz, hP, hK, hD0, hN⟩ := hv
  have hx := B.exec
  have hb := B.bytes
  have hr := B.returns
  have hts := atoms_spec (ws := ow_k_X16_bit_v15) B.pre
  have hown : s.vm.findClass RX16 = some m.cls := findClass_of_methodNamed B.named
  have hlocks := B.notSynchronized
  subst hsz
  have hD := hD0.self (sz := s.heap.size)
  generalize hAe : va_A [] s.heap.size = A at hD hN ⊢
  have hA : ∀ q : Nat, s.heap.size ≤ q → A q := fun q h => by rw [← hAe]; exact Or.inr h
  have hS : va_S A s.heap s.heap [] := va_S.rf
  have hl := lv_entry ([.int c0, .int 5, .int 1, .int 3]) (n := 4) (Nat.le_of_ble_eq_true rfl)
  rw [lg_entry_eq]
  generalize (lg_sl ([.int c0, .int 5, .int 1, .int 3]) ++ List.replicate (4 - (lg_sl ([.int c0, .int 5, .int 1, .int 3])).length) Slot.unset).toArray = ls at hl ⊢
  have hl : lv_has ls 4 [(0, .int c0), (1, .int 5), (2, .int 1), (3, .int 3)] := hl
  refine lv_iload_n hx hb dX16_bit_0 rfl (lv_at hl 0 rfl) ?_
  refine lv_iload_n hx hb dX16_bit_1 rfl (lv_at hl 1 rfl) ?_
  refine lv_iload_n hx hb dX16_bit_2 rfl (lv_at hl 2 rfl) ?_
  have hPc := hP.sub (ws' := []) [] rfl
  have hDc := hD.sub (ws' := []) [] (by decide) rfl
  have hKc := hK.sub (tys' := []) [] rfl
  have hFc := va_free (wc := []) hD hS hA [] rfl
  refine va_calli (va_runS (As := [.int c0, .int 5, .int 1]) (rest := []) ⟨hx, hb, hml, hown, hts⟩ (k_X16_part_v14 l hlt dC dI c0  s.heap.size) (cwS 3 hts gi_k_X16_bit_v15_0 rfl rfl rfl (by decide +kernel) ⟨Nat.le_of_ble_eq_true rfl, Nat.le_of_ble_eq_true rfl⟩) ⟨fun a U g mk q => by obtain ⟨q0, q1, qP, qK, qD, qN⟩ := q; exact ⟨q0, q1, qP, va_K.moved (u := U) (U := U.calling g mk a) (Vm.Alike.refl U.vm) qK, qD, nv_same rfl rfl qN⟩, fun U hU hW => ⟨rfl, by rw [hU], by rw [hU]; exact hPc, va_K.moved hW.alike hKc, hDc.weaken (fun _ _ _ _ => trivial), nv_call hS hFc hU hW hN⟩⟩ rfl rfl hl.1 rfl (lv_room (Nat.le_of_ble_eq_true rfl)) dX16_bit_3 ⟨by decide +kernel, by decide +kernel⟩) hS (fun q _ h => hFc q h) hFc (fun r1 u t H1 locs ht hvm hw hB hz1 hk1 hS => ?_)
  obtain ⟨hP1, hK1, hD1⟩ := hB
  rw [ht] at hP1
  have hK1 := va_K.moved hvm.symm hK1
  obtain ⟨hP, hD⟩ := va_join (wr := []) (w1 := []) hP hD [] [] rfl rfl (by decide) (by decide) hk1 hFc hP1 hD1
  have hK := (hK.sub (tys' := []) [] rfl).app hK1
  generalize H1 = H at hP hS ⊢
  have hP : va_P (dC, dI) vwCl [] H := hP
  have hD : va_D A [] := hD
  have hK : va_K (dC, dI) vwCl [] s := hK
  refine W.widen (k := 0) (n := 0) (by decide +kernel) (by decide +kernel) ?_
  rcases hw with h9 | h9
  · subst h9
    refine lv_iload_n hx hb dX16_bit_6 rfl (lv_at hl 3 rfl) ?_
    refine lv_ishl hx hb dX16_bit_7 ?_
    refine W.widen (k := 0) (n := 0) (by decide +kernel) (by decide +kernel) ?_
    exact W.iret (v := ((((((c0 : Int32).toUInt32 >>> ((5 : Int32).toUInt32 &&& Int32.toUInt32 31)).toInt32) &&& 1) : Int32) <<< ((3 : Int32) &&& 31))) hx hb hr (fun t ht hW => ⟨⟨((((((c0 : Int32).toUInt32 >>> ((5 : Int32).toUInt32 &&& Int32.toUInt32 31)).toInt32) &&& 1) : Int32) <<< ((3 : Int32) &&& 31)), (), rfl, Or.inl rfl, by rw [ht]; exact hP, va_K.moved hW.alike hK, hD⟩, hS.F ht⟩) hS.2.2 dX16_bit_8
  · exact h9.elim
def ow_k_X16_storing : List Cond := .code yX16_storing cX16_storing 3 (some .int) :: ([.methodLink RX16 300 yX16_bit, .static yX16_bit, .initialized RX16] ++ (ow_k_X16_bit ++ (ow_k_X16_bit_v1 ++ [])))
theorem gd_k_X16_storing : ∀ w ∈ ow_k_X16_storing, (w.onTables && w.keeps) = true ∨ ∃ ty, w = Cond.arrayClass ty := List.forall_mem_cons.mpr ⟨good_of_word rfl, List.forall_mem_append.mpr ⟨fun w h => good_of_word (List.all_eq_true.mp (by decide +kernel) w h), List.forall_mem_append.mpr ⟨gd_k_X16_bit, List.forall_mem_append.mpr ⟨gd_k_X16_bit_v1, fun _ h => nomatch h⟩⟩⟩⟩
theorem gi_k_X16_storing_0 : GoodIn ow_k_X16_storing (wsS RX16 300 yX16_bit ow_k_X16_bit) := goodIn_app (goodIn_of _ (by decide +kernel)) (fun w h => ⟨List.mem_cons_of_mem _ (List.mem_append_right _ (List.mem_append_left _ h)), gd_k_X16_bit w h⟩)
theorem gi_k_X16_storing_1 : GoodIn ow_k_X16_storing (wsS RX16 300 yX16_bit ow_k_X16_bit_v1) := goodIn_app (goodIn_of _ (by decide +kernel)) (fun w h => ⟨List.mem_cons_of_mem _ (List.mem_append_right _ (List.mem_append_right _ (List.mem_append_left _ h))), gd_k_X16_bit_v1 w h⟩)
set_option maxHeartbeats 40000000 in
set_option maxRecDepth 100000 in
theorem k_X16_storing (l : Launch) (hlt : l.stackTraces = false) (dC : Nat → ClassId) (dI : Nat → Nat → Nat) (c0 : Int32) (c1 : Int32) (c2 : Int32) (sz : Nat) : Met l yX16_storing ow_k_X16_storing ({ frames := 2, cells := 0, slots := 0, locals := 45 }) (va_Pc [.int c0, .int c1, .int c2] (fun U => U.heap.size = sz ∧ va_P (dC, dI) vwCl [] U.heap ∧ va_K (dC, dI) vwCl [] U ∧ va_D (fun _ => True) [] ∧ nv_E (va_A [] sz) U)) (va_Qi (fun r _ => (r = (((((35 ||| ((((((c2 : Int32).toUInt32 >>> ((0 : Int32).toUInt32 &&& Int32.toUInt32 31)).toInt32) &&& 31) : Int32) <<< ((7 : Int32) &&& 31))) ||| 8192) ||| ((c0 : Int32) <<< ((15 : Int32) &&& 31))) ||| ((c1 : Int32) <<< ((20 : Int32) &&& 31))) ||| ((((((c2 : Int32).toUInt32 >>> ((5 : Int32).toUInt32 &&& Int32.toUInt32 31)).toInt32) &&& 127) : Int32) <<< ((25 : Int32) &&& 31)))) ∨ False) (fun (_ : Unit) t => va_P (dC, dI) vwCl [] t.heap ∧ va_K (dC, dI) vwCl [] t ∧ va_D (va_A [] sz) []) (va_A [] sz)) 0 0 (va_A [] sz) := by
  refine Met.ofW (cc := cX16_storing) (maxL := 3) (ret := (some .int)) (by decide) rfl ?_
  intro p e s m args below meth c s₁ B hml hv
  obtain ⟨rfl, hsz, hP, hK, hD0, hN⟩ := hv
  have hx := B.exec
  have hb := B.bytes
  have hr := B.returns
  have hts := atoms_spec (ws := ow_k_X16_storing) B.pre
  have hown : s.vm.findClass RX16 = some m.cls := findClass_of_methodNamed B.named
  have hlocks := B.notSynchronized
  subst hsz
  have hD := hD0.self (sz := s.heap.size)
  generalize hAe : va_A [] s.heap.size = A at hD hN ⊢
  have hA : ∀ q : Nat, s.heap.size ≤ q → A q := fun q h => by rw [← hAe]; exact Or.inr h
  have hS : va_S A s.heap s.heap [] := va_S.rf
  have hl := lv_entry ([.int c0, .int c1, .int c2]) (n := 3) (Nat.le_of_ble_eq_true rfl)
  rw [lg_entry_eq]
  generalize (lg_sl ([.int c0, .int c1, .int c2]) ++ List.replicate (3 - (lg_sl ([.int c0, .int c1, .int c2])).length) Slot.unset).toArray = ls at hl ⊢
  have hl : lv_has ls 3 [(0, .int c0), (1, .int c1), (2, .int c2)] := hl
  refine lv_bipush (v := 35) hx hb dX16_storing_0 (by decide) ?_
  refine lv_iload_n hx hb dX16_storing_2 rfl (lv_at hl 2 rfl) ?_
  refine lv_iconst (v := 0) hx hb dX16_storing_3 (by decide) ?_
  refine lv_iconst (v := 5) hx hb dX16_storing_4 (by decide) ?_
  refine lv_bipush (v := 7) hx hb dX16_storing_5 (by decide) ?_
  have hPc := hP.sub (ws' := []) [] rfl
  have hDc := hD.sub (ws' := []) [] (by decide) rfl
  have hKc := hK.sub (tys' := []) [] rfl
  have hFc := va_free (wc := []) hD hS hA [] rfl
  refine va_calli (va_runS (As := [.int c2, .int 0, .int 5, .int 7]) (rest := [.int 35]) ⟨hx, hb, hml, hown, hts⟩ (k_X16_bit l hlt dC dI c2  s.heap.size) (cwS 4 hts gi_k_X16_storing_0 rfl rfl rfl (by decide +kernel) ⟨Nat.le_of_ble_eq_true rfl, Nat.le_of_ble_eq_true rfl⟩) ⟨fun a U g mk q => by obtain ⟨q0, q1, qP, qK, qD, qN⟩ := q; exact ⟨q0, q1, qP, va_K.moved (u := U) (U := U.calling g mk a) (Vm.Alike.refl U.vm) qK, qD, nv_same rfl rfl qN⟩, fun U hU hW => ⟨rfl, by rw [hU], by rw [hU]; exact hPc, va_K.moved hW.alike hKc, hDc.weaken (fun _ _ _ _ => trivial), nv_call hS hFc hU hW hN⟩⟩ rfl rfl hl.1 rfl (lv_room (Nat.le_of_ble_eq_true rfl)) dX16_storing_7 ⟨by decide +kernel, by decide +kernel⟩) hS (fun q _ h => hFc q h) hFc (fun r1 u t H1 locs ht hvm hw hB hz1 hk1 hS => ?_)
  obtain ⟨hP1, hK1, hD1⟩ := hB
  rw [ht] at hP1
  have hK1 := va_K.moved hvm.symm hK1
  obtain ⟨hP, hD⟩ := va_join (wr := []) (w1 := []) hP hD [] [] rfl rfl (by decide) (by decide) hk1 hFc hP1 hD1
  have hK := (hK.sub (tys' := []) [] rfl).app hK1
  generalize H1 = H at hP hS ⊢
  have hP : va_P (dC, dI) vwCl [] H := hP
  have hD : va_D A [] := hD
  have hK : va_K (dC, dI) vwCl [] s := hK
  refine W.widen (k := 0) (n := 0) (by decide +kernel) (by decide +kernel) ?_
  rcases hw with h9 | h9
  · subst h9
    refine lv_ior hx hb dX16_storing_10 ?_
    refine lv_sipush (v := 8192) hx hb dX16_storing_11 (by decide) ?_
    refine lv_ior hx hb dX16_storing_14 ?_
    refine lv_iload_n hx hb dX16_storing_15 rfl (lv_at hl 0 rfl) ?_
    refine lv_bipush (v := 15) hx hb dX16_storing_16 (by decide) ?_
    refine lv_ishl hx hb dX16_storing_18 ?_
    refine lv_ior hx hb dX16_storing_19 ?_
    refine lv_iload_n hx hb dX16_storing_20 rfl (lv_at hl 1 rfl) ?_
    refine lv_bipush (v := 20) hx hb dX16_storing_21 (by decide) ?_
    refine lv_ishl hx hb dX16_storing_23 ?_
    refine lv_ior hx hb dX16_storing_24 ?_
    refine lv_iload_n hx hb dX16_storing_25 rfl (lv_at hl 2 rfl) ?_
    refine lv_iconst (v := 5) hx hb dX16_storing_26 (by decide) ?_
    refine lv_bipush (v := 7) hx hb dX16_storing_27 (by decide) ?_
    refine lv_bipush (v := 25) hx hb dX16_storing_29 (by decide) ?_
    have hPc := hP.sub (ws' := []) [] rfl
    have hDc := hD.sub (ws' := []) [] (by decide) rfl
    have hKc := hK.sub (tys' := []) [] rfl
    have hFc := va_free (wc := []) hD hS hA [] rfl
    refine va_calli (va_runS (As := [.int c2, .int 5, .int 7, .int 25]) (rest := [.int ((((35 ||| ((((((c2 : Int32).toUInt32 >>> ((0 : Int32).toUInt32 &&& Int32.toUInt32 31)).toInt32) &&& 31) : Int32) <<< ((7 : Int32) &&& 31))) ||| 8192) ||| ((c0 : Int32) <<< ((15 : Int32) &&& 31))) ||| ((c1 : Int32) <<< ((20 : Int32) &&& 31)))]) ⟨hx, hb, hml, hown, hts⟩ (k_X16_bit_v1 l hlt dC dI c2  H.size) (cwS 4 hts gi_k_X16_storing_1 rfl rfl rfl (by decide +kernel) ⟨Nat.le_of_ble_eq_true rfl, Nat.le_of_ble_eq_true rfl⟩) ⟨fun a U g mk q => by obtain ⟨q0, q1, qP, qK, qD, qN⟩ := q; exact ⟨q0, q1, qP, va_K.moved (u := U) (U := U.calling g mk a) (Vm.Alike.refl U.vm) qK, qD, nv_same rfl rfl qN⟩, fun U hU hW => ⟨rfl, by rw [hU], by rw [hU]; exact hPc, va_K.moved hW.alike hKc, hDc.weaken (fun _ _ _ _ => trivial), nv_call hS hFc hU hW hN⟩⟩ rfl rfl hl.1 rfl (lv_room (Nat.le_of_ble_eq_true rfl)) dX16_storing_31 ⟨by decide +kernel, by decide +kernel⟩) hS (fun q _ h => hFc q h) hFc (fun r2 u t H1 locs ht hvm hw hB hz1 hk1 hS => ?_)
    obtain ⟨hP1, hK1, hD1⟩ := hB
    rw [ht] at hP1
    have hK1 := va_K.moved hvm.symm hK1
    obtain ⟨hP, hD⟩ := va_join (wr := []) (w1 := []) hP hD [] [] rfl rfl (by decide) (by decide) hk1 hFc hP1 hD1
    have hK := (hK.sub (tys' := []) [] rfl).app hK1
    generalize H1 = H at hP hS ⊢
    have hP : va_P (dC, dI) vwCl [] H := hP
    have hD : va_D A [] := hD
    have hK : va_K (dC, dI) vwCl [] s := hK
    refine W.widen (k := 0) (n := 0) (by decide +kernel) (by decide +kernel) ?_
    rcases hw with h9 | h9
    · subst h9
      refine lv_ior hx hb dX16_storing_34 ?_
      refine W.widen (k := 0) (n := 0) (by decide +kernel) (by decide +kernel) ?_
      exact W.iret (v := (((((35 ||| ((((((c2 : Int32).toUInt32 >>> ((0 : Int32).toUInt32 &&& Int32.toUInt32 31)).toInt32) &&& 31) : Int32) <<< ((7 : Int32) &&& 31))) ||| 8192) ||| ((c0 : Int32) <<< ((15 : Int32) &&& 31))) ||| ((c1 : Int32) <<< ((20 : Int32) &&& 31))) ||| ((((((c2 : Int32).toUInt32 >>> ((5 : Int32).toUInt32 &&& Int32.toUInt32 31)).toInt32) &&& 127) : Int32) <<< ((25 : Int32) &&& 31)))) hx hb hr (fun t ht hW => ⟨⟨(((((35 ||| ((((((c2 : Int32).toUInt32 >>> ((0 : Int32).toUInt32 &&& Int32.toUInt32 31)).toInt32) &&& 31) : Int32) <<< ((7 : Int32) &&& 31))) ||| 8192) ||| ((c0 : Int32) <<< ((15 : Int32) &&& 31))) ||| ((c1 : Int32) <<< ((20 : Int32) &&& 31))) ||| ((((((c2 : Int32).toUInt32 >>> ((5 : Int32).toUInt32 &&& Int32.toUInt32 31)).toInt32) &&& 127) : Int32) <<< ((25 : Int32) &&& 31))), (), rfl, Or.inl rfl, by rw [ht]; exact hP, va_K.moved hW.alike hK, hD⟩, hS.F ht⟩) hS.2.2 dX16_storing_35
    · exact h9.elim
  · exact h9.elim
def ow_k_X16_immediate : List Cond := .code yX16_immediate cX16_immediate 5 (some .int) :: ([] ++ [])
theorem gd_k_X16_immediate : ∀ w ∈ ow_k_X16_immediate, (w.onTables && w.keeps) = true ∨ ∃ ty, w = Cond.arrayClass ty := List.forall_mem_cons.mpr ⟨good_of_word rfl, List.forall_mem_append.mpr ⟨fun w h => good_of_word (List.all_eq_true.mp (by decide +kernel) w h), fun _ h => nomatch h⟩⟩
set_option maxHeartbeats 40000000 in
set_option maxRecDepth 100000 in
theorem k_X16_immediate (l : Launch) (hlt : l.stackTraces = false) (dC : Nat → ClassId) (dI : Nat → Nat → Nat) (c0 : Int32) (c1 : Int32) (c2 : Int32) (sz : Nat) : Met l yX16_immediate ow_k_X16_immediate ({ frames := 0, cells := 0, slots := 0, locals := 0 }) (va_Pc [.int 3, .int 2, .int c0, .int c1, .int c2] (fun U => U.heap.size = sz ∧ va_P (dC, dI) vwCl [] U.heap ∧ va_K (dC, dI) vwCl [] U ∧ va_D (fun _ => True) [] ∧ nv_E (va_A [] sz) U)) (va_Qi (fun r _ => (r = ((((3 ||| ((c0 : Int32) <<< ((7 : Int32) &&& 31))) ||| 8192) ||| ((c1 : Int32) <<< ((15 : Int32) &&& 31))) ||| ((c2 : Int32) <<< ((20 : Int32) &&& 31)))) ∨ False) (fun (_ : Unit) t => va_P (dC, dI) vwCl [] t.heap ∧ va_K (dC, dI) vwCl [] t ∧ va_D (va_A [] sz) []) (va_A [] sz)) 0 0 (va_A [] sz) := by
  refine Met.ofW (cc := cX16_immediate) (maxL := 5) (ret := (some .int)) (by decide) rfl ?_
  intro p e s m args below meth c s₁ B hml hv
  obtain ⟨rfl, hsz, hP, hK, hD0, hN⟩ := hv
  have hx := B.exec
  have hb := B.bytes
  have hr := B.returns
  have hts := atoms_spec (ws := ow_k_X16_immediate) B.pre
  have hown : s.vm.findClass RX16 = some m.cls := findClass_of_methodNamed B.named
  have hlocks := B.notSynchronized
  subst hsz
  have hD := hD0.self (sz := s.heap.size)
  generalize hAe : va_A [] s.heap.size = A at hD hN ⊢
  have hA : ∀ q : Nat, s.heap.size ≤ q → A q := fun q h => by rw [← hAe]; exact Or.inr h
  have hS : va_S A s.heap s.heap [] := va_S.rf
  have hl := lv_entry ([.int 3, .int 2, .int c0, .int c1, .int c2]) (n := 5) (Nat.le_of_ble_eq_true rfl)
  rw [lg_entry_eq]
  generalize (lg_sl ([.int 3, .int 2, .int c0, .int c1, .int c2]) ++ List.replicate (5 - (lg_sl ([.int 3, .int 2, .int c0, .int c1, .int c2])).length) Slot.unset).toArray = ls at hl ⊢
  have hl : lv_has ls 5 [(0, .int 3), (1, .int 2), (2, .int c0), (3, .int c1), (4, .int c2)] := hl
  refine lv_iload_n hx hb dX16_immediate_0 rfl (lv_at hl 0 rfl) ?_
  refine lv_iload_n hx hb dX16_immediate_1 rfl (lv_at hl 2 rfl) ?_
  refine lv_bipush (v := 7) hx hb dX16_immediate_2 (by decide) ?_
  refine lv_ishl hx hb dX16_immediate_4 ?_
  refine lv_ior hx hb dX16_immediate_5 ?_
  refine lv_iload_n hx hb dX16_immediate_6 rfl (lv_at hl 1 rfl) ?_
  refine lv_bipush (v := 12) hx hb dX16_immediate_7 (by decide) ?_
  refine lv_ishl hx hb dX16_immediate_9 ?_
  refine lv_topi (fun z1 ez1 => ?_)
  obtain rfl : z1 = 8192 := ez1.trans (by decide)
  refine lv_ior hx hb dX16_immediate_10 ?_
  refine lv_iload_n hx hb dX16_immediate_11 rfl (lv_at hl 3 rfl) ?_
  refine lv_bipush (v := 15) hx hb dX16_immediate_12 (by decide) ?_
  refine lv_ishl hx hb dX16_immediate_14 ?_
  refine lv_ior hx hb dX16_immediate_15 ?_
  refine lv_iload hx hb dX16_immediate_16 (lv_at hl 4 rfl) ?_
  refine lv_bipush (v := 20) hx hb dX16_immediate_18 (by decide) ?_
  refine lv_ishl hx hb dX16_immediate_20 ?_
  refine lv_ior hx hb dX16_immediate_21 ?_
  refine W.widen (k := 0) (n := 0) (by decide +kernel) (by decide +kernel) ?_
  exact W.iret (v := ((((3 ||| ((c0 : Int32) <<< ((7 : Int32) &&& 31))) ||| 8192) ||| ((c1 : Int32) <<< ((15 : Int32) &&& 31))) ||| ((c2 : Int32) <<< ((20 : Int32) &&& 31)))) hx hb hr (fun t ht hW => ⟨⟨((((3 ||| ((c0 : Int32) <<< ((7 : Int32) &&& 31))) ||| 8192) ||| ((c1 : Int32) <<< ((15 : Int32) &&& 31))) ||| ((c2 : Int32) <<< ((20 : Int32) &&& 31))), (), rfl, Or.inl rfl, by rw [ht]; exact hP, va_K.moved hW.alike hK, hD⟩, hS.F ht⟩) hS.2.2 dX16_immediate_22
def ow_k_X16_immediate_v1 : List Cond := .code yX16_immediate cX16_immediate 5 (some .int) :: ([] ++ [])
theorem gd_k_X16_immediate_v1 : ∀ w ∈ ow_k_X16_immediate_v1, (w.onTables && w.keeps) = true ∨ ∃ ty, w = Cond.arrayClass ty := List.forall_mem_cons.mpr ⟨good_of_word rfl, List.forall_mem_append.mpr ⟨fun w h => good_of_word (List.all_eq_true.mp (by decide +kernel) w h), fun _ h => nomatch h⟩⟩
set_option maxHeartbeats 40000000 in
set_option maxRecDepth 100000 in
theorem k_X16_immediate_v1 (l : Launch) (hlt : l.stackTraces = false) (dC : Nat → ClassId) (dI : Nat → Nat → Nat) (c0 : Int32) (c1 : Int32) (sz : Nat) : Met l yX16_immediate ow_k_X16_immediate_v1 ({ frames := 0, cells := 0, slots := 0, locals := 0 }) (va_Pc [.int 19, .int 0, .int c0, .int 2, .int c1] (fun U => U.heap.size = sz ∧ va_P (dC, dI) vwCl [] U.heap ∧ va_K (dC, dI) vwCl [] U ∧ va_D (fun _ => True) [] ∧ nv_E (va_A [] sz) U)) (va_Qi (fun r _ => (r = ((((19 ||| ((c0 : Int32) <<< ((7 : Int32) &&& 31))) ||| 0) ||| 65536) ||| ((c1 : Int32) <<< ((20 : Int32) &&& 31)))) ∨ False) (fun (_ : Unit) t => va_P (dC, dI) vwCl [] t.heap ∧ va_K (dC, dI) vwCl [] t ∧ va_D (va_A [] sz) []) (va_A [] sz)) 0 0 (va_A [] sz) := by
  refine Met.ofW (cc := cX16_immediate) (maxL := 5) (ret := (some .int)) (by decide) rfl ?_
  intro p e s m args below meth c s₁ B hml hv
  obtain ⟨rfl, hsz, hP, hK, hD0, hN⟩ := hv
  have hx := B.exec
  have hb := B.bytes
  have hr := B.returns
  have hts := atoms_spec (ws := ow_k_X16_immediate_v1) B.pre
  have hown : s.vm.findClass RX16 = some m.cls := findClass_of_methodNamed B.named
  have hlocks := B.notSynchronized
  subst hsz
  have hD := hD0.self (sz := s.heap.size)
  generalize hAe : va_A [] s.heap.size = A at hD hN ⊢
  have hA : ∀ q : Nat, s.heap.size ≤ q → A q := fun q h => by rw [← hAe]; exact Or.inr h
  have hS : va_S A s.heap s.heap [] := va_S.rf
  have hl := lv_entry ([.int 19, .int 0, .int c0, .int 2, .int c1]) (n := 5) (Nat.le_of_ble_eq_true rfl)
  rw [lg_entry_eq]
  generalize (lg_sl ([.int 19, .int 0, .int c0, .int 2, .int c1]) ++ List.replicate (5 - (lg_sl ([.int 19, .int 0, .int c0, .int 2, .int c1])).length) Slot.unset).toArray = ls at hl ⊢
  have hl : lv_has ls 5 [(0, .int 19), (1, .int 0), (2, .int c0), (3, .int 2), (4, .int c1)] := hl
  refine lv_iload_n hx hb dX16_immediate_0 rfl (lv_at hl 0 rfl) ?_
  refine lv_iload_n hx hb dX16_immediate_1 rfl (lv_at hl 2 rfl) ?_
  refine lv_bipush (v := 7) hx hb dX16_immediate_2 (by decide) ?_
  refine lv_ishl hx hb dX16_immediate_4 ?_
  refine lv_ior hx hb dX16_immediate_5 ?_
  refine lv_iload_n hx hb dX16_immediate_6 rfl (lv_at hl 1 rfl) ?_
  refine lv_bipush (v := 12) hx hb dX16_immediate_7 (by decide) ?_
  refine lv_ishl hx hb dX16_immediate_9 ?_
  refine lv_topi (fun z1 ez1 => ?_)
  obtain rfl : z1 = 0 := ez1.trans (by decide)
  refine lv_ior hx hb dX16_immediate_10 ?_
  refine lv_iload_n hx hb dX16_immediate_11 rfl (lv_at hl 3 rfl) ?_
  refine lv_bipush (v := 15) hx hb dX16_immediate_12 (by decide) ?_
  refine lv_ishl hx hb dX16_immediate_14 ?_
  refine lv_topi (fun z2 ez2 => ?_)
  obtain rfl : z2 = 65536 := ez2.trans (by decide)
  refine lv_ior hx hb dX16_immediate_15 ?_
  refine lv_iload hx hb dX16_immediate_16 (lv_at hl 4 rfl) ?_
  refine lv_bipush (v := 20) hx hb dX16_immediate_18 (by decide) ?_
  refine lv_ishl hx hb dX16_immediate_20 ?_
  refine lv_ior hx hb dX16_immediate_21 ?_
  refine W.widen (k := 0) (n := 0) (by decide +kernel) (by decide +kernel) ?_
  exact W.iret (v := ((((19 ||| ((c0 : Int32) <<< ((7 : Int32) &&& 31))) ||| 0) ||| 65536) ||| ((c1 : Int32) <<< ((20 : Int32) &&& 31)))) hx hb hr (fun t ht hW => ⟨⟨((((19 ||| ((c0 : Int32) <<< ((7 : Int32) &&& 31))) ||| 0) ||| 65536) ||| ((c1 : Int32) <<< ((20 : Int32) &&& 31))), (), rfl, Or.inl rfl, by rw [ht]; exact hP, va_K.moved hW.alike hK, hD⟩, hS.F ht⟩) hS.2.2 dX16_immediate_22
def ow_g_X16_zero : List Cond := .code yX16_zero cX16_zero 6 (some .int) :: ([.methodLink RX16 297 yX16_part, .static yX16_part, .initialized RX16, .methodLink RX16 300 yX16_bit, .static yX16_bit, .methodLink RX16 317 yX16_storing, .static yX16_storing, .methodLink RX16 313 yX16_immediate, .static yX16_immediate] ++ (ow_k_X16_part_v10 ++ (ow_k_X16_part_v11 ++ (ow_k_X16_bit_v10 ++ (ow_k_X16_bit_v11 ++ (ow_k_X16_bit_v12 ++ (ow_k_X16_bit_v13 ++ (ow_k_X16_bit_v14 ++ (ow_k_X16_bit_v15 ++ (ow_k_X16_storing ++ (ow_k_X16_immediate ++ (ow_k_X16_immediate_v1 ++ []))))))))))))
theorem gd_g_X16_zero : ∀ w ∈ ow_g_X16_zero, (w.onTables && w.keeps) = true ∨ ∃ ty, w = Cond.arrayClass ty := List.forall_mem_cons.mpr ⟨good_of_word rfl, List.forall_mem_append.mpr ⟨fun w h => good_of_word (List.all_eq_true.mp (by decide +kernel) w h), List.forall_mem_append.mpr ⟨gd_k_X16_part_v10, List.forall_mem_append.mpr ⟨gd_k_X16_part_v11, List.forall_mem_append.mpr ⟨gd_k_X16_bit_v10, List.forall_mem_append.mpr ⟨gd_k_X16_bit_v11, List.forall_mem_append.mpr ⟨gd_k_X16_bit_v12, List.forall_mem_append.mpr ⟨gd_k_X16_bit_v13, List.forall_mem_append.mpr ⟨gd_k_X16_bit_v14, List.forall_mem_append.mpr ⟨gd_k_X16_bit_v15, List.forall_mem_append.mpr ⟨gd_k_X16_storing, List.forall_mem_append.mpr ⟨gd_k_X16_immediate, List.forall_mem_append.mpr ⟨gd_k_X16_immediate_v1, fun _ h => nomatch h⟩⟩⟩⟩⟩⟩⟩⟩⟩⟩⟩⟩⟩
theorem gi_g_X16_zero_0 : GoodIn ow_g_X16_zero (wsS RX16 297 yX16_part ow_k_X16_part_v10) := goodIn_app (goodIn_of _ (by decide +kernel)) (fun w h => ⟨List.mem_cons_of_mem _ (List.mem_append_right _ (List.mem_append_left _ h)), gd_k_X16_part_v10 w h⟩)
theorem gi_g_X16_zero_1 : GoodIn ow_g_X16_zero (wsS RX16 297 yX16_part ow_k_X16_part_v11) := goodIn_app (goodIn_of _ (by decide +kernel)) (fun w h => ⟨List.mem_cons_of_mem _ (List.mem_append_right _ (List.mem_append_right _ (List.mem_append_left _ h))), gd_k_X16_part_v11 w h⟩)
theorem gi_g_X16_zero_2 : GoodIn ow_g_X16_zero (wsS RX16 300 yX16_bit ow_k_X16_bit_v10) := goodIn_app (goodIn_of _ (by decide +kernel)) (fun w h => ⟨List.mem_cons_of_mem _ (List.mem_append_right _ (List.mem_append_right _ (List.mem_append_right _ (List.mem_append_left _ h)))), gd_k_X16_bit_v10 w h⟩)
theorem gi_g_X16_zero_3 : GoodIn ow_g_X16_zero (wsS RX16 300 yX16_bit ow_k_X16_bit_v11) := goodIn_app (goodIn_of _ (by decide +kernel)) (fun w h => ⟨List.mem_cons_of_mem _ (List.mem_append_right _ (List.mem_append_right _ (List.mem_append_right _ (List.mem_append_right _ (List.mem_append_left _ h))))), gd_k_X16_bit_v11 w h⟩)
theorem gi_g_X16_zero_4 : GoodIn ow_g_X16_zero (wsS RX16 300 yX16_bit ow_k_X16_bit_v12) := goodIn_app (goodIn_of _ (by decide +kernel)) (fun w h => ⟨List.mem_cons_of_mem _ (List.mem_append_right _ (List.mem_append_right _ (List.mem_append_right _ (List.mem_append_right _ (List.mem_append_right _ (List.mem_append_left _ h)))))), gd_k_X16_bit_v12 w h⟩)
theorem gi_g_X16_zero_5 : GoodIn ow_g_X16_zero (wsS RX16 300 yX16_bit ow_k_X16_bit_v13) := goodIn_app (goodIn_of _ (by decide +kernel)) (fun w h => ⟨List.mem_cons_of_mem _ (List.mem_append_right _ (List.mem_append_right _ (List.mem_append_right _ (List.mem_append_right _ (List.mem_append_right _ (List.mem_append_right _ (List.mem_append_left _ h))))))), gd_k_X16_bit_v13 w h⟩)
theorem gi_g_X16_zero_6 : GoodIn ow_g_X16_zero (wsS RX16 300 yX16_bit ow_k_X16_bit_v14) := goodIn_app (goodIn_of _ (by decide +kernel)) (fun w h => ⟨List.mem_cons_of_mem _ (List.mem_append_right _ (List.mem_append_right _ (List.mem_append_right _ (List.mem_append_right _ (List.mem_append_right _ (List.mem_append_right _ (List.mem_append_right _ (List.mem_append_left _ h)))))))), gd_k_X16_bit_v14 w h⟩)
theorem gi_g_X16_zero_7 : GoodIn ow_g_X16_zero (wsS RX16 300 yX16_bit ow_k_X16_bit_v15) := goodIn_app (goodIn_of _ (by decide +kernel)) (fun w h => ⟨List.mem_cons_of_mem _ (List.mem_append_right _ (List.mem_append_right _ (List.mem_append_right _ (List.mem_append_right _ (List.mem_append_right _ (List.mem_append_right _ (List.mem_append_right _ (List.mem_append_right _ (List.mem_append_left _ h))))))))), gd_k_X16_bit_v15 w h⟩)
theorem gi_g_X16_zero_8 : GoodIn ow_g_X16_zero (wsS RX16 317 yX16_storing ow_k_X16_storing) := goodIn_app (goodIn_of _ (by decide +kernel)) (fun w h => ⟨List.mem_cons_of_mem _ (List.mem_append_right _ (List.mem_append_right _ (List.mem_append_right _ (List.mem_append_right _ (List.mem_append_right _ (List.mem_append_right _ (List.mem_append_right _ (List.mem_append_right _ (List.mem_append_right _ (List.mem_append_left _ h)))))))))), gd_k_X16_storing w h⟩)
theorem gi_g_X16_zero_9 : GoodIn ow_g_X16_zero (wsS RX16 313 yX16_immediate ow_k_X16_immediate) := goodIn_app (goodIn_of _ (by decide +kernel)) (fun w h => ⟨List.mem_cons_of_mem _ (List.mem_append_right _ (List.mem_append_right _ (List.mem_append_right _ (List.mem_append_right _ (List.mem_append_right _ (List.mem_append_right _ (List.mem_append_right _ (List.mem_append_right _ (List.mem_append_right _ (List.mem_append_right _ (List.mem_append_left _ h))))))))))), gd_k_X16_immediate w h⟩)
theorem gi_g_X16_zero_10 : GoodIn ow_g_X16_zero (wsS RX16 313 yX16_immediate ow_k_X16_immediate_v1) := goodIn_app (goodIn_of _ (by decide +kernel)) (fun w h => ⟨List.mem_cons_of_mem _ (List.mem_append_right _ (List.mem_append_right _ (List.mem_append_right _ (List.mem_append_right _ (List.mem_append_right _ (List.mem_append_right _ (List.mem_append_right _ (List.mem_append_right _ (List.mem_append_right _ (List.mem_append_right _ (List.mem_append_right _ (List.mem_append_left _ h)))))))))))), gd_k_X16_immediate_v1 w h⟩)
set_option maxHeartbeats 40000000 in
set_option maxRecDepth 100000 in
theorem g_X16_zero (l : Launch) (hlt : l.stackTraces = false) (dC : Nat → ClassId) (dI : Nat → Nat → Nat) (v0 : Int32) (v1 : Int32) (sz : Nat) : Met l yX16_zero ow_g_X16_zero ({ frames := 3, cells := 0, slots := 0, locals := 67 }) (va_Pc [.int v0, .int v1] (fun U => U.heap.size = sz ∧ va_P (dC, dI) vwCl [] U.heap ∧ va_K (dC, dI) vwCl [] U ∧ va_D (fun _ => True) [] ∧ nv_E (va_A [] sz) U)) (va_Qi (fun r _ => ((¬ v1 = 0) ∧ (¬ v1 = 2) ∧ (¬ v1 = 6) ∧ r = 0) ∨ ((¬ v1 = 0) ∧ (¬ v1 = 2) ∧ (v1 = 6) ∧ r = (((((35 ||| ((((((((((((((v0 : Int32).toUInt32 >>> ((10 : Int32).toUInt32 &&& Int32.toUInt32 31)).toInt32) &&& 7) : Int32) <<< ((3 : Int32) &&& 31)) ||| ((((((v0 : Int32).toUInt32 >>> ((6 : Int32).toUInt32 &&& Int32.toUInt32 31)).toInt32) &&& 1) : Int32) <<< ((2 : Int32) &&& 31))) ||| ((((((v0 : Int32).toUInt32 >>> ((5 : Int32).toUInt32 &&& Int32.toUInt32 31)).toInt32) &&& 1) : Int32) <<< ((6 : Int32) &&& 31))) : Int32).toUInt32 >>> ((0 : Int32).toUInt32 &&& Int32.toUInt32 31)).toInt32) &&& 31) : Int32) <<< ((7 : Int32) &&& 31))) ||| 8192) ||| (((8 + ((((v0 : Int32).toUInt32 >>> ((7 : Int32).toUInt32 &&& Int32.toUInt32 31)).toInt32) &&& 7)) : Int32) <<< ((15 : Int32) &&& 31))) ||| (((8 + ((((v0 : Int32).toUInt32 >>> ((2 : Int32).toUInt32 &&& Int32.toUInt32 31)).toInt32) &&& 7)) : Int32) <<< ((20 : Int32) &&& 31))) ||| ((((((((((((((v0 : Int32).toUInt32 >>> ((10 : Int32).toUInt32 &&& Int32.toUInt32 31)).toInt32) &&& 7) : Int32) <<< ((3 : Int32) &&& 31)) ||| ((((((v0 : Int32).toUInt32 >>> ((6 : Int32).toUInt32 &&& Int32.toUInt32 31)).toInt32) &&& 1) : Int32) <<< ((2 : Int32) &&& 31))) ||| ((((((v0 : Int32).toUInt32 >>> ((5 : Int32).toUInt32 &&& Int32.toUInt32 31)).toInt32) &&& 1) : Int32) <<< ((6 : Int32) &&& 31))) : Int32).toUInt32 >>> ((5 : Int32).toUInt32 &&& Int32.toUInt32 31)).toInt32) &&& 127) : Int32) <<< ((25 : Int32) &&& 31)))) ∨ ((¬ v1 = 0) ∧ (v1 = 2) ∧ r = ((((3 ||| (((8 + ((((v0 : Int32).toUInt32 >>> ((2 : Int32).toUInt32 &&& Int32.toUInt32 31)).toInt32) &&& 7)) : Int32) <<< ((7 : Int32) &&& 31))) ||| 8192) ||| (((8 + ((((v0 : Int32).toUInt32 >>> ((7 : Int32).toUInt32 &&& Int32.toUInt32 31)).toInt32) &&& 7)) : Int32) <<< ((15 : Int32) &&& 31))) ||| ((((((((((v0 : Int32).toUInt32 >>> ((10 : Int32).toUInt32 &&& Int32.toUInt32 31)).toInt32) &&& 7) : Int32) <<< ((3 : Int32) &&& 31)) ||| ((((((v0 : Int32).toUInt32 >>> ((6 : Int32).toUInt32 &&& Int32.toUInt32 31)).toInt32) &&& 1) : Int32) <<< ((2 : Int32) &&& 31))) ||| ((((((v0 : Int32).toUInt32 >>> ((5 : Int32).toUInt32 &&& Int32.toUInt32 31)).toInt32) &&& 1) : Int32) <<< ((6 : Int32) &&& 31))) : Int32) <<< ((20 : Int32) &&& 31)))) ∨ ((v1 = 0) ∧ (¬ (((((((((v0 : Int32).toUInt32 >>> ((11 : Int32).toUInt32 &&& Int32.toUInt32 31)).toInt32) &&& 3) : Int32) <<< ((4 : Int32) &&& 31)) ||| ((((((v0 : Int32).toUInt32 >>> ((7 : Int32).toUInt32 &&& Int32.toUInt32 31)).toInt32) &&& 15) : Int32) <<< ((6 : Int32) &&& 31))) ||| ((((((v0 : Int32).toUInt32 >>> ((6 : Int32).toUInt32 &&& Int32.toUInt32 31)).toInt32) &&& 1) : Int32) <<< ((2 : Int32) &&& 31))) ||| ((((((v0 : Int32).toUInt32 >>> ((5 : Int32).toUInt32 &&& Int32.toUInt32 31)).toInt32) &&& 1) : Int32) <<< ((3 : Int32) &&& 31))) = 0) ∧ r = ((((19 ||| (((8 + ((((v0 : Int32).toUInt32 >>> ((2 : Int32).toUInt32 &&& Int32.toUInt32 31)).toInt32) &&& 7)) : Int32) <<< ((7 : Int32) &&& 31))) ||| 0) ||| 65536) ||| (((((((((((v0 : Int32).toUInt32 >>> ((11 : Int32).toUInt32 &&& Int32.toUInt32 31)).toInt32) &&& 3) : Int32) <<< ((4 : Int32) &&& 31)) ||| ((((((v0 : Int32).toUInt32 >>> ((7 : Int32).toUInt32 &&& Int32.toUInt32 31)).toInt32) &&& 15) : Int32) <<< ((6 : Int32) &&& 31))) ||| ((((((v0 : Int32).toUInt32 >>> ((6 : Int32).toUInt32 &&& Int32.toUInt32 31)).toInt32) &&& 1) : Int32) <<< ((2 : Int32) &&& 31))) ||| ((((((v0 : Int32).toUInt32 >>> ((5 : Int32).toUInt32 &&& Int32.toUInt32 31)).toInt32) &&& 1) : Int32) <<< ((3 : Int32) &&& 31))) : Int32) <<< ((20 : Int32) &&& 31)))) ∨ ((v1 = 0) ∧ ((((((((((v0 : Int32).toUInt32 >>> ((11 : Int32).toUInt32 &&& Int32.toUInt32 31)).toInt32) &&& 3) : Int32) <<< ((4 : Int32) &&& 31)) ||| ((((((v0 : Int32).toUInt32 >>> ((7 : Int32).toUInt32 &&& Int32.toUInt32 31)).toInt32) &&& 15) : Int32) <<< ((6 : Int32) &&& 31))) ||| ((((((v0 : Int32).toUInt32 >>> ((6 : Int32).toUInt32 &&& Int32.toUInt32 31)).toInt32) &&& 1) : Int32) <<< ((2 : Int32) &&& 31))) ||| ((((((v0 : Int32).toUInt32 >>> ((5 : Int32).toUInt32 &&& Int32.toUInt32 31)).toInt32) &&& 1) : Int32) <<< ((3 : Int32) &&& 31))) = 0) ∧ r = 0) ∨ False) (fun (_ : Unit) t => va_P (dC, dI) vwCl [] t.heap ∧ va_K (dC, dI) vwCl [] t ∧ va_D (va_A [] sz) []) (va_A [] sz)) 0 0 (va_A [] sz) := by
  refine Met.ofW (cc := cX16_zero) (maxL := 6) (ret := (some .int)) (by decide) rfl ?_
  intro p e s m args below meth c s₁ B hml hv
  obtain ⟨rfl, hsz, hP, hK, hD0, hN⟩ := hv
  have hx := B.exec
  have hb := B.bytes
  have hr := B.returns
  have hts := atoms_spec (ws := ow_g_X16_zero) B.pre
  have hown : s.vm.findClass RX16 = some m.cls := findClass_of_methodNamed B.named
  have hlocks := B.notSynchronized
  subst hsz
  have hD := hD0.self (sz := s.heap.size)
  generalize hAe : va_A [] s.heap.size = A at hD hN ⊢
  have hA : ∀ q : Nat, s.heap.size ≤ q → A q := fun q h => by rw [← hAe]; exact Or.inr h
  have hS : va_S A s.heap s.heap [] := va_S.rf
  have hl := lv_entry ([.int v0, .int v1]) (n := 6) (Nat.le_of_ble_eq_true rfl)
  rw [lg_entry_eq]
  generalize (lg_sl ([.int v0, .int v1]) ++ List.replicate (6 - (lg_sl ([.int v0, .int v1])).length) Slot.unset).toArray = ls at hl ⊢
  have hl : lv_has ls 6 [(0, .int v0), (1, .int v1)] := hl
  refine lv_bipush (v := 8) hx hb dX16_zero_0 (by decide) ?_
  refine lv_iload_n hx hb dX16_zero_2 rfl (lv_at hl 0 rfl) ?_
  refine lv_iconst (v := 2) hx hb dX16_zero_3 (by decide) ?_
  refine lv_iconst (v := 3) hx hb dX16_zero_4 (by decide) ?_
  have hPc := hP.sub (ws' := []) [] rfl
  have hDc := hD.sub (ws' := []) [] (by decide) rfl
  have hKc := hK.sub (tys' := []) [] rfl
  have hFc := va_free (wc := []) hD hS hA [] rfl
  refine va_calli (va_runS (As := [.int v0, .int 2, .int 3]) (rest := [.int 8]) ⟨hx, hb, hml, hown, hts⟩ (k_X16_part_v10 l hlt dC dI v0  s.heap.size) (cwS 3 hts gi_g_X16_zero_0 rfl rfl rfl (by decide +kernel) ⟨Nat.le_of_ble_eq_true rfl, Nat.le_of_ble_eq_true rfl⟩) ⟨fun a U g mk q => by obtain ⟨q0, q1, qP, qK, qD, qN⟩ := q; exact ⟨q0, q1, qP, va_K.moved (u := U) (U := U.calling g mk a) (Vm.Alike.refl U.vm) qK, qD, nv_same rfl rfl qN⟩, fun U hU hW => ⟨rfl, by rw [hU], by rw [hU]; exact hPc, va_K.moved hW.alike hKc, hDc.weaken (fun _ _ _ _ => trivial), nv_call hS hFc hU hW hN⟩⟩ rfl rfl hl.1 rfl (lv_room (Nat.le_of_ble_eq_true rfl)) dX16_zero_5 ⟨by decide +kernel, by decide +kernel⟩) hS (fun q _ h => hFc q h) hFc (fun r1 u t H1 locs ht hvm hw hB hz1 hk1 hS => ?_)
  obtain ⟨hP1, hK1, hD1⟩ := hB
  rw [ht] at hP1
  have hK1 := va_K.moved hvm.symm hK1
  obtain ⟨hP, hD⟩ := va_join (wr := []) (w1 := []) hP hD [] [] rfl rfl (by decide) (by decide) hk1 hFc hP1 hD1
  have hK := (hK.sub (tys' := []) [] rfl).app hK1
  generalize H1 = H at hP hS ⊢
  have hP : va_P (dC, dI) vwCl [] H := hP
  have hD : va_D A [] := hD
  have hK : va_K (dC, dI) vwCl [] s := hK
  refine W.widen (k := 0) (n := 0) (by decide +kernel) (by decide +kernel) ?_
  rcases hw with h9 | h9
  · subst h9
    refine lv_iadd hx hb dX16_zero_8 ?_
    refine lv_istore_n (lv' := [(2, .int (8 + ((((v0 : Int32).toUInt32 >>> ((2 : Int32).toUInt32 &&& Int32.toUInt32 31)).toInt32) &&& 7))), (0, .int v0), (1, .int v1)]) hx hb dX16_zero_9 rfl hl (by decide) rfl (fun ls hl => ?_)
    refine lv_bipush (v := 8) hx hb dX16_zero_10 (by decide) ?_
    refine lv_iload_n hx hb dX16_zero_12 rfl (lv_at hl 1 rfl) ?_
    refine lv_bipush (v := 7) hx hb dX16_zero_13 (by decide) ?_
    refine lv_iconst (v := 3) hx hb dX16_zero_15 (by decide) ?_
    have hPc := hP.sub (ws' := []) [] rfl
    have hDc := hD.sub (ws' := []) [] (by decide) rfl
    have hKc := hK.sub (tys' := []) [] rfl
    have hFc := va_free (wc := []) hD hS hA [] rfl
    refine va_calli (va_runS (As := [.int v0, .int 7, .int 3]) (rest := [.int 8]) ⟨hx, hb, hml, hown, hts⟩ (k_X16_part_v11 l hlt dC dI v0  H.size) (cwS 3 hts gi_g_X16_zero_1 rfl rfl rfl (by decide +kernel) ⟨Nat.le_of_ble_eq_true rfl, Nat.le_of_ble_eq_true rfl⟩) ⟨fun a U g mk q => by obtain ⟨q0, q1, qP, qK, qD, qN⟩ := q; exact ⟨q0, q1, qP, va_K.moved (u := U) (U := U.calling g mk a) (Vm.Alike.refl U.vm) qK, qD, nv_same rfl rfl qN⟩, fun U hU hW => ⟨rfl, by rw [hU], by rw [hU]; exact hPc, va_K.moved hW.alike hKc, hDc.weaken (fun _ _ _ _ => trivial), nv_call hS hFc hU hW hN⟩⟩ rfl rfl hl.1 rfl (lv_room (Nat.le_of_ble_eq_true rfl)) dX16_zero_16 ⟨by decide +kernel, by decide +kernel⟩) hS (fun q _ h => hFc q h) hFc (fun r2 u t H1 locs ht hvm hw hB hz1 hk1 hS => ?_)
    obtain ⟨hP1, hK1, hD1⟩ := hB
    rw [ht] at hP1
    have hK1 := va_K.moved hvm.symm hK1
    obtain ⟨hP, hD⟩ := va_join (wr := []) (w1 := []) hP hD [] [] rfl rfl (by decide) (by decide) hk1 hFc hP1 hD1
    have hK := (hK.sub (tys' := []) [] rfl).app hK1
    generalize H1 = H at hP hS ⊢
    have hP : va_P (dC, dI) vwCl [] H := hP
    have hD : va_D A [] := hD
    have hK : va_K (dC, dI) vwCl [] s := hK
    refine W.widen (k := 0) (n := 0) (by decide +kernel) (by decide +kernel) ?_
    rcases hw with h9 | h9
    · subst h9
      refine lv_iadd hx hb dX16_zero_19 ?_
      refine lv_istore_n (lv' := [(3, .int (8 + ((((v0 : Int32).toUInt32 >>> ((7 : Int32).toUInt32 &&& Int32.toUInt32 31)).toInt32) &&& 7))), (2, .int (8 + ((((v0 : Int32).toUInt32 >>> ((2 : Int32).toUInt32 &&& Int32.toUInt32 31)).toInt32) &&& 7))), (0, .int v0), (1, .int v1)]) hx hb dX16_zero_20 rfl hl (by decide) rfl (fun ls hl => ?_)
      refine lv_iload_n hx hb dX16_zero_21 rfl (lv_at hl 2 rfl) ?_
      refine lv_bipush (v := 10) hx hb dX16_zero_22 (by decide) ?_
      refine lv_iconst (v := 3) hx hb dX16_zero_24 (by decide) ?_
      refine lv_iconst (v := 3) hx hb dX16_zero_25 (by decide) ?_
      have hPc := hP.sub (ws' := []) [] rfl
      have hDc := hD.sub (ws' := []) [] (by decide) rfl
      have hKc := hK.sub (tys' := []) [] rfl
      have hFc := va_free (wc := []) hD hS hA [] rfl
      refine va_calli (va_runS (As := [.int v0, .int 10, .int 3, .int 3]) (rest := []) ⟨hx, hb, hml, hown, hts⟩ (k_X16_bit_v10 l hlt dC dI v0  H.size) (cwS 4 hts gi_g_X16_zero_2 rfl rfl rfl (by decide +kernel) ⟨Nat.le_of_ble_eq_true rfl, Nat.le_of_ble_eq_true rfl⟩) ⟨fun a U g mk q => by obtain ⟨q0, q1, qP, qK, qD, qN⟩ := q; exact ⟨q0, q1, qP, va_K.moved (u := U) (U := U.calling g mk a) (Vm.Alike.refl U.vm) qK, qD, nv_same rfl rfl qN⟩, fun U hU hW => ⟨rfl, by rw [hU], by rw [hU]; exact hPc, va_K.moved hW.alike hKc, hDc.weaken (fun _ _ _ _ => trivial), nv_call hS hFc hU hW hN⟩⟩ rfl rfl hl.1 rfl (lv_room (Nat.le_of_ble_eq_true rfl)) dX16_zero_26 ⟨by decide +kernel, by decide +kernel⟩) hS (fun q _ h => hFc q h) hFc (fun r3 u t H1 locs ht hvm hw hB hz1 hk1 hS => ?_)
      obtain ⟨hP1, hK1, hD1⟩ := hB
      rw [ht] at hP1
      have hK1 := va_K.moved hvm.symm hK1
      obtain ⟨hP, hD⟩ := va_join (wr := []) (w1 := []) hP hD [] [] rfl rfl (by decide) (by decide) hk1 hFc hP1 hD1
      have hK := (hK.sub (tys' := []) [] rfl).app hK1
      generalize H1 = H at hP hS ⊢
      have hP : va_P (dC, dI) vwCl [] H := hP
      have hD : va_D A [] := hD
      have hK : va_K (dC, dI) vwCl [] s := hK
      refine W.widen (k := 0) (n := 0) (by decide +kernel) (by decide +kernel) ?_
      rcases hw with h9 | h9
      · subst h9
        refine lv_iload_n hx hb dX16_zero_29 rfl (lv_at hl 2 rfl) ?_
        refine lv_bipush (v := 6) hx hb dX16_zero_30 (by decide) ?_
        refine lv_iconst (v := 1) hx hb dX16_zero_32 (by decide) ?_
        refine lv_iconst (v := 2) hx hb dX16_zero_33 (by decide) ?_
        have hPc := hP.sub (ws' := []) [] rfl
        have hDc := hD.sub (ws' := []) [] (by decide) rfl
        have hKc := hK.sub (tys' := []) [] rfl
        have hFc := va_free (wc := []) hD hS hA [] rfl
        refine va_calli (va_runS (As := [.int v0, .int 6, .int 1, .int 2]) (rest := [.int ((((((v0 : Int32).toUInt32 >>> ((10 : Int32).toUInt32 &&& Int32.toUInt32 31)).toInt32) &&& 7) : Int32) <<< ((3 : Int32) &&& 31))]) ⟨hx, hb, hml, hown, hts⟩ (k_X16_bit_v11 l hlt dC dI v0  H.size) (cwS 4 hts gi_g_X16_zero_3 rfl rfl rfl (by decide +kernel) ⟨Nat.le_of_ble_eq_true rfl, Nat.le_of_ble_eq_true rfl⟩) ⟨fun a U g mk q => by obtain ⟨q0, q1, qP, qK, qD, qN⟩ := q; exact ⟨q0, q1, qP, va_K.moved (u := U) (U := U.calling g mk a) (Vm.Alike.refl U.vm) qK, qD, nv_same rfl rfl qN⟩, fun U hU hW => ⟨rfl, by rw [hU], by rw [hU]; exact hPc, va_K.moved hW.alike hKc, hDc.weaken (fun _ _ _ _ => trivial), nv_call hS hFc hU hW hN⟩⟩ rfl rfl hl.1 rfl (lv_room (Nat.le_of_ble_eq_true rfl)) dX16_zero_34 ⟨by decide +kernel, by decide +kernel⟩) hS (fun q _ h => hFc q h) hFc (fun r4 u t H1 locs ht hvm hw hB hz1 hk1 hS => ?_)
        obtain ⟨hP1, hK1, hD1⟩ := hB
        rw [ht] at hP1
        have hK1 := va_K.moved hvm.symm hK1
        obtain ⟨hP, hD⟩ := va_join (wr := []) (w1 := []) hP hD [] [] rfl rfl (by decide) (by decide) hk1 hFc hP1 hD1
        have hK := (hK.sub (tys' := []) [] rfl).app hK1
        generalize H1 = H at hP hS ⊢
        have hP : va_P (dC, dI) vwCl [] H := hP
        have hD : va_D A [] := hD
        have hK : va_K (dC, dI) vwCl [] s := hK
        refine W.widen (k := 0) (n := 0) (by decide +kernel) (by decide +kernel) ?_
        rcases hw with h9 | h9
        · subst h9
          refine lv_ior hx hb dX16_zero_37 ?_
          refine lv_iload_n hx hb dX16_zero_38 rfl (lv_at hl 2 rfl) ?_
          refine lv_iconst (v := 5) hx hb dX16_zero_39 (by decide) ?_
          refine lv_iconst (v := 1) hx hb dX16_zero_40 (by decide) ?_
          refine lv_bipush (v := 6) hx hb dX16_zero_41 (by decide) ?_
          have hPc := hP.sub (ws' := []) [] rfl
          have hDc := hD.sub (ws' := []) [] (by decide) rfl
          have hKc := hK.sub (tys' := []) [] rfl
          have hFc := va_free (wc := []) hD hS hA [] rfl
          refine va_calli (va_runS (As := [.int v0, .int 5, .int 1, .int 6]) (rest := [.int (((((((v0 : Int32).toUInt32 >>> ((10 : Int32).toUInt32 &&& Int32.toUInt32 31)).toInt32) &&& 7) : Int32) <<< ((3 : Int32) &&& 31)) ||| ((((((v0 : Int32).toUInt32 >>> ((6 : Int32).toUInt32 &&& Int32.toUInt32 31)).toInt32) &&& 1) : Int32) <<< ((2 : Int32) &&& 31)))]) ⟨hx, hb, hml, hown, hts⟩ (k_X16_bit_v12 l hlt dC dI v0  H.size) (cwS 4 hts gi_g_X16_zero_4 rfl rfl rfl (by decide +kernel) ⟨Nat.le_of_ble_eq_true rfl, Nat.le_of_ble_eq_true rfl⟩) ⟨fun a U g mk q => by obtain ⟨q0, q1, qP, qK, qD, qN⟩ := q; exact ⟨q0, q1, qP, va_K.moved (u := U) (U := U.calling g mk a) (Vm.Alike.refl U.vm) qK, qD, nv_same rfl rfl qN⟩, fun U hU hW => ⟨rfl, by rw [hU], by rw [hU]; exact hPc, va_K.moved hW.alike hKc, hDc.weaken (fun _ _ _ _ => trivial), nv_call hS hFc hU hW hN⟩⟩ rfl rfl hl.1 rfl (lv_room (Nat.le_of_ble_eq_true rfl)) dX16_zero_43 ⟨by decide +kernel, by decide +kernel⟩) hS (fun q _ h => hFc q h) hFc (fun r5 u t H1 locs ht hvm hw hB hz1 hk1 hS => ?_)
          obtain ⟨hP1, hK1, hD1⟩ := hB
          rw [ht] at hP1
          have hK1 := va_K.moved hvm.symm hK1
          obtain ⟨hP, hD⟩ := va_join (wr := []) (w1 := []) hP hD [] [] rfl rfl (by decide) (by decide) hk1 hFc hP1 hD1
          have hK := (hK.sub (tys' := []) [] rfl).app hK1
          generalize H1 = H at hP hS ⊢
          have hP : va_P (dC, dI) vwCl [] H := hP
          have hD : va_D A [] := hD
          have hK : va_K (dC, dI) vwCl [] s := hK
          refine W.widen (k := 0) (n := 0) (by decide +kernel) (by decide +kernel) ?_
          rcases hw with h9 | h9
          · subst h9
            refine lv_ior hx hb dX16_zero_46 ?_
            refine lv_istore (lv' := [(4, .int ((((((((v0 : Int32).toUInt32 >>> ((10 : Int32).toUInt32 &&& Int32.toUInt32 31)).toInt32) &&& 7) : Int32) <<< ((3 : Int32) &&& 31)) ||| ((((((v0 : Int32).toUInt32 >>> ((6 : Int32).toUInt32 &&& Int32.toUInt32 31)).toInt32) &&& 1) : Int32) <<< ((2 : Int32) &&& 31))) ||| ((((((v0 : Int32).toUInt32 >>> ((5 : Int32).toUInt32 &&& Int32.toUInt32 31)).toInt32) &&& 1) : Int32) <<< ((6 : Int32) &&& 31)))), (3, .int (8 + ((((v0 : Int32).toUInt32 >>> ((7 : Int32).toUInt32 &&& Int32.toUInt32 31)).toInt32) &&& 7))), (2, .int (8 + ((((v0 : Int32).toUInt32 >>> ((2 : Int32).toUInt32 &&& Int32.toUInt32 31)).toInt32) &&& 7))), (0, .int v0), (1, .int v1)]) hx hb dX16_zero_47 hl (by decide) rfl (fun ls hl => ?_)
            refine lv_iload_n hx hb dX16_zero_49 rfl (lv_at hl 3 rfl) ?_
            refine lv_bipush (v := 11) hx hb dX16_zero_50 (by decide) ?_
            refine lv_iconst (v := 2) hx hb dX16_zero_52 (by decide) ?_
            refine lv_iconst (v := 4) hx hb dX16_zero_53 (by decide) ?_
            have hPc := hP.sub (ws' := []) [] rfl
            have hDc := hD.sub (ws' := []) [] (by decide) rfl
            have hKc := hK.sub (tys' := []) [] rfl
            have hFc := va_free (wc := []) hD hS hA [] rfl
            refine va_calli (va_runS (As := [.int v0, .int 11, .int 2, .int 4]) (rest := []) ⟨hx, hb, hml, hown, hts⟩ (k_X16_bit_v13 l hlt dC dI v0  H.size) (cwS 4 hts gi_g_X16_zero_5 rfl rfl rfl (by decide +kernel) ⟨Nat.le_of_ble_eq_true rfl, Nat.le_of_ble_eq_true rfl⟩) ⟨fun a U g mk q => by obtain ⟨q0, q1, qP, qK, qD, qN⟩ := q; exact ⟨q0, q1, qP, va_K.moved (u := U) (U := U.calling g mk a) (Vm.Alike.refl U.vm) qK, qD, nv_same rfl rfl qN⟩, fun U hU hW => ⟨rfl, by rw [hU], by rw [hU]; exact hPc, va_K.moved hW.alike hKc, hDc.weaken (fun _ _ _ _ => trivial), nv_call hS hFc hU hW hN⟩⟩ rfl rfl hl.1 rfl (lv_room (Nat.le_of_ble_eq_true rfl)) dX16_zero_54 ⟨by decide +kernel, by decide +kernel⟩) hS (fun q _ h => hFc q h) hFc (fun r6 u t H1 locs ht hvm hw hB hz1 hk1 hS => ?_)
            obtain ⟨hP1, hK1, hD1⟩ := hB
            rw [ht] at hP1
            have hK1 := va_K.moved hvm.symm hK1
            obtain ⟨hP, hD⟩ := va_join (wr := []) (w1 := []) hP hD [] [] rfl rfl (by decide) (by decide) hk1 hFc hP1 hD1
            have hK := (hK.sub (tys' := []) [] rfl).app hK1
            generalize H1 = H at hP hS ⊢
            have hP : va_P (dC, dI) vwCl [] H := hP
            have hD : va_D A [] := hD
            have hK : va_K (dC, dI) vwCl [] s := hK
            refine W.widen (k := 0) (n := 0) (by decide +kernel) (by decide +kernel) ?_
            rcases hw with h9 | h9
            · subst h9
              refine lv_iload_n hx hb dX16_zero_57 rfl (lv_at hl 3 rfl) ?_
              refine lv_bipush (v := 7) hx hb dX16_zero_58 (by decide) ?_
              refine lv_iconst (v := 4) hx hb dX16_zero_60 (by decide) ?_
              refine lv_bipush (v := 6) hx hb dX16_zero_61 (by decide) ?_
              have hPc := hP.sub (ws' := []) [] rfl
              have hDc := hD.sub (ws' := []) [] (by decide) rfl
              have hKc := hK.sub (tys' := []) [] rfl
              have hFc := va_free (wc := []) hD hS hA [] rfl
              refine va_calli (va_runS (As := [.int v0, .int 7, .int 4, .int 6]) (rest := [.int ((((((v0 : Int32).toUInt32 >>> ((11 : Int32).toUInt32 &&& Int32.toUInt32 31)).toInt32) &&& 3) : Int32) <<< ((4 : Int32) &&& 31))]) ⟨hx, hb, hml, hown, hts⟩ (k_X16_bit_v14 l hlt dC dI v0  H.size) (cwS 4 hts gi_g_X16_zero_6 rfl rfl rfl (by decide +kernel) ⟨Nat.le_of_ble_eq_true rfl, Nat.le_of_ble_eq_true rfl⟩) ⟨fun a U g mk q => by obtain ⟨q0, q1, qP, qK, qD, qN⟩ := q; exact ⟨q0, q1, qP, va_K.moved (u := U) (U := U.calling g mk a) (Vm.Alike.refl U.vm) qK, qD, nv_same rfl rfl qN⟩, fun U hU hW => ⟨rfl, by rw [hU], by rw [hU]; exact hPc, va_K.moved hW.alike hKc, hDc.weaken (fun _ _ _ _ => trivial), nv_call hS hFc hU hW hN⟩⟩ rfl rfl hl.1 rfl (lv_room (Nat.le_of_ble_eq_true rfl)) dX16_zero_63 ⟨by decide +kernel, by decide +kernel⟩) hS (fun q _ h => hFc q h) hFc (fun r7 u t H1 locs ht hvm hw hB hz1 hk1 hS => ?_)
              obtain ⟨hP1, hK1, hD1⟩ := hB
              rw [ht] at hP1
              have hK1 := va_K.moved hvm.symm hK1
              obtain ⟨hP, hD⟩ := va_join (wr := []) (w1 := []) hP hD [] [] rfl rfl (by decide) (by decide) hk1 hFc hP1 hD1
              have hK := (hK.sub (tys' := []) [] rfl).app hK1
              generalize H1 = H at hP hS ⊢
              have hP : va_P (dC, dI) vwCl [] H := hP
              have hD : va_D A [] := hD
              have hK : va_K (dC, dI) vwCl [] s := hK
              refine W.widen (k := 0) (n := 0) (by decide +kernel) (by decide +kernel) ?_
              rcases hw with h9 | h9
              · subst h9
                refine lv_ior hx hb dX16_zero_66 ?_
                refine lv_iload_n hx hb dX16_zero_67 rfl (lv_at hl 3 rfl) ?_
                refine lv_bipush (v := 6) hx hb dX16_zero_68 (by decide) ?_
                refine lv_iconst (v := 1) hx hb dX16_zero_70 (by decide) ?_
                refine lv_iconst (v := 2) hx hb dX16_zero_71 (by decide) ?_
                have hPc := hP.sub (ws' := []) [] rfl
                have hDc := hD.sub (ws' := []) [] (by decide) rfl
                have hKc := hK.sub (tys' := []) [] rfl
                have hFc := va_free (wc := []) hD hS hA [] rfl
                refine va_calli (va_runS (As := [.int v0, .int 6, .int 1, .int 2]) (rest := [.int (((((((v0 : Int32).toUInt32 >>> ((11 : Int32).toUInt32 &&& Int32.toUInt32 31)).toInt32) &&& 3) : Int32) <<< ((4 : Int32) &&& 31)) ||| ((((((v0 : Int32).toUInt32 >>> ((7 : Int32).toUInt32 &&& Int32.toUInt32 31)).toInt32) &&& 15) : Int32) <<< ((6 : Int32) &&& 31)))]) ⟨hx, hb, hml, hown, hts⟩ (k_X16_bit_v11 l hlt dC dI v0  H.size) (cwS 4 hts gi_g_X16_zero_3 rfl rfl rfl (by decide +kernel) ⟨Nat.le_of_ble_eq_true rfl, Nat.le_of_ble_eq_true rfl⟩) ⟨fun a U g mk q => by obtain ⟨q0, q1, qP, qK, qD, qN⟩ := q; exact ⟨q0, q1, qP, va_K.moved (u := U) (U := U.calling g mk a) (Vm.Alike.refl U.vm) qK, qD, nv_same rfl rfl qN⟩, fun U hU hW => ⟨rfl, by rw [hU], by rw [hU]; exact hPc, va_K.moved hW.alike hKc, hDc.weaken (fun _ _ _ _ => trivial), nv_call hS hFc hU hW hN⟩⟩ rfl rfl hl.1 rfl (lv_room (Nat.le_of_ble_eq_true rfl)) dX16_zero_72 ⟨by decide +kernel, by decide +kernel⟩) hS (fun q _ h => hFc q h) hFc (fun r8 u t H1 locs ht hvm hw hB hz1 hk1 hS => ?_)
                obtain ⟨hP1, hK1, hD1⟩ := hB
                rw [ht] at hP1
                have hK1 := va_K.moved hvm.symm hK1
                obtain ⟨hP, hD⟩ := va_join (wr := []) (w1 := []) hP hD [] [] rfl rfl (by decide) (by decide) hk1 hFc hP1 hD1
                have hK := (hK.sub (tys' := []) [] rfl).app hK1
                generalize H1 = H at hP hS ⊢
                have hP : va_P (dC, dI) vwCl [] H := hP
                have hD : va_D A [] := hD
                have hK : va_K (dC, dI) vwCl [] s := hK
                refine W.widen (k := 0) (n := 0) (by decide +kernel) (by decide +kernel) ?_
                rcases hw with h9 | h9
                · subst h9
                  refine lv_ior hx hb dX16_zero_75 ?_
                  refine lv_iload_n hx hb dX16_zero_76 rfl (lv_at hl 3 rfl) ?_
                  refine lv_iconst (v := 5) hx hb dX16_zero_77 (by decide) ?_
                  refine lv_iconst (v := 1) hx hb dX16_zero_78 (by decide) ?_
                  refine lv_iconst (v := 3) hx hb dX16_zero_79 (by decide) ?_
                  have hPc := hP.sub (ws' := []) [] rfl
                  have hDc := hD.sub (ws' := []) [] (by decide) rfl
                  have hKc := hK.sub (tys' := []) [] rfl
                  have hFc := va_free (wc := []) hD hS hA [] rfl
                  refine va_calli (va_runS (As := [.int v0, .int 5, .int 1, .int 3]) (rest := [.int ((((((((v0 : Int32).toUInt32 >>> ((11 : Int32).toUInt32 &&& Int32.toUInt32 31)).toInt32) &&& 3) : Int32) <<< ((4 : Int32) &&& 31)) ||| ((((((v0 : Int32).toUInt32 >>> ((7 : Int32).toUInt32 &&& Int32.toUInt32 31)).toInt32) &&& 15) : Int32) <<< ((6 : Int32) &&& 31))) ||| ((((((v0 : Int32).toUInt32 >>> ((6 : Int32).toUInt32 &&& Int32.toUInt32 31)).toInt32) &&& 1) : Int32) <<< ((2 : Int32) &&& 31)))]) ⟨hx, hb, hml, hown, hts⟩ (k_X16_bit_v15 l hlt dC dI v0  H.size) (cwS 4 hts gi_g_X16_zero_7 rfl rfl rfl (by decide +kernel) ⟨Nat.le_of_ble_eq_true rfl, Nat.le_of_ble_eq_true rfl⟩) ⟨fun a U g mk q => by obtain ⟨q0, q1, qP, qK, qD, qN⟩ := q; exact ⟨q0, q1, qP, va_K.moved (u := U) (U := U.calling g mk a) (Vm.Alike.refl U.vm) qK, qD, nv_same rfl rfl qN⟩, fun U hU hW => ⟨rfl, by rw [hU], by rw [hU]; exact hPc, va_K.moved hW.alike hKc, hDc.weaken (fun _ _ _ _ => trivial), nv_call hS hFc hU hW hN⟩⟩ rfl rfl hl.1 rfl (lv_room (Nat.le_of_ble_eq_true rfl)) dX16_zero_80 ⟨by decide +kernel, by decide +kernel⟩) hS (fun q _ h => hFc q h) hFc (fun r9 u t H1 locs ht hvm hw hB hz1 hk1 hS => ?_)
                  obtain ⟨hP1, hK1, hD1⟩ := hB
                  rw [ht] at hP1
                  have hK1 := va_K.moved hvm.symm hK1
                  obtain ⟨hP, hD⟩ := va_join (wr := []) (w1 := []) hP hD [] [] rfl rfl (by decide) (by decide) hk1 hFc hP1 hD1
                  have hK := (hK.sub (tys' := []) [] rfl).app hK1
                  generalize H1 = H at hP hS ⊢
                  have hP : va_P (dC, dI) vwCl [] H := hP
                  have hD : va_D A [] := hD
                  have hK : va_K (dC, dI) vwCl [] s := hK
                  refine W.widen (k := 0) (n := 0) (by decide +kernel) (by decide +kernel) ?_
                  rcases hw with h9 | h9
                  · subst h9
                    refine lv_ior hx hb dX16_zero_83 ?_
                    refine lv_istore (lv' := [(5, .int (((((((((v0 : Int32).toUInt32 >>> ((11 : Int32).toUInt32 &&& Int32.toUInt32 31)).toInt32) &&& 3) : Int32) <<< ((4 : Int32) &&& 31)) ||| ((((((v0 : Int32).toUInt32 >>> ((7 : Int32).toUInt32 &&& Int32.toUInt32 31)).toInt32) &&& 15) : Int32) <<< ((6 : Int32) &&& 31))) ||| ((((((v0 : Int32).toUInt32 >>> ((6 : Int32).toUInt32 &&& Int32.toUInt32 31)).toInt32) &&& 1) : Int32) <<< ((2 : Int32) &&& 31))) ||| ((((((v0 : Int32).toUInt32 >>> ((5 : Int32).toUInt32 &&& Int32.toUInt32 31)).toInt32) &&& 1) : Int32) <<< ((3 : Int32) &&& 31)))), (4, .int ((((((((v0 : Int32).toUInt32 >>> ((10 : Int32).toUInt32 &&& Int32.toUInt32 31)).toInt32) &&& 7) : Int32) <<< ((3 : Int32) &&& 31)) ||| ((((((v0 : Int32).toUInt32 >>> ((6 : Int32).toUInt32 &&& Int32.toUInt32 31)).toInt32) &&& 1) : Int32) <<< ((2 : Int32) &&& 31))) ||| ((((((v0 : Int32).toUInt32 >>> ((5 : Int32).toUInt32 &&& Int32.toUInt32 31)).toInt32) &&& 1) : Int32) <<< ((6 : Int32) &&& 31)))), (3, .int (8 + ((((v0 : Int32).toUInt32 >>> ((7 : Int32).toUInt32 &&& Int32.toUInt32 31)).toInt32) &&& 7))), (2, .int (8 + ((((v0 : Int32).toUInt32 >>> ((2 : Int32).toUInt32 &&& Int32.toUInt32 31)).toInt32) &&& 7))), (0, .int v0), (1, .int v1)]) hx hb dX16_zero_84 hl (by decide) rfl (fun ls hl => ?_)
                    refine lv_iload_n hx hb dX16_zero_86 rfl (lv_at hl 5 rfl) ?_
                    refine lv_if_ne (tgt := 110) hx hb dX16_zero_87 (by decide) (fun c_10 => ?_) (fun c_10 => ?_)
                    · refine lv_iload_n hx hb dX16_zero_110 rfl (lv_at hl 5 rfl) ?_
                      refine lv_iconst (v := 2) hx hb dX16_zero_111 (by decide) ?_
                      refine lv_icmp_ne (tgt := 127) hx hb dX16_zero_112 (by decide) (fun c_11 => ?_) (fun c_11 => ?_)
                      · refine lv_iload_n hx hb dX16_zero_127 rfl (lv_at hl 5 rfl) ?_
                        refine lv_bipush (v := 6) hx hb dX16_zero_128 (by decide) ?_
                        refine lv_icmp_ne (tgt := 143) hx hb dX16_zero_130 (by decide) (fun c_12 => ?_) (fun c_12 => ?_)
                        · refine lv_iconst (v := 0) hx hb dX16_zero_143 (by decide) ?_
                          refine W.widen (k := 0) (n := 0) (by decide +kernel) (by decide +kernel) ?_
                          exact W.iret (v := 0) hx hb hr (fun t ht hW => ⟨⟨0, (), rfl, Or.inl ⟨c_10, c_11, c_12, rfl⟩, by rw [ht]; exact hP, va_K.moved hW.alike hK, hD⟩, hS.F ht⟩) hS.2.2 dX16_zero_144
                        · refine lv_iload_n hx hb dX16_zero_133 rfl (lv_at hl 2 rfl) ?_
                          refine lv_iload_n hx hb dX16_zero_134 rfl (lv_at hl 3 rfl) ?_
                          refine lv_iload hx hb dX16_zero_135 (lv_at hl 1 rfl) ?_
                          have hPc := hP.sub (ws' := []) [] rfl
                          have hDc := hD.sub (ws' := []) [] (by decide) rfl
                          have hKc := hK.sub (tys' := []) [] rfl
                          have hFc := va_free (wc := []) hD hS hA [] rfl
                          refine va_calli (va_runS (As := [.int (8 + ((((v0 : Int32).toUInt32 >>> ((7 : Int32).toUInt32 &&& Int32.toUInt32 31)).toInt32) &&& 7)), .int (8 + ((((v0 : Int32).toUInt32 >>> ((2 : Int32).toUInt32 &&& Int32.toUInt32 31)).toInt32) &&& 7)), .int ((((((((v0 : Int32).toUInt32 >>> ((10 : Int32).toUInt32 &&& Int32.toUInt32 31)).toInt32) &&& 7) : Int32) <<< ((3 : Int32) &&& 31)) ||| ((((((v0 : Int32).toUInt32 >>> ((6 : Int32).toUInt32 &&& Int32.toUInt32 31)).toInt32) &&& 1) : Int32) <<< ((2 : Int32) &&& 31))) ||| ((((((v0 : Int32).toUInt32 >>> ((5 : Int32).toUInt32 &&& Int32.toUInt32 31)).toInt32) &&& 1) : Int32) <<< ((6 : Int32) &&& 31)))]) (rest := []) ⟨hx, hb, hml, hown, hts⟩ (k_X16_storing l hlt dC dI (8 + ((((v0 : Int32).toUInt32 >>> ((7 : Int32).toUInt32 &&& Int32.toUInt32 31)).toInt32) &&& 7)) (8 + ((((v0 : Int32).toUInt32 >>> ((2 : Int32).toUInt32 &&& Int32.toUInt32 31)).toInt32) &&& 7)) ((((((((v0 : Int32).toUInt32 >>> ((10 : Int32).toUInt32 &&& Int32.toUInt32 31)).toInt32) &&& 7) : Int32) <<< ((3 : Int32) &&& 31)) ||| ((((((v0 : Int32).toUInt32 >>> ((6 : Int32).toUInt32 &&& Int32.toUInt32 31)).toInt32) &&& 1) : Int32) <<< ((2 : Int32) &&& 31))) ||| ((((((v0 : Int32).toUInt32 >>> ((5 : Int32).toUInt32 &&& Int32.toUInt32 31)).toInt32) &&& 1) : Int32) <<< ((6 : Int32) &&& 31)))  H.size) (cwS 3 hts gi_g_X16_zero_8 rfl rfl rfl (by decide +kernel) ⟨Nat.le_of_ble_eq_true rfl, Nat.le_of_ble_eq_true rfl⟩) ⟨fun a U g mk q => by obtain ⟨q0, q1, qP, qK, qD, qN⟩ := q; exact ⟨q0, q1, qP, va_K.moved (u := U) (U := U.calling g mk a) (Vm.Alike.refl U.vm) qK, qD, nv_same rfl rfl qN⟩, fun U hU hW => ⟨rfl, by rw [hU], by rw [hU]; exact hPc, va_K.moved hW.alike hKc, hDc.weaken (fun _ _ _ _ => trivial), nv_call hS hFc hU hW hN⟩⟩ rfl rfl hl.1 rfl (lv_room (Nat.le_of_ble_eq_true rfl)) dX16_zero_137 ⟨by decide +kernel, by decide +kernel⟩) hS (fun q _ h => hFc q h) hFc (fun r13 u t H1 locs ht hvm hw hB hz1 hk1 hS => ?_)
                          obtain ⟨hP1, hK1, hD1⟩ := hB
                          rw [ht] at hP1
                          have hK1 := va_K.moved hvm.symm hK1
                          obtain ⟨hP, hD⟩ := va_join (wr := []) (w1 := []) hP hD [] [] rfl rfl (by decide) (by decide) hk1 hFc hP1 hD1
                          have hK := (hK.sub (tys' := []) [] rfl).app hK1
                          generalize H1 = H at hP hS ⊢
                          have hP : va_P (dC, dI) vwCl [] H := hP
                          have hD : va_D A [] := hD
                          have hK : va_K (dC, dI) vwCl [] s := hK
                          refine W.widen (k := 0) (n := 0) (by decide +kernel) (by decide +kernel) ?_
                          rcases hw with h9 | h9
                          · subst h9
                            refine lv_goto (tgt := 144) hx hb dX16_zero_140 (by decide) ?_
                            refine W.widen (k := 0) (n := 0) (by decide +kernel) (by decide +kernel) ?_
                            exact W.iret (v := (((((35 ||| ((((((((((((((v0 : Int32).toUInt32 >>> ((10 : Int32).toUInt32 &&& Int32.toUInt32 31)).toInt32) &&& 7) : Int32) <<< ((3 : Int32) &&& 31)) ||| ((((((v0 : Int32).toUInt32 >>> ((6 : Int32).toUInt32 &&& Int32.toUInt32 31)).toInt32) &&& 1) : Int32) <<< ((2 : Int32) &&& 31))) ||| ((((((v0 : Int32).toUInt32 >>> ((5 : Int32).toUInt32 &&& Int32.toUInt32 31)).toInt32) &&& 1) : Int32) <<< ((6 : Int32) &&& 31))) : Int32).toUInt32 >>> ((0 : Int32).toUInt32 &&& Int32.toUInt32 31)).toInt32) &&& 31) : Int32) <<< ((7 : Int32) &&& 31))) ||| 8192) ||| (((8 + ((((v0 : Int32).toUInt32 >>> ((7 : Int32).toUInt32 &&& Int32.toUInt32 31)).toInt32) &&& 7)) : Int32) <<< ((15 : Int32) &&& 31))) ||| (((8 + ((((v0 : Int32).toUInt32 >>> ((2 : Int32).toUInt32 &&& Int32.toUInt32 31)).toInt32) &&& 7)) : Int32) <<< ((20 : Int32) &&& 31))) ||| ((((((((((((((v0 : Int32).toUInt32 >>> ((10 : Int32).toUInt32 &&& Int32.toUInt32 31)).toInt32) &&& 7) : Int32) <<< ((3 : Int32) &&& 31)) ||| ((((((v0 : Int32).toUInt32 >>> ((6 : Int32).toUInt32 &&& Int32.toUInt32 31)).toInt32) &&& 1) : Int32) <<< ((2 : Int32) &&& 31))) ||| ((((((v0 : Int32).toUInt32 >>> ((5 : Int32).toUInt32 &&& Int32.toUInt32 31)).toInt32) &&& 1) : Int32) <<< ((6 : Int32) &&& 31))) : Int32).toUInt32 >>> ((5 : Int32).toUInt32 &&& Int32.toUInt32 31)).toInt32) &&& 127) : Int32) <<< ((25 : Int32) &&& 31)))) hx hb hr (fun t ht hW => ⟨⟨(((((35 ||| ((((((((((((((v0 : Int32).toUInt32 >>> ((10 : Int32).toUInt32 &&& Int32.toUInt32 31)).toInt32) &&& 7) : Int32) <<< ((3 : Int32) &&& 31)) ||| ((((((v0 : Int32).toUInt32 >>> ((6 : Int32).toUInt32 &&& Int32.toUInt32 31)).toInt32) &&& 1) : Int32) <<< ((2 : Int32) &&& 31))) ||| ((((((v0 : Int32).toUInt32 >>> ((5 : Int32).toUInt32 &&& Int32.toUInt32 31)).toInt32) &&& 1) : Int32) <<< ((6 : Int32) &&& 31))) : Int32).toUInt32 >>> ((0 : Int32).toUInt32 &&& Int32.toUInt32 31)).toInt32) &&& 31) : Int32) <<< ((7 : Int32) &&& 31))) ||| 8192) ||| (((8 + ((((v0 : Int32).toUInt32 >>> ((7 : Int32).toUInt32 &&& Int32.toUInt32 31)).toInt32) &&& 7)) : Int32) <<< ((15 : Int32) &&& 31))) ||| (((8 + ((((v0 : Int32).toUInt32 >>> ((2 : Int32).toUInt32 &&& Int32.toUInt32 31)).toInt32) &&& 7)) : Int32) <<< ((20 : Int32) &&& 31))) ||| ((((((((((((((v0 : Int32).toUInt32 >>> ((10 : Int32).toUInt32 &&& Int32.toUInt32 31)).toInt32) &&& 7) : Int32) <<< ((3 : Int32) &&& 31)) ||| ((((((v0 : Int32).toUInt32 >>> ((6 : Int32).toUInt32 &&& Int32.toUInt32 31)).toInt32) &&& 1) : Int32) <<< ((2 : Int32) &&& 31))) ||| ((((((v0 : Int32).toUInt32 >>> ((5 : Int32).toUInt32 &&& Int32.toUInt32 31)).toInt32) &&& 1) : Int32) <<< ((6 : Int32) &&& 31))) : Int32).toUInt32 >>> ((5 : Int32).toUInt32 &&& Int32.toUInt32 31)).toInt32) &&& 127) : Int32) <<< ((25 : Int32) &&& 31))), (), rfl, Or.inr (Or.inl ⟨c_10, c_11, c_12, rfl⟩), by rw [ht]; exact hP, va_K.moved hW.alike hK, hD⟩, hS.F ht⟩) hS.2.2 dX16_zero_144
                          · exact h9.elim
                      · refine lv_iconst (v := 3) hx hb dX16_zero_115 (by decide) ?_
                        refine lv_iconst (v := 2) hx hb dX16_zero_116 (by decide) ?_
                        refine lv_iload_n hx hb dX16_zero_117 rfl (lv_at hl 3 rfl) ?_
                        refine lv_iload_n hx hb dX16_zero_118 rfl (lv_at hl 2 rfl) ?_
                        refine lv_iload hx hb dX16_zero_119 (lv_at hl 1 rfl) ?_
                        have hPc := hP.sub (ws' := []) [] rfl
                        have hDc := hD.sub (ws' := []) [] (by decide) rfl
                        have hKc := hK.sub (tys' := []) [] rfl
                        have hFc := va_free (wc := []) hD hS hA [] rfl
                        refine va_calli (va_runS (As := [.int 3, .int 2, .int (8 + ((((v0 : Int32).toUInt32 >>> ((2 : Int32).toUInt32 &&& Int32.toUInt32 31)).toInt32) &&& 7)), .int (8 + ((((v0 : Int32).toUInt32 >>> ((7 : Int32).toUInt32 &&& Int32.toUInt32 31)).toInt32) &&& 7)), .int ((((((((v0 : Int32).toUInt32 >>> ((10 : Int32).toUInt32 &&& Int32.toUInt32 31)).toInt32) &&& 7) : Int32) <<< ((3 : Int32) &&& 31)) ||| ((((((v0 : Int32).toUInt32 >>> ((6 : Int32).toUInt32 &&& Int32.toUInt32 31)).toInt32) &&& 1) : Int32) <<< ((2 : Int32) &&& 31))) ||| ((((((v0 : Int32).toUInt32 >>> ((5 : Int32).toUInt32 &&& Int32.toUInt32 31)).toInt32) &&& 1) : Int32) <<< ((6 : Int32) &&& 31)))]) (rest := []) ⟨hx, hb, hml, hown, hts⟩ (k_X16_immediate l hlt dC dI (8 + ((((v0 : Int32).toUInt32 >>> ((2 : Int32).toUInt32 &&& Int32.toUInt32 31)).toInt32) &&& 7)) (8 + ((((v0 : Int32).toUInt32 >>> ((7 : Int32).toUInt32 &&& Int32.toUInt32 31)).toInt32) &&& 7)) ((((((((v0 : Int32).toUInt32 >>> ((10 : Int32).toUInt32 &&& Int32.toUInt32 31)).toInt32) &&& 7) : Int32) <<< ((3 : Int32) &&& 31)) ||| ((((((v0 : Int32).toUInt32 >>> ((6 : Int32).toUInt32 &&& Int32.toUInt32 31)).toInt32) &&& 1) : Int32) <<< ((2 : Int32) &&& 31))) ||| ((((((v0 : Int32).toUInt32 >>> ((5 : Int32).toUInt32 &&& Int32.toUInt32 31)).toInt32) &&& 1) : Int32) <<< ((6 : Int32) &&& 31)))  H.size) (cwS 5 hts gi_g_X16_zero_9 rfl rfl rfl (by decide +kernel) ⟨Nat.le_of_ble_eq_true rfl, Nat.le_of_ble_eq_true rfl⟩) ⟨fun a U g mk q => by obtain ⟨q0, q1, qP, qK, qD, qN⟩ := q; exact ⟨q0, q1, qP, va_K.moved (u := U) (U := U.calling g mk a) (Vm.Alike.refl U.vm) qK, qD, nv_same rfl rfl qN⟩, fun U hU hW => ⟨rfl, by rw [hU], by rw [hU]; exact hPc, va_K.moved hW.alike hKc, hDc.weaken (fun _ _ _ _ => trivial), nv_call hS hFc hU hW hN⟩⟩ rfl rfl hl.1 rfl (lv_room (Nat.le_of_ble_eq_true rfl)) dX16_zero_121 ⟨by decide +kernel, by decide +kernel⟩) hS (fun q _ h => hFc q h) hFc (fun r17 u t H1 locs ht hvm hw hB hz1 hk1 hS => ?_)
                        obtain ⟨hP1, hK1, hD1⟩ := hB
                        rw [ht] at hP1
                        have hK1 := va_K.moved hvm.symm hK1
                        obtain ⟨hP, hD⟩ := va_join (wr := []) (w1 := []) hP hD [] [] rfl rfl (by decide) (by decide) hk1 hFc hP1 hD1
                        have hK := (hK.sub (tys' := []) [] rfl).app hK1
                        generalize H1 = H at hP hS ⊢
                        have hP : va_P (dC, dI) vwCl [] H := hP
                        have hD : va_D A [] := hD
                        have hK : va_K (dC, dI) vwCl [] s := hK
                        refine W.widen (k := 0) (n := 0) (by decide +kernel) (by decide +kernel) ?_
                        rcases hw with h9 | h9
                        · subst h9
                          refine lv_goto (tgt := 144) hx hb dX16_zero_124 (by decide) ?_
                          refine W.widen (k := 0) (n := 0) (by decide +kernel) (by decide +kernel) ?_
                          exact W.iret (v := ((((3 ||| (((8 + ((((v0 : Int32).toUInt32 >>> ((2 : Int32).toUInt32 &&& Int32.toUInt32 31)).toInt32) &&& 7)) : Int32) <<< ((7 : Int32) &&& 31))) ||| 8192) ||| (((8 + ((((v0 : Int32).toUInt32 >>> ((7 : Int32).toUInt32 &&& Int32.toUInt32 31)).toInt32) &&& 7)) : Int32) <<< ((15 : Int32) &&& 31))) ||| ((((((((((v0 : Int32).toUInt32 >>> ((10 : Int32).toUInt32 &&& Int32.toUInt32 31)).toInt32) &&& 7) : Int32) <<< ((3 : Int32) &&& 31)) ||| ((((((v0 : Int32).toUInt32 >>> ((6 : Int32).toUInt32 &&& Int32.toUInt32 31)).toInt32) &&& 1) : Int32) <<< ((2 : Int32) &&& 31))) ||| ((((((v0 : Int32).toUInt32 >>> ((5 : Int32).toUInt32 &&& Int32.toUInt32 31)).toInt32) &&& 1) : Int32) <<< ((6 : Int32) &&& 31))) : Int32) <<< ((20 : Int32) &&& 31)))) hx hb hr (fun t ht hW => ⟨⟨((((3 ||| (((8 + ((((v0 : Int32).toUInt32 >>> ((2 : Int32).toUInt32 &&& Int32.toUInt32 31)).toInt32) &&& 7)) : Int32) <<< ((7 : Int32) &&& 31))) ||| 8192) ||| (((8 + ((((v0 : Int32).toUInt32 >>> ((7 : Int32).toUInt32 &&& Int32.toUInt32 31)).toInt32) &&& 7)) : Int32) <<< ((15 : Int32) &&& 31))) ||| ((((((((((v0 : Int32).toUInt32 >>> ((10 : Int32).toUInt32 &&& Int32.toUInt32 31)).toInt32) &&& 7) : Int32) <<< ((3 : Int32) &&& 31)) ||| ((((((v0 : Int32).toUInt32 >>> ((6 : Int32).toUInt32 &&& Int32.toUInt32 31)).toInt32) &&& 1) : Int32) <<< ((2 : Int32) &&& 31))) ||| ((((((v0 : Int32).toUInt32 >>> ((5 : Int32).toUInt32 &&& Int32.toUInt32 31)).toInt32) &&& 1) : Int32) <<< ((6 : Int32) &&& 31))) : Int32) <<< ((20 : Int32) &&& 31))), (), rfl, Or.inr (Or.inr (Or.inl ⟨c_10, c_11, rfl⟩)), by rw [ht]; exact hP, va_K.moved hW.alike hK, hD⟩, hS.F ht⟩) hS.2.2 dX16_zero_144
                        · exact h9.elim
                    · refine lv_iload hx hb dX16_zero_90 (lv_at hl 0 rfl) ?_
                      refine lv_if_ne (tgt := 99) hx hb dX16_zero_92 (by decide) (fun c_15 => ?_) (fun c_15 => ?_)
                      · refine lv_bipush (v := 19) hx hb dX16_zero_99 (by decide) ?_
                        refine lv_iconst (v := 0) hx hb dX16_zero_101 (by decide) ?_
                        refine lv_iload_n hx hb dX16_zero_102 rfl (lv_at hl 3 rfl) ?_
                        refine lv_iconst (v := 2) hx hb dX16_zero_103 (by decide) ?_
                        refine lv_iload hx hb dX16_zero_104 (lv_at hl 0 rfl) ?_
                        have hPc := hP.sub (ws' := []) [] rfl
                        have hDc := hD.sub (ws' := []) [] (by decide) rfl
                        have hKc := hK.sub (tys' := []) [] rfl
                        have hFc := va_free (wc := []) hD hS hA [] rfl
                        refine va_calli (va_runS (As := [.int 19, .int 0, .int (8 + ((((v0 : Int32).toUInt32 >>> ((2 : Int32).toUInt32 &&& Int32.toUInt32 31)).toInt32) &&& 7)), .int 2, .int (((((((((v0 : Int32).toUInt32 >>> ((11 : Int32).toUInt32 &&& Int32.toUInt32 31)).toInt32) &&& 3) : Int32) <<< ((4 : Int32) &&& 31)) ||| ((((((v0 : Int32).toUInt32 >>> ((7 : Int32).toUInt32 &&& Int32.toUInt32 31)).toInt32) &&& 15) : Int32) <<< ((6 : Int32) &&& 31))) ||| ((((((v0 : Int32).toUInt32 >>> ((6 : Int32).toUInt32 &&& Int32.toUInt32 31)).toInt32) &&& 1) : Int32) <<< ((2 : Int32) &&& 31))) ||| ((((((v0 : Int32).toUInt32 >>> ((5 : Int32).toUInt32 &&& Int32.toUInt32 31)).toInt32) &&& 1) : Int32) <<< ((3 : Int32) &&& 31)))]) (rest := []) ⟨hx, hb, hml, hown, hts⟩ (k_X16_immediate_v1 l hlt dC dI (8 + ((((v0 : Int32).toUInt32 >>> ((2 : Int32).toUInt32 &&& Int32.toUInt32 31)).toInt32) &&& 7)) (((((((((v0 : Int32).toUInt32 >>> ((11 : Int32).toUInt32 &&& Int32.toUInt32 31)).toInt32) &&& 3) : Int32) <<< ((4 : Int32) &&& 31)) ||| ((((((v0 : Int32).toUInt32 >>> ((7 : Int32).toUInt32 &&& Int32.toUInt32 31)).toInt32) &&& 15) : Int32) <<< ((6 : Int32) &&& 31))) ||| ((((((v0 : Int32).toUInt32 >>> ((6 : Int32).toUInt32 &&& Int32.toUInt32 31)).toInt32) &&& 1) : Int32) <<< ((2 : Int32) &&& 31))) ||| ((((((v0 : Int32).toUInt32 >>> ((5 : Int32).toUInt32 &&& Int32.toUInt32 31)).toInt32) &&& 1) : Int32) <<< ((3 : Int32) &&& 31)))  H.size) (cwS 5 hts gi_g_X16_zero_10 rfl rfl rfl (by decide +kernel) ⟨Nat.le_of_ble_eq_true rfl, Nat.le_of_ble_eq_true rfl⟩) ⟨fun a U g mk q => by obtain ⟨q0, q1, qP, qK, qD, qN⟩ := q; exact ⟨q0, q1, qP, va_K.moved (u := U) (U := U.calling g mk a) (Vm.Alike.refl U.vm) qK, qD, nv_same rfl rfl qN⟩, fun U hU hW => ⟨rfl, by rw [hU], by rw [hU]; exact hPc, va_K.moved hW.alike hKc, hDc.weaken (fun _ _ _ _ => trivial), nv_call hS hFc hU hW hN⟩⟩ rfl rfl hl.1 rfl (lv_room (Nat.le_of_ble_eq_true rfl)) dX16_zero_106 ⟨by decide +kernel, by decide +kernel⟩) hS (fun q _ h => hFc q h) hFc (fun r20 u t H1 locs ht hvm hw hB hz1 hk1 hS => ?_)
                        obtain ⟨hP1, hK1, hD1⟩ := hB
                        rw [ht] at hP1
                        have hK1 := va_K.moved hvm.symm hK1
                        obtain ⟨hP, hD⟩ := va_join (wr := []) (w1 := []) hP hD [] [] rfl rfl (by decide) (by decide) hk1 hFc hP1 hD1
                        have hK := (hK.sub (tys' := []) [] rfl).app hK1
                        generalize H1 = H at hP hS ⊢
                        have hP : va_P (dC, dI) vwCl [] H := hP
                        have hD : va_D A [] := hD
                        have hK : va_K (dC, dI) vwCl [] s := hK
                        refine W.widen (k := 0) (n := 0) (by decide +kernel) (by decide +kernel) ?_
                        rcases hw with h9 | h9
                        · subst h9
                          refine W.widen (k := 0) (n := 0) (by decide +kernel) (by decide +kernel) ?_
                          exact W.iret (v := ((((19 ||| (((8 + ((((v0 : Int32).toUInt32 >>> ((2 : Int32).toUInt32 &&& Int32.toUInt32 31)).toInt32) &&& 7)) : Int32) <<< ((7 : Int32) &&& 31))) ||| 0) ||| 65536) ||| (((((((((((v0 : Int32).toUInt32 >>> ((11 : Int32).toUInt32 &&& Int32.toUInt32 31)).toInt32) &&& 3) : Int32) <<< ((4 : Int32) &&& 31)) ||| ((((((v0 : Int32).toUInt32 >>> ((7 : Int32).toUInt32 &&& Int32.toUInt32 31)).toInt32) &&& 15) : Int32) <<< ((6 : Int32) &&& 31))) ||| ((((((v0 : Int32).toUInt32 >>> ((6 : Int32).toUInt32 &&& Int32.toUInt32 31)).toInt32) &&& 1) : Int32) <<< ((2 : Int32) &&& 31))) ||| ((((((v0 : Int32).toUInt32 >>> ((5 : Int32).toUInt32 &&& Int32.toUInt32 31)).toInt32) &&& 1) : Int32) <<< ((3 : Int32) &&& 31))) : Int32) <<< ((20 : Int32) &&& 31)))) hx hb hr (fun t ht hW => ⟨⟨((((19 ||| (((8 + ((((v0 : Int32).toUInt32 >>> ((2 : Int32).toUInt32 &&& Int32.toUInt32 31)).toInt32) &&& 7)) : Int32) <<< ((7 : Int32) &&& 31))) ||| 0) ||| 65536) ||| (((((((((((v0 : Int32).toUInt32 >>> ((11 : Int32).toUInt32 &&& Int32.toUInt32 31)).toInt32) &&& 3) : Int32) <<< ((4 : Int32) &&& 31)) ||| ((((((v0 : Int32).toUInt32 >>> ((7 : Int32).toUInt32 &&& Int32.toUInt32 31)).toInt32) &&& 15) : Int32) <<< ((6 : Int32) &&& 31))) ||| ((((((v0 : Int32).toUInt32 >>> ((6 : Int32).toUInt32 &&& Int32.toUInt32 31)).toInt32) &&& 1) : Int32) <<< ((2 : Int32) &&& 31))) ||| ((((((v0 : Int32).toUInt32 >>> ((5 : Int32).toUInt32 &&& Int32.toUInt32 31)).toInt32) &&& 1) : Int32) <<< ((3 : Int32) &&& 31))) : Int32) <<< ((20 : Int32) &&& 31))), (), rfl, Or.inr (Or.inr (Or.inr (Or.inl ⟨c_10, c_15, rfl⟩))), by rw [ht]; exact hP, va_K.moved hW.alike hK, hD⟩, hS.F ht⟩) hS.2.2 dX16_zero_109
                        · exact h9.elim
                      · refine lv_iconst (v := 0) hx hb dX16_zero_95 (by decide) ?_
                        refine lv_goto (tgt := 109) hx hb dX16_zero_96 (by decide) ?_
                        refine W.widen (k := 0) (n := 0) (by decide +kernel) (by decide +kernel) ?_
                        exact W.iret (v := 0) hx hb hr (fun t ht hW => ⟨⟨0, (), rfl, Or.inr (Or.inr (Or.inr (Or.inr (Or.inl ⟨c_10, c_15, rfl⟩)))), by rw [ht]; exact hP, va_K.moved hW.alike hK, hD⟩, hS.F ht⟩) hS.2.2 dX16_zero_109
                  · exact h9.elim
                · exact h9.elim
              · exact h9.elim
            · exact h9.elim
          · exact h9.elim
        · exact h9.elim
      · exact h9.elim
    · exact h9.elim
  · exact h9.elim
def ow_k_X16_part_v17 : List Cond := .code yX16_part cX16_part 3 (some .int) :: ([] ++ [])
theorem gd_k_X16_part_v17 : ∀ w ∈ ow_k_X16_part_v17, (w.onTables && w.keeps) = true ∨ ∃ ty, w = Cond.arrayClass ty := List.forall_mem_cons.mpr ⟨good_of_word rfl, List.forall_mem_append.mpr ⟨fun w h => good_of_word (List.all_eq_true.mp (by decide +kernel) w h), fun _ h => nomatch h⟩⟩
set_option maxHeartbeats 40000000 in
set_option maxRecDepth 100000 in
theorem k_X16_part_v17 (l : Launch) (hlt : l.stackTraces = false) (dC : Nat → ClassId) (dI : Nat → Nat → Nat) (c0 : Int32) (sz : Nat) : Met l yX16_part ow_k_X16_part_v17 ({ frames := 0, cells := 0, slots := 0, locals := 0 }) (va_Pc [.int c0, .int 10, .int 2] (fun U => U.heap.size = sz ∧ va_P (dC, dI) vwCl [] U.heap ∧ va_K (dC, dI) vwCl [] U ∧ va_D (fun _ => True) [] ∧ nv_E (va_A [] sz) U)) (va_Qi (fun r _ => (r = ((((c0 : Int32).toUInt32 >>> ((10 : Int32).toUInt32 &&& Int32.toUInt32 31)).toInt32) &&& 3)) ∨ False) (fun (_ : Unit) t => va_P (dC, dI) vwCl [] t.heap ∧ va_K (dC, dI) vwCl [] t ∧ va_D (va_A [] sz) []) (va_A [] sz)) 0 0 (va_A [] sz) := by
  refine Met.ofW (cc := cX16_part) (maxL := 3) (ret := (some .int)) (by decide) rfl ?_
  intro p e s m args below meth c s₁ B hml hv
  obtain ⟨rfl, hsz, hP, hK, hD0, hN⟩ := hv
  have hx := B.exec
  have hb := B.bytes
  have hr := B.returns
  have hts := atoms_spec (ws := ow_k_X16_part_v17) B.pre
  have hown : s.vm.findClass RX16 = some m.cls := findClass_of_methodNamed B.named
  have hlocks := B.notSynchronized
  subst hsz
  have hD := hD0.self (sz := s.heap.size)
  generalize hAe : va_A [] s.heap.size = A at hD hN ⊢
  have hA : ∀ q : Nat, s.heap.size ≤ q → A q := fun q h => by rw [← hAe]; exact Or.inr h
  have hS : va_S A s.heap s.heap [] := va_S.rf
  have hl := lv_entry ([.int c0, .int 10, .int 2]) (n := 3) (Nat.le_of_ble_eq_true rfl)
  rw [lg_entry_eq]
  generalize (lg_sl ([.int c0, .int 10, .int 2]) ++ List.replicate (3 - (lg_sl ([.int c0, .int 10, .int 2])).length) Slot.unset).toArray = ls at hl ⊢
  have hl : lv_has ls 3 [(0, .int c0), (1, .int 10), (2, .int 2)] := hl
  refine lv_iload_n hx hb dX16_part_0 rfl (lv_at hl 0 rfl) ?_
  refine lv_iload_n hx hb dX16_part_1 rfl (lv_at hl 1 rfl) ?_
  refine lv_iushr hx hb dX16_part_2 rfl ?_
  refine lv_iconst (v := 1) hx hb dX16_part_3 (by decide) ?_
  refine lv_iload_n hx hb dX16_part_4 rfl (lv_at hl 2 rfl) ?_
  refine lv_ishl hx hb dX16_part_5 ?_
  refine lv_topi (fun z1 ez1 => ?_)
  obtain rfl : z1 = 4 := ez1.trans (by decide)
  refine lv_iconst (v := 1) hx hb dX16_part_6 (by decide) ?_
  refine lv_isub hx hb dX16_part_7 ?_
  refine lv_topi (fun z2 ez2 => ?_)
  obtain rfl : z2 = 3 := ez2.trans (by decide)
  refine lv_iand hx hb dX16_part_8 ?_
  refine W.widen (k := 0) (n := 0) (by decide +kernel) (by decide +kernel) ?_
  exact W.iret (v := ((((c0 : Int32).toUInt32 >>> ((10 : Int32).toUInt32 &&& Int32.toUInt32 31)).toInt32) &&& 3)) hx hb hr (fun t ht hW => ⟨⟨((((c0 : Int32).toUInt32 >>> ((10 : Int32).toUInt32 &&& Int32.toUInt32 31)).toInt32) &&& 3), (), rfl, Or.inl rfl, by rw [ht]; exact hP, va_K.moved hW.alike hK, hD⟩, hS.F ht⟩) hS.2.2 dX16_part_9
def ow_k_X16_part_v18 : List Cond := .code yX16_part cX16_part 3 (some .int) :: ([] ++ [])
theorem gd_k_X16_part_v18 : ∀ w ∈ ow_k_X16_part_v18, (w.onTables && w.keeps) = true ∨ ∃ ty, w = Cond.arrayClass ty := List.forall_mem_cons.mpr ⟨good_of_word rfl, List.forall_mem_append.mpr ⟨fun w h => good_of_word (List.all_eq_true.mp (by decide +kernel) w h), fun _ h => nomatch h⟩⟩
set_option maxHeartbeats 40000000 in
set_option maxRecDepth 100000 in
theorem k_X16_part_v18 (l : Launch) (hlt : l.stackTraces = false) (dC : Nat → ClassId) (dI : Nat → Nat → Nat) (c0 : Int32) (sz : Nat) : Met l yX16_part ow_k_X16_part_v18 ({ frames := 0, cells := 0, slots := 0, locals := 0 }) (va_Pc [.int c0, .int 5, .int 2] (fun U => U.heap.size = sz ∧ va_P (dC, dI) vwCl [] U.heap ∧ va_K (dC, dI) vwCl [] U ∧ va_D (fun _ => True) [] ∧ nv_E (va_A [] sz) U)) (va_Qi (fun r _ => (r = ((((c0 : Int32).toUInt32 >>> ((5 : Int32).toUInt32 &&& Int32.toUInt32 31)).toInt32) &&& 3)) ∨ False) (fun (_ : Unit) t => va_P (dC, dI) vwCl [] t.heap ∧ va_K (dC, dI) vwCl [] t ∧ va_D (va_A [] sz) []) (va_A [] sz)) 0 0 (va_A [] sz) := by
  refine Met.ofW (cc := cX16_part) (maxL := 3) (ret := (some .int)) (by decide) rfl ?_
  intro p e s m args below meth c s₁ B hml hv
  obtain ⟨rfl, hsz, hP, hK, hD0, hN⟩ := hv
  have hx := B.exec
  have hb := B.bytes
  have hr := B.returns
  have hts := atoms_spec (ws := ow_k_X16_part_v18) B.pre
  have hown : s.vm.findClass RX16 = some m.cls := findClass_of_methodNamed B.named
  have hlocks := B.notSynchronized
  subst hsz
  have hD := hD0.self (sz := s.heap.size)
  generalize hAe : va_A [] s.heap.size = A at hD hN ⊢
  have hA : ∀ q : Nat, s.heap.size ≤ q → A q := fun q h => by rw [← hAe]; exact Or.inr h
  have hS : va_S A s.heap s.heap [] := va_S.rf
  have hl := lv_entry ([.int c0, .int 5, .int 2]) (n := 3) (Nat.le_of_ble_eq_true rfl)
  rw [lg_entry_eq]
  generalize (lg_sl ([.int c0, .int 5, .int 2]) ++ List.replicate (3 - (lg_sl ([.int c0, .int 5, .int 2])).length) Slot.unset).toArray = ls at hl ⊢
  have hl : lv_has ls 3 [(0, .int c0), (1, .int 5), (2, .int 2)] := hl
  refine lv_iload_n hx hb dX16_part_0 rfl (lv_at hl 0 rfl) ?_
  refine lv_iload_n hx hb dX16_part_1 rfl (lv_at hl 1 rfl) ?_
  refine lv_iushr hx hb dX16_part_2 rfl ?_
  refine lv_iconst (v := 1) hx hb dX16_part_3 (by decide) ?_
  refine lv_iload_n hx hb dX16_part_4 rfl (lv_at hl 2 rfl) ?_
  refine lv_ishl hx hb dX16_part_5 ?_
  refine lv_topi (fun z1 ez1 => ?_)
  obtain rfl : z1 = 4 := ez1.trans (by decide)
  refine lv_iconst (v := 1) hx hb dX16_part_6 (by decide) ?_
  refine lv_isub hx hb dX16_part_7 ?_
  refine lv_topi (fun z2 ez2 => ?_)
  obtain rfl : z2 = 3 := ez2.trans (by decide)
  refine lv_iand hx hb dX16_part_8 ?_
  refine W.widen (k := 0) (n := 0) (by decide +kernel) (by decide +kernel) ?_
  exact W.iret (v := ((((c0 : Int32).toUInt32 >>> ((5 : Int32).toUInt32 &&& Int32.toUInt32 31)).toInt32) &&& 3)) hx hb hr (fun t ht hW => ⟨⟨((((c0 : Int32).toUInt32 >>> ((5 : Int32).toUInt32 &&& Int32.toUInt32 31)).toInt32) &&& 3), (), rfl, Or.inl rfl, by rw [ht]; exact hP, va_K.moved hW.alike hK, hD⟩, hS.F ht⟩) hS.2.2 dX16_part_9
def ow_k_X16_threes : List Cond := .code yX16_threes cX16_threes 5 (some .int) :: ([] ++ [])
theorem gd_k_X16_threes : ∀ w ∈ ow_k_X16_threes, (w.onTables && w.keeps) = true ∨ ∃ ty, w = Cond.arrayClass ty := List.forall_mem_cons.mpr ⟨good_of_word rfl, List.forall_mem_append.mpr ⟨fun w h => good_of_word (List.all_eq_true.mp (by decide +kernel) w h), fun _ h => nomatch h⟩⟩
set_option maxHeartbeats 40000000 in
set_option maxRecDepth 100000 in
theorem k_X16_threes (l : Launch) (hlt : l.stackTraces = false) (dC : Nat → ClassId) (dI : Nat → Nat → Nat) (c0 : Int32) (c1 : Int32) (c2 : Int32) (c3 : Int32) (sz : Nat) : Met l yX16_threes ow_k_X16_threes ({ frames := 0, cells := 0, slots := 0, locals := 0 }) (va_Pc [.int c0, .int 0, .int c1, .int c2, .int c3] (fun U => U.heap.size = sz ∧ va_P (dC, dI) vwCl [] U.heap ∧ va_K (dC, dI) vwCl [] U ∧ va_D (fun _ => True) [] ∧ nv_E (va_A [] sz) U)) (va_Qi (fun r _ => (r = (((((51 ||| ((c1 : Int32) <<< ((7 : Int32) &&& 31))) ||| ((c0 : Int32) <<< ((12 : Int32) &&& 31))) ||| ((c2 : Int32) <<< ((15 : Int32) &&& 31))) ||| ((c3 : Int32) <<< ((20 : Int32) &&& 31))) ||| 0)) ∨ False) (fun (_ : Unit) t => va_P (dC, dI) vwCl [] t.heap ∧ va_K (dC, dI) vwCl [] t ∧ va_D (va_A [] sz) []) (va_A [] sz)) 0 0 (va_A [] sz) := by
  refine Met.ofW (cc := cX16_threes) (maxL := 5) (ret := (some .int)) (by decide) rfl ?_
  intro p e s m args below meth c s₁ B hml hv
  obtain ⟨rfl, hsz, hP, hK, hD0, hN⟩ := hv
  have hx := B.exec
  have hb := B.bytes
  have hr := B.returns
  have hts := atoms_spec (ws := ow_k_X16_threes) B.pre
  have hown : s.vm.findClass RX16 = some m.cls := findClass_of_methodNamed B.named
  have hlocks := B.notSynchronized
  subst hsz
  have hD := hD0.self (sz := s.heap.size)
  generalize hAe : va_A [] s.heap.size = A at hD hN ⊢
  have hA : ∀ q : Nat, s.heap.size ≤ q → A q := fun q h => by rw [← hAe]; exact Or.inr h
  have hS : va_S A s.heap s.heap [] := va_S.rf
  have hl := lv_entry ([.int c0, .int 0, .int c1, .int c2, .int c3]) (n := 5) (Nat.le_of_ble_eq_true rfl)
  rw [lg_entry_eq]
  generalize (lg_sl ([.int c0, .int 0, .int c1, .int c2, .int c3]) ++ List.replicate (5 - (lg_sl ([.int c0, .int 0, .int c1, .int c2, .int c3])).length) Slot.unset).toArray = ls at hl ⊢
  have hl : lv_has ls 5 [(0, .int c0), (1, .int 0), (2, .int c1), (3, .int c2), (4, .int c3)] := hl
  refine lv_bipush (v := 51) hx hb dX16_threes_0 (by decide) ?_
  refine lv_iload_n hx hb dX16_threes_2 rfl (lv_at hl 2 rfl) ?_
  refine lv_bipush (v := 7) hx hb dX16_threes_3 (by decide) ?_
  refine lv_ishl hx hb dX16_threes_5 ?_
  refine lv_ior hx hb dX16_threes_6 ?_
  refine lv_iload_n hx hb dX16_threes_7 rfl (lv_at hl 0 rfl) ?_
  refine lv_bipush (v := 12) hx hb dX16_threes_8 (by decide) ?_
  refine lv_ishl hx hb dX16_threes_10 ?_
  refine lv_ior hx hb dX16_threes_11 ?_
  refine lv_iload_n hx hb dX16_threes_12 rfl (lv_at hl 3 rfl) ?_
  refine lv_bipush (v := 15) hx hb dX16_threes_13 (by decide) ?_
  refine lv_ishl hx hb dX16_threes_15 ?_
  refine lv_ior hx hb dX16_threes_16 ?_
  refine lv_iload hx hb dX16_threes_17 (lv_at hl 4 rfl) ?_
  refine lv_bipush (v := 20) hx hb dX16_threes_19 (by decide) ?_
  refine lv_ishl hx hb dX16_threes_21 ?_
  refine lv_ior hx hb dX16_threes_22 ?_
  refine lv_iload_n hx hb dX16_threes_23 rfl (lv_at hl 1 rfl) ?_
  refine lv_bipush (v := 25) hx hb dX16_threes_24 (by decide) ?_
  refine lv_ishl hx hb dX16_threes_26 ?_
  refine lv_topi (fun z1 ez1 => ?_)
  obtain rfl : z1 = 0 := ez1.trans (by decide)
  refine lv_ior hx hb dX16_threes_27 ?_
  refine W.widen (k := 0) (n := 0) (by decide +kernel) (by decide +kernel) ?_
  exact W.iret (v := (((((51 ||| ((c1 : Int32) <<< ((7 : Int32) &&& 31))) ||| ((c0 : Int32) <<< ((12 : Int32) &&& 31))) ||| ((c2 : Int32) <<< ((15 : Int32) &&& 31))) ||| ((c3 : Int32) <<< ((20 : Int32) &&& 31))) ||| 0)) hx hb hr (fun t ht hW => ⟨⟨(((((51 ||| ((c1 : Int32) <<< ((7 : Int32) &&& 31))) ||| ((c0 : Int32) <<< ((12 : Int32) &&& 31))) ||| ((c2 : Int32) <<< ((15 : Int32) &&& 31))) ||| ((c3 : Int32) <<< ((20 : Int32) &&& 31))) ||| 0), (), rfl, Or.inl rfl, by rw [ht]; exact hP, va_K.moved hW.alike hK, hD⟩, hS.F ht⟩) hS.2.2 dX16_threes_28
def ow_k_X16_threes_v1 : List Cond := .code yX16_threes cX16_threes 5 (some .int) :: ([] ++ [])
theorem gd_k_X16_threes_v1 : ∀ w ∈ ow_k_X16_threes_v1, (w.onTables && w.keeps) = true ∨ ∃ ty, w = Cond.arrayClass ty := List.forall_mem_cons.mpr ⟨good_of_word rfl, List.forall_mem_append.mpr ⟨fun w h => good_of_word (List.all_eq_true.mp (by decide +kernel) w h), fun _ h => nomatch h⟩⟩
set_option maxHeartbeats 40000000 in
set_option maxRecDepth 100000 in
theorem k_X16_threes_v1 (l : Launch) (hlt : l.stackTraces = false) (dC : Nat → ClassId) (dI : Nat → Nat → Nat) (c0 : Int32) (c1 : Int32) (c2 : Int32) (sz : Nat) : Met l yX16_threes ow_k_X16_threes_v1 ({ frames := 0, cells := 0, slots := 0, locals := 0 }) (va_Pc [.int 4, .int 0, .int c0, .int c1, .int c2] (fun U => U.heap.size = sz ∧ va_P (dC, dI) vwCl [] U.heap ∧ va_K (dC, dI) vwCl [] U ∧ va_D (fun _ => True) [] ∧ nv_E (va_A [] sz) U)) (va_Qi (fun r _ => (r = (((((51 ||| ((c0 : Int32) <<< ((7 : Int32) &&& 31))) ||| 16384) ||| ((c1 : Int32) <<< ((15 : Int32) &&& 31))) ||| ((c2 : Int32) <<< ((20 : Int32) &&& 31))) ||| 0)) ∨ False) (fun (_ : Unit) t => va_P (dC, dI) vwCl [] t.heap ∧ va_K (dC, dI) vwCl [] t ∧ va_D (va_A [] sz) []) (va_A [] sz)) 0 0 (va_A [] sz) := by
  refine Met.ofW (cc := cX16_threes) (maxL := 5) (ret := (some .int)) (by decide) rfl ?_
  intro p e s m args below meth c s₁ B hml hv
  obtain ⟨rfl, hsz, hP, hK, hD0, hN⟩ := hv
  have hx := B.exec
  have hb := B.bytes
  have hr := B.returns
  have hts := atoms_spec (ws := ow_k_X16_threes_v1) B.pre
  have hown : s.vm.findClass RX16 = some m.cls := findClass_of_methodNamed B.named
  have hlocks := B.notSynchronized
  subst hsz
  have hD := hD0.self (sz := s.heap.size)
  generalize hAe : va_A [] s.heap.size = A at hD hN ⊢
  have hA : ∀ q : Nat, s.heap.size ≤ q → A q := fun q h => by rw [← hAe]; exact Or.inr h
  have hS : va_S A s.heap s.heap [] := va_S.rf
  have hl := lv_entry ([.int 4, .int 0, .int c0, .int c1, .int c2]) (n := 5) (Nat.le_of_ble_eq_true rfl)
  rw [lg_entry_eq]
  generalize (lg_sl ([.int 4, .int 0, .int c0, .int c1, .int c2]) ++ List.replicate (5 - (lg_sl ([.int 4, .int 0, .int c0, .int c1, .int c2])).length) Slot.unset).toArray = ls at hl ⊢
  have hl : lv_has ls 5 [(0, .int 4), (1, .int 0), (2, .int c0), (3, .int c1), (4, .int c2)] := hl
  refine lv_bipush (v := 51) hx hb dX16_threes_0 (by decide) ?_
  refine lv_iload_n hx hb dX16_threes_2 rfl (lv_at hl 2 rfl) ?_
  refine lv_bipush (v := 7) hx hb dX16_threes_3 (by decide) ?_
  refine lv_ishl hx hb dX16_threes_5 ?_
  refine lv_ior hx hb dX16_threes_6 ?_
  refine lv_iload_n hx hb dX16_threes_7 rfl (lv_at hl 0 rfl) ?_
  refine lv_bipush (v := 12) hx hb dX16_threes_8 (by decide) ?_
  refine lv_ishl hx hb dX16_threes_10 ?_
  refine lv_topi (fun z1 ez1 => ?_)
  obtain rfl : z1 = 16384 := ez1.trans (by decide)
  refine lv_ior hx hb dX16_threes_11 ?_
  refine lv_iload_n hx hb dX16_threes_12 rfl (lv_at hl 3 rfl) ?_
  refine lv_bipush (v := 15) hx hb dX16_threes_13 (by decide) ?_
  refine lv_ishl hx hb dX16_threes_15 ?_
  refine lv_ior hx hb dX16_threes_16 ?_
  refine lv_iload hx hb dX16_threes_17 (lv_at hl 4 rfl) ?_
  refine lv_bipush (v := 20) hx hb dX16_threes_19 (by decide) ?_
  refine lv_ishl hx hb dX16_threes_21 ?_
  refine lv_ior hx hb dX16_threes_22 ?_
  refine lv_iload_n hx hb dX16_threes_23 rfl (lv_at hl 1 rfl) ?_
  refine lv_bipush (v := 25) hx hb dX16_threes_24 (by decide) ?_
  refine lv_ishl hx hb dX16_threes_26 ?_
  refine lv_topi (fun z2 ez2 => ?_)
  obtain rfl : z2 = 0 := ez2.trans (by decide)
  refine lv_ior hx hb dX16_threes_27 ?_
  refine W.widen (k := 0) (n := 0) (by decide +kernel) (by decide +kernel) ?_
  exact W.iret (v := (((((51 ||| ((c0 : Int32) <<< ((7 : Int32) &&& 31))) ||| 16384) ||| ((c1 : Int32) <<< ((15 : Int32) &&& 31))) ||| ((c2 : Int32) <<< ((20 : Int32) &&& 31))) ||| 0)) hx hb hr (fun t ht hW => ⟨⟨(((((51 ||| ((c0 : Int32) <<< ((7 : Int32) &&& 31))) ||| 16384) ||| ((c1 : Int32) <<< ((15 : Int32) &&& 31))) ||| ((c2 : Int32) <<< ((20 : Int32) &&& 31))) ||| 0), (), rfl, Or.inl rfl, by rw [ht]; exact hP, va_K.moved hW.alike hK, hD⟩, hS.F ht⟩) hS.2.2 dX16_threes_28
def ow_k_X16_threes_v2 : List Cond := .code yX16_threes cX16_threes 5 (some .int) :: ([] ++ [])
theorem gd_k_X16_threes_v2 : ∀ w ∈ ow_k_X16_threes_v2, (w.onTables && w.keeps) = true ∨ ∃ ty, w = Cond.arrayClass ty := List.forall_mem_cons.mpr ⟨good_of_word rfl, List.forall_mem_append.mpr ⟨fun w h => good_of_word (List.all_eq_true.mp (by decide +kernel) w h), fun _ h => nomatch h⟩⟩
set_option maxHeartbeats 40000000 in
set_option maxRecDepth 100000 in
theorem k_X16_threes_v2 (l : Launch) (hlt : l.stackTraces = false) (dC : Nat → ClassId) (dI : Nat → Nat → Nat) (c0 : Int32) (c1 : Int32) (c2 : Int32) (sz : Nat) : Met l yX16_threes ow_k_X16_threes_v2 ({ frames := 0, cells := 0, slots := 0, locals := 0 }) (va_Pc [.int 0, .int 32, .int c0, .int c1, .int c2] (fun U => U.heap.size = sz ∧ va_P (dC, dI) vwCl [] U.heap ∧ va_K (dC, dI) vwCl [] U ∧ va_D (fun _ => True) [] ∧ nv_E (va_A [] sz) U)) (va_Qi (fun r _ => (r = (((((51 ||| ((c0 : Int32) <<< ((7 : Int32) &&& 31))) ||| 0) ||| ((c1 : Int32) <<< ((15 : Int32) &&& 31))) ||| ((c2 : Int32) <<< ((20 : Int32) &&& 31))) ||| 1073741824)) ∨ False) (fun (_ : Unit) t => va_P (dC, dI) vwCl [] t.heap ∧ va_K (dC, dI) vwCl [] t ∧ va_D (va_A [] sz) []) (va_A [] sz)) 0 0 (va_A [] sz) := by
  refine Met.ofW (cc := cX16_threes) (maxL := 5) (ret := (some .int)) (by decide) rfl ?_
  intro p e s m args below meth c s₁ B hml hv
  obtain ⟨rfl, hsz, hP, hK, hD0, hN⟩ := hv
  have hx := B.exec
  have hb := B.bytes
  have hr := B.returns
  have hts := atoms_spec (ws := ow_k_X16_threes_v2) B.pre
  have hown : s.vm.findClass RX16 = some m.cls := findClass_of_methodNamed B.named
  have hlocks := B.notSynchronized
  subst hsz
  have hD := hD0.self (sz := s.heap.size)
  generalize hAe : va_A [] s.heap.size = A at hD hN ⊢
  have hA : ∀ q : Nat, s.heap.size ≤ q → A q := fun q h => by rw [← hAe]; exact Or.inr h
  have hS : va_S A s.heap s.heap [] := va_S.rf
  have hl := lv_entry ([.int 0, .int 32, .int c0, .int c1, .int c2]) (n := 5) (Nat.le_of_ble_eq_true rfl)
  rw [lg_entry_eq]
  generalize (lg_sl ([.int 0, .int 32, .int c0, .int c1, .int c2]) ++ List.replicate (5 - (lg_sl ([.int 0, .int 32, .int c0, .int c1, .int c2])).length) Slot.unset).toArray = ls at hl ⊢
  have hl : lv_has ls 5 [(0, .int 0), (1, .int 32), (2, .int c0), (3, .int c1), (4, .int c2)] := hl
  refine lv_bipush (v := 51) hx hb dX16_threes_0 (by decide) ?_
  refine lv_iload_n hx hb dX16_threes_2 rfl (lv_at hl 2 rfl) ?_
  refine lv_bipush (v := 7) hx hb dX16_threes_3 (by decide) ?_
  refine lv_ishl hx hb dX16_threes_5 ?_
  refine lv_ior hx hb dX16_threes_6 ?_
  refine lv_iload_n hx hb dX16_threes_7 rfl (lv_at hl 0 rfl) ?_
  refine lv_bipush (v := 12) hx hb dX16_threes_8 (by decide) ?_
  refine lv_ishl hx hb dX16_threes_10 ?_
  refine lv_topi (fun z1 ez1 => ?_)
  obtain rfl : z1 = 0 := ez1.trans (by decide)
  refine lv_ior hx hb dX16_threes_11 ?_
  refine lv_iload_n hx hb dX16_threes_12 rfl (lv_at hl 3 rfl) ?_
  refine lv_bipush (v := 15) hx hb dX16_threes_13 (by decide) ?_
  refine lv_ishl hx hb dX16_threes_15 ?_
  refine lv_ior hx hb dX16_threes_16 ?_
  refine lv_iload hx hb dX16_threes_17 (lv_at hl 4 rfl) ?_
  refine lv_bipush (v := 20) hx hb dX16_threes_19 (by decide) ?_
  refine lv_ishl hx hb dX16_threes_21 ?_
  refine lv_ior hx hb dX16_threes_22 ?_
  refine lv_iload_n hx hb dX16_threes_23 rfl (lv_at hl 1 rfl) ?_
  refine lv_bipush (v := 25) hx hb dX16_threes_24 (by decide) ?_
  refine lv_ishl hx hb dX16_threes_26 ?_
  refine lv_topi (fun z2 ez2 => ?_)
  obtain rfl : z2 = 1073741824 := ez2.trans (by decide)
  refine lv_ior hx hb dX16_threes_27 ?_
  refine W.widen (k := 0) (n := 0) (by decide +kernel) (by decide +kernel) ?_
  exact W.iret (v := (((((51 ||| ((c0 : Int32) <<< ((7 : Int32) &&& 31))) ||| 0) ||| ((c1 : Int32) <<< ((15 : Int32) &&& 31))) ||| ((c2 : Int32) <<< ((20 : Int32) &&& 31))) ||| 1073741824)) hx hb hr (fun t ht hW => ⟨⟨(((((51 ||| ((c0 : Int32) <<< ((7 : Int32) &&& 31))) ||| 0) ||| ((c1 : Int32) <<< ((15 : Int32) &&& 31))) ||| ((c2 : Int32) <<< ((20 : Int32) &&& 31))) ||| 1073741824), (), rfl, Or.inl rfl, by rw [ht]; exact hP, va_K.moved hW.alike hK, hD⟩, hS.F ht⟩) hS.2.2 dX16_threes_28
def ow_k_X16_part_v19 : List Cond := .code yX16_part cX16_part 3 (some .int) :: ([] ++ [])
theorem gd_k_X16_part_v19 : ∀ w ∈ ow_k_X16_part_v19, (w.onTables && w.keeps) = true ∨ ∃ ty, w = Cond.arrayClass ty := List.forall_mem_cons.mpr ⟨good_of_word rfl, List.forall_mem_append.mpr ⟨fun w h => good_of_word (List.all_eq_true.mp (by decide +kernel) w h), fun _ h => nomatch h⟩⟩
set_option maxHeartbeats 40000000 in
set_option maxRecDepth 100000 in
theorem k_X16_part_v19 (l : Launch) (hlt : l.stackTraces = false) (dC : Nat → ClassId) (dI : Nat → Nat → Nat) (c0 : Int32) (sz : Nat) : Met l yX16_part ow_k_X16_part_v19 ({ frames := 0, cells := 0, slots := 0, locals := 0 }) (va_Pc [.int c0, .int 2, .int 5] (fun U => U.heap.size = sz ∧ va_P (dC, dI) vwCl [] U.heap ∧ va_K (dC, dI) vwCl [] U ∧ va_D (fun _ => True) [] ∧ nv_E (va_A [] sz) U)) (va_Qi (fun r _ => (r = ((((c0 : Int32).toUInt32 >>> ((2 : Int32).toUInt32 &&& Int32.toUInt32 31)).toInt32) &&& 31)) ∨ False) (fun (_ : Unit) t => va_P (dC, dI) vwCl [] t.heap ∧ va_K (dC, dI) vwCl [] t ∧ va_D (va_A [] sz) []) (va_A [] sz)) 0 0 (va_A [] sz) := by
  refine Met.ofW (cc := cX16_part) (maxL := 3) (ret := (some .int)) (by decide) rfl ?_
  intro p e s m args below meth c s₁ B hml hv
  obtain ⟨rfl, hsz, hP, hK, hD0, hN⟩ := hv
  have hx := B.exec
  have hb := B.bytes
  have hr := B.returns
  have hts := atoms_spec (ws := ow_k_X16_part_v19) B.pre
  have hown : s.vm.findClass RX16 = some m.cls := findClass_of_methodNamed B.named
  have hlocks := B.notSynchronized
  subst hsz
  have hD := hD0.self (sz := s.heap.size)
  generalize hAe : va_A [] s.heap.size = A at hD hN ⊢
  have hA : ∀ q : Nat, s.heap.size ≤ q → A q := fun q h => by rw [← hAe]; exact Or.inr h
  have hS : va_S A s.heap s.heap [] := va_S.rf
  have hl := lv_entry ([.int c0, .int 2, .int 5]) (n := 3) (Nat.le_of_ble_eq_true rfl)
  rw [lg_entry_eq]
  generalize (lg_sl ([.int c0, .int 2, .int 5]) ++ List.replicate (3 - (lg_sl ([.int c0, .int 2, .int 5])).length) Slot.unset).toArray = ls at hl ⊢
  have hl : lv_has ls 3 [(0, .int c0), (1, .int 2), (2, .int 5)] := hl
  refine lv_iload_n hx hb dX16_part_0 rfl (lv_at hl 0 rfl) ?_
  refine lv_iload_n hx hb dX16_part_1 rfl (lv_at hl 1 rfl) ?_
  refine lv_iushr hx hb dX16_part_2 rfl ?_
  refine lv_iconst (v := 1) hx hb dX16_part_3 (by decide) ?_
  refine lv_iload_n hx hb dX16_part_4 rfl (lv_at hl 2 rfl) ?_
  refine lv_ishl hx hb dX16_part_5 ?_
  refine lv_topi (fun z1 ez1 => ?_)
  obtain rfl : z1 = 32 := ez1.trans (by decide)
  refine lv_iconst (v := 1) hx hb dX16_part_6 (by decide) ?_
  refine lv_isub hx hb dX16_part_7 ?_
  refine lv_topi (fun z2 ez2 => ?_)
  obtain rfl : z2 = 31 := ez2.trans (by decide)
  refine lv_iand hx hb dX16_part_8 ?_
  refine W.widen (k := 0) (n := 0) (by decide +kernel) (by decide +kernel) ?_
  exact W.iret (v := ((((c0 : Int32).toUInt32 >>> ((2 : Int32).toUInt32 &&& Int32.toUInt32 31)).toInt32) &&& 31)) hx hb hr (fun t ht hW => ⟨⟨((((c0 : Int32).toUInt32 >>> ((2 : Int32).toUInt32 &&& Int32.toUInt32 31)).toInt32) &&& 31), (), rfl, Or.inl rfl, by rw [ht]; exact hP, va_K.moved hW.alike hK, hD⟩, hS.F ht⟩) hS.2.2 dX16_part_9
def ow_k_X16_immediate_v2 : List Cond := .code yX16_immediate cX16_immediate 5 (some .int) :: ([] ++ [])
theorem gd_k_X16_immediate_v2 : ∀ w ∈ ow_k_X16_immediate_v2, (w.onTables && w.keeps) = true ∨ ∃ ty, w = Cond.arrayClass ty := List.forall_mem_cons.mpr ⟨good_of_word rfl, List.forall_mem_append.mpr ⟨fun w h => good_of_word (List.all_eq_true.mp (by decide +kernel) w h), fun _ h => nomatch h⟩⟩
set_option maxHeartbeats 40000000 in
set_option maxRecDepth 100000 in
theorem k_X16_immediate_v2 (l : Launch) (hlt : l.stackTraces = false) (dC : Nat → ClassId) (dI : Nat → Nat → Nat) (c0 : Int32) (c1 : Int32) (c2 : Int32) (sz : Nat) : Met l yX16_immediate ow_k_X16_immediate_v2 ({ frames := 0, cells := 0, slots := 0, locals := 0 }) (va_Pc [.int 19, .int 5, .int c0, .int c1, .int c2] (fun U => U.heap.size = sz ∧ va_P (dC, dI) vwCl [] U.heap ∧ va_K (dC, dI) vwCl [] U ∧ va_D (fun _ => True) [] ∧ nv_E (va_A [] sz) U)) (va_Qi (fun r _ => (r = ((((19 ||| ((c0 : Int32) <<< ((7 : Int32) &&& 31))) ||| 20480) ||| ((c1 : Int32) <<< ((15 : Int32) &&& 31))) ||| ((c2 : Int32) <<< ((20 : Int32) &&& 31)))) ∨ False) (fun (_ : Unit) t => va_P (dC, dI) vwCl [] t.heap ∧ va_K (dC, dI) vwCl [] t ∧ va_D (va_A [] sz) []) (va_A [] sz)) 0 0 (va_A [] sz) := by
  refine Met.ofW (cc := cX16_immediate) (maxL := 5) (ret := (some .int)) (by decide) rfl ?_
  intro p e s m args below meth c s₁ B hml hv
  obtain ⟨rfl, hsz, hP, hK, hD0, hN⟩ := hv
  have hx := B.exec
  have hb := B.bytes
  have hr := B.returns
  have hts := atoms_spec (ws := ow_k_X16_immediate_v2) B.pre
  have hown : s.vm.findClass RX16 = some m.cls := findClass_of_methodNamed B.named
  have hlocks := B.notSynchronized
  subst hsz
  have hD := hD0.self (sz := s.heap.size)
  generalize hAe : va_A [] s.heap.size = A at hD hN ⊢
  have hA : ∀ q : Nat, s.heap.size ≤ q → A q := fun q h => by rw [← hAe]; exact Or.inr h
  have hS : va_S A s.heap s.heap [] := va_S.rf
  have hl := lv_entry ([.int 19, .int 5, .int c0, .int c1, .int c2]) (n := 5) (Nat.le_of_ble_eq_true rfl)
  rw [lg_entry_eq]
  generalize (lg_sl ([.int 19, .int 5, .int c0, .int c1, .int c2]) ++ List.replicate (5 - (lg_sl ([.int 19, .int 5, .int c0, .int c1, .int c2])).length) Slot.unset).toArray = ls at hl ⊢
  have hl : lv_has ls 5 [(0, .int 19), (1, .int 5), (2, .int c0), (3, .int c1), (4, .int c2)] := hl
  refine lv_iload_n hx hb dX16_immediate_0 rfl (lv_at hl 0 rfl) ?_
  refine lv_iload_n hx hb dX16_immediate_1 rfl (lv_at hl 2 rfl) ?_
  refine lv_bipush (v := 7) hx hb dX16_immediate_2 (by decide) ?_
  refine lv_ishl hx hb dX16_immediate_4 ?_
  refine lv_ior hx hb dX16_immediate_5 ?_
  refine lv_iload_n hx hb dX16_immediate_6 rfl (lv_at hl 1 rfl) ?_
  refine lv_bipush (v := 12) hx hb dX16_immediate_7 (by decide) ?_
  refine lv_ishl hx hb dX16_immediate_9 ?_
  refine lv_topi (fun z1 ez1 => ?_)
  obtain rfl : z1 = 20480 := ez1.trans (by decide)
  refine lv_ior hx hb dX16_immediate_10 ?_
  refine lv_iload_n hx hb dX16_immediate_11 rfl (lv_at hl 3 rfl) ?_
  refine lv_bipush (v := 15) hx hb dX16_immediate_12 (by decide) ?_
  refine lv_ishl hx hb dX16_immediate_14 ?_
  refine lv_ior hx hb dX16_immediate_15 ?_
  refine lv_iload hx hb dX16_immediate_16 (lv_at hl 4 rfl) ?_
  refine lv_bipush (v := 20) hx hb dX16_immediate_18 (by decide) ?_
  refine lv_ishl hx hb dX16_immediate_20 ?_
  refine lv_ior hx hb dX16_immediate_21 ?_
  refine W.widen (k := 0) (n := 0) (by decide +kernel) (by decide +kernel) ?_
  exact W.iret (v := ((((19 ||| ((c0 : Int32) <<< ((7 : Int32) &&& 31))) ||| 20480) ||| ((c1 : Int32) <<< ((15 : Int32) &&& 31))) ||| ((c2 : Int32) <<< ((20 : Int32) &&& 31)))) hx hb hr (fun t ht hW => ⟨⟨((((19 ||| ((c0 : Int32) <<< ((7 : Int32) &&& 31))) ||| 20480) ||| ((c1 : Int32) <<< ((15 : Int32) &&& 31))) ||| ((c2 : Int32) <<< ((20 : Int32) &&& 31))), (), rfl, Or.inl rfl, by rw [ht]; exact hP, va_K.moved hW.alike hK, hD⟩, hS.F ht⟩) hS.2.2 dX16_immediate_22
def ow_k_X16_immediate_v3 : List Cond := .code yX16_immediate cX16_immediate 5 (some .int) :: ([] ++ [])
theorem gd_k_X16_immediate_v3 : ∀ w ∈ ow_k_X16_immediate_v3, (w.onTables && w.keeps) = true ∨ ∃ ty, w = Cond.arrayClass ty := List.forall_mem_cons.mpr ⟨good_of_word rfl, List.forall_mem_append.mpr ⟨fun w h => good_of_word (List.all_eq_true.mp (by decide +kernel) w h), fun _ h => nomatch h⟩⟩
set_option maxHeartbeats 40000000 in
set_option maxRecDepth 100000 in
theorem k_X16_immediate_v3 (l : Launch) (hlt : l.stackTraces = false) (dC : Nat → ClassId) (dI : Nat → Nat → Nat) (c0 : Int32) (c1 : Int32) (c2 : Int32) (sz : Nat) : Met l yX16_immediate ow_k_X16_immediate_v3 ({ frames := 0, cells := 0, slots := 0, locals := 0 }) (va_Pc [.int 19, .int 7, .int c0, .int c1, .int c2] (fun U => U.heap.size = sz ∧ va_P (dC, dI) vwCl [] U.heap ∧ va_K (dC, dI) vwCl [] U ∧ va_D (fun _ => True) [] ∧ nv_E (va_A [] sz) U)) (va_Qi (fun r _ => (r = ((((19 ||| ((c0 : Int32) <<< ((7 : Int32) &&& 31))) ||| 28672) ||| ((c1 : Int32) <<< ((15 : Int32) &&& 31))) ||| ((c2 : Int32) <<< ((20 : Int32) &&& 31)))) ∨ False) (fun (_ : Unit) t => va_P (dC, dI) vwCl [] t.heap ∧ va_K (dC, dI) vwCl [] t ∧ va_D (va_A [] sz) []) (va_A [] sz)) 0 0 (va_A [] sz) := by
  refine Met.ofW (cc := cX16_immediate) (maxL := 5) (ret := (some .int)) (by decide) rfl ?_
  intro p e s m args below meth c s₁ B hml hv
  obtain ⟨rfl, hsz, hP, hK, hD0, hN⟩ := hv
  have hx := B.exec
  have hb := B.bytes
  have hr := B.returns
  have hts := atoms_spec (ws := ow_k_X16_immediate_v3) B.pre
  have hown : s.vm.findClass RX16 = some m.cls := findClass_of_methodNamed B.named
  have hlocks := B.notSynchronized
  subst hsz
  have hD := hD0.self (sz := s.heap.size)
  generalize hAe : va_A [] s.heap.size = A at hD hN ⊢
  have hA : ∀ q : Nat, s.heap.size ≤ q → A q := fun q h => by rw [← hAe]; exact Or.inr h
  have hS : va_S A s.heap s.heap [] := va_S.rf
  have hl := lv_entry ([.int 19, .int 7, .int c0, .int c1, .int c2]) (n := 5) (Nat.le_of_ble_eq_true rfl)
  rw [lg_entry_eq]
  generalize (lg_sl ([.int 19, .int 7, .int c0, .int c1, .int c2]) ++ List.replicate (5 - (lg_sl ([.int 19, .int 7, .int c0, .int c1, .int c2])).length) Slot.unset).toArray = ls at hl ⊢
  have hl : lv_has ls 5 [(0, .int 19), (1, .int 7), (2, .int c0), (3, .int c1), (4, .int c2)] := hl
  refine lv_iload_n hx hb dX16_immediate_0 rfl (lv_at hl 0 rfl) ?_
  refine lv_iload_n hx hb dX16_immediate_1 rfl (lv_at hl 2 rfl) ?_
  refine lv_bipush (v := 7) hx hb dX16_immediate_2 (by decide) ?_
  refine lv_ishl hx hb dX16_immediate_4 ?_
  refine lv_ior hx hb dX16_immediate_5 ?_
  refine lv_iload_n hx hb dX16_immediate_6 rfl (lv_at hl 1 rfl) ?_
  refine lv_bipush (v := 12) hx hb dX16_immediate_7 (by decide) ?_
  refine lv_ishl hx hb dX16_immediate_9 ?_
  refine lv_topi (fun z1 ez1 => ?_)
  obtain rfl : z1 = 28672 := ez1.trans (by decide)
  refine lv_ior hx hb dX16_immediate_10 ?_
  refine lv_iload_n hx hb dX16_immediate_11 rfl (lv_at hl 3 rfl) ?_
  refine lv_bipush (v := 15) hx hb dX16_immediate_12 (by decide) ?_
  refine lv_ishl hx hb dX16_immediate_14 ?_
  refine lv_ior hx hb dX16_immediate_15 ?_
  refine lv_iload hx hb dX16_immediate_16 (lv_at hl 4 rfl) ?_
  refine lv_bipush (v := 20) hx hb dX16_immediate_18 (by decide) ?_
  refine lv_ishl hx hb dX16_immediate_20 ?_
  refine lv_ior hx hb dX16_immediate_21 ?_
  refine W.widen (k := 0) (n := 0) (by decide +kernel) (by decide +kernel) ?_
  exact W.iret (v := ((((19 ||| ((c0 : Int32) <<< ((7 : Int32) &&& 31))) ||| 28672) ||| ((c1 : Int32) <<< ((15 : Int32) &&& 31))) ||| ((c2 : Int32) <<< ((20 : Int32) &&& 31)))) hx hb hr (fun t ht hW => ⟨⟨((((19 ||| ((c0 : Int32) <<< ((7 : Int32) &&& 31))) ||| 28672) ||| ((c1 : Int32) <<< ((15 : Int32) &&& 31))) ||| ((c2 : Int32) <<< ((20 : Int32) &&& 31))), (), rfl, Or.inl rfl, by rw [ht]; exact hP, va_K.moved hW.alike hK, hD⟩, hS.F ht⟩) hS.2.2 dX16_immediate_22
def ow_g_X16_four : List Cond := .code yX16_four cX16_four 6 (some .int) :: ([.methodLink RX16 297 yX16_part, .static yX16_part, .initialized RX16, .methodLink RX16 332 yX16_threes, .static yX16_threes, .methodLink RX16 313 yX16_immediate, .static yX16_immediate] ++ (ow_k_X16_part_v11 ++ (ow_k_X16_part_v10 ++ (ow_k_X16_part_v17 ++ (ow_k_X16_part_v18 ++ (ow_k_X16_part_v9 ++ (ow_k_X16_threes ++ (ow_k_X16_threes_v1 ++ (ow_k_X16_threes_v2 ++ (ow_k_X16_part_v19 ++ (ow_k_X16_immediate_v2 ++ (ow_k_X16_immediate_v3 ++ []))))))))))))
theorem gd_g_X16_four : ∀ w ∈ ow_g_X16_four, (w.onTables && w.keeps) = true ∨ ∃ ty, w = Cond.arrayClass ty := List.forall_mem_cons.mpr ⟨good_of_word rfl, List.forall_mem_append.mpr ⟨fun w h => good_of_word (List.all_eq_true.mp (by decide +kernel) w h), List.forall_mem_append.mpr ⟨gd_k_X16_part_v11, List.forall_mem_append.mpr ⟨gd_k_X16_part_v10, List.forall_mem_append.mpr ⟨gd_k_X16_part_v17, List.forall_mem_append.mpr ⟨gd_k_X16_part_v18, List.forall_mem_append.mpr ⟨gd_k_X16_part_v9, List.forall_mem_append.mpr ⟨gd_k_X16_threes, List.forall_mem_append.mpr ⟨gd_k_X16_threes_v1, List.forall_mem_append.mpr ⟨gd_k_X16_threes_v2, List.forall_mem_append.mpr ⟨gd_k_X16_part_v19, List.forall_mem_append.mpr ⟨gd_k_X16_immediate_v2, List.forall_mem_append.mpr ⟨gd_k_X16_immediate_v3, fun _ h => nomatch h⟩⟩⟩⟩⟩⟩⟩⟩⟩⟩⟩⟩⟩
theorem gi_g_X16_four_0 : GoodIn ow_g_X16_four (wsS RX16 297 yX16_part ow_k_X16_part_v11) := goodIn_app (goodIn_of _ (by decide +kernel)) (fun w h => ⟨List.mem_cons_of_mem _ (List.mem_append_right _ (List.mem_append_left _ h)), gd_k_X16_part_v11 w h⟩)
theorem gi_g_X16_four_1 : GoodIn ow_g_X16_four (wsS RX16 297 yX16_part ow_k_X16_part_v10) := goodIn_app (goodIn_of _ (by decide +kernel)) (fun w h => ⟨List.mem_cons_of_mem _ (List.mem_append_right _ (List.mem_append_right _ (List.mem_append_left _ h))), gd_k_X16_part_v10 w h⟩)
theorem gi_g_X16_four_2 : GoodIn ow_g_X16_four (wsS RX16 297 yX16_part ow_k_X16_part_v17) := goodIn_app (goodIn_of _ (by decide +kernel)) (fun w h => ⟨List.mem_cons_of_mem _ (List.mem_append_right _ (List.mem_append_right _ (List.mem_append_right _ (List.mem_append_left _ h)))), gd_k_X16_part_v17 w h⟩)
theorem gi_g_X16_four_3 : GoodIn ow_g_X16_four (wsS RX16 297 yX16_part ow_k_X16_part_v18) := goodIn_app (goodIn_of _ (by decide +kernel)) (fun w h => ⟨List.mem_cons_of_mem _ (List.mem_append_right _ (List.mem_append_right _ (List.mem_append_right _ (List.mem_append_right _ (List.mem_append_left _ h))))), gd_k_X16_part_v18 w h⟩)
theorem gi_g_X16_four_4 : GoodIn ow_g_X16_four (wsS RX16 297 yX16_part ow_k_X16_part_v9) := goodIn_app (goodIn_of _ (by decide +kernel)) (fun w h => ⟨List.mem_cons_of_mem _ (List.mem_append_right _ (List.mem_append_right _ (List.mem_append_right _ (List.mem_append_right _ (List.mem_append_right _ (List.mem_append_left _ h)))))), gd_k_X16_part_v9 w h⟩)
theorem gi_g_X16_four_5 : GoodIn ow_g_X16_four (wsS RX16 332 yX16_threes ow_k_X16_threes) := goodIn_app (goodIn_of _ (by decide +kernel)) (fun w h => ⟨List.mem_cons_of_mem _ (List.mem_append_right _ (List.mem_append_right _ (List.mem_append_right _ (List.mem_append_right _ (List.mem_append_right _ (List.mem_append_right _ (List.mem_append_left _ h))))))), gd_k_X16_threes w h⟩)
theorem gi_g_X16_four_6 : GoodIn ow_g_X16_four (wsS RX16 332 yX16_threes ow_k_X16_threes_v1) := goodIn_app (goodIn_of _ (by decide +kernel)) (fun w h => ⟨List.mem_cons_of_mem _ (List.mem_append_right _ (List.mem_append_right _ (List.mem_append_right _ (List.mem_append_right _ (List.mem_append_right _ (List.mem_append_right _ (List.mem_append_right _ (List.mem_append_left _ h)))))))), gd_k_X16_threes_v1 w h⟩)
theorem gi_g_X16_four_7 : GoodIn ow_g_X16_four (wsS RX16 332 yX16_threes ow_k_X16_threes_v2) := goodIn_app (goodIn_of _ (by decide +kernel)) (fun w h => ⟨List.mem_cons_of_mem _ (List.mem_append_right _ (List.mem_append_right _ (List.mem_append_right _ (List.mem_append_right _ (List.mem_append_right _ (List.mem_append_right _ (List.mem_append_right _ (List.mem_append_right _ (List.mem_append_left _ h))))))))), gd_k_X16_threes_v2 w h⟩)
theorem gi_g_X16_four_8 : GoodIn ow_g_X16_four (wsS RX16 297 yX16_part ow_k_X16_part_v19) := goodIn_app (goodIn_of _ (by decide +kernel)) (fun w h => ⟨List.mem_cons_of_mem _ (List.mem_append_right _ (List.mem_append_right _ (List.mem_append_right _ (List.mem_append_right _ (List.mem_append_right _ (List.mem_append_right _ (List.mem_append_right _ (List.mem_append_right _ (List.mem_append_right _ (List.mem_append_left _ h)))))))))), gd_k_X16_part_v19 w h⟩)
theorem gi_g_X16_four_9 : GoodIn ow_g_X16_four (wsS RX16 313 yX16_immediate ow_k_X16_immediate_v2) := goodIn_app (goodIn_of _ (by decide +kernel)) (fun w h => ⟨List.mem_cons_of_mem _ (List.mem_append_right _ (List.mem_append_right _ (List.mem_append_right _ (List.mem_append_right _ (List.mem_append_right _ (List.mem_append_right _ (List.mem_append_right _ (List.mem_append_right _ (List.mem_append_right _ (List.mem_append_right _ (List.mem_append_left _ h))))))))))), gd_k_X16_immediate_v2 w h⟩)
theorem gi_g_X16_four_10 : GoodIn ow_g_X16_four (wsS RX16 313 yX16_immediate ow_k_X16_immediate_v3) := goodIn_app (goodIn_of _ (by decide +kernel)) (fun w h => ⟨List.mem_cons_of_mem _ (List.mem_append_right _ (List.mem_append_right _ (List.mem_append_right _ (List.mem_append_right _ (List.mem_append_right _ (List.mem_append_right _ (List.mem_append_right _ (List.mem_append_right _ (List.mem_append_right _ (List.mem_append_right _ (List.mem_append_right _ (List.mem_append_left _ h)))))))))))), gd_k_X16_immediate_v3 w h⟩)
